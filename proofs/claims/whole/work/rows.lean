section
-- ===== PART A: goes FIRST, ahead of the names: the tables' words, and 'selects' of the private methods out of them =====
/-- a private method of a class that the tables say can be made, by its rows of tables_1 -/
def lw_okq (q : MethodName × Nat) : Prop := (q.1.cls ≠ "java/lang/invoke/MethodHandle" ∧ q.1.cls ≠ "java/lang/invoke/VarHandle") ∧ Cond.instantiable q.1.cls q.2 ∈ tables_1 ∧ Cond.privateMethod q.1 ∈ tables_1 ∧ Cond.instanceMethod q.1 ∈ tables_1
theorem lw_p0 : lw_okq (⟨"Kelirnight$Orchestra", "beatsOfMinute", "()I"⟩, 5) := ⟨⟨by decide +kernel, by decide +kernel⟩, List.mem_of_getElem? (i := 111) (by decide +kernel), List.mem_of_getElem? (i := 212) (by decide +kernel), List.mem_of_getElem? (i := 213) (by decide +kernel)⟩
theorem lw_p1 : lw_okq (⟨"Kelirnight$Orchestra", "beatsOfCycle", "()I"⟩, 5) := ⟨⟨by decide +kernel, by decide +kernel⟩, List.mem_of_getElem? (i := 111) (by decide +kernel), List.mem_of_getElem? (i := 216) (by decide +kernel), List.mem_of_getElem? (i := 217) (by decide +kernel)⟩
theorem lw_p2 : lw_okq (⟨"Kelirnight$Plot", "trade", "(II)V"⟩, 5) := ⟨⟨by decide +kernel, by decide +kernel⟩, List.mem_of_getElem? (i := 35) (by decide +kernel), List.mem_of_getElem? (i := 233) (by decide +kernel), List.mem_of_getElem? (i := 234) (by decide +kernel)⟩
theorem lw_p3 : lw_okq (⟨"Kelirnight$Plot", "refresh", "()V"⟩, 5) := ⟨⟨by decide +kernel, by decide +kernel⟩, List.mem_of_getElem? (i := 35) (by decide +kernel), List.mem_of_getElem? (i := 243) (by decide +kernel), List.mem_of_getElem? (i := 244) (by decide +kernel)⟩
theorem lw_p4 : lw_okq (⟨"Kelirnight$Plot", "deadIn", "(II)I"⟩, 5) := ⟨⟨by decide +kernel, by decide +kernel⟩, List.mem_of_getElem? (i := 35) (by decide +kernel), List.mem_of_getElem? (i := 247) (by decide +kernel), List.mem_of_getElem? (i := 248) (by decide +kernel)⟩
theorem lw_p5 : lw_okq (⟨"Kelirnight$Screen", "isFree", "(I)Z"⟩, 3) := ⟨⟨by decide +kernel, by decide +kernel⟩, List.mem_of_getElem? (i := 90) (by decide +kernel), List.mem_of_getElem? (i := 283) (by decide +kernel), List.mem_of_getElem? (i := 284) (by decide +kernel)⟩
theorem lw_p6 : lw_okq (⟨"Kelirnight", "nightValue", "(I)I"⟩, 10) := ⟨⟨by decide +kernel, by decide +kernel⟩, List.mem_of_getElem? (i := 27) (by decide +kernel), List.mem_of_getElem? (i := 306) (by decide +kernel), List.mem_of_getElem? (i := 307) (by decide +kernel)⟩
theorem lw_p7 : lw_okq (⟨"Kelirnight", "strangers", "()I"⟩, 10) := ⟨⟨by decide +kernel, by decide +kernel⟩, List.mem_of_getElem? (i := 27) (by decide +kernel), List.mem_of_getElem? (i := 319) (by decide +kernel), List.mem_of_getElem? (i := 320) (by decide +kernel)⟩
theorem lw_p8 : lw_okq (⟨"Kelirnight", "mixPersons", "(J)J"⟩, 10) := ⟨⟨by decide +kernel, by decide +kernel⟩, List.mem_of_getElem? (i := 27) (by decide +kernel), List.mem_of_getElem? (i := 329) (by decide +kernel), List.mem_of_getElem? (i := 330) (by decide +kernel)⟩
theorem lw_p9 : lw_okq (⟨"Kelirnight", "mixFigures", "(J)J"⟩, 10) := ⟨⟨by decide +kernel, by decide +kernel⟩, List.mem_of_getElem? (i := 27) (by decide +kernel), List.mem_of_getElem? (i := 338) (by decide +kernel), List.mem_of_getElem? (i := 339) (by decide +kernel)⟩
theorem lw_p10 : lw_okq (⟨"Kelirnight", "mixScenes", "(J)J"⟩, 10) := ⟨⟨by decide +kernel, by decide +kernel⟩, List.mem_of_getElem? (i := 27) (by decide +kernel), List.mem_of_getElem? (i := 351) (by decide +kernel), List.mem_of_getElem? (i := 352) (by decide +kernel)⟩
theorem lw_p11 : lw_okq (⟨"java/lang/Throwable", "fillInStackTrace", "(I)Ljava/lang/Throwable;"⟩, 6) := ⟨⟨by decide +kernel, by decide +kernel⟩, List.mem_of_getElem? (i := 414) (by decide +kernel), List.mem_of_getElem? (i := 412) (by decide +kernel), List.mem_of_getElem? (i := 413) (by decide +kernel)⟩
theorem lw_p12 : lw_okq (⟨"java/util/ArrayList", "add", "(Ljava/lang/Object;[Ljava/lang/Object;I)V"⟩, 3) := ⟨⟨by decide +kernel, by decide +kernel⟩, List.mem_of_getElem? (i := 41) (by decide +kernel), List.mem_of_getElem? (i := 498) (by decide +kernel), List.mem_of_getElem? (i := 499) (by decide +kernel)⟩
theorem lw_p13 : lw_okq (⟨"java/util/ArrayList", "grow", "()[Ljava/lang/Object;"⟩, 3) := ⟨⟨by decide +kernel, by decide +kernel⟩, List.mem_of_getElem? (i := 41) (by decide +kernel), List.mem_of_getElem? (i := 502) (by decide +kernel), List.mem_of_getElem? (i := 503) (by decide +kernel)⟩
theorem lw_p14 : lw_okq (⟨"java/util/ArrayList", "grow", "(I)[Ljava/lang/Object;"⟩, 3) := ⟨⟨by decide +kernel, by decide +kernel⟩, List.mem_of_getElem? (i := 41) (by decide +kernel), List.mem_of_getElem? (i := 506) (by decide +kernel), List.mem_of_getElem? (i := 507) (by decide +kernel)⟩
theorem lw_p15 : lw_okq (⟨"Kelirnight", "isPerson", "(I)Z"⟩, 10) := ⟨⟨by decide +kernel, by decide +kernel⟩, List.mem_of_getElem? (i := 27) (by decide +kernel), List.mem_of_getElem? (i := 560) (by decide +kernel), List.mem_of_getElem? (i := 561) (by decide +kernel)⟩
def lw_privs_1 : List (MethodName × Nat) := [(⟨"Kelirnight$Orchestra", "beatsOfMinute", "()I"⟩, 5), (⟨"Kelirnight$Orchestra", "beatsOfCycle", "()I"⟩, 5), (⟨"Kelirnight$Plot", "trade", "(II)V"⟩, 5), (⟨"Kelirnight$Plot", "refresh", "()V"⟩, 5), (⟨"Kelirnight$Plot", "deadIn", "(II)I"⟩, 5), (⟨"Kelirnight$Screen", "isFree", "(I)Z"⟩, 3), (⟨"Kelirnight", "nightValue", "(I)I"⟩, 10), (⟨"Kelirnight", "strangers", "()I"⟩, 10), (⟨"Kelirnight", "mixPersons", "(J)J"⟩, 10), (⟨"Kelirnight", "mixFigures", "(J)J"⟩, 10), (⟨"Kelirnight", "mixScenes", "(J)J"⟩, 10), (⟨"java/lang/Throwable", "fillInStackTrace", "(I)Ljava/lang/Throwable;"⟩, 6), (⟨"java/util/ArrayList", "add", "(Ljava/lang/Object;[Ljava/lang/Object;I)V"⟩, 3), (⟨"java/util/ArrayList", "grow", "()[Ljava/lang/Object;"⟩, 3), (⟨"java/util/ArrayList", "grow", "(I)[Ljava/lang/Object;"⟩, 3), (⟨"Kelirnight", "isPerson", "(I)Z"⟩, 10)]
theorem lw_r1 : ∀ q ∈ lw_privs_1, lw_okq q := List.forall_mem_cons.mpr ⟨lw_p0, List.forall_mem_cons.mpr ⟨lw_p1, List.forall_mem_cons.mpr ⟨lw_p2, List.forall_mem_cons.mpr ⟨lw_p3, List.forall_mem_cons.mpr ⟨lw_p4, List.forall_mem_cons.mpr ⟨lw_p5, List.forall_mem_cons.mpr ⟨lw_p6, List.forall_mem_cons.mpr ⟨lw_p7, List.forall_mem_cons.mpr ⟨lw_p8, List.forall_mem_cons.mpr ⟨lw_p9, List.forall_mem_cons.mpr ⟨lw_p10, List.forall_mem_cons.mpr ⟨lw_p11, List.forall_mem_cons.mpr ⟨lw_p12, List.forall_mem_cons.mpr ⟨lw_p13, List.forall_mem_cons.mpr ⟨lw_p14, List.forall_mem_cons.mpr ⟨lw_p15, fun _ h => absurd h List.not_mem_nil⟩⟩⟩⟩⟩⟩⟩⟩⟩⟩⟩⟩⟩⟩⟩⟩
theorem lw_p16 : lw_okq (⟨"Kelirnight$Plot", "breachOfCycle", "(III)I"⟩, 5) := ⟨⟨by decide +kernel, by decide +kernel⟩, List.mem_of_getElem? (i := 35) (by decide +kernel), List.mem_of_getElem? (i := 645) (by decide +kernel), List.mem_of_getElem? (i := 646) (by decide +kernel)⟩
theorem lw_p17 : lw_okq (⟨"Kelirnight", "isScene", "(I)Z"⟩, 10) := ⟨⟨by decide +kernel, by decide +kernel⟩, List.mem_of_getElem? (i := 27) (by decide +kernel), List.mem_of_getElem? (i := 706) (by decide +kernel), List.mem_of_getElem? (i := 707) (by decide +kernel)⟩
theorem lw_p18 : lw_okq (⟨"Kelirnight", "isFigure", "(I)Z"⟩, 10) := ⟨⟨by decide +kernel, by decide +kernel⟩, List.mem_of_getElem? (i := 27) (by decide +kernel), List.mem_of_getElem? (i := 742) (by decide +kernel), List.mem_of_getElem? (i := 743) (by decide +kernel)⟩
theorem lw_p19 : lw_okq (⟨"Kelirnight", "beginPiece", "()Z"⟩, 10) := ⟨⟨by decide +kernel, by decide +kernel⟩, List.mem_of_getElem? (i := 27) (by decide +kernel), List.mem_of_getElem? (i := 817) (by decide +kernel), List.mem_of_getElem? (i := 818) (by decide +kernel)⟩
theorem lw_p20 : lw_okq (⟨"Kelirnight", "goBy", "(IZ)V"⟩, 10) := ⟨⟨by decide +kernel, by decide +kernel⟩, List.mem_of_getElem? (i := 27) (by decide +kernel), List.mem_of_getElem? (i := 842) (by decide +kernel), List.mem_of_getElem? (i := 843) (by decide +kernel)⟩
theorem lw_p21 : lw_okq (⟨"Kelirnight$Orchestra", "soundGong", "()V"⟩, 5) := ⟨⟨by decide +kernel, by decide +kernel⟩, List.mem_of_getElem? (i := 111) (by decide +kernel), List.mem_of_getElem? (i := 850) (by decide +kernel), List.mem_of_getElem? (i := 851) (by decide +kernel)⟩
theorem lw_p22 : lw_okq (⟨"KelirnightModel", "refuse", "(I)I"⟩, 19) := ⟨⟨by decide +kernel, by decide +kernel⟩, List.mem_of_getElem? (i := 940) (by decide +kernel), List.mem_of_getElem? (i := 1017) (by decide +kernel), List.mem_of_getElem? (i := 1018) (by decide +kernel)⟩
theorem lw_p23 : lw_okq (⟨"KelirnightModel", "isPerson", "(I)Z"⟩, 19) := ⟨⟨by decide +kernel, by decide +kernel⟩, List.mem_of_getElem? (i := 940) (by decide +kernel), List.mem_of_getElem? (i := 1028) (by decide +kernel), List.mem_of_getElem? (i := 1029) (by decide +kernel)⟩
theorem lw_p24 : lw_okq (⟨"KelirnightModel", "isOf", "(II)Z"⟩, 19) := ⟨⟨by decide +kernel, by decide +kernel⟩, List.mem_of_getElem? (i := 940) (by decide +kernel), List.mem_of_getElem? (i := 1036) (by decide +kernel), List.mem_of_getElem? (i := 1037) (by decide +kernel)⟩
theorem lw_p25 : lw_okq (⟨"KelirnightModel", "isScene", "(I)Z"⟩, 19) := ⟨⟨by decide +kernel, by decide +kernel⟩, List.mem_of_getElem? (i := 940) (by decide +kernel), List.mem_of_getElem? (i := 1044) (by decide +kernel), List.mem_of_getElem? (i := 1045) (by decide +kernel)⟩
theorem lw_p26 : lw_okq (⟨"KelirnightModel", "plot", "(Ljava/util/ArrayList;)[[I"⟩, 19) := ⟨⟨by decide +kernel, by decide +kernel⟩, List.mem_of_getElem? (i := 940) (by decide +kernel), List.mem_of_getElem? (i := 1050) (by decide +kernel), List.mem_of_getElem? (i := 1051) (by decide +kernel)⟩
theorem lw_p27 : lw_okq (⟨"KelirnightModel", "breach", "(Ljava/util/ArrayList;III)I"⟩, 19) := ⟨⟨by decide +kernel, by decide +kernel⟩, List.mem_of_getElem? (i := 940) (by decide +kernel), List.mem_of_getElem? (i := 1056) (by decide +kernel), List.mem_of_getElem? (i := 1057) (by decide +kernel)⟩
theorem lw_p28 : lw_okq (⟨"KelirnightModel", "breaches", "(Ljava/util/ArrayList;)I"⟩, 19) := ⟨⟨by decide +kernel, by decide +kernel⟩, List.mem_of_getElem? (i := 940) (by decide +kernel), List.mem_of_getElem? (i := 1072) (by decide +kernel), List.mem_of_getElem? (i := 1073) (by decide +kernel)⟩
theorem lw_p29 : lw_okq (⟨"KelirnightModel", "isFigure", "(I)Z"⟩, 19) := ⟨⟨by decide +kernel, by decide +kernel⟩, List.mem_of_getElem? (i := 940) (by decide +kernel), List.mem_of_getElem? (i := 1084) (by decide +kernel), List.mem_of_getElem? (i := 1085) (by decide +kernel)⟩
theorem lw_p30 : lw_okq (⟨"KelirnightModel", "gripper", "(I)I"⟩, 19) := ⟨⟨by decide +kernel, by decide +kernel⟩, List.mem_of_getElem? (i := 940) (by decide +kernel), List.mem_of_getElem? (i := 1088) (by decide +kernel), List.mem_of_getElem? (i := 1089) (by decide +kernel)⟩
theorem lw_p31 : lw_okq (⟨"KelirnightModel", "isFree", "(I)Z"⟩, 19) := ⟨⟨by decide +kernel, by decide +kernel⟩, List.mem_of_getElem? (i := 940) (by decide +kernel), List.mem_of_getElem? (i := 1092) (by decide +kernel), List.mem_of_getElem? (i := 1093) (by decide +kernel)⟩
def lw_privs_2 : List (MethodName × Nat) := [(⟨"Kelirnight$Plot", "breachOfCycle", "(III)I"⟩, 5), (⟨"Kelirnight", "isScene", "(I)Z"⟩, 10), (⟨"Kelirnight", "isFigure", "(I)Z"⟩, 10), (⟨"Kelirnight", "beginPiece", "()Z"⟩, 10), (⟨"Kelirnight", "goBy", "(IZ)V"⟩, 10), (⟨"Kelirnight$Orchestra", "soundGong", "()V"⟩, 5), (⟨"KelirnightModel", "refuse", "(I)I"⟩, 19), (⟨"KelirnightModel", "isPerson", "(I)Z"⟩, 19), (⟨"KelirnightModel", "isOf", "(II)Z"⟩, 19), (⟨"KelirnightModel", "isScene", "(I)Z"⟩, 19), (⟨"KelirnightModel", "plot", "(Ljava/util/ArrayList;)[[I"⟩, 19), (⟨"KelirnightModel", "breach", "(Ljava/util/ArrayList;III)I"⟩, 19), (⟨"KelirnightModel", "breaches", "(Ljava/util/ArrayList;)I"⟩, 19), (⟨"KelirnightModel", "isFigure", "(I)Z"⟩, 19), (⟨"KelirnightModel", "gripper", "(I)I"⟩, 19), (⟨"KelirnightModel", "isFree", "(I)Z"⟩, 19)]
theorem lw_r2 : ∀ q ∈ lw_privs_2, lw_okq q := List.forall_mem_cons.mpr ⟨lw_p16, List.forall_mem_cons.mpr ⟨lw_p17, List.forall_mem_cons.mpr ⟨lw_p18, List.forall_mem_cons.mpr ⟨lw_p19, List.forall_mem_cons.mpr ⟨lw_p20, List.forall_mem_cons.mpr ⟨lw_p21, List.forall_mem_cons.mpr ⟨lw_p22, List.forall_mem_cons.mpr ⟨lw_p23, List.forall_mem_cons.mpr ⟨lw_p24, List.forall_mem_cons.mpr ⟨lw_p25, List.forall_mem_cons.mpr ⟨lw_p26, List.forall_mem_cons.mpr ⟨lw_p27, List.forall_mem_cons.mpr ⟨lw_p28, List.forall_mem_cons.mpr ⟨lw_p29, List.forall_mem_cons.mpr ⟨lw_p30, List.forall_mem_cons.mpr ⟨lw_p31, fun _ h => absurd h List.not_mem_nil⟩⟩⟩⟩⟩⟩⟩⟩⟩⟩⟩⟩⟩⟩⟩⟩
theorem lw_p32 : lw_okq (⟨"KelirnightModel", "at", "(II)I"⟩, 19) := ⟨⟨by decide +kernel, by decide +kernel⟩, List.mem_of_getElem? (i := 940) (by decide +kernel), List.mem_of_getElem? (i := 1142) (by decide +kernel), List.mem_of_getElem? (i := 1143) (by decide +kernel)⟩
theorem lw_p33 : lw_okq (⟨"KelirnightModel", "isHeld", "(I)Z"⟩, 19) := ⟨⟨by decide +kernel, by decide +kernel⟩, List.mem_of_getElem? (i := 940) (by decide +kernel), List.mem_of_getElem? (i := 1153) (by decide +kernel), List.mem_of_getElem? (i := 1154) (by decide +kernel)⟩
theorem lw_p34 : lw_okq (⟨"KelirnightModel", "shadow", "([II)I"⟩, 19) := ⟨⟨by decide +kernel, by decide +kernel⟩, List.mem_of_getElem? (i := 940) (by decide +kernel), List.mem_of_getElem? (i := 1165) (by decide +kernel), List.mem_of_getElem? (i := 1166) (by decide +kernel)⟩
theorem lw_p35 : lw_okq (⟨"KelirnightModel", "onScreen", "()I"⟩, 19) := ⟨⟨by decide +kernel, by decide +kernel⟩, List.mem_of_getElem? (i := 940) (by decide +kernel), List.mem_of_getElem? (i := 1181) (by decide +kernel), List.mem_of_getElem? (i := 1182) (by decide +kernel)⟩
theorem lw_p36 : lw_okq (⟨"KelirnightModel", "on", "()I"⟩, 19) := ⟨⟨by decide +kernel, by decide +kernel⟩, List.mem_of_getElem? (i := 940) (by decide +kernel), List.mem_of_getElem? (i := 1189) (by decide +kernel), List.mem_of_getElem? (i := 1190) (by decide +kernel)⟩
theorem lw_p37 : lw_okq (⟨"KelirnightModel", "people", "()I"⟩, 19) := ⟨⟨by decide +kernel, by decide +kernel⟩, List.mem_of_getElem? (i := 940) (by decide +kernel), List.mem_of_getElem? (i := 1197) (by decide +kernel), List.mem_of_getElem? (i := 1198) (by decide +kernel)⟩
theorem lw_p38 : lw_okq (⟨"KelirnightModel", "go", "(IZ)I"⟩, 19) := ⟨⟨by decide +kernel, by decide +kernel⟩, List.mem_of_getElem? (i := 940) (by decide +kernel), List.mem_of_getElem? (i := 1204) (by decide +kernel), List.mem_of_getElem? (i := 1205) (by decide +kernel)⟩
theorem lw_p39 : lw_okq (⟨"KelirnightModel", "play", "()I"⟩, 19) := ⟨⟨by decide +kernel, by decide +kernel⟩, List.mem_of_getElem? (i := 940) (by decide +kernel), List.mem_of_getElem? (i := 1208) (by decide +kernel), List.mem_of_getElem? (i := 1209) (by decide +kernel)⟩
theorem lw_p40 : lw_okq (⟨"KelirnightModel", "cycle", "()I"⟩, 19) := ⟨⟨by decide +kernel, by decide +kernel⟩, List.mem_of_getElem? (i := 940) (by decide +kernel), List.mem_of_getElem? (i := 1212) (by decide +kernel), List.mem_of_getElem? (i := 1213) (by decide +kernel)⟩
theorem lw_p41 : lw_okq (⟨"KelirnightModel", "silence", "()V"⟩, 19) := ⟨⟨by decide +kernel, by decide +kernel⟩, List.mem_of_getElem? (i := 940) (by decide +kernel), List.mem_of_getElem? (i := 1217) (by decide +kernel), List.mem_of_getElem? (i := 1218) (by decide +kernel)⟩
theorem lw_p42 : lw_okq (⟨"KelirnightModel", "knowsBehind", "(II)Z"⟩, 19) := ⟨⟨by decide +kernel, by decide +kernel⟩, List.mem_of_getElem? (i := 940) (by decide +kernel), List.mem_of_getElem? (i := 1237) (by decide +kernel), List.mem_of_getElem? (i := 1238) (by decide +kernel)⟩
theorem lw_p43 : lw_okq (⟨"KelirnightModel", "ofFigureNow", "(II)I"⟩, 19) := ⟨⟨by decide +kernel, by decide +kernel⟩, List.mem_of_getElem? (i := 940) (by decide +kernel), List.mem_of_getElem? (i := 1245) (by decide +kernel), List.mem_of_getElem? (i := 1246) (by decide +kernel)⟩
theorem lw_p44 : lw_okq (⟨"KelirnightModel", "ofSceneNow", "(II)I"⟩, 19) := ⟨⟨by decide +kernel, by decide +kernel⟩, List.mem_of_getElem? (i := 940) (by decide +kernel), List.mem_of_getElem? (i := 1253) (by decide +kernel), List.mem_of_getElem? (i := 1254) (by decide +kernel)⟩
theorem lw_p45 : lw_okq (⟨"KelirnightModel", "soundNow", "(I)I"⟩, 19) := ⟨⟨by decide +kernel, by decide +kernel⟩, List.mem_of_getElem? (i := 940) (by decide +kernel), List.mem_of_getElem? (i := 1265) (by decide +kernel), List.mem_of_getElem? (i := 1266) (by decide +kernel)⟩
theorem lw_p46 : lw_okq (⟨"KelirnightModel", "manyNow", "(I)I"⟩, 19) := ⟨⟨by decide +kernel, by decide +kernel⟩, List.mem_of_getElem? (i := 940) (by decide +kernel), List.mem_of_getElem? (i := 1273) (by decide +kernel), List.mem_of_getElem? (i := 1274) (by decide +kernel)⟩
theorem lw_p47 : lw_okq (⟨"KelirnightModel", "over", "()I"⟩, 19) := ⟨⟨by decide +kernel, by decide +kernel⟩, List.mem_of_getElem? (i := 940) (by decide +kernel), List.mem_of_getElem? (i := 1277) (by decide +kernel), List.mem_of_getElem? (i := 1278) (by decide +kernel)⟩
def lw_privs_3 : List (MethodName × Nat) := [(⟨"KelirnightModel", "at", "(II)I"⟩, 19), (⟨"KelirnightModel", "isHeld", "(I)Z"⟩, 19), (⟨"KelirnightModel", "shadow", "([II)I"⟩, 19), (⟨"KelirnightModel", "onScreen", "()I"⟩, 19), (⟨"KelirnightModel", "on", "()I"⟩, 19), (⟨"KelirnightModel", "people", "()I"⟩, 19), (⟨"KelirnightModel", "go", "(IZ)I"⟩, 19), (⟨"KelirnightModel", "play", "()I"⟩, 19), (⟨"KelirnightModel", "cycle", "()I"⟩, 19), (⟨"KelirnightModel", "silence", "()V"⟩, 19), (⟨"KelirnightModel", "knowsBehind", "(II)Z"⟩, 19), (⟨"KelirnightModel", "ofFigureNow", "(II)I"⟩, 19), (⟨"KelirnightModel", "ofSceneNow", "(II)I"⟩, 19), (⟨"KelirnightModel", "soundNow", "(I)I"⟩, 19), (⟨"KelirnightModel", "manyNow", "(I)I"⟩, 19), (⟨"KelirnightModel", "over", "()I"⟩, 19)]
theorem lw_r3 : ∀ q ∈ lw_privs_3, lw_okq q := List.forall_mem_cons.mpr ⟨lw_p32, List.forall_mem_cons.mpr ⟨lw_p33, List.forall_mem_cons.mpr ⟨lw_p34, List.forall_mem_cons.mpr ⟨lw_p35, List.forall_mem_cons.mpr ⟨lw_p36, List.forall_mem_cons.mpr ⟨lw_p37, List.forall_mem_cons.mpr ⟨lw_p38, List.forall_mem_cons.mpr ⟨lw_p39, List.forall_mem_cons.mpr ⟨lw_p40, List.forall_mem_cons.mpr ⟨lw_p41, List.forall_mem_cons.mpr ⟨lw_p42, List.forall_mem_cons.mpr ⟨lw_p43, List.forall_mem_cons.mpr ⟨lw_p44, List.forall_mem_cons.mpr ⟨lw_p45, List.forall_mem_cons.mpr ⟨lw_p46, List.forall_mem_cons.mpr ⟨lw_p47, fun _ h => absurd h List.not_mem_nil⟩⟩⟩⟩⟩⟩⟩⟩⟩⟩⟩⟩⟩⟩⟩⟩
theorem lw_p48 : lw_okq (⟨"KelirnightModel", "gongNow", "()I"⟩, 19) := ⟨⟨by decide +kernel, by decide +kernel⟩, List.mem_of_getElem? (i := 940) (by decide +kernel), List.mem_of_getElem? (i := 1289) (by decide +kernel), List.mem_of_getElem? (i := 1290) (by decide +kernel)⟩
theorem lw_p49 : lw_okq (⟨"KelirnightModel", "swapNow", "()I"⟩, 19) := ⟨⟨by decide +kernel, by decide +kernel⟩, List.mem_of_getElem? (i := 940) (by decide +kernel), List.mem_of_getElem? (i := 1297) (by decide +kernel), List.mem_of_getElem? (i := 1298) (by decide +kernel)⟩
theorem lw_p50 : lw_okq (⟨"KelirnightModel", "liftNow", "(II)I"⟩, 19) := ⟨⟨by decide +kernel, by decide +kernel⟩, List.mem_of_getElem? (i := 940) (by decide +kernel), List.mem_of_getElem? (i := 1329) (by decide +kernel), List.mem_of_getElem? (i := 1330) (by decide +kernel)⟩
theorem lw_p51 : lw_okq (⟨"KelirnightModel", "gripNow", "()I"⟩, 19) := ⟨⟨by decide +kernel, by decide +kernel⟩, List.mem_of_getElem? (i := 940) (by decide +kernel), List.mem_of_getElem? (i := 1337) (by decide +kernel), List.mem_of_getElem? (i := 1338) (by decide +kernel)⟩
theorem lw_p52 : lw_okq (⟨"KelirnightModel", "add", "(I)V"⟩, 19) := ⟨⟨by decide +kernel, by decide +kernel⟩, List.mem_of_getElem? (i := 940) (by decide +kernel), List.mem_of_getElem? (i := 1346) (by decide +kernel), List.mem_of_getElem? (i := 1347) (by decide +kernel)⟩
def lw_privs_4 : List (MethodName × Nat) := [(⟨"KelirnightModel", "gongNow", "()I"⟩, 19), (⟨"KelirnightModel", "swapNow", "()I"⟩, 19), (⟨"KelirnightModel", "liftNow", "(II)I"⟩, 19), (⟨"KelirnightModel", "gripNow", "()I"⟩, 19), (⟨"KelirnightModel", "add", "(I)V"⟩, 19)]
theorem lw_r4 : ∀ q ∈ lw_privs_4, lw_okq q := List.forall_mem_cons.mpr ⟨lw_p48, List.forall_mem_cons.mpr ⟨lw_p49, List.forall_mem_cons.mpr ⟨lw_p50, List.forall_mem_cons.mpr ⟨lw_p51, List.forall_mem_cons.mpr ⟨lw_p52, fun _ h => absurd h List.not_mem_nil⟩⟩⟩⟩⟩
def lw_privs : List (MethodName × Nat) := lw_privs_1 ++ (lw_privs_2 ++ (lw_privs_3 ++ (lw_privs_4)))
def lw_tbl : List Cond := k2_sels lw_privs ++ tables_1
theorem lw_privs_ok : ∀ q ∈ lw_privs, lw_okq q := by
  show ∀ q ∈ lw_privs_1 ++ (lw_privs_2 ++ (lw_privs_3 ++ (lw_privs_4))), lw_okq q
  exact List.forall_mem_append.mpr ⟨lw_r1, List.forall_mem_append.mpr ⟨lw_r2, List.forall_mem_append.mpr ⟨lw_r3, lw_r4⟩⟩⟩
/-- the streams that the claim lets the run draw from -/
abbrev lw_cs : List Choice := [Jvm.Choice.named "NaN.bits"]
theorem lw_bits : nanBits ∈ lw_cs := by first | decide | exact List.mem_cons_self | simp [lw_cs, nanBits]
-- ===== end of PART A; then your names; then what follows =====
end
section
/-! ===== BEGIN words of one list among another's, by their places ===== -/
theorem goodIn_r {big : List Cond} (ws : List Cond) (ps : List Nat) (hp : ws = ps.filterMap (fun i => big[i]?)) (h : ws.all goodWord = true) : GoodIn big ws := by
  intro w hw
  have h1 := List.all_eq_true.mp h w hw
  rw [hp] at hw
  obtain ⟨i, -, hi⟩ := List.mem_filterMap.mp hw
  have hm : w ∈ big := by first | exact List.mem_of_getElem? hi | exact List.getElem?_mem hi
  exact ⟨hm, good_of_word h1⟩
theorem goodIn_app {big a b : List Cond} (ha : GoodIn big a) (hb : GoodIn big b) : GoodIn big (a ++ b) := fun w h => (List.mem_append.mp h).elim (ha w) (hb w)
theorem goodIn_ca {big a b : List Cond} {c : Cond} (ha : GoodIn big (c :: a)) (hb : GoodIn big b) : GoodIn big (c :: (a ++ b)) := fun w h => (List.mem_cons.mp h).elim (fun e => ha w (List.mem_cons.mpr (Or.inl e))) (fun h => (List.mem_append.mp h).elim (fun h => ha w (List.mem_cons.mpr (Or.inr h))) (hb w))
theorem goodIn_sub {big ws : List Cond} (hm : ∀ w ∈ ws, w ∈ big) (h : ws.all goodWord = true) : GoodIn big ws := fun w hw => ⟨hm w hw, good_of_word (List.all_eq_true.mp h w hw)⟩
/-! ===== END ===== -/

/-! ===== BEGIN new T[n][m]: the outer array a place, the inner ones among the pooled ===== -/
/-- f, but v at every address of l -/
def vr_up {α : Type} (f : Nat → α) (l : List Nat) (v : α) : Nat → α := fun a => if a ∈ l then v else f a
theorem vr_up_in {α : Type} {f : Nat → α} {l : List Nat} {v : α} {a : Nat} (h : a ∈ l) : vr_up f l v a = v := if_pos h
theorem vr_up_ne {α : Type} {f : Nat → α} {l : List Nat} {v : α} {a : Nat} (h : a ∉ l) : vr_up f l v a = f a := if_neg h
theorem vr_rows {L l : List Nat} {f : Nat → va_E} {e : va_E} (h : ∀ a, a ∈ l → a ∉ L) : va_pl L f ++ l.map (fun a => (a, e)) = va_pl (L ++ l) (vr_up f l e) := by
  unfold va_pl
  rw [List.map_append]
  congr 1
  · apply List.map_congr_left
    intro a ha
    rw [vr_up_ne (fun q => h a q ha)]
  · apply List.map_congr_left
    intro a ha
    rw [vr_up_in ha]
theorem vr_lay {X rows : va_W} {x : Nat × va_E} {pl : va_W} {D : va_G} {cl : List vw_C} {H : Heap} (hP : va_P D cl (((X ++ pl) ++ [x]) ++ rows) H) : va_P D cl ((X ++ [x]) ++ (pl ++ rows)) H := by
  rw [List.append_assoc (X ++ pl)] at hP
  have h := va_P.swap hP
  rw [← List.append_assoc X] at h
  have h2 := va_P.swap h
  rw [List.append_assoc (X ++ [x])] at h2
  exact h2
theorem vr_layD {X rows : va_W} {x : Nat × va_E} {pl : va_W} {A : Nat → Prop} (hD : va_D A (((X ++ pl) ++ [x]) ++ rows)) : va_D A ((X ++ [x]) ++ (pl ++ rows)) := by
  rw [List.append_assoc (X ++ pl)] at hD
  have h := va_D.swap hD
  rw [← List.append_assoc X] at h
  have h2 := va_D.swap h
  rw [List.append_assoc (X ++ [x])] at h2
  exact h2
theorem vr_outer (c : ClassId) (N h0 : Nat) : ∀ i : Nat, Jvm.Free.Multi.outerC c N h0 i = arrV c N (fun j => va_rf (if j < i then some (h0 + 1 + j) else none))
  | 0 => by
    show ({ cls := c, slots := Array.replicate N .null, vm := .none } : Cell) = _
    rw [arrV_new]
    refine congrArg (arrV c N) (funext fun j => ?_)
    simp [va_rf]
  | i + 1 => by
    show (Jvm.Free.Multi.outerC c N h0 i).setSlot i (.ref (h0 + 1 + i)) = _
    rw [vr_outer c N h0 i, arrV_store]
    refine congrArg (arrV c N) (funext fun j => ?_)
    by_cases e : j = i
    · subst e
      simp [updV, va_rf]
    · by_cases h : j < i
      · simp [updV, e, h, Nat.lt_succ_of_lt h]
      · simp [updV, e, h, show ¬ j < i + 1 by omega]
/-! ===== END ===== -/

/-! ===== BEGIN exceptions that leave a method, and their catching by the caller (launches without stack traces) ===== -/
section VXA
/-! The laws vx_back, vx_callV, vx_callS, vx_callSW, vx_throw0, vx_throwS follow proofs of the library, with one case more: JvmDerived/Free/Laws.lean (Back.of_free), Shelf42/LK1.lean (callV, callS), Shelf/KitTraced.lean (throwNew0V, throwNewS). -/
/-- where a method has thrown q: the class by its name, the cell, what was written, the world -/
def vx_T (XC : String → State → State → Prop) (st : State) (q : Addr) (t : State) (mc ms : Nat) (free : Addr → Prop) : Prop :=
  ∃ (E : String) (ce : Cell) (L : List Loc), XC E st t ∧ t.heap[q]? = some ce ∧ ce.vm = .none ∧ st.vm.findClass E = some ce.cls ∧ st.WarmedH t.vm ∧ st.sameButNew ({ t with vm := st.vm } : State) L mc ms ∧ ∀ z ∈ L, free z.base
def vx_Q (Qc : Array Value → State → Outcome → State → Prop) (XC : String → State → State → Prop) (mc ms : Nat) (free : Addr → Prop) : Array Value → State → Outcome → State → Prop := fun a st o t =>
  (Qc a st o t ∧ ∃ L, FrameEnd st o t L mc ms ∧ ∀ q ∈ L, free q.base) ∨ ∃ q, o = .threw q ∧ vx_T XC st q t mc ms free
/-- a callee that returns or throws -/
def vx_Met (l : Launch) (y : MethodName) (ws : List Cond) (rm : Room) (Pc : Array Value → State → Prop) (Qc : Array Value → State → Outcome → State → Prop) (XC : String → State → State → Prop) (mc ms : Nat) (free : Addr → Prop) : Prop :=
  MetFree l y (headSpec ws rm) Pc (fun _ _ _ _ _ => True) (vx_Q Qc XC mc ms free)
def vx_Post (XC : String → State → State → Prop) (mc ms : Nat) (free : Addr → Prop) : Pt → Array Value → Addr → Pt → Prop := fun A a q B =>
  ∃ (g : JFrame) (mk : MethodId) (t : State) (L : List Loc) (E : String) (ce : Cell), B.U.heap = t.heap ∧ B.U.vm = t.vm ∧ XC E (A.U.calling g mk a) t ∧ t.heap[q]? = some ce ∧ ce.vm = .none ∧ A.U.vm.findClass E = some ce.cls ∧ B.locs = A.locs ++ L ∧ (∀ z ∈ L, free z.base) ∧ B.cells = A.cells + mc ∧ B.slots = A.slots + ms
def vx_Back (l : Launch) (R : Room) (p : Program) (e : Env) (below : List Frame) (s : State) (sargs : Array Value) (y : MethodName) (len W9 : Nat)
    (Pre : Pt → Array Value → Prop) (Post : Pt → Array Value → Option Value → Pt → Prop) (PostX : Pt → Array Value → Addr → Pt → Prop) : Prop :=
  ∀ (m : MethodId) (meth : Method) (c : Code) (A : Pt) (g : JFrame) (ig : Instr) (mk : MethodId) (a : Array Value),
    Stand p l e R s m sargs below meth c A.U A.locs A.cells A.slots → g.method = m → g.locals.size = c.maxLocals → decode c.code g.pc = .ok (ig, len) →
    2 * g.monitorRoom + (g.stack.map fun v => v.category).sum ≤ W9 → A.U.methodNamed? y = some mk → Pre A a →
    (∃ (v : Option Value) (B : Pt), Stand p l e R s m sargs below meth c B.U B.locs B.cells B.slots ∧ Post A a v B ∧
      Steps p.tables e below (doInvoke e (A.U.setTop g) [] mk a).1 (B.U.setTop { g with pc := g.pc + len, stack := v.toList ++ g.stack })) ∨
    (∃ (q : Addr) (B : Pt), Stand p l e R s m sargs below meth c B.U B.locs B.cells B.slots ∧ PostX A a q B ∧
      Steps p.tables e below (doInvoke e (A.U.setTop g) [] mk a).1 ((B.U.setTop g).pushFrame (.throwing q)))
section Payer
variable {l : Launch} {R : Room} {p : Program} {e : Env} {below : List Frame} {s : State} {sargs : Array Value} {y : MethodName} {len W9 : Nat}
theorem vx_back {ws : List Cond} {rm : Room} {Pc : Array Value → State → Prop} {Qc : Array Value → State → Outcome → State → Prop} {XC : String → State → State → Prop} {mc ms : Nat} {free : Addr → Prop} {bytes : ByteArray} {maxL : Nat} {ret : Option FieldType}
    (hM : vx_Met l y ws rm Pc Qc XC mc ms free) (hblind : FrameBlind Pc) (hrc : rm.cells = mc) (hrs : rm.slots = ms)
    (hframes : rm.frames + 1 ≤ R.frames) (hlocals : W9 + (maxL + 11) + rm.locals ≤ R.locals)
    (hws : ∀ w ∈ ws, ∀ a' U, s.WarmedH U.vm → w.before a' U = true) (hcode : Cond.code y bytes maxL ret ∈ ws) (hinit : ∀ a' U, s.WarmedH U.vm → (Cond.initialized y.cls).before a' U = true) :
    vx_Back l R p e below s sargs y len W9 (PreOf R mc ms Pc) (PostOf Qc mc ms free) (vx_Post XC mc ms free) := by
  intro m meth c A g ig mk a X hg hsize hdg hW hn hp
  have h1 : (headSpec ws rm).pre.before a A.U = true := atoms_intro fun w hw => hws w hw _ _ X.warmed
  have h2 : (Cond.code y bytes maxL ret).before a A.U = true := hws _ hcode _ _ X.warmed
  have h3 : (Cond.initialized y.cls).before a A.U = true := hinit _ _ X.warmed
  have h4 : A.cells + (headSpec ws rm).room.cells ≤ R.cells := by rw [show (headSpec ws rm).room.cells = mc from hrc]; exact hp.1
  have h5 : A.slots + (headSpec ws rm).room.slots ≤ R.slots := by rw [show (headSpec ws rm).room.slots = ms from hrs]; exact hp.2.1
  have hPc : Pc a (A.U.calling g mk a) := hblind _ _ _ _ hp.2.2
  obtain ⟨U, Ls, c0, s0⟩ := A
  dsimp only [Pt.U, Pt.locs, Pt.cells, Pt.slots] at h1 h2 h3 h4 h5 X hn hPc ⊢
  obtain ⟨methY, cY, hmY, hcY, -, hlY, -, -, -, -⟩ := Cond.code_spec hn h2
  obtain ⟨kY, hkY, -⟩ := className_of_methodNamed hn
  have hinitY : kY.init = .initialized := Cond.initialized_spec (findClass_of_methodNamed hn) hkY h3
  have h : At U g.method c below := by rw [hg]; exact X.here
  have hlocals9 : W9 + (maxL + 11) + (headSpec ws rm).room.locals ≤ R.locals := hlocals
  have happ : (headSpec ws rm).appliesLoose y e.platform (U.calling g mk a) = true :=
    Spec.appliesLoose_calling (g := g) h hdg hn hkY hinitY
      (X.room_calling (g := g) (R' := (headSpec ws rm).room) hsize hmY hcY hframes (by rw [hlY]; omega) h4 h5) h1
  obtain ⟨mid, hmid⟩ := h.above
  have hfr : (U.setTop g).frames = (.java g :: mid) ++ below := by rw [State.frames_setTop' g h.top, hmid]; rfl
  obtain ⟨o, s₂, hsteps, -, hend, hq⟩ := Steps.callFree hM p X.admits X.cas X.clock (acts := []) hfr happ hPc trivial
  have hq' : vx_Q Qc XC mc ms free a (U.calling g mk a) o s₂ := hq
  rw [State.frames_setTop' g h.top] at hend
  obtain ⟨g₀, hg0⟩ := Option.isSome_iff_exists.mp h.top
  obtain ⟨r, hr⟩ := State.topJava?_eq_some.mp hg0
  have hr' : (({ U with heap := s₂.heap, slotsUsed := s₂.slotsUsed } : State).setVm s₂.vm).frames = .java g₀ :: r := hr
  rcases hq' with ⟨hqc, L, hfe, hL⟩ | ⟨q, rfl, E, ce, L, hx, hce, hcv, hcl, hW₂, hsm, hL⟩
  · obtain ⟨⟨v, rfl⟩, hW₂, e2, q2, q3, q4, q5, q6⟩ := id hfe
    have e3 : s₂ = ({ (U.calling g mk a).setFrames s₂.frames with heap := s₂.heap, slotsUsed := s₂.slotsUsed } : State).setVm s₂.vm := by
      have : s₂ = ({ s₂ with vm := (U.calling g mk a).vm } : State).setVm s₂.vm := rfl
      rw [e2] at this
      exact this
    obtain ⟨c₂, i₂, len₂, hc₂, hd₂, hf₂⟩ := hend
    have hW' : U.WarmedH s₂.vm := hW₂
    have hcc : c₂ = c := by
      have h1 : s₂.code? g.method = U.code? g.method := by
        rw [State.code?_eq, State.code?_eq, hW'.alike.method?]
      exact Option.some.inj (hc₂.symm.trans (h1.trans h.code))
    subst hcc
    have hlen : len₂ = len := by rw [hdg] at hd₂; cases hd₂; rfl
    subst hlen
    have hs₂ : s₂ = (({ U with heap := s₂.heap, slotsUsed := s₂.slotsUsed } : State).setVm s₂.vm).setTop { g with pc := g.pc + len₂, stack := v.toList ++ g.stack } := by
      refine e3.trans ?_
      rw [hf₂, State.calling_eq h.top, State.setFrames_setFrames, State.setTop_of_frames _ hr', hr]
      rfl
    have hsame : U.sameButNew ({ U with heap := s₂.heap, slotsUsed := s₂.slotsUsed } : State) L mc ms := by
      refine ⟨?_, q2, q3, q4, q5, q6⟩
      obtain ⟨t, ht, -⟩ := State.frames_cons hr
      show ({ U with heap := s₂.heap, slotsUsed := s₂.slotsUsed } : State) = { U.setFrames U.frames with heap := s₂.heap, slotsUsed := s₂.slotsUsed }
      rw [State.setFrames_self ht]
    subst hg
    refine Or.inl ⟨v, ⟨(({ U with heap := s₂.heap, slotsUsed := s₂.slotsUsed } : State).setVm s₂.vm), Ls ++ L, c0 + mc, s0 + ms⟩,
      ⟨X.admits, X.cas, X.clock, X.frames, X.room, X.hears, X.method, X.code, (X.here.setHeapUsed s₂.heap s₂.slotsUsed).setVm hW'.alike, X.tail, State.WarmedH.trans X.warmed hW', X.limits, X.bytes, X.same.trans (hsame.setVm s.vm)⟩,
      ⟨g, mk, s₂, L, rfl, rfl, hqc, rfl, hL, rfl, rfl⟩, ?_⟩
    show Steps p.tables e below _ ((({ U with heap := s₂.heap, slotsUsed := s₂.slotsUsed } : State).setVm s₂.vm).setTop { g with pc := g.pc + len₂, stack := v.toList ++ g.stack })
    rw [← hs₂]
    exact hsteps
  · obtain ⟨e2, q2, q3, q4, q5, q6⟩ := id hsm
    have e3 : s₂ = ({ (U.calling g mk a).setFrames s₂.frames with heap := s₂.heap, slotsUsed := s₂.slotsUsed } : State).setVm s₂.vm := by
      have : s₂ = ({ s₂ with vm := (U.calling g mk a).vm } : State).setVm s₂.vm := rfl
      rw [e2] at this
      exact this
    have hf₂ : s₂.frames = .throwing q :: .java g :: U.frames.tail := hend
    have hW' : U.WarmedH s₂.vm := hW₂
    have hs₂ : s₂ = ((({ U with heap := s₂.heap, slotsUsed := s₂.slotsUsed } : State).setVm s₂.vm).setTop g).pushFrame (.throwing q) := by
      refine e3.trans ?_
      rw [hf₂, State.calling_eq h.top, State.setFrames_setFrames, State.pushFrame, State.frames_setTop _ hr', State.setTop_of_frames _ hr', State.setFrames_setFrames, hr]
      rfl
    have hsame : U.sameButNew ({ U with heap := s₂.heap, slotsUsed := s₂.slotsUsed } : State) L mc ms := by
      refine ⟨?_, q2, q3, q4, q5, q6⟩
      obtain ⟨t, ht, -⟩ := State.frames_cons hr
      show ({ U with heap := s₂.heap, slotsUsed := s₂.slotsUsed } : State) = { U.setFrames U.frames with heap := s₂.heap, slotsUsed := s₂.slotsUsed }
      rw [State.setFrames_self ht]
    subst hg
    refine Or.inr ⟨q, ⟨(({ U with heap := s₂.heap, slotsUsed := s₂.slotsUsed } : State).setVm s₂.vm), Ls ++ L, c0 + mc, s0 + ms⟩,
      ⟨X.admits, X.cas, X.clock, X.frames, X.room, X.hears, X.method, X.code, (X.here.setHeapUsed s₂.heap s₂.slotsUsed).setVm hW'.alike, X.tail, State.WarmedH.trans X.warmed hW', X.limits, X.bytes, X.same.trans (hsame.setVm s.vm)⟩,
      ⟨g, mk, s₂, L, E, ce, rfl, rfl, hx, hce, hcv, hcl, rfl, hL, rfl, rfl⟩, ?_⟩
    show Steps p.tables e below _ (((({ U with heap := s₂.heap, slotsUsed := s₂.slotsUsed } : State).setVm s₂.vm).setTop g).pushFrame (.throwing q))
    rw [← hs₂]
    exact hsteps
end Payer
section Calls
variable {p : Program} {l : Launch} {e : Env} {R : Room} {s : State} {m : MethodId} {args : Array Value} {below : List Frame} {meth : Method} {c : Code} {T : State} {locs : List Loc} {cells slots : Nat}
theorem vx_callV (X : Stand p l e R s m args below meth c T locs cells slots) (hexec : p.tables.exec = Jvm.exec) {own C : String} {index : Nat} {y : MethodName} {bytes : ByteArray} {maxL : Nat} {ret : Option FieldType}
    (hown : s.vm.findClass own = some m.cls) (hlink : (Cond.methodLink own index y).before args s = true) (hinst : (Cond.instanceMethod y).before args s = true) (hsel : (Cond.selects C y y).before args s = true)
    (hcode : (Cond.code y bytes maxL ret).before args s = true) (hy : y.cls ≠ "java/lang/invoke/MethodHandle" ∧ y.cls ≠ "java/lang/invoke/VarHandle")
    {W9 : Nat} {Pre : Pt → Array Value → Prop} {Post : Pt → Array Value → Option Value → Pt → Prop} {PostX : Pt → Array Value → Addr → Pt → Prop} (hK : vx_Back l R p e below s args y 3 W9 Pre Post PostX)
    {b : Addr} {cellB : Cell} (hcell : T.heap[b]? = some cellB) (hobj : cellB.vm.isStatics = false) (hcls : s.vm.findClass C = some cellB.cls)
    {g : JFrame} (hg : g.method = m) (hsize : g.locals.size = c.maxLocals) {argsL rest : List Value} (hlen : ∀ sig, parseMethodDescriptor y.desc = some sig → argsL.length = sig.parameters.length)
    (hstack : g.stack = argsL.reverse ++ .ref b :: rest) (hW : 2 * g.monitorRoom + (rest.map fun v => v.category).sum ≤ W9) (hdg : decode c.code g.pc = .ok (.invokevirtual index, 3))
    (hpre : ∀ vm₁, s.WarmedH vm₁ → Pre ⟨T.setVm vm₁, locs, cells, slots⟩ (Value.ref b :: argsL).toArray) :
    (∃ (v : Option Value) (vm₁ : Vm) (B : Pt), s.WarmedH vm₁ ∧ Stand p l e R s m args below meth c B.U B.locs B.cells B.slots ∧ Post ⟨T.setVm vm₁, locs, cells, slots⟩ (Value.ref b :: argsL).toArray v B ∧
      ∀ target, Steps p.tables e below (B.U.setTop { g with pc := g.pc + 3, stack := v.toList ++ rest }) target → Steps p.tables e below (T.setTop g) target) ∨
    (∃ (q : Addr) (vm₁ : Vm) (B : Pt), s.WarmedH vm₁ ∧ Stand p l e R s m args below meth c B.U B.locs B.cells B.slots ∧ PostX ⟨T.setVm vm₁, locs, cells, slots⟩ (Value.ref b :: argsL).toArray q B ∧
      Steps p.tables e below (T.setTop g) ((B.U.setTop { g with stack := rest }).pushFrame (.throwing q))) := by
  obtain ⟨mk, methM, hnamed, hmethM, hstM, habM⟩ := Cond.instanceMethod_spec hinst
  obtain ⟨methM', cM, hmethM', -, -, -, -, -, -, hsigM⟩ := Cond.code_spec hnamed hcode
  cases hmethM.symm.trans hmethM'
  obtain ⟨c2, r2, m2, q1, q2, q3, q4, kP, hkP, hkPi⟩ := Cond.selects_spec hsel
  cases hcls.symm.trans q1
  cases (State.methodFound?_of_named hnamed hy).symm.trans q2
  cases hnamed.symm.trans q3
  have hselP : selectMethod e.platform s.vm cellB.cls mk = .method mk := by rw [Launch.admits_selectMethod X.admits]; exact q4
  obtain ⟨vm₁, X₁, hstep₁⟩ := X.invokevirtual hexec hown hlink hnamed hmethM hstM hkP hkPi hy (a := b) (cell := cellB) hcell
    (fun z h => by rw [h] at hobj; cases hobj) hselP hmethM habM hkP hkPi (g := g) hg (argsL := argsL) (rest := rest) (hlen _ hsigM) hstack hdg
  rcases hK m meth c ⟨T.setVm vm₁, locs, cells, slots⟩ { g with stack := rest } (.invokevirtual index) mk (Value.ref b :: argsL).toArray X₁ hg hsize hdg hW (X₁.named hnamed) (hpre vm₁ X₁.warmed) with ⟨v, B, X', hpost, hsteps⟩ | ⟨q, B, X', hpost, hsteps⟩
  · exact Or.inl ⟨v, vm₁, B, X₁.warmed, X', hpost, fun target h => hstep₁ _ fun acts => by rw [doInvoke_state]; exact hsteps.trans h⟩
  · exact Or.inr ⟨q, vm₁, B, X₁.warmed, X', hpost, hstep₁ _ fun acts => by rw [doInvoke_state]; exact hsteps⟩
theorem vx_callS (X : Stand p l e R s m args below meth c T locs cells slots) (hexec : p.tables.exec = Jvm.exec) {own : String} {index : Nat} {y : MethodName} {bytes : ByteArray} {maxL : Nat} {ret : Option FieldType}
    (hown : s.vm.findClass own = some m.cls) (hlink : (Cond.methodLink own index y).before args s = true) (hstat : (Cond.static y).before args s = true) (hinit : (Cond.initialized y.cls).before args s = true)
    (hcode : (Cond.code y bytes maxL ret).before args s = true) (hy : y.cls ≠ "java/lang/invoke/MethodHandle" ∧ y.cls ≠ "java/lang/invoke/VarHandle")
    {W9 : Nat} {Pre : Pt → Array Value → Prop} {Post : Pt → Array Value → Option Value → Pt → Prop} {PostX : Pt → Array Value → Addr → Pt → Prop} (hK : vx_Back l R p e below s args y 3 W9 Pre Post PostX)
    {g : JFrame} (hg : g.method = m) (hsize : g.locals.size = c.maxLocals) {argsL rest : List Value} (hlen : ∀ sig, parseMethodDescriptor y.desc = some sig → argsL.length = sig.parameters.length)
    (hstack : g.stack = argsL.reverse ++ rest) (hW : 2 * g.monitorRoom + (rest.map fun v => v.category).sum ≤ W9) (hdg : decode c.code g.pc = .ok (.invokestatic index, 3))
    (hpre : ∀ vm₁, s.WarmedH vm₁ → Pre ⟨T.setVm vm₁, locs, cells, slots⟩ argsL.toArray) :
    (∃ (v : Option Value) (vm₁ : Vm) (B : Pt), s.WarmedH vm₁ ∧ Stand p l e R s m args below meth c B.U B.locs B.cells B.slots ∧ Post ⟨T.setVm vm₁, locs, cells, slots⟩ argsL.toArray v B ∧
      ∀ target, Steps p.tables e below (B.U.setTop { g with pc := g.pc + 3, stack := v.toList ++ rest }) target → Steps p.tables e below (T.setTop g) target) ∨
    (∃ (q : Addr) (vm₁ : Vm) (B : Pt), s.WarmedH vm₁ ∧ Stand p l e R s m args below meth c B.U B.locs B.cells B.slots ∧ PostX ⟨T.setVm vm₁, locs, cells, slots⟩ argsL.toArray q B ∧
      Steps p.tables e below (T.setTop g) ((B.U.setTop { g with stack := rest }).pushFrame (.throwing q))) := by
  obtain ⟨mk, hnamed⟩ := Cond.code_named hcode
  obtain ⟨methM, cM, hmethM, -, -, -, -, -, -, hsigM⟩ := Cond.code_spec hnamed hcode
  have hstatic : methM.isStatic = true := Cond.static_spec hnamed hmethM hstat
  obtain ⟨kP, hkP, -⟩ := className_of_methodNamed hnamed
  have hinitP : kP.init = .initialized := Cond.initialized_spec (findClass_of_methodNamed hnamed) hkP hinit
  obtain ⟨vm₁, X₁, hstep₁⟩ := X.invokestatic hexec hown hlink hnamed hmethM hstatic hkP hinitP hy (g := g) hg (argsL := argsL) (rest := rest) (hlen _ hsigM) hstack hdg
  rcases hK m meth c ⟨T.setVm vm₁, locs, cells, slots⟩ { g with stack := rest } (.invokestatic index) mk argsL.toArray X₁ hg hsize hdg hW (X₁.named hnamed) (hpre vm₁ X₁.warmed) with ⟨v, B, X', hpost, hsteps⟩ | ⟨q, B, X', hpost, hsteps⟩
  · exact Or.inl ⟨v, vm₁, B, X₁.warmed, X', hpost, fun target h => hstep₁ _ fun acts => by rw [doInvoke_state]; exact hsteps.trans h⟩
  · exact Or.inr ⟨q, vm₁, B, X₁.warmed, X', hpost, hstep₁ _ fun acts => by rw [doInvoke_state]; exact hsteps⟩
end Calls
theorem vx_cls {s : State} {T : State} {vm₁ : Vm} {E : String} {k : ClassId} (hW : s.WarmedH vm₁) (h : (T.setVm vm₁).vm.findClass E = some k) : s.vm.findClass E = some k := by
  have h1 : vm₁.findClass E = some k := h
  rw [hW.alike.findClass] at h1
  exact h1
/-- the method's frame g, with q thrown over it -/
def vx_W (p : Program) (l : Launch) (e : Env) (R : Room) (s : State) (m : MethodId) (args : Array Value) (below : List Frame) (meth : Method) (c : Code) (H : Heap) (locs : List Loc) (cells slots : Nat) (Q : State → Prop) (g : JFrame) (q : Addr) : Prop :=
  ∀ T : State, T.heap = H → Stand p l e R s m args below meth c T locs cells slots → ∃ t, Steps p.tables e below ((T.setTop g).pushFrame (.throwing q)) t ∧ Q t
def vx_Run (p : Program) (l : Launch) (e : Env) (R : Room) (s : State) (m : MethodId) (args : Array Value) (below : List Frame) (meth : Method) (c : Code) (H : Heap) (locs : List Loc) (cells slots mc ms : Nat) (g : JFrame) (rest : List Value) (Qa : State → Outcome → State → Prop) (XC : String → State → State → Prop) (free : Addr → Prop) : Prop :=
  ∀ T : State, T.heap = H → Stand p l e R s m args below meth c T locs cells slots →
    (∃ (v : Option Value) (st₀ t T' : State) (L : List Loc), st₀.heap = H ∧ Stand p l e R s m args below meth c T' (locs ++ L) (cells + mc) (slots + ms) ∧ (∀ q ∈ L, free q.base) ∧ T'.heap = t.heap ∧ T'.vm = t.vm ∧ Qa st₀ (.returned v) t ∧
      Goes p e below T g T' { g with pc := g.pc + 3, stack := v.toList ++ rest }) ∨
    (∃ (q : Addr) (st₀ t T' : State) (L : List Loc) (E : String) (ce : Cell), st₀.heap = H ∧ Stand p l e R s m args below meth c T' (locs ++ L) (cells + mc) (slots + ms) ∧ (∀ z ∈ L, free z.base) ∧ T'.heap = t.heap ∧ T'.vm = t.vm ∧ XC E st₀ t ∧ t.heap[q]? = some ce ∧ ce.vm = .none ∧ s.vm.findClass E = some ce.cls ∧
      Steps p.tables e below (T.setTop g) ((T'.setTop { g with stack := rest }).pushFrame (.throwing q)))
def vx_X {S : Type} (px : S → Prop) (B : String → S → State → Prop) (A : Nat → Prop) : String → State → State → Prop := fun E st t => ∃ u : S, px u ∧ B E u t ∧ va_F A st t
section Runs
variable {p : Program} {l : Launch} {e : Env} {R : Room} {s : State} {m : MethodId} {args : Array Value} {below : List Frame} {meth : Method} {c : Code} {H : Heap} {locs : List Loc} {cells slots : Nat}
variable {y : MethodName} {bytes cc : ByteArray} {maxL nL mc ms n index : Nat} {ret : Option FieldType} {ws : List Cond} {rm : Room} {Pc : Array Value → State → Prop} {Qc : Array Value → State → Outcome → State → Prop} {XC : String → State → State → Prop} {free : Addr → Prop} {Ts : List Cond} {own C : String} {b : Addr} {As rest : List Value} {g : JFrame}
theorem vx_callBack (cb : CallB R s args own index y bytes maxL ret ws rm mc ms n) (hM : vx_Met l y ws rm Pc Qc XC mc ms free) (hbl : FrameBlind Pc) : vx_Back l R p e below s args y 3 8 (PreOf R mc ms Pc) (PostOf Qc mc ms free) (vx_Post XC mc ms free) := by
  obtain ⟨hrc, hrs, hfr, hlo, hws, hcw, -, hini, -⟩ := cb
  exact vx_back (bytes := bytes) (maxL := maxL) (ret := ret) hM hbl hrc hrs hfr hlo hws hcw (fun a' U hW => word_at hW (Or.inl (by first | rfl | simp [Cond.onTables, Cond.keeps, Cond.steady])) hini)
theorem vx_runV (S : CallFix p m c cc nL s args Ts own) (hM : vx_Met l y ws rm Pc Qc XC mc ms free) (cw : CallW R s args own C index y bytes maxL ret ws rm mc ms n) (hp : PreV s H C b Pc As)
    (hg : g.method = m) (hn : As.length = n) (hsize : g.locals.size = nL) (hstack : g.stack = As.reverse ++ .ref b :: rest) (hW : 2 * g.monitorRoom + (rest.map fun v => v.category).sum ≤ 8) (hdg : decode cc g.pc = .ok (.invokevirtual index, 3)) (hf : cells + mc ≤ R.cells ∧ slots + ms ≤ R.slots) :
    vx_Run p l e R s m args below meth c H locs cells slots mc ms g rest (Qc (Value.ref b :: As).toArray) XC free := by
  have hK : vx_Back l R p e below s args y 3 8 (PreOf R mc ms Pc) (PostOf Qc mc ms free) (vx_Post XC mc ms free) := vx_callBack cw.1 hM hp.1
  obtain ⟨⟨-, -, -, -, -, -, hcode, -, hy, hlen, hl⟩, hin, hse⟩ := cw
  obtain ⟨hx, hb, hml, ho, -⟩ := S
  obtain ⟨-, ⟨cellB, hcB, hoB, hclB⟩, hPc⟩ := hp
  intro T hT X
  rcases vx_callV X hx (C := C) (bytes := bytes) (maxL := maxL) (ret := ret) ho hl hin hse hcode hy hK (by rw [hT]; exact hcB) hoB hclB hg (hsize.trans hml.symm) (argsL := As) (rest := rest) (fun sig h => hn.trans (hlen sig h)) hstack hW (by rw [hb]; exact hdg)
    (fun vm₁ hW₁ => ⟨hf.1, hf.2, hPc (T.setVm vm₁) hT hW₁⟩) with ⟨v, vm₁, ⟨U', l2, c2, s2⟩, hW₁, X', ⟨g', mk, t, L, e1, e2, hq, h1, hL, h2, h3⟩, st⟩ | ⟨q, vm₁, ⟨U', l2, c2, s2⟩, hW₁, X', ⟨g', mk, t, L, E, ce, e1, e2, hq, hce, hcv, hcl, h1, hL, h2, h3⟩, st⟩
  · dsimp only [Pt.U, Pt.locs, Pt.cells, Pt.slots] at X' e1 e2 h1 h2 h3 st
    subst h1; subst h2; subst h3
    exact Or.inl ⟨v, (T.setVm vm₁).calling g' mk (Value.ref b :: As).toArray, t, U', L, hT, X', hL, e1, e2, hq, st⟩
  · dsimp only [Pt.U, Pt.locs, Pt.cells, Pt.slots] at X' e1 e2 h1 h2 h3 st hcl
    subst h1; subst h2; subst h3
    exact Or.inr ⟨q, (T.setVm vm₁).calling g' mk (Value.ref b :: As).toArray, t, U', L, E, ce, hT, X', hL, e1, e2, hq, hce, hcv, vx_cls hW₁ hcl, st⟩
theorem vx_runS (S : CallFix p m c cc nL s args Ts own) (hM : vx_Met l y ws rm Pc Qc XC mc ms free) (cw : CallB R s args own index y bytes maxL ret ws rm mc ms n ∧ (Cond.static y).before args s = true) (hp : PreS s H Pc As)
    (hg : g.method = m) (hn : As.length = n) (hsize : g.locals.size = nL) (hstack : g.stack = As.reverse ++ rest) (hW : 2 * g.monitorRoom + (rest.map fun v => v.category).sum ≤ 8) (hdg : decode cc g.pc = .ok (.invokestatic index, 3)) (hf : cells + mc ≤ R.cells ∧ slots + ms ≤ R.slots) :
    vx_Run p l e R s m args below meth c H locs cells slots mc ms g rest (Qc As.toArray) XC free := by
  have hK : vx_Back l R p e below s args y 3 8 (PreOf R mc ms Pc) (PostOf Qc mc ms free) (vx_Post XC mc ms free) := vx_callBack cw.1 hM hp.1
  obtain ⟨⟨-, -, -, -, -, -, hcode, hini, hy, hlen, hl⟩, hstt⟩ := cw
  obtain ⟨hx, hb, hml, ho, -⟩ := S
  intro T hT X
  rcases vx_callS X hx (bytes := bytes) (maxL := maxL) (ret := ret) ho hl hstt hini hcode hy hK hg (hsize.trans hml.symm) (argsL := As) (rest := rest) (fun sig h => hn.trans (hlen sig h)) hstack hW (by rw [hb]; exact hdg)
    (fun vm₁ hW₁ => ⟨hf.1, hf.2, hp.2 (T.setVm vm₁) hT hW₁⟩) with ⟨v, vm₁, ⟨U', l2, c2, s2⟩, hW₁, X', ⟨g', mk, t, L, e1, e2, hq, h1, hL, h2, h3⟩, st⟩ | ⟨q, vm₁, ⟨U', l2, c2, s2⟩, hW₁, X', ⟨g', mk, t, L, E, ce, e1, e2, hq, hce, hcv, hcl, h1, hL, h2, h3⟩, st⟩
  · dsimp only [Pt.U, Pt.locs, Pt.cells, Pt.slots] at X' e1 e2 h1 h2 h3 st
    subst h1; subst h2; subst h3
    exact Or.inl ⟨v, (T.setVm vm₁).calling g' mk As.toArray, t, U', L, hT, X', hL, e1, e2, hq, st⟩
  · dsimp only [Pt.U, Pt.locs, Pt.cells, Pt.slots] at X' e1 e2 h1 h2 h3 st hcl
    subst h1; subst h2; subst h3
    exact Or.inr ⟨q, (T.setVm vm₁).calling g' mk As.toArray, t, U', L, E, ce, hT, X', hL, e1, e2, hq, hce, hcv, vx_cls hW₁ hcl, st⟩
end Runs
section Rows
variable {p : Program} {l : Launch} {e : Env} {R : Room} {s : State} {m : MethodId} {args : Array Value} {below : List Frame} {meth : Method} {c : Code} {H : Heap} {locs : List Loc} {cells slots : Nat} {Q : State → Prop}
variable {mc ms : Nat} {free : Addr → Prop} {A0 A1 : Nat → Prop} {H0 : Heap} {a : Array Value} {pc : Nat} {ls : Array Slot} {st0 rest : List Value}
theorem vx_keep {st₀ t T' : State} {L : List Loc} (h0 : st₀.heap = H) (e1 : T'.heap = t.heap) (hS : va_S A0 H0 H locs) (hA : ∀ q, q < H.size → A1 q → A0 q) (hf : ∀ q, free q → A0 q) (hL : ∀ q ∈ L, free q.base) (hF : va_F A1 st₀ t) :
    H.size ≤ T'.heap.size ∧ (∀ q : Nat, q < H.size → ¬ A1 q → T'.heap[q]? = H[q]?) ∧ va_S A0 H0 T'.heap (locs ++ L) := by
  obtain ⟨hz, hk⟩ := hF
  rw [h0] at hz hk
  exact ⟨by rw [e1]; exact hz, fun q h1 h2 => by rw [e1]; exact hk q h1 h2,
    ⟨Nat.le_trans hS.1 (by rw [e1]; exact hz), fun q h1 h2 => by rw [e1, hk q (Nat.lt_of_lt_of_le h1 hS.1) (fun z => h2 (hA q (Nat.lt_of_lt_of_le h1 hS.1) z))]; exact hS.2.1 q h1 h2, fun q hq => by
      rcases List.mem_append.mp hq with h | h
      · exact hS.2.2 q h
      · exact hf _ (hL q h)⟩⟩
theorem vx_calli {S SX : Type} {post : Int32 → S → Prop} {px : SX → Prop} {B : S → State → Prop} {BX : String → SX → State → Prop} {AX : Nat → Prop} (hr : vx_Run p l e R s m args below meth c H locs cells slots mc ms (F0 m pc ls st0) rest (va_Qi post B A1 a) (vx_X px BX AX) free) (hS : va_S A0 H0 H locs) (hA : ∀ q, q < H.size → A1 q → A0 q) (hf : ∀ q, free q → A0 q) (hAX : ∀ q, q < H.size → AX q → A0 q)
    (kx : ∀ (E : String) (ce : Cell) (q9 : Addr) (u : SX) (t : State) (H1 : Heap) (locs1 : List Loc), t.heap = H1 → s.vm.Alike t.vm → px u → BX E u t → H.size ≤ H1.size → (∀ q : Nat, q < H.size → ¬ AX q → H1[q]? = H[q]?) → va_S A0 H0 H1 locs1 → H1[q9]? = some ce → ce.vm = .none → s.vm.findClass E = some ce.cls → vx_W p l e R s m args below meth c H1 locs1 (cells + mc) (slots + ms) Q (F0 m pc ls rest) q9)
    (kk : ∀ (r : Int32) (u : S) (t : State) (H1 : Heap) (locs1 : List Loc), t.heap = H1 → s.vm.Alike t.vm → post r u → B u t → H.size ≤ H1.size → (∀ q : Nat, q < H.size → ¬ A1 q → H1[q]? = H[q]?) → va_S A0 H0 H1 locs1 → W p l e R s m args below meth c H1 locs1 (cells + mc) (slots + ms) Q (F0 m (pc + 3) ls (.int r :: rest))) : W p l e R s m args below meth c H locs cells slots Q (F0 m pc ls st0) := by
  intro T hT X
  rcases hr T hT X with ⟨v, st₀, t, T', L, h0, X', hL, e1, e2, ⟨⟨r, u, hv, hp, hb⟩, hF⟩, st⟩ | ⟨q, st₀, t, T', L, E, ce, h0, X', hL, e1, e2, ⟨u, hp, hb, hF⟩, hce, hcv, hcl, st⟩
  · cases hv
    obtain ⟨k1, k2, k3⟩ := vx_keep h0 e1 hS hA hf hL hF
    obtain ⟨t2, a1, b1⟩ := kk r u t T'.heap (locs ++ L) e1.symm (by rw [← e2]; exact X'.warmed.alike) hp hb k1 k2 k3 T' rfl X'
    exact ⟨t2, st t2 a1, b1⟩
  · obtain ⟨k1, k2, k3⟩ := vx_keep h0 e1 hS hAX hf hL hF
    obtain ⟨t2, a1, b1⟩ := kx E ce q u t T'.heap (locs ++ L) e1.symm (by rw [← e2]; exact X'.warmed.alike) hp hb k1 k2 k3 (by rw [e1]; exact hce) hcv hcl T' rfl X'
    exact ⟨t2, st.trans a1, b1⟩
theorem vx_calll {S SX : Type} {post : Int64 → S → Prop} {px : SX → Prop} {B : S → State → Prop} {BX : String → SX → State → Prop} {AX : Nat → Prop} (hr : vx_Run p l e R s m args below meth c H locs cells slots mc ms (F0 m pc ls st0) rest (va_Ql post B A1 a) (vx_X px BX AX) free) (hS : va_S A0 H0 H locs) (hA : ∀ q, q < H.size → A1 q → A0 q) (hf : ∀ q, free q → A0 q) (hAX : ∀ q, q < H.size → AX q → A0 q)
    (kx : ∀ (E : String) (ce : Cell) (q9 : Addr) (u : SX) (t : State) (H1 : Heap) (locs1 : List Loc), t.heap = H1 → s.vm.Alike t.vm → px u → BX E u t → H.size ≤ H1.size → (∀ q : Nat, q < H.size → ¬ AX q → H1[q]? = H[q]?) → va_S A0 H0 H1 locs1 → H1[q9]? = some ce → ce.vm = .none → s.vm.findClass E = some ce.cls → vx_W p l e R s m args below meth c H1 locs1 (cells + mc) (slots + ms) Q (F0 m pc ls rest) q9)
    (kk : ∀ (r : Int64) (u : S) (t : State) (H1 : Heap) (locs1 : List Loc), t.heap = H1 → s.vm.Alike t.vm → post r u → B u t → H.size ≤ H1.size → (∀ q : Nat, q < H.size → ¬ A1 q → H1[q]? = H[q]?) → va_S A0 H0 H1 locs1 → W p l e R s m args below meth c H1 locs1 (cells + mc) (slots + ms) Q (F0 m (pc + 3) ls (.long r :: rest))) : W p l e R s m args below meth c H locs cells slots Q (F0 m pc ls st0) := by
  intro T hT X
  rcases hr T hT X with ⟨v, st₀, t, T', L, h0, X', hL, e1, e2, ⟨⟨r, u, hv, hp, hb⟩, hF⟩, st⟩ | ⟨q, st₀, t, T', L, E, ce, h0, X', hL, e1, e2, ⟨u, hp, hb, hF⟩, hce, hcv, hcl, st⟩
  · cases hv
    obtain ⟨k1, k2, k3⟩ := vx_keep h0 e1 hS hA hf hL hF
    obtain ⟨t2, a1, b1⟩ := kk r u t T'.heap (locs ++ L) e1.symm (by rw [← e2]; exact X'.warmed.alike) hp hb k1 k2 k3 T' rfl X'
    exact ⟨t2, st t2 a1, b1⟩
  · obtain ⟨k1, k2, k3⟩ := vx_keep h0 e1 hS hAX hf hL hF
    obtain ⟨t2, a1, b1⟩ := kx E ce q u t T'.heap (locs ++ L) e1.symm (by rw [← e2]; exact X'.warmed.alike) hp hb k1 k2 k3 (by rw [e1]; exact hce) hcv hcl T' rfl X'
    exact ⟨t2, st.trans a1, b1⟩
theorem vx_callf {S SX : Type} {post : UInt32 → S → Prop} {px : SX → Prop} {B : S → State → Prop} {BX : String → SX → State → Prop} {AX : Nat → Prop} (hr : vx_Run p l e R s m args below meth c H locs cells slots mc ms (F0 m pc ls st0) rest (va_Qf post B A1 a) (vx_X px BX AX) free) (hS : va_S A0 H0 H locs) (hA : ∀ q, q < H.size → A1 q → A0 q) (hf : ∀ q, free q → A0 q) (hAX : ∀ q, q < H.size → AX q → A0 q)
    (kx : ∀ (E : String) (ce : Cell) (q9 : Addr) (u : SX) (t : State) (H1 : Heap) (locs1 : List Loc), t.heap = H1 → s.vm.Alike t.vm → px u → BX E u t → H.size ≤ H1.size → (∀ q : Nat, q < H.size → ¬ AX q → H1[q]? = H[q]?) → va_S A0 H0 H1 locs1 → H1[q9]? = some ce → ce.vm = .none → s.vm.findClass E = some ce.cls → vx_W p l e R s m args below meth c H1 locs1 (cells + mc) (slots + ms) Q (F0 m pc ls rest) q9)
    (kk : ∀ (r : UInt32) (u : S) (t : State) (H1 : Heap) (locs1 : List Loc), t.heap = H1 → s.vm.Alike t.vm → post r u → B u t → H.size ≤ H1.size → (∀ q : Nat, q < H.size → ¬ A1 q → H1[q]? = H[q]?) → va_S A0 H0 H1 locs1 → W p l e R s m args below meth c H1 locs1 (cells + mc) (slots + ms) Q (F0 m (pc + 3) ls (.float r :: rest))) : W p l e R s m args below meth c H locs cells slots Q (F0 m pc ls st0) := by
  intro T hT X
  rcases hr T hT X with ⟨v, st₀, t, T', L, h0, X', hL, e1, e2, ⟨⟨r, u, hv, hp, hb⟩, hF⟩, st⟩ | ⟨q, st₀, t, T', L, E, ce, h0, X', hL, e1, e2, ⟨u, hp, hb, hF⟩, hce, hcv, hcl, st⟩
  · cases hv
    obtain ⟨k1, k2, k3⟩ := vx_keep h0 e1 hS hA hf hL hF
    obtain ⟨t2, a1, b1⟩ := kk r u t T'.heap (locs ++ L) e1.symm (by rw [← e2]; exact X'.warmed.alike) hp hb k1 k2 k3 T' rfl X'
    exact ⟨t2, st t2 a1, b1⟩
  · obtain ⟨k1, k2, k3⟩ := vx_keep h0 e1 hS hAX hf hL hF
    obtain ⟨t2, a1, b1⟩ := kx E ce q u t T'.heap (locs ++ L) e1.symm (by rw [← e2]; exact X'.warmed.alike) hp hb k1 k2 k3 (by rw [e1]; exact hce) hcv hcl T' rfl X'
    exact ⟨t2, st.trans a1, b1⟩
theorem vx_calld {S SX : Type} {post : UInt64 → S → Prop} {px : SX → Prop} {B : S → State → Prop} {BX : String → SX → State → Prop} {AX : Nat → Prop} (hr : vx_Run p l e R s m args below meth c H locs cells slots mc ms (F0 m pc ls st0) rest (va_Qd post B A1 a) (vx_X px BX AX) free) (hS : va_S A0 H0 H locs) (hA : ∀ q, q < H.size → A1 q → A0 q) (hf : ∀ q, free q → A0 q) (hAX : ∀ q, q < H.size → AX q → A0 q)
    (kx : ∀ (E : String) (ce : Cell) (q9 : Addr) (u : SX) (t : State) (H1 : Heap) (locs1 : List Loc), t.heap = H1 → s.vm.Alike t.vm → px u → BX E u t → H.size ≤ H1.size → (∀ q : Nat, q < H.size → ¬ AX q → H1[q]? = H[q]?) → va_S A0 H0 H1 locs1 → H1[q9]? = some ce → ce.vm = .none → s.vm.findClass E = some ce.cls → vx_W p l e R s m args below meth c H1 locs1 (cells + mc) (slots + ms) Q (F0 m pc ls rest) q9)
    (kk : ∀ (r : UInt64) (u : S) (t : State) (H1 : Heap) (locs1 : List Loc), t.heap = H1 → s.vm.Alike t.vm → post r u → B u t → H.size ≤ H1.size → (∀ q : Nat, q < H.size → ¬ A1 q → H1[q]? = H[q]?) → va_S A0 H0 H1 locs1 → W p l e R s m args below meth c H1 locs1 (cells + mc) (slots + ms) Q (F0 m (pc + 3) ls (.double r :: rest))) : W p l e R s m args below meth c H locs cells slots Q (F0 m pc ls st0) := by
  intro T hT X
  rcases hr T hT X with ⟨v, st₀, t, T', L, h0, X', hL, e1, e2, ⟨⟨r, u, hv, hp, hb⟩, hF⟩, st⟩ | ⟨q, st₀, t, T', L, E, ce, h0, X', hL, e1, e2, ⟨u, hp, hb, hF⟩, hce, hcv, hcl, st⟩
  · cases hv
    obtain ⟨k1, k2, k3⟩ := vx_keep h0 e1 hS hA hf hL hF
    obtain ⟨t2, a1, b1⟩ := kk r u t T'.heap (locs ++ L) e1.symm (by rw [← e2]; exact X'.warmed.alike) hp hb k1 k2 k3 T' rfl X'
    exact ⟨t2, st t2 a1, b1⟩
  · obtain ⟨k1, k2, k3⟩ := vx_keep h0 e1 hS hAX hf hL hF
    obtain ⟨t2, a1, b1⟩ := kx E ce q u t T'.heap (locs ++ L) e1.symm (by rw [← e2]; exact X'.warmed.alike) hp hb k1 k2 k3 (by rw [e1]; exact hce) hcv hcl T' rfl X'
    exact ⟨t2, st.trans a1, b1⟩
theorem vx_callv {S SX : Type} {post : S → Prop} {px : SX → Prop} {B : S → State → Prop} {BX : String → SX → State → Prop} {AX : Nat → Prop} (hr : vx_Run p l e R s m args below meth c H locs cells slots mc ms (F0 m pc ls st0) rest (va_Qv post B A1 a) (vx_X px BX AX) free) (hS : va_S A0 H0 H locs) (hA : ∀ q, q < H.size → A1 q → A0 q) (hf : ∀ q, free q → A0 q) (hAX : ∀ q, q < H.size → AX q → A0 q)
    (kx : ∀ (E : String) (ce : Cell) (q9 : Addr) (u : SX) (t : State) (H1 : Heap) (locs1 : List Loc), t.heap = H1 → s.vm.Alike t.vm → px u → BX E u t → H.size ≤ H1.size → (∀ q : Nat, q < H.size → ¬ AX q → H1[q]? = H[q]?) → va_S A0 H0 H1 locs1 → H1[q9]? = some ce → ce.vm = .none → s.vm.findClass E = some ce.cls → vx_W p l e R s m args below meth c H1 locs1 (cells + mc) (slots + ms) Q (F0 m pc ls rest) q9)
    (kk : ∀ (u : S) (t : State) (H1 : Heap) (locs1 : List Loc), t.heap = H1 → s.vm.Alike t.vm → post u → B u t → H.size ≤ H1.size → (∀ q : Nat, q < H.size → ¬ A1 q → H1[q]? = H[q]?) → va_S A0 H0 H1 locs1 → W p l e R s m args below meth c H1 locs1 (cells + mc) (slots + ms) Q (F0 m (pc + 3) ls (rest))) : W p l e R s m args below meth c H locs cells slots Q (F0 m pc ls st0) := by
  intro T hT X
  rcases hr T hT X with ⟨v, st₀, t, T', L, h0, X', hL, e1, e2, ⟨⟨u, hv, hp, hb⟩, hF⟩, st⟩ | ⟨q, st₀, t, T', L, E, ce, h0, X', hL, e1, e2, ⟨u, hp, hb, hF⟩, hce, hcv, hcl, st⟩
  · cases hv
    obtain ⟨k1, k2, k3⟩ := vx_keep h0 e1 hS hA hf hL hF
    obtain ⟨t2, a1, b1⟩ := kk u t T'.heap (locs ++ L) e1.symm (by rw [← e2]; exact X'.warmed.alike) hp hb k1 k2 k3 T' rfl X'
    exact ⟨t2, st t2 a1, b1⟩
  · obtain ⟨k1, k2, k3⟩ := vx_keep h0 e1 hS hAX hf hL hF
    obtain ⟨t2, a1, b1⟩ := kx E ce q u t T'.heap (locs ++ L) e1.symm (by rw [← e2]; exact X'.warmed.alike) hp hb k1 k2 k3 (by rw [e1]; exact hce) hcv hcl T' rfl X'
    exact ⟨t2, st.trans a1, b1⟩
/-- caught by the row x of this method's table; the rows ahead don't take it -/
theorem vx_catch {own name : String} {E : String} {ce : Cell} {q : Addr} (hown : s.vm.findClass own = some m.cls) (pre : List ExceptionTableEntry) (x : ExceptionTableEntry) (suf : List ExceptionTableEntry) (hsplit : c.exceptionTable.toList = pre ++ x :: suf)
    (hpass : ∀ z ∈ pre, covers z pc = false ∨ (z.catchType ≠ 0 ∧ ∃ nm : String, (Cond.classLink own z.catchType nm).before args s = true ∧ va_Nc E nm s)) (hx : covers x pc = true) (h0 : x.catchType ≠ 0)
    (hlink : (Cond.classLink own x.catchType name).before args s = true) (hcast : (Cond.castable E name).before args s = true) (hcell : H[q]? = some ce) (hv : ce.vm = .none) (hcl : s.vm.findClass E = some ce.cls)
    (kk : W p l e R s m args below meth c H locs cells slots Q (F0 m x.handlerPc ls [.ref q])) : vx_W p l e R s m args below meth c H locs cells slots Q (F0 m pc ls rest) q := by
  intro T hT X
  have hpl : e.platform.magicAccessors = ({} : Platform).magicAccessors := by rw [X.admits.platform]
  obtain ⟨c3, c4, hc3, hc4, hasg⟩ := Cond.castable_spec hcast
  cases Option.some.inj (hc3.symm.trans hcl)
  obtain ⟨c5, hc5, hcl5⟩ := Cond.classLink_spec hown hlink e.platform hpl
  cases Option.some.inj (hc4.symm.trans hc5)
  obtain ⟨vm', X', st⟩ := X.thenCaughtThrough q (g := F0 m pc ls rest) rfl (Steps.refl _) (by rw [hT]; exact hcell) (by rw [hv]; rfl) (by obtain ⟨k9, h9, -⟩ := Vm.findClass_spec hcl; exact ⟨k9, h9⟩) pre x suf hsplit
    (fun z hz => by
      rcases hpass z hz with h | ⟨hz0, nm, hl1, hn1⟩
      · exact Or.inl h
      · obtain ⟨c6, hc6, hcl6⟩ := Cond.classLink_spec hown hl1 e.platform hpl
        obtain ⟨a8, b8, h1, h2, h3⟩ := hn1
        cases Option.some.inj (h1.symm.trans hcl)
        cases Option.some.inj (h2.symm.trans hc6)
        exact Or.inr ⟨hz0, _, hcl6, h3⟩) hx (Or.inr ⟨h0, c4, hcl5, hasg⟩)
  obtain ⟨t, a1, b1⟩ := kk (T.setVm vm') hT X'
  exact ⟨t, st.trans a1, b1⟩
end Rows
section Ends
variable {p : Program} {l : Launch} {e : Env} {R : Room} {s : State} {m : MethodId} {args : Array Value} {below : List Frame} {meth : Method} {c : Code} {H : Heap} {locs : List Loc} {cells slots : Nat} {Q : State → Prop}
variable {mc ms : Nat} {free : Addr → Prop} {A0 A1 : Nat → Prop} {H0 : Heap} {a : Array Value} {ls : Array Slot} {st0 rest : List Value}
variable {Qc : Array Value → State → Outcome → State → Prop} {XC : String → State → State → Prop}
/-- what a body that may throw owes at its end -/
def vx_MQ (below : List Frame) (Qc : Array Value → State → Outcome → State → Prop) (XC : String → State → State → Prop) (a : Array Value) (s : State) (mc ms : Nat) (free : Addr → Prop) : State → Prop := fun t =>
  ∃ o, t.status = .running ∧ Ended t below o ∧ vx_Q Qc XC mc ms free a s o t
theorem vx_ret {g : JFrame} {mc ms : Nat} (k : W p l e R s m args below meth c H locs cells slots (MQ below Qc args s mc ms free) g) : W p l e R s m args below meth c H locs cells slots (vx_MQ below Qc XC args s mc ms free) g := by
  intro T hT X
  obtain ⟨t, a1, o, b1, b2, b3, b4⟩ := k T hT X
  exact ⟨t, a1, o, b1, b2, Or.inl ⟨b3, b4⟩⟩
/-- not caught here: it goes on to the caller -/
theorem vx_widen {g : JFrame} {q : Addr} {k n : Nat} (h1 : cells ≤ k) (h2 : slots ≤ n) (kk : vx_W p l e R s m args below meth c H locs k n Q g q) : vx_W p l e R s m args below meth c H locs cells slots Q g q := fun T hT X => kk T hT (stand_widen X h1 h2)
theorem vx_out {pc : Nat} {E : String} {ce : Cell} {q : Addr} {mc ms : Nat} (hout : ∀ x ∈ c.exceptionTable.toList, covers x pc = false) (hlocks : meth.locks = false) (hcell : H[q]? = some ce) (hv : ce.vm = .none) (hcl : s.vm.findClass E = some ce.cls)
    (hx : ∀ t : State, t.heap = H → s.vm.Alike t.vm → XC E s t) (hf : ∀ z ∈ locs, free z.base) (hc : cells ≤ mc) (hs : slots ≤ ms) :
    vx_W p l e R s m args below meth c H locs cells slots (vx_MQ below Qc XC args s mc ms free) (F0 m pc ls rest) q := by
  intro T hT X
  obtain ⟨st1, hrun, hend, hW, hsm⟩ := X.leaveThrown q (g := F0 m pc ls rest) rfl rfl rfl hout hlocks
  have hcell9 : (T.setFrames (.throwing q :: below)).heap[q]? = some ce := by
    show T.heap[q]? = some ce
    rw [hT]; exact hcell
  exact ⟨_, st1, .threw q, hrun, hend, Or.inr ⟨q, rfl, E, ce, locs, hx _ hT hW.alike, hcell9, hv, hcl, hW, hsm.mono hc hs, hf⟩⟩
theorem vx_frame {U : State} {k n : Nat} (h : s.sameButNew ({ U with vm := s.vm } : State) locs k n) : s.heap.size ≤ U.heap.size ∧ ∀ q : Nat, q < s.heap.size → (∀ z ∈ locs, z.base ≠ q) → U.heap[q]? = s.heap[q]? := by
  obtain ⟨-, h2, -, -, -, h6⟩ := h
  refine ⟨h2, fun q hq hz => ?_⟩
  obtain ⟨c9, e1, e2, e3, e4⟩ := h6 q _ (Array.getElem?_eq_getElem hq)
  have hs : c9.slots = (s.heap[q]).slots := Array.ext_getElem? fun i => e4 i fun hm => hz _ hm rfl
  have h9 : c9 = s.heap[q] := by
    rw [hs] at e2
    exact e2
  have e5 : U.heap[q]? = some c9 := e1
  rw [e5, h9, Array.getElem?_eq_getElem hq]
/-- the words of a throw but the four that speak of the heap -/
def vx_no (w : Cond) : Bool := decide (w ≠ .isRef (.static Bundle.tN "UNASSIGNED_STACK" Bundle.steD)) && decide (w ≠ .isRef (.static Bundle.tN "SUPPRESSED_SENTINEL" Bundle.listD)) && decide (w ≠ .laysStatic Bundle.tN "UNASSIGNED_STACK" Bundle.steD) && decide (w ≠ .laysStatic Bundle.tN "SUPPRESSED_SENTINEL" Bundle.listD)
def vx_at0 (own : String) (ic : Nat) (X : String) (names : List String) : List Cond := (Bundle.ownAtoms0 own ic X names).filter vx_no
def vx_atS (own : String) (ic : Nat) (X : String) (names : List String) : List Cond := (Bundle.ownAtoms own ic X names).filter vx_no
/-- a word that the tables alone decide, or a good one -/
def vx_ot (w : Cond) : Bool := w.onTables || goodWord w
theorem vx_ot_at {args a' : Array Value} {s U : State} {w : Cond} (hW : s.WarmedH U.vm) (hvm : s.vm = U.vm) (hg : vx_ot w = true) (h : w.before args s = true) : w.before a' U = true := by
  simp only [vx_ot, Bool.or_eq_true] at hg
  rcases hg with hg | hg
  · exact va_tabs hg hvm h
  · exact word_at hW (good_of_word hg) h
/-- a list's words: the good ones out of the method's own list, the others by premises of their own -/
theorem vx_hat {args : Array Value} {s : State} {L B : List Cond} (h1 : ∀ w ∈ L.filter goodWord, w.before args s = true) (h2 : ∀ w ∈ L.filter (fun w => !goodWord w), w ∈ B) (h3 : ∀ w ∈ B, w.before args s = true) : ∀ w ∈ L, w.before args s = true := by
  intro w hw
  by_cases g : goodWord w = true
  · exact h1 w (List.mem_filter.mpr ⟨hw, g⟩)
  · refine h3 w (h2 w (List.mem_filter.mpr ⟨hw, ?_⟩))
    show (!goodWord w) = true
    cases hgw : goodWord w
    · rfl
    · exact absurd hgw g
theorem vx_c {args : Array Value} {s : State} {w : Cond} {B : List Cond} (h : w.before args s = true) (t : ∀ w ∈ B, w.before args s = true) : ∀ w' ∈ w :: B, w'.before args s = true := fun w' h' => (List.mem_cons.mp h').elim (fun e => by rw [e]; exact h) (t w')
theorem vx_n {args : Array Value} {s : State} : ∀ w ∈ ([] : List Cond), w.before args s = true := fun _ h => nomatch h
theorem vx_own {args : Array Value} {s : State} {L : List Cond} (h1 : ∀ w ∈ L.filter vx_no, w.before args s = true)
    (hU : (Cond.isRef (.static Bundle.tN "UNASSIGNED_STACK" Bundle.steD)).before args s = true) (hN : (Cond.isRef (.static Bundle.tN "SUPPRESSED_SENTINEL" Bundle.listD)).before args s = true)
    (lU : (Cond.laysStatic Bundle.tN "UNASSIGNED_STACK" Bundle.steD).before args s = true) (lN : (Cond.laysStatic Bundle.tN "SUPPRESSED_SENTINEL" Bundle.listD).before args s = true) : ∀ w ∈ L, w.before args s = true := by
  intro w hw
  by_cases e1 : w = .isRef (.static Bundle.tN "UNASSIGNED_STACK" Bundle.steD)
  · rw [e1]; exact hU
  · by_cases e2 : w = .isRef (.static Bundle.tN "SUPPRESSED_SENTINEL" Bundle.listD)
    · rw [e2]; exact hN
    · by_cases e3 : w = .laysStatic Bundle.tN "UNASSIGNED_STACK" Bundle.steD
      · rw [e3]; exact lU
      · by_cases e4 : w = .laysStatic Bundle.tN "SUPPRESSED_SENTINEL" Bundle.listD
        · rw [e4]; exact lN
        · exact h1 w (List.mem_filter.mpr ⟨hw, by unfold vx_no; rw [decide_eq_true e1, decide_eq_true e2, decide_eq_true e3, decide_eq_true e4]; rfl⟩)
/-- where a static field lies, its class's statics cell in H -/
def vx_L (C n d : String) (A : Nat → Prop) (U : State) (H : Heap) : Prop := ∃ (c : ClassId) (k : Class) (i : Nat) (f : Field) (a : Nat) (cell : Cell), U.vm.findClass C = some c ∧ U.fieldFound? C n d = some (c, k, i, f) ∧ f.isStatic = true ∧ k.statics = some a ∧ H[a]? = some cell ∧ cell.vm.isStatics = true ∧ cell.cls = c ∧ f.slot < cell.slots.size ∧ k.staticTypes[f.slot]? = some f.type ∧ ¬ A a
theorem vx_L.moved {C n d : String} {A : Nat → Prop} {u U : State} {H : Heap} (hvm : u.vm.Alike U.vm) (h : vx_L C n d A u H) : vx_L C n d A U H := by
  obtain ⟨c, k, i, f, a, cell, h1, h2, h3, h4, h5, h6, h7, h8, h9, h10⟩ := h
  obtain ⟨k', hi', he⟩ := State.fieldFound?_setVm hvm h2
  exact ⟨c, k', i, f, a, cell, by rw [hvm.findClass]; exact h1, hi', h3, by rw [he]; exact h4, h5, h6, h7, h8, by rw [he]; exact h9, h10⟩
theorem vx_L.kept {C n d : String} {A : Nat → Prop} {U : State} {H H1 : Heap} (h : vx_L C n d A U H) (hq : ∀ a : Nat, a < H.size → ¬ A a → H1[a]? = H[a]?) : vx_L C n d A U H1 := by
  obtain ⟨c, k, i, f, a, cell, h1, h2, h3, h4, h5, h6, h7, h8, h9, h10⟩ := h
  exact ⟨c, k, i, f, a, cell, h1, h2, h3, h4, by rw [hq a (Array.getElem?_eq_some_iff.mp h5).1 h10]; exact h5, h6, h7, h8, h9, h10⟩
theorem vx_L.narrow {C n d : String} {A B : Nat → Prop} {U : State} {H : Heap} (h : vx_L C n d A U H) (hAB : ∀ q, B q → A q) : vx_L C n d B U H := by
  obtain ⟨c, k, i, f, a, cell, h1, h2, h3, h4, h5, h6, h7, h8, h9, h10⟩ := h
  exact ⟨c, k, i, f, a, cell, h1, h2, h3, h4, h5, h6, h7, h8, h9, fun z => h10 (hAB _ z)⟩
theorem vx_L.word {C n d : String} {A : Nat → Prop} {s : State} {args : Array Value} (h : vx_L C n d A s s.heap) : (Cond.laysStatic C n d).before args s = true := by
  obtain ⟨c, k, i, f, a, cell, h1, h2, h3, h4, h5, h6, h7, h8, h9, -⟩ := h
  show (Cond.laysStatic C n d).holds args s none s [] = true
  exact Cond.laysStatic_of h1 h2 h3 h4 h5 h6 h7 h8 h9
/-- .. and what it holds: null or some reference -/
def vx_Zq (C n d : String) (A : Nat → Prop) (U : State) (H : Heap) : Prop := va_Zq C n d A U H ∧ vx_L C n d A U H
theorem vx_Zq.moved {C n d : String} {A : Nat → Prop} {u U : State} {H : Heap} (hvm : u.vm.Alike U.vm) (h : vx_Zq C n d A u H) : vx_Zq C n d A U H := ⟨va_Zq.moved hvm h.1, vx_L.moved hvm h.2⟩
theorem vx_Zq.kept {C n d : String} {A : Nat → Prop} {U : State} {H H1 : Heap} (h : vx_Zq C n d A U H) (hq : ∀ a : Nat, a < H.size → ¬ A a → H1[a]? = H[a]?) : vx_Zq C n d A U H1 := ⟨va_Zq.kept h.1 hq, vx_L.kept h.2 hq⟩
theorem vx_Zq.narrow {C n d : String} {A B : Nat → Prop} {U : State} {H : Heap} (h : vx_Zq C n d A U H) (hAB : ∀ q, B q → A q) : vx_Zq C n d B U H := ⟨va_Zq.narrow h.1 hAB, vx_L.narrow h.2 hAB⟩
theorem vx_Zqof {args : Array Value} {s : State} {C n d : String} {A : Nat → Prop} (hl : (Cond.laysStatic C n d).before args s = true) (hini : (Cond.initialized C).before args s = true) (h : (Cond.isRef (.static C n d)).before args s = true) (hA : ∀ a : Nat, a < s.heap.size → ¬ A a) : vx_Zq C n d A s s.heap := by
  refine ⟨va_Zqof hl hini h hA, ?_⟩
  obtain ⟨c, k, i, f, a, cell, h1, h2, h3, h4, h5, h6, h7, h8, h9⟩ := Cond.laysStatic_spec hl
  exact ⟨c, k, i, f, a, cell, h1, h2, h3, h4, h5, h6, h7, h8, h9, hA a (Array.getElem?_eq_some_iff.mp h5).1⟩
theorem vx_isRef {C n d : String} {v : Value} {A : Nat → Prop} {s : State} {args : Array Value} (h : va_Z C n d v A s s.heap) (hv : v.isRef = true) : (Cond.isRef (.static C n d)).before args s = true := by
  obtain ⟨cf, kf, fi, f, a, cell, h1, h2, h3, h4, h5, h6, h7, -⟩ := h
  have he : (Term.static C n d).eval args s none [] s = some v := by
    simp [Term.eval, State.fieldNamed?, h1, h2, h4, h5, h6, h7]
  simp only [Cond.before, Cond.holds, Cond.value, he]
  cases v <;> simp_all [Value.isRef]
theorem vx_isRefq {C n d : String} {A : Nat → Prop} {s : State} {args : Array Value} (h : va_Zq C n d A s s.heap) : (Cond.isRef (.static C n d)).before args s = true := by
  rcases h with h | ⟨t, h⟩
  · exact vx_isRef h rfl
  · exact vx_isRef h rfl
/-- the same frame, seen from here: as if the method were called anew in this heap -/
theorem vx_rebase {T : State} (X : Stand p l e R s m args below meth c T locs cells slots) {R' : Room} (hf : R'.frames ≤ R.frames) (hl : R'.locals ≤ R.locals) (hc : cells + R'.cells ≤ R.cells) (hs : slots + R'.slots ≤ R.slots) :
    Stand p l e R' ((T.setVm s.vm).setFrames (.invoking m args :: below)) m args below meth c T [] 0 0 := by
  have htop : (T.setVm s.vm).topJava?.isSome := X.here.top
  have hF : ((T.setVm s.vm).setFrames (.invoking m args :: below)).frames = .invoking m args :: below := State.frames_setFrames _ (State.cur_lt_of_top htop)
  obtain ⟨g₀, hg0⟩ := Option.isSome_iff_exists.mp htop
  obtain ⟨r, hr⟩ := State.topJava?_eq_some.mp hg0
  have hl9 : e.platform.stackLimits (T.setVm s.vm).me = e.platform.stackLimits s.me := X.limits
  have hb9 : (T.setVm s.vm).me.stackBytes = s.me.stackBytes := X.bytes
  refine ⟨X.admits, X.cas, X.clock, hF, ?_, X.hears, X.method, X.code, X.here, X.tail, X.warmed, ?_, ?_, ?_⟩
  · have h := X.room
    have hU : ((T.setVm s.vm).setFrames (.invoking m args :: below)).localsInUse = s.localsInUse := by
      rw [State.localsInUse_invoking hF (meth := meth) (c := c) X.method X.code, State.localsInUse_invoking X.frames X.method X.code]
    simp only [State.hasRoom, Bool.and_eq_true, decide_eq_true_eq] at h ⊢
    obtain ⟨⟨⟨⟨h1, h2, h3, h4, h5, h6⟩, h7⟩, h8⟩, h9⟩ := h
    rw [X.frames, List.length_cons] at h2 h3
    have q1 := X.heapSize
    have q2 := X.used
    simp only [hF, hU, List.length_cons, State.stackLimits_setFrames, State.stackBytes_setFrames, hl9, hb9]
    refine ⟨⟨⟨⟨by omega, by omega, by omega, by omega, by omega, h6⟩, ?_⟩, ?_⟩, X.book⟩
    · show T.heap.size + R'.cells ≤ e.platform.maxCells
      omega
    · show T.slotsUsed + R'.slots ≤ e.platform.maxSlots
      omega
  · rw [State.stackLimits_setFrames]; rfl
  · rw [State.stackBytes_setFrames]; rfl
  · refine ⟨?_, Nat.le_refl _, Nat.le_refl _, ?_, ?_, fun a c9 h9 => ⟨c9, h9, rfl, rfl, fun _ _ => rfl⟩⟩
    · obtain ⟨t, ht, -⟩ := State.frames_cons hr
      show T.setVm s.vm = { ((T.setVm s.vm).setFrames (.invoking m args :: below)).setFrames (T.setVm s.vm).frames with heap := T.heap, slotsUsed := T.slotsUsed }
      rw [State.setFrames_setFrames, State.setFrames_self ht]
      rfl
    · show T.slotsUsed = T.slotsUsed + ((T.heap.toList.drop T.heap.size).map (·.slots.size)).sum
      rw [List.drop_eq_nil_of_le (Nat.le_of_eq Array.length_toList)]
      rfl
    · show ((T.heap.toList.drop T.heap.size).map (·.slots.size)).sum ≤ 0
      rw [List.drop_eq_nil_of_le (Nat.le_of_eq Array.length_toList)]
      exact Nat.le_refl _
/-- 'throw new E()': new; dup; invokespecial; athrow -/
theorem vx_throw0 {cc : ByteArray} {pc : Nat} (hexec : p.tables.exec = Jvm.exec) (hb : c.code = cc) (hl : l.stackTraces = false) {own cls : String} {names : List String} {ik ic mc ms : Nat} {A : Nat → Prop}
    (hown : s.vm.findClass own = some m.cls) (hcls : Bundle.fit cls = true) (hnames : ∀ n ∈ names, Bundle.fit n = true)
    (hk : (Cond.classLink own ik cls).before args s = true) (hini : (Cond.initialized cls).before args s = true) (hat : ∀ w ∈ vx_at0 own ic cls names, w.before args s = true)
    (hgood : ∀ w ∈ Cond.classLink own ik cls :: Cond.initialized cls :: vx_at0 own ic cls names, vx_ot w = true)
    (hU : vx_Zq Bundle.tN "UNASSIGNED_STACK" Bundle.steD A s s.heap) (hN : vx_Zq Bundle.tN "SUPPRESSED_SENTINEL" Bundle.listD A s s.heap) (hS : va_S A s.heap H locs) (hsize : ls.size = c.maxLocals)
    (d0 : decode cc pc = .ok (.new ik, 3)) (d3 : decode cc (pc + 3) = .ok (.dup, 1)) (d4 : decode cc (pc + 4) = .ok (.invokespecial ic, 3)) (d7 : decode cc (pc + 7) = .ok (.athrow, 1))
    (hout : ∀ x ∈ c.exceptionTable.toList, covers x (pc + 7) = false)
    (hRframes : names.length + 3 < R.frames) (hRlocals : (rest.map fun v => v.category).sum + (13 * (names.length + 1) + 42) ≤ R.locals) (hRcells : cells + 1 ≤ R.cells) (hRslots : slots + 6 ≤ R.slots) (hlocks : meth.locks = false)
    (hx : ∀ t : State, s.vm.Alike t.vm → H.size ≤ t.heap.size → (∀ q : Nat, q < H.size → t.heap[q]? = H[q]?) → XC cls s t)
    (hf : ∀ z ∈ locs, free z.base) (hc : cells + 1 ≤ mc) (hs : slots + 6 ≤ ms) :
    W p l e R s m args below meth c H locs cells slots (vx_MQ below Qc XC args s mc ms free) (F0 m pc ls rest) := by
  intro T hT X
  have htr : e.platform.stackTraces = false := (show e.platform.stackTraces = l.stackTraces by rw [X.admits.platform]).trans hl
  have Y := vx_rebase X (R' := { frames := R.frames, locals := R.locals, cells := 1, slots := 6 }) (Nat.le_refl _) (Nat.le_refl _) hRcells hRslots
  obtain ⟨s', hA⟩ : ∃ z, z = (T.setVm s.vm).setFrames (.invoking m args :: below) := ⟨_, rfl⟩
  rw [← hA] at Y
  have hvm : s'.vm = s.vm := by rw [hA]; rfl
  have hhp : s'.heap = H := by rw [hA]; exact hT
  have hW0 : s.WarmedH s'.vm := by rw [hvm]; exact State.WarmedH.refl s
  have hat' : ∀ w ∈ vx_at0 own ic cls names, w.before args s' = true := fun w hw => vx_ot_at hW0 hvm.symm (hgood w (List.mem_cons_of_mem _ (List.mem_cons_of_mem _ hw))) (hat w hw)
  have hk' : (Cond.classLink own ik cls).before args s' = true := vx_ot_at hW0 hvm.symm (hgood _ List.mem_cons_self) hk
  have hini' : (Cond.initialized cls).before args s' = true := vx_ot_at hW0 hvm.symm (hgood _ (List.mem_cons_of_mem _ List.mem_cons_self)) hini
  have hU' : vx_Zq Bundle.tN "UNASSIGNED_STACK" Bundle.steD A s' s'.heap := by rw [hhp]; exact vx_Zq.moved hW0.alike (hU.kept hS.2.1)
  have hN' : vx_Zq Bundle.tN "SUPPRESSED_SENTINEL" Bundle.listD A s' s'.heap := by rw [hhp]; exact vx_Zq.moved hW0.alike (hN.kept hS.2.1)
  have h : ∀ w ∈ Bundle.ownAtoms0 own ic cls names, w.before args s' = true := vx_own hat' (vx_isRefq hU'.1) (vx_isRefq hN'.1) hU'.2.word hN'.2.word
  have hown' : s'.vm.findClass own = some m.cls := by rw [hvm]; exact hown
  have hins : (Cond.instantiable cls 6).before args s' = true := h _ (by simp [Bundle.ownAtoms0])
  obtain ⟨vm₁, cX, kX, hfX, hkX, -, -, X₁, st1⟩ := Y.newCold hexec (own := own) (C := cls) (index := ik) (n := 6) hown' hk' hins hini'
    (g := F0 m pc ls rest) rfl (by rw [hb]; exact d0) (Nat.le_refl _) (Nat.le_refl _)
  generalize hT1 : (T.setVm vm₁).pushCell { cls := cX, slots := kX.instanceTypes.map defaultValue, vm := .none } = T1 at X₁ st1
  have hcat : (Value.ref T.heap.size).category = 1 := rfl
  have hcellA : T1.heap[T.heap.size]? = some (freshCell cX kX) := by rw [← hT1]; exact State.heap_pushCell_size _ _
  have d3' : decode c.code (pc + 3) = .ok (.dup, 1) := by rw [hb]; exact d3
  obtain ⟨U, hsteps, hrun, hend, hW, hsame, ce, hce, hO⟩ := X₁.ctorThrow0 hexec htr (own := own) (cls := cls) (names := names) (ic := ic) hown' hcls hnames h (fun x hx => nomatch hx) hfX hkX hcellA (by rw [hhp, hT]; exact Nat.le_refl _)
    (g := { method := m, pc := pc + 4, locals := ls, stack := .ref T.heap.size :: .ref T.heap.size :: rest, locked := none }) rfl hsize rfl rfl (rest := rest) rfl
    (by rw [hb]; exact d4) (by rw [hb]; exact d7) hout hRframes (by simp only [List.map_cons, List.sum_cons, hcat]; omega) hlocks
  obtain ⟨f1, f2⟩ := vx_frame hsame
  rw [hhp] at f1 f2
  have hWs : s.WarmedH U.vm := State.WarmedH.trans hW0 hW
  have hcl : s.vm.findClass cls = some ce.cls := by
    have h9 := hO.cls
    rw [hvm] at h9
    exact h9
  have hall : s.sameButNew ({ U with vm := s.vm } : State) locs mc ms := by
    subst hA
    obtain ⟨e1, e2⟩ := hsame
    rw [State.setFrames_setFrames] at e1
    have h2 : (T.setVm s.vm).sameButNew ({ U with vm := s.vm } : State) [] (0 + 1) (0 + 6) := ⟨e1, e2⟩
    have h3 := X.same.trans h2
    rw [List.append_nil] at h3
    exact h3.mono hc hs
  refine ⟨U, ?_, .threw T.heap.size, hrun, hend, Or.inr ⟨T.heap.size, rfl, cls, ce, locs, hx U hWs.alike f1 (fun q hq => f2 q hq (fun z hz => nomatch hz)), hce, hO.vm, hcl, hWs, hall, hf⟩⟩
  refine st1 _ ?_
  show Steps p.tables e below (T1.setTop { method := m, pc := pc + 3, locals := ls, stack := .ref T.heap.size :: rest, locked := none }) _
  jvm_step X₁.here [X₁.here.top, hexec, d3', Value.category]
  exact hsteps
/-- 'throw new E("text")': new; dup; ldc; invokespecial; athrow -/
theorem vx_throwS {cc : ByteArray} {pc : Nat} (hexec : p.tables.exec = Jvm.exec) (hb : c.code = cc) (hl : l.stackTraces = false) {own cls text : String} {names : List String} {ik is ic mc ms sa : Nat} {A : Nat → Prop}
    (hown : s.vm.findClass own = some m.cls) (hcls : Bundle.fit cls = true) (hnames : ∀ n ∈ names, Bundle.fit n = true)
    (hk : (Cond.classLink own ik cls).before args s = true) (hini : (Cond.initialized cls).before args s = true) (hstr : vk_R own is text sa s) (hat : ∀ w ∈ vx_atS own ic cls names, w.before args s = true)
    (hgood : ∀ w ∈ Cond.classLink own ik cls :: Cond.initialized cls :: vx_atS own ic cls names, vx_ot w = true)
    (hU : vx_Zq Bundle.tN "UNASSIGNED_STACK" Bundle.steD A s s.heap) (hN : vx_Zq Bundle.tN "SUPPRESSED_SENTINEL" Bundle.listD A s s.heap) (hS : va_S A s.heap H locs) (hsize : ls.size = c.maxLocals)
    (d0 : decode cc pc = .ok (.new ik, 3)) (d3 : decode cc (pc + 3) = .ok (.dup, 1)) (d4 : decode cc (pc + 4) = .ok (.ldc is, 2)) (d6 : decode cc (pc + 6) = .ok (.invokespecial ic, 3)) (d9 : decode cc (pc + 9) = .ok (.athrow, 1))
    (hout : ∀ x ∈ c.exceptionTable.toList, covers x (pc + 9) = false)
    (hRframes : names.length + 3 < R.frames) (hRlocals : (rest.map fun v => v.category).sum + (13 * (names.length + 1) + 43) ≤ R.locals) (hRcells : cells + 1 ≤ R.cells) (hRslots : slots + 6 ≤ R.slots) (hlocks : meth.locks = false)
    (hx : ∀ t : State, s.vm.Alike t.vm → H.size ≤ t.heap.size → (∀ q : Nat, q < H.size → t.heap[q]? = H[q]?) → XC cls s t)
    (hf : ∀ z ∈ locs, free z.base) (hc : cells + 1 ≤ mc) (hs : slots + 6 ≤ ms) :
    W p l e R s m args below meth c H locs cells slots (vx_MQ below Qc XC args s mc ms free) (F0 m pc ls rest) := by
  intro T hT X
  have htr : e.platform.stackTraces = false := (show e.platform.stackTraces = l.stackTraces by rw [X.admits.platform]).trans hl
  have Y := vx_rebase X (R' := { frames := R.frames, locals := R.locals, cells := 1, slots := 6 }) (Nat.le_refl _) (Nat.le_refl _) hRcells hRslots
  obtain ⟨s', hA⟩ : ∃ z, z = (T.setVm s.vm).setFrames (.invoking m args :: below) := ⟨_, rfl⟩
  rw [← hA] at Y
  have hvm : s'.vm = s.vm := by rw [hA]; rfl
  have hhp : s'.heap = H := by rw [hA]; exact hT
  have hW0 : s.WarmedH s'.vm := by rw [hvm]; exact State.WarmedH.refl s
  have hat' : ∀ w ∈ vx_atS own ic cls names, w.before args s' = true := fun w hw => vx_ot_at hW0 hvm.symm (hgood w (List.mem_cons_of_mem _ (List.mem_cons_of_mem _ hw))) (hat w hw)
  have hk' : (Cond.classLink own ik cls).before args s' = true := vx_ot_at hW0 hvm.symm (hgood _ List.mem_cons_self) hk
  have hini' : (Cond.initialized cls).before args s' = true := vx_ot_at hW0 hvm.symm (hgood _ (List.mem_cons_of_mem _ List.mem_cons_self)) hini
  have hU' : vx_Zq Bundle.tN "UNASSIGNED_STACK" Bundle.steD A s' s'.heap := by rw [hhp]; exact vx_Zq.moved hW0.alike (hU.kept hS.2.1)
  have hN' : vx_Zq Bundle.tN "SUPPRESSED_SENTINEL" Bundle.listD A s' s'.heap := by rw [hhp]; exact vx_Zq.moved hW0.alike (hN.kept hS.2.1)
  have h : ∀ w ∈ Bundle.ownAtoms own ic cls names, w.before args s' = true := vx_own hat' (vx_isRefq hU'.1) (vx_isRefq hN'.1) hU'.2.word hN'.2.word
  have hown' : s'.vm.findClass own = some m.cls := by rw [hvm]; exact hown
  have hins : (Cond.instantiable cls 6).before args s' = true := h _ (by simp [Bundle.ownAtoms])
  obtain ⟨vm₁, cX, kX, hfX, hkX, -, -, X₁, st1⟩ := Y.newCold hexec (own := own) (C := cls) (index := ik) (n := 6) hown' hk' hins hini'
    (g := F0 m pc ls rest) rfl (by rw [hb]; exact d0) (Nat.le_refl _) (Nat.le_refl _)
  generalize hT1 : (T.setVm vm₁).pushCell { cls := cX, slots := kX.instanceTypes.map defaultValue, vm := .none } = T1 at X₁ st1
  have hcat : (Value.ref T.heap.size).category = 1 := rfl
  have hcellA : T1.heap[T.heap.size]? = some (freshCell cX kX) := by rw [← hT1]; exact State.heap_pushCell_size _ _
  have d3' : decode c.code (pc + 3) = .ok (.dup, 1) := by rw [hb]; exact d3
  have d4' : decode c.code (pc + 4) = .ok (.ldc is, 2) := by rw [hb]; exact d4
  have hstr' : vk_R own is text sa s' := vk_R.warm hW0 hstr
  obtain ⟨U, hsteps, hrun, hend, hW, hsame, ce, hce, hO⟩ := X₁.ctorThrowS hexec htr (own := own) (cls := cls) (names := names) (ic := ic) hown' hcls hnames h (fun x hx => nomatch hx) hfX hkX hcellA (by rw [hhp, hT]; exact Nat.le_refl _) (msg := .ref sa) rfl
    (g := { method := m, pc := pc + 6, locals := ls, stack := .ref sa :: .ref T.heap.size :: .ref T.heap.size :: rest, locked := none }) rfl hsize rfl rfl (rest := rest) rfl
    (by rw [hb]; exact d6) (by rw [hb]; exact d9) hout hRframes (by simp only [List.map_cons, List.sum_cons, hcat]; omega) hlocks
  obtain ⟨f1, f2⟩ := vx_frame hsame
  rw [hhp] at f1 f2
  have hWs : s.WarmedH U.vm := State.WarmedH.trans hW0 hW
  have hcl : s.vm.findClass cls = some ce.cls := by
    have h9 := hO.cls
    rw [hvm] at h9
    exact h9
  have hall : s.sameButNew ({ U with vm := s.vm } : State) locs mc ms := by
    subst hA
    obtain ⟨e1, e2⟩ := hsame
    rw [State.setFrames_setFrames] at e1
    have h2 : (T.setVm s.vm).sameButNew ({ U with vm := s.vm } : State) [] (0 + 1) (0 + 6) := ⟨e1, e2⟩
    have h3 := X.same.trans h2
    rw [List.append_nil] at h3
    exact h3.mono hc hs
  refine ⟨U, ?_, .threw T.heap.size, hrun, hend, Or.inr ⟨T.heap.size, rfl, cls, ce, locs, hx U hWs.alike f1 (fun q hq => f2 q hq (fun z hz => nomatch hz)), hce, hO.vm, hcl, hWs, hall, hf⟩⟩
  refine st1 _ ?_
  show Steps p.tables e below (T1.setTop { method := m, pc := pc + 3, locals := ls, stack := .ref T.heap.size :: rest, locked := none }) _
  jvm_step X₁.here [X₁.here.top, hexec, d3', Value.category]
  exact X₁.ldcString hexec (own := own) (text := text) (index := is) (a := sa) hown' hstr'.1 hstr'.2
    (g := { method := m, pc := pc + 4, locals := ls, stack := .ref T.heap.size :: .ref T.heap.size :: rest, locked := none }) rfl d4' _ hsteps
/-- 'throw new E("text")', the text by a wide index -/
theorem vx_throwSW {cc : ByteArray} {pc : Nat} (hexec : p.tables.exec = Jvm.exec) (hb : c.code = cc) (hl : l.stackTraces = false) {own cls text : String} {names : List String} {ik is ic mc ms sa : Nat} {A : Nat → Prop}
    (hown : s.vm.findClass own = some m.cls) (hcls : Bundle.fit cls = true) (hnames : ∀ n ∈ names, Bundle.fit n = true)
    (hk : (Cond.classLink own ik cls).before args s = true) (hini : (Cond.initialized cls).before args s = true) (hstr : vk_R own is text sa s) (hat : ∀ w ∈ vx_atS own ic cls names, w.before args s = true)
    (hgood : ∀ w ∈ Cond.classLink own ik cls :: Cond.initialized cls :: vx_atS own ic cls names, vx_ot w = true)
    (hU : vx_Zq Bundle.tN "UNASSIGNED_STACK" Bundle.steD A s s.heap) (hN : vx_Zq Bundle.tN "SUPPRESSED_SENTINEL" Bundle.listD A s s.heap) (hS : va_S A s.heap H locs) (hsize : ls.size = c.maxLocals)
    (d0 : decode cc pc = .ok (.new ik, 3)) (d3 : decode cc (pc + 3) = .ok (.dup, 1)) (d4 : decode cc (pc + 4) = .ok (.ldc_w is, 3)) (d7 : decode cc (pc + 7) = .ok (.invokespecial ic, 3)) (d10 : decode cc (pc + 10) = .ok (.athrow, 1))
    (hout : ∀ x ∈ c.exceptionTable.toList, covers x (pc + 10) = false)
    (hRframes : names.length + 3 < R.frames) (hRlocals : (rest.map fun v => v.category).sum + (13 * (names.length + 1) + 43) ≤ R.locals) (hRcells : cells + 1 ≤ R.cells) (hRslots : slots + 6 ≤ R.slots) (hlocks : meth.locks = false)
    (hx : ∀ t : State, s.vm.Alike t.vm → H.size ≤ t.heap.size → (∀ q : Nat, q < H.size → t.heap[q]? = H[q]?) → XC cls s t)
    (hf : ∀ z ∈ locs, free z.base) (hc : cells + 1 ≤ mc) (hs : slots + 6 ≤ ms) :
    W p l e R s m args below meth c H locs cells slots (vx_MQ below Qc XC args s mc ms free) (F0 m pc ls rest) := by
  intro T hT X
  have htr : e.platform.stackTraces = false := (show e.platform.stackTraces = l.stackTraces by rw [X.admits.platform]).trans hl
  have Y := vx_rebase X (R' := { frames := R.frames, locals := R.locals, cells := 1, slots := 6 }) (Nat.le_refl _) (Nat.le_refl _) hRcells hRslots
  obtain ⟨s', hA⟩ : ∃ z, z = (T.setVm s.vm).setFrames (.invoking m args :: below) := ⟨_, rfl⟩
  rw [← hA] at Y
  have hvm : s'.vm = s.vm := by rw [hA]; rfl
  have hhp : s'.heap = H := by rw [hA]; exact hT
  have hW0 : s.WarmedH s'.vm := by rw [hvm]; exact State.WarmedH.refl s
  have hat' : ∀ w ∈ vx_atS own ic cls names, w.before args s' = true := fun w hw => vx_ot_at hW0 hvm.symm (hgood w (List.mem_cons_of_mem _ (List.mem_cons_of_mem _ hw))) (hat w hw)
  have hk' : (Cond.classLink own ik cls).before args s' = true := vx_ot_at hW0 hvm.symm (hgood _ List.mem_cons_self) hk
  have hini' : (Cond.initialized cls).before args s' = true := vx_ot_at hW0 hvm.symm (hgood _ (List.mem_cons_of_mem _ List.mem_cons_self)) hini
  have hU' : vx_Zq Bundle.tN "UNASSIGNED_STACK" Bundle.steD A s' s'.heap := by rw [hhp]; exact vx_Zq.moved hW0.alike (hU.kept hS.2.1)
  have hN' : vx_Zq Bundle.tN "SUPPRESSED_SENTINEL" Bundle.listD A s' s'.heap := by rw [hhp]; exact vx_Zq.moved hW0.alike (hN.kept hS.2.1)
  have h : ∀ w ∈ Bundle.ownAtoms own ic cls names, w.before args s' = true := vx_own hat' (vx_isRefq hU'.1) (vx_isRefq hN'.1) hU'.2.word hN'.2.word
  have hown' : s'.vm.findClass own = some m.cls := by rw [hvm]; exact hown
  have hins : (Cond.instantiable cls 6).before args s' = true := h _ (by simp [Bundle.ownAtoms])
  obtain ⟨vm₁, cX, kX, hfX, hkX, -, -, X₁, st1⟩ := Y.newCold hexec (own := own) (C := cls) (index := ik) (n := 6) hown' hk' hins hini'
    (g := F0 m pc ls rest) rfl (by rw [hb]; exact d0) (Nat.le_refl _) (Nat.le_refl _)
  generalize hT1 : (T.setVm vm₁).pushCell { cls := cX, slots := kX.instanceTypes.map defaultValue, vm := .none } = T1 at X₁ st1
  have hcat : (Value.ref T.heap.size).category = 1 := rfl
  have hcellA : T1.heap[T.heap.size]? = some (freshCell cX kX) := by rw [← hT1]; exact State.heap_pushCell_size _ _
  have d3' : decode c.code (pc + 3) = .ok (.dup, 1) := by rw [hb]; exact d3
  have d4' : decode c.code (pc + 4) = .ok (.ldc_w is, 3) := by rw [hb]; exact d4
  have hstr' : vk_R own is text sa s' := vk_R.warm hW0 hstr
  obtain ⟨U, hsteps, hrun, hend, hW, hsame, ce, hce, hO⟩ := X₁.ctorThrowS hexec htr (own := own) (cls := cls) (names := names) (ic := ic) hown' hcls hnames h (fun x hx => nomatch hx) hfX hkX hcellA (by rw [hhp, hT]; exact Nat.le_refl _) (msg := .ref sa) rfl
    (g := { method := m, pc := pc + 7, locals := ls, stack := .ref sa :: .ref T.heap.size :: .ref T.heap.size :: rest, locked := none }) rfl hsize rfl rfl (rest := rest) rfl
    (by rw [hb]; exact d7) (by rw [hb]; exact d10) hout hRframes (by simp only [List.map_cons, List.sum_cons, hcat]; omega) hlocks
  obtain ⟨f1, f2⟩ := vx_frame hsame
  rw [hhp] at f1 f2
  have hWs : s.WarmedH U.vm := State.WarmedH.trans hW0 hW
  have hcl : s.vm.findClass cls = some ce.cls := by
    have h9 := hO.cls
    rw [hvm] at h9
    exact h9
  have hall : s.sameButNew ({ U with vm := s.vm } : State) locs mc ms := by
    subst hA
    obtain ⟨e1, e2⟩ := hsame
    rw [State.setFrames_setFrames] at e1
    have h2 : (T.setVm s.vm).sameButNew ({ U with vm := s.vm } : State) [] (0 + 1) (0 + 6) := ⟨e1, e2⟩
    have h3 := X.same.trans h2
    rw [List.append_nil] at h3
    exact h3.mono hc hs
  refine ⟨U, ?_, .threw T.heap.size, hrun, hend, Or.inr ⟨T.heap.size, rfl, cls, ce, locs, hx U hWs.alike f1 (fun q hq => f2 q hq (fun z hz => nomatch hz)), hce, hO.vm, hcl, hWs, hall, hf⟩⟩
  refine st1 _ ?_
  show Steps p.tables e below (T1.setTop { method := m, pc := pc + 3, locals := ls, stack := .ref T.heap.size :: rest, locked := none }) _
  jvm_step X₁.here [X₁.here.top, hexec, d3', Value.category]
  exact X₁.ldcStringW hexec (own := own) (text := text) (index := is) (a := sa) hown' hstr'.1 hstr'.2
    (g := { method := m, pc := pc + 4, locals := ls, stack := .ref T.heap.size :: .ref T.heap.size :: rest, locked := none }) rfl d4' _ hsteps
end Ends
section Bodies
variable {l : Launch}
theorem vx_ofW {y : MethodName} {ws ws' : List Cond} {rm : Room} {Pc : Array Value → State → Prop} {Qc : Array Value → State → Outcome → State → Prop} {XC : String → State → State → Prop} {mc ms : Nat} {free : Addr → Prop} {cc : ByteArray} {maxL : Nat} {ret : Option FieldType}
    (hy : plainName y.cls = true) (hw : ws = Cond.code y cc maxL ret :: ws')
    (body : ∀ p e s m args below meth c s₁, BodyLoose p l y (headSpec ws rm) cc maxL ret e s m args below meth c s₁ → c.maxLocals = maxL → (∀ x ∈ c.exceptionTable.toList, False) → Pc args s →
      W p l e (headSpec ws rm).room s m args below meth c s.heap [] 0 0 (vx_MQ below Qc XC args s mc ms free) (entryFrame m args maxL)) : vx_Met l y ws rm Pc Qc XC mc ms free := by
  refine MetFree.of_bodyS (code := cc) (maxLocals := maxL) (ret := ret) hy ?_ ?_
  · intro args s m h hn
    obtain ⟨meth, c, h1, h2, h3, h4, h5, h6, -, -⟩ := Cond.code_spec hn (atoms_spec (ws := ws) h _ (by rw [hw]; exact List.mem_cons_self))
    exact ⟨meth, c, h1, h2, h3, h4, h5, h6⟩
  · intro p e s m args below meth c s₁ B hml hP _
    have hh0 : s₁.heap = s.heap := by rw [B.state]; rfl
    have ht : ∀ x ∈ c.exceptionTable.toList, False := by
      obtain ⟨meth9, c9, h1, h2, -, -, -, -, h7, -⟩ := Cond.code_spec B.named (atoms_spec (ws := ws) B.pre _ (by rw [hw]; exact List.mem_cons_self))
      cases Option.some.inj (h1.symm.trans B.method)
      cases Option.some.inj (h2.symm.trans (Stand.of_body B).code)
      intro x hx
      rw [Array.isEmpty_iff.mp h7] at hx
      cases hx
    obtain ⟨t, a1, o, b1, b2, b3⟩ := body p e s m args below meth c s₁ B hml ht hP s₁ hh0 (Stand.of_body B)
    exact ⟨t, o, a1, b1, b2, b3⟩
/-- the table of a body with handlers -/
theorem vx_table {p : Program} {x y : MethodName} {S : Spec} {cc bytes : ByteArray} {maxL maxL' : Nat} {ret ret' : Option FieldType} {e : Env} {s s₁ : State} {m : MethodId} {args : Array Value} {below : List Frame} {meth : Method} {c : Code} {hh : List (Nat × Nat × Nat × Nat)}
    (B : BodyLoose p l y S cc maxL ret e s m args below meth c s₁) (h : (Cond.codeWith y bytes maxL' ret' hh).before args s = true) : c.exceptionTable.toList = tableOf hh := by
  obtain ⟨m9, meth9, c9, hn9, h1, h2, -, -, h6, -⟩ := Cond.codeWith_spec h
  cases Option.some.inj (hn9.symm.trans B.named)
  cases Option.some.inj (h1.symm.trans B.method)
  cases Option.some.inj (h2.symm.trans (Stand.of_body B).code)
  rw [← h6, table_eq]
end Bodies
end VXA
/-! ===== END ===== -/
/-! ===== BEGIN a static call of a method with an exception table ===== -/
section VXS
variable {p : Program} {l : Launch} {e : Env} {R : Room} {s : State} {m : MethodId} {args : Array Value} {below : List Frame} {meth : Method} {c : Code} {T : State} {H : Heap} {locs : List Loc} {cells slots : Nat}
abbrev vx_CSW (R : Room) (s : State) (args : Array Value) (own : String) (index : Nat) (y : MethodName) (bytes : ByteArray) (maxL : Nat) (ret : Option FieldType) (hh : List (Nat × Nat × Nat × Nat)) (ws : List Cond) (rm : Room) (mc ms n : Nat) : Prop :=
  (rm.cells = mc ∧ rm.slots = ms ∧ rm.frames + 1 ≤ R.frames ∧ 8 + (maxL + 11) + rm.locals ≤ R.locals ∧ (∀ w ∈ ws, ∀ (a' : Array Value) (U : State), s.WarmedH U.vm → w.before a' U = true) ∧ Cond.codeWith y bytes maxL ret hh ∈ ws) ∧
  (Cond.codeWith y bytes maxL ret hh).before args s = true ∧ (Cond.initialized y.cls).before args s = true ∧ (y.cls ≠ "java/lang/invoke/MethodHandle" ∧ y.cls ≠ "java/lang/invoke/VarHandle") ∧
  (∀ sig, parseMethodDescriptor y.desc = some sig → n = sig.parameters.length) ∧ (Cond.methodLink own index y).before args s = true ∧ (Cond.static y).before args s = true
theorem vx_cwSW {own : String} {index maxL mc ms : Nat} {y : MethodName} {bytes : ByteArray} {ret : Option FieldType} {hh : List (Nat × Nat × Nat × Nat)} {Ts ws ws' : List Cond} {rm : Room} (n : Nat) (ht : ∀ w ∈ Ts, w.before args s = true) (hT : GoodIn Ts (va_wsS own index y ws)) (hw : ws = Cond.codeWith y bytes maxL ret hh :: ws') (hrc : rm.cells = mc) (hrs : rm.slots = ms)
    (hd : y.cls ≠ "java/lang/invoke/MethodHandle" ∧ y.cls ≠ "java/lang/invoke/VarHandle" ∧ (parseMethodDescriptor y.desc).map (fun d => d.parameters.length) = some n) (hR : rm.frames + 1 ≤ R.frames ∧ 8 + (maxL + 11) + rm.locals ≤ R.locals) :
    vx_CSW R s args own index y bytes maxL ret hh ws rm mc ms n := by
  have ok : ∀ w ∈ va_wsS own index y ws, w.before args s = true := fun w h => ht w (hT w h).1
  have hG : GoodIn Ts ws := fun w h => hT w (by unfold va_wsS; exact List.mem_append_right _ h)
  have hc : Cond.codeWith y bytes maxL ret hh ∈ ws := by rw [hw]; exact List.mem_cons_self
  refine ⟨⟨hrc, hrs, hR.1, hR.2, pay_in ht hG, hc⟩, ht _ (hG _ hc).1, ok _ (by simp [va_wsS]), ⟨hd.1, hd.2.1⟩, fun sig h => ?_, ok _ (by simp [va_wsS]), ok _ (by simp [va_wsS])⟩
  have h2 := hd.2.2
  rw [h] at h2
  exact (Option.some.inj h2).symm
theorem vx_callSW (X : Stand p l e R s m args below meth c T locs cells slots) (hexec : p.tables.exec = Jvm.exec) {own : String} {index : Nat} {y : MethodName} {bytes : ByteArray} {maxL : Nat} {ret : Option FieldType} {hh : List (Nat × Nat × Nat × Nat)}
    (hown : s.vm.findClass own = some m.cls) (hlink : (Cond.methodLink own index y).before args s = true) (hstat : (Cond.static y).before args s = true) (hinit : (Cond.initialized y.cls).before args s = true)
    (hcode : (Cond.codeWith y bytes maxL ret hh).before args s = true) (hy : y.cls ≠ "java/lang/invoke/MethodHandle" ∧ y.cls ≠ "java/lang/invoke/VarHandle")
    {W9 : Nat} {Pre : Pt → Array Value → Prop} {Post : Pt → Array Value → Option Value → Pt → Prop} (hK : Back l R p e below s args y 3 W9 Pre Post)
    {g : JFrame} (hg : g.method = m) (hsize : g.locals.size = c.maxLocals) {argsL rest : List Value} (hlen : ∀ sig, parseMethodDescriptor y.desc = some sig → argsL.length = sig.parameters.length)
    (hstack : g.stack = argsL.reverse ++ rest) (hW : 2 * g.monitorRoom + (rest.map fun v => v.category).sum ≤ W9) (hdg : decode c.code g.pc = .ok (.invokestatic index, 3))
    (hpre : ∀ vm₁, s.WarmedH vm₁ → Pre ⟨T.setVm vm₁, locs, cells, slots⟩ argsL.toArray) :
    ∃ (v : Option Value) (vm₁ : Vm) (B : Pt), s.WarmedH vm₁ ∧ Stand p l e R s m args below meth c B.U B.locs B.cells B.slots ∧ Post ⟨T.setVm vm₁, locs, cells, slots⟩ argsL.toArray v B ∧
      ∀ target, Steps p.tables e below (B.U.setTop { g with pc := g.pc + 3, stack := v.toList ++ rest }) target → Steps p.tables e below (T.setTop g) target := by
  obtain ⟨mk, methM, cM, hnamed, hmethM, -, -, -, -, -, -, hsigM⟩ := Cond.codeWith_spec hcode
  have hstatic : methM.isStatic = true := Cond.static_spec hnamed hmethM hstat
  obtain ⟨kP, hkP, -⟩ := className_of_methodNamed hnamed
  have hinitP : kP.init = .initialized := Cond.initialized_spec (findClass_of_methodNamed hnamed) hkP hinit
  obtain ⟨vm₁, X₁, hstep₁⟩ := X.invokestatic hexec hown hlink hnamed hmethM hstatic hkP hinitP hy (g := g) hg (argsL := argsL) (rest := rest) (hlen _ hsigM) hstack hdg
  obtain ⟨v, B, X', hpost, hsteps⟩ := hK m meth c ⟨T.setVm vm₁, locs, cells, slots⟩ { g with stack := rest } (.invokestatic index) mk argsL.toArray X₁ hg hsize hdg hW (X₁.named hnamed) (hpre vm₁ X₁.warmed)
  exact ⟨v, vm₁, B, X₁.warmed, X', hpost, fun target h => hstep₁ _ fun acts => by rw [doInvoke_state]; exact hsteps.trans h⟩
theorem vx_runSW {y : MethodName} {bytes cc : ByteArray} {maxL nL mc ms n index : Nat} {ret : Option FieldType} {hh : List (Nat × Nat × Nat × Nat)} {ws : List Cond} {rm : Room} {Pc : Array Value → State → Prop} {Qc : Array Value → State → Outcome → State → Prop} {free : Addr → Prop} {Ts : List Cond} {own : String} {As rest : List Value} {g : JFrame}
    (S : CallFix p m c cc nL s args Ts own) (hM : Met l y ws rm Pc Qc mc ms free) (cw : vx_CSW R s args own index y bytes maxL ret hh ws rm mc ms n) (hp : PreS s H Pc As)
    (hg : g.method = m) (hn : As.length = n) (hsize : g.locals.size = nL) (hstack : g.stack = As.reverse ++ rest) (hW : 2 * g.monitorRoom + (rest.map fun v => v.category).sum ≤ 8) (hdg : decode cc g.pc = .ok (.invokestatic index, 3)) (hf : cells + mc ≤ R.cells ∧ slots + ms ≤ R.slots) :
    va_Run p l e R s m args below meth c H locs cells slots mc ms g rest (Qc As.toArray) (free) := by
  obtain ⟨⟨hrc, hrs, hfr, hlo, hws, hcw⟩, hcode, hini, hy, hlen, hl, hstt⟩ := cw
  have hK : Back l R p e below s args y 3 8 (PreOf R mc ms Pc) (PostOf Qc mc ms free) := va_backW (hh := hh) (bytes := bytes) (maxL := maxL) (ret := ret) hM hp.1 hrc hrs hfr hlo hws hcw (fun a' U hW => word_at hW (Or.inl (by first | rfl | simp [Cond.onTables, Cond.keeps, Cond.steady])) hini)
  obtain ⟨hx, hb, hml, ho, -⟩ := S
  intro T hT X
  obtain ⟨v, vm₁, ⟨U', l2, c2, s2⟩, hW₁, X', ⟨g', mk, t, L, e1, e2, hq, h1, hL, h2, h3⟩, st⟩ := vx_callSW X hx (hh := hh) (bytes := bytes) (maxL := maxL) (ret := ret) ho hl hstt hini hcode hy hK hg (hsize.trans hml.symm) (argsL := As) (rest := rest) (fun sig h => hn.trans (hlen sig h)) hstack hW (by rw [hb]; exact hdg)
    (fun vm₁ hW₁ => ⟨hf.1, hf.2, hp.2 (T.setVm vm₁) hT hW₁⟩)
  dsimp only [Pt.U, Pt.locs, Pt.cells, Pt.slots] at X' e1 e2 h1 h2 h3 st
  subst h1; subst h2; subst h3
  exact ⟨v, (T.setVm vm₁).calling g' mk As.toArray, t, U', L, hT, X', hL, e1, e2, hq, st⟩
/-- not caught here, past rows that name other classes: it goes on to the caller -/
theorem vx_outP {p : Program} {l : Launch} {e : Env} {R : Room} {s : State} {m : MethodId} {args : Array Value} {below : List Frame} {meth : Method} {c : Code} {H : Heap} {locs : List Loc} {cells slots : Nat} {free : Addr → Prop} {ls : Array Slot} {rest : List Value} {Qc : Array Value → State → Outcome → State → Prop} {XC : String → State → State → Prop}
    {pc : Nat} {own E : String} {ce : Cell} {q : Addr} {mc ms : Nat} (hown : s.vm.findClass own = some m.cls) (hlocks : meth.locks = false)
    (hpass : ∀ z ∈ c.exceptionTable.toList, covers z pc = false ∨ (z.catchType ≠ 0 ∧ ∃ nm : String, (Cond.classLink own z.catchType nm).before args s = true ∧ va_Nc E nm s)) (hcell : H[q]? = some ce) (hv : ce.vm = .none) (hcl : s.vm.findClass E = some ce.cls)
    (hx : ∀ t : State, t.heap = H → s.vm.Alike t.vm → XC E s t) (hf : ∀ z ∈ locs, free z.base) (hc : cells ≤ mc) (hs : slots ≤ ms) :
    vx_W p l e R s m args below meth c H locs cells slots (vx_MQ below Qc XC args s mc ms free) (F0 m pc ls rest) q := by
  intro T hT X
  have hpl : e.platform.magicAccessors = ({} : Platform).magicAccessors := by rw [X.admits.platform]
  obtain ⟨vm', hW', X', st⟩ := X.outThrough hlocks q (g := F0 m pc ls rest) rfl rfl rfl (cell := ce) (by rw [hT]; exact hcell) (by rw [hv]; rfl)
    (by obtain ⟨k9, h9, -⟩ := Vm.findClass_spec hcl; exact ⟨k9, h9⟩) (fun z hz => by
      rcases hpass z hz with h | ⟨hz0, nm, hl1, hn1⟩
      · exact Or.inl h
      · obtain ⟨c6, hc6, hcl6⟩ := Cond.classLink_spec hown hl1 e.platform hpl
        obtain ⟨a8, b8, h1, h2, h3⟩ := hn1
        cases Option.some.inj (h1.symm.trans hcl)
        cases Option.some.inj (h2.symm.trans hc6)
        exact Or.inr ⟨hz0, _, hcl6, h3⟩)
  obtain ⟨g₀, hfr⟩ := X'.frames_eq
  have hcell9 : ((T.setVm vm').setFrames (.throwing q :: below)).heap[q]? = some ce := by
    show T.heap[q]? = some ce
    rw [hT]; exact hcell
  have hend : Ended ((T.setVm vm').setFrames (.throwing q :: below)) below (.threw q) := State.frames_setFrames _ (State.cur_lt_of_frames hfr)
  refine ⟨(T.setVm vm').setFrames (.throwing q :: below), ?_, .threw q, X'.here.running, hend, Or.inr ⟨q, rfl, E, ce, locs, hx _ hT (X'.ends _).1.alike, hcell9, hv, hcl, (X'.ends _).1, (X'.ends _).2.mono hc hs, hf⟩⟩
  rw [X.pushThrowing_eq]
  exact st
/-- a thing of a world lies in the heap -/
theorem vx_lt {D : va_G} {cl : List vw_C} {ws : va_W} {H1 : Heap} (h : va_P D cl ws H1) {k : Nat} {q : Nat × va_E} (hk : ws[k]? = some q) : q.1 < H1.size := (h k q hk).lt
end VXS
/-! ===== END ===== -/
/-! ===== BEGIN methods with a table of their own: called by a name, returning or throwing ===== -/
section VXH
/-! vx_backW, vx_callVX, vx_callSX, vx_callVW, vx_runVW, vx_runVX, vx_runSX, vx_ofWH follow the same proofs as their sisters above (Free/Laws.lean, Shelf42/LK1.lean); vx_outP calls Shelf42/NT130.lean (outThrough). -/
section
variable {l : Launch} {R : Room} {p : Program} {e : Env} {below : List Frame} {s : State} {sargs : Array Value} {y : MethodName} {len W9 : Nat}
theorem vx_backW {ws : List Cond} {rm : Room} {Pc : Array Value → State → Prop} {Qc : Array Value → State → Outcome → State → Prop} {XC : String → State → State → Prop} {mc ms : Nat} {free : Addr → Prop} {bytes : ByteArray} {maxL : Nat} {ret : Option FieldType} {hh : List (Nat × Nat × Nat × Nat)}
    (hM : vx_Met l y ws rm Pc Qc XC mc ms free) (hblind : FrameBlind Pc) (hrc : rm.cells = mc) (hrs : rm.slots = ms)
    (hframes : rm.frames + 1 ≤ R.frames) (hlocals : W9 + (maxL + 11) + rm.locals ≤ R.locals)
    (hws : ∀ w ∈ ws, ∀ a' U, s.WarmedH U.vm → w.before a' U = true) (hcode : Cond.codeWith y bytes maxL ret hh ∈ ws) (hinit : ∀ a' U, s.WarmedH U.vm → (Cond.initialized y.cls).before a' U = true) :
    vx_Back l R p e below s sargs y len W9 (PreOf R mc ms Pc) (PostOf Qc mc ms free) (vx_Post XC mc ms free) := by
  intro m meth c A g ig mk a X hg hsize hdg hW hn hp
  have h1 : (headSpec ws rm).pre.before a A.U = true := atoms_intro fun w hw => hws w hw _ _ X.warmed
  have h2 : (Cond.codeWith y bytes maxL ret hh).before a A.U = true := hws _ hcode _ _ X.warmed
  have h3 : (Cond.initialized y.cls).before a A.U = true := hinit _ _ X.warmed
  have h4 : A.cells + (headSpec ws rm).room.cells ≤ R.cells := by rw [show (headSpec ws rm).room.cells = mc from hrc]; exact hp.1
  have h5 : A.slots + (headSpec ws rm).room.slots ≤ R.slots := by rw [show (headSpec ws rm).room.slots = ms from hrs]; exact hp.2.1
  have hPc : Pc a (A.U.calling g mk a) := hblind _ _ _ _ hp.2.2
  obtain ⟨U, Ls, c0, s0⟩ := A
  dsimp only [Pt.U, Pt.locs, Pt.cells, Pt.slots] at h1 h2 h3 h4 h5 X hn hPc ⊢
  obtain ⟨m9, methY, cY, hn9, hmY, hcY, -, hlY, -⟩ := Cond.codeWith_spec h2
  cases Option.some.inj (hn9.symm.trans hn)
  obtain ⟨kY, hkY, -⟩ := className_of_methodNamed hn
  have hinitY : kY.init = .initialized := Cond.initialized_spec (findClass_of_methodNamed hn) hkY h3
  have h : At U g.method c below := by rw [hg]; exact X.here
  have hlocals9 : W9 + (maxL + 11) + (headSpec ws rm).room.locals ≤ R.locals := hlocals
  have happ : (headSpec ws rm).appliesLoose y e.platform (U.calling g mk a) = true :=
    Spec.appliesLoose_calling (g := g) h hdg hn hkY hinitY
      (X.room_calling (g := g) (R' := (headSpec ws rm).room) hsize hmY hcY hframes (by rw [hlY]; omega) h4 h5) h1
  obtain ⟨mid, hmid⟩ := h.above
  have hfr : (U.setTop g).frames = (.java g :: mid) ++ below := by rw [State.frames_setTop' g h.top, hmid]; rfl
  obtain ⟨o, s₂, hsteps, -, hend, hq⟩ := Steps.callFree hM p X.admits X.cas X.clock (acts := []) hfr happ hPc trivial
  have hq' : vx_Q Qc XC mc ms free a (U.calling g mk a) o s₂ := hq
  rw [State.frames_setTop' g h.top] at hend
  obtain ⟨g₀, hg0⟩ := Option.isSome_iff_exists.mp h.top
  obtain ⟨r, hr⟩ := State.topJava?_eq_some.mp hg0
  have hr' : (({ U with heap := s₂.heap, slotsUsed := s₂.slotsUsed } : State).setVm s₂.vm).frames = .java g₀ :: r := hr
  rcases hq' with ⟨hqc, L, hfe, hL⟩ | ⟨q, rfl, E, ce, L, hx, hce, hcv, hcl, hW₂, hsm, hL⟩
  · obtain ⟨⟨v, rfl⟩, hW₂, e2, q2, q3, q4, q5, q6⟩ := id hfe
    have e3 : s₂ = ({ (U.calling g mk a).setFrames s₂.frames with heap := s₂.heap, slotsUsed := s₂.slotsUsed } : State).setVm s₂.vm := by
      have : s₂ = ({ s₂ with vm := (U.calling g mk a).vm } : State).setVm s₂.vm := rfl
      rw [e2] at this
      exact this
    obtain ⟨c₂, i₂, len₂, hc₂, hd₂, hf₂⟩ := hend
    have hW' : U.WarmedH s₂.vm := hW₂
    have hcc : c₂ = c := by
      have h1 : s₂.code? g.method = U.code? g.method := by
        rw [State.code?_eq, State.code?_eq, hW'.alike.method?]
      exact Option.some.inj (hc₂.symm.trans (h1.trans h.code))
    subst hcc
    have hlen : len₂ = len := by rw [hdg] at hd₂; cases hd₂; rfl
    subst hlen
    have hs₂ : s₂ = (({ U with heap := s₂.heap, slotsUsed := s₂.slotsUsed } : State).setVm s₂.vm).setTop { g with pc := g.pc + len₂, stack := v.toList ++ g.stack } := by
      refine e3.trans ?_
      rw [hf₂, State.calling_eq h.top, State.setFrames_setFrames, State.setTop_of_frames _ hr', hr]
      rfl
    have hsame : U.sameButNew ({ U with heap := s₂.heap, slotsUsed := s₂.slotsUsed } : State) L mc ms := by
      refine ⟨?_, q2, q3, q4, q5, q6⟩
      obtain ⟨t, ht, -⟩ := State.frames_cons hr
      show ({ U with heap := s₂.heap, slotsUsed := s₂.slotsUsed } : State) = { U.setFrames U.frames with heap := s₂.heap, slotsUsed := s₂.slotsUsed }
      rw [State.setFrames_self ht]
    subst hg
    refine Or.inl ⟨v, ⟨(({ U with heap := s₂.heap, slotsUsed := s₂.slotsUsed } : State).setVm s₂.vm), Ls ++ L, c0 + mc, s0 + ms⟩,
      ⟨X.admits, X.cas, X.clock, X.frames, X.room, X.hears, X.method, X.code, (X.here.setHeapUsed s₂.heap s₂.slotsUsed).setVm hW'.alike, X.tail, State.WarmedH.trans X.warmed hW', X.limits, X.bytes, X.same.trans (hsame.setVm s.vm)⟩,
      ⟨g, mk, s₂, L, rfl, rfl, hqc, rfl, hL, rfl, rfl⟩, ?_⟩
    show Steps p.tables e below _ ((({ U with heap := s₂.heap, slotsUsed := s₂.slotsUsed } : State).setVm s₂.vm).setTop { g with pc := g.pc + len₂, stack := v.toList ++ g.stack })
    rw [← hs₂]
    exact hsteps
  · obtain ⟨e2, q2, q3, q4, q5, q6⟩ := id hsm
    have e3 : s₂ = ({ (U.calling g mk a).setFrames s₂.frames with heap := s₂.heap, slotsUsed := s₂.slotsUsed } : State).setVm s₂.vm := by
      have : s₂ = ({ s₂ with vm := (U.calling g mk a).vm } : State).setVm s₂.vm := rfl
      rw [e2] at this
      exact this
    have hf₂ : s₂.frames = .throwing q :: .java g :: U.frames.tail := hend
    have hW' : U.WarmedH s₂.vm := hW₂
    have hs₂ : s₂ = ((({ U with heap := s₂.heap, slotsUsed := s₂.slotsUsed } : State).setVm s₂.vm).setTop g).pushFrame (.throwing q) := by
      refine e3.trans ?_
      rw [hf₂, State.calling_eq h.top, State.setFrames_setFrames, State.pushFrame, State.frames_setTop _ hr', State.setTop_of_frames _ hr', State.setFrames_setFrames, hr]
      rfl
    have hsame : U.sameButNew ({ U with heap := s₂.heap, slotsUsed := s₂.slotsUsed } : State) L mc ms := by
      refine ⟨?_, q2, q3, q4, q5, q6⟩
      obtain ⟨t, ht, -⟩ := State.frames_cons hr
      show ({ U with heap := s₂.heap, slotsUsed := s₂.slotsUsed } : State) = { U.setFrames U.frames with heap := s₂.heap, slotsUsed := s₂.slotsUsed }
      rw [State.setFrames_self ht]
    subst hg
    refine Or.inr ⟨q, ⟨(({ U with heap := s₂.heap, slotsUsed := s₂.slotsUsed } : State).setVm s₂.vm), Ls ++ L, c0 + mc, s0 + ms⟩,
      ⟨X.admits, X.cas, X.clock, X.frames, X.room, X.hears, X.method, X.code, (X.here.setHeapUsed s₂.heap s₂.slotsUsed).setVm hW'.alike, X.tail, State.WarmedH.trans X.warmed hW', X.limits, X.bytes, X.same.trans (hsame.setVm s.vm)⟩,
      ⟨g, mk, s₂, L, E, ce, rfl, rfl, hx, hce, hcv, hcl, rfl, hL, rfl, rfl⟩, ?_⟩
    show Steps p.tables e below _ (((({ U with heap := s₂.heap, slotsUsed := s₂.slotsUsed } : State).setVm s₂.vm).setTop g).pushFrame (.throwing q))
    rw [← hs₂]
    exact hsteps
end
variable {p : Program} {l : Launch} {e : Env} {R : Room} {s : State} {m : MethodId} {args : Array Value} {below : List Frame} {meth : Method} {c : Code} {T : State} {H : Heap} {locs : List Loc} {cells slots : Nat}
theorem vx_callVX (X : Stand p l e R s m args below meth c T locs cells slots) (hexec : p.tables.exec = Jvm.exec) {own C : String} {index : Nat} {y : MethodName} {bytes : ByteArray} {maxL : Nat} {ret : Option FieldType} {hh : List (Nat × Nat × Nat × Nat)}
    (hown : s.vm.findClass own = some m.cls) (hlink : (Cond.methodLink own index y).before args s = true) (hinst : (Cond.instanceMethod y).before args s = true) (hsel : (Cond.selects C y y).before args s = true)
    (hcode : (Cond.codeWith y bytes maxL ret hh).before args s = true) (hy : y.cls ≠ "java/lang/invoke/MethodHandle" ∧ y.cls ≠ "java/lang/invoke/VarHandle")
    {W9 : Nat} {Pre : Pt → Array Value → Prop} {Post : Pt → Array Value → Option Value → Pt → Prop} {PostX : Pt → Array Value → Addr → Pt → Prop} (hK : vx_Back l R p e below s args y 3 W9 Pre Post PostX)
    {b : Addr} {cellB : Cell} (hcell : T.heap[b]? = some cellB) (hobj : cellB.vm.isStatics = false) (hcls : s.vm.findClass C = some cellB.cls)
    {g : JFrame} (hg : g.method = m) (hsize : g.locals.size = c.maxLocals) {argsL rest : List Value} (hlen : ∀ sig, parseMethodDescriptor y.desc = some sig → argsL.length = sig.parameters.length)
    (hstack : g.stack = argsL.reverse ++ .ref b :: rest) (hW : 2 * g.monitorRoom + (rest.map fun v => v.category).sum ≤ W9) (hdg : decode c.code g.pc = .ok (.invokevirtual index, 3))
    (hpre : ∀ vm₁, s.WarmedH vm₁ → Pre ⟨T.setVm vm₁, locs, cells, slots⟩ (Value.ref b :: argsL).toArray) :
    (∃ (v : Option Value) (vm₁ : Vm) (B : Pt), s.WarmedH vm₁ ∧ Stand p l e R s m args below meth c B.U B.locs B.cells B.slots ∧ Post ⟨T.setVm vm₁, locs, cells, slots⟩ (Value.ref b :: argsL).toArray v B ∧
      ∀ target, Steps p.tables e below (B.U.setTop { g with pc := g.pc + 3, stack := v.toList ++ rest }) target → Steps p.tables e below (T.setTop g) target) ∨
    (∃ (q : Addr) (vm₁ : Vm) (B : Pt), s.WarmedH vm₁ ∧ Stand p l e R s m args below meth c B.U B.locs B.cells B.slots ∧ PostX ⟨T.setVm vm₁, locs, cells, slots⟩ (Value.ref b :: argsL).toArray q B ∧
      Steps p.tables e below (T.setTop g) ((B.U.setTop { g with stack := rest }).pushFrame (.throwing q))) := by
  obtain ⟨mk, methM, hnamed, hmethM, hstM, habM⟩ := Cond.instanceMethod_spec hinst
  obtain ⟨m8, methM', cM, hn8, hmethM', -, -, -, -, -, -, hsigM⟩ := Cond.codeWith_spec hcode
  cases Option.some.inj (hn8.symm.trans hnamed)
  cases hmethM.symm.trans hmethM'
  obtain ⟨c2, r2, m2, q1, q2, q3, q4, kP, hkP, hkPi⟩ := Cond.selects_spec hsel
  cases hcls.symm.trans q1
  cases (State.methodFound?_of_named hnamed hy).symm.trans q2
  cases hnamed.symm.trans q3
  have hselP : selectMethod e.platform s.vm cellB.cls mk = .method mk := by rw [Launch.admits_selectMethod X.admits]; exact q4
  obtain ⟨vm₁, X₁, hstep₁⟩ := X.invokevirtual hexec hown hlink hnamed hmethM hstM hkP hkPi hy (a := b) (cell := cellB) hcell
    (fun z h => by rw [h] at hobj; cases hobj) hselP hmethM habM hkP hkPi (g := g) hg (argsL := argsL) (rest := rest) (hlen _ hsigM) hstack hdg
  rcases hK m meth c ⟨T.setVm vm₁, locs, cells, slots⟩ { g with stack := rest } (.invokevirtual index) mk (Value.ref b :: argsL).toArray X₁ hg hsize hdg hW (X₁.named hnamed) (hpre vm₁ X₁.warmed) with ⟨v, B, X', hpost, hsteps⟩ | ⟨q, B, X', hpost, hsteps⟩
  · exact Or.inl ⟨v, vm₁, B, X₁.warmed, X', hpost, fun target h => hstep₁ _ fun acts => by rw [doInvoke_state]; exact hsteps.trans h⟩
  · exact Or.inr ⟨q, vm₁, B, X₁.warmed, X', hpost, hstep₁ _ fun acts => by rw [doInvoke_state]; exact hsteps⟩
theorem vx_callSX (X : Stand p l e R s m args below meth c T locs cells slots) (hexec : p.tables.exec = Jvm.exec) {own : String} {index : Nat} {y : MethodName} {bytes : ByteArray} {maxL : Nat} {ret : Option FieldType} {hh : List (Nat × Nat × Nat × Nat)}
    (hown : s.vm.findClass own = some m.cls) (hlink : (Cond.methodLink own index y).before args s = true) (hstat : (Cond.static y).before args s = true) (hinit : (Cond.initialized y.cls).before args s = true)
    (hcode : (Cond.codeWith y bytes maxL ret hh).before args s = true) (hy : y.cls ≠ "java/lang/invoke/MethodHandle" ∧ y.cls ≠ "java/lang/invoke/VarHandle")
    {W9 : Nat} {Pre : Pt → Array Value → Prop} {Post : Pt → Array Value → Option Value → Pt → Prop} {PostX : Pt → Array Value → Addr → Pt → Prop} (hK : vx_Back l R p e below s args y 3 W9 Pre Post PostX)
    {g : JFrame} (hg : g.method = m) (hsize : g.locals.size = c.maxLocals) {argsL rest : List Value} (hlen : ∀ sig, parseMethodDescriptor y.desc = some sig → argsL.length = sig.parameters.length)
    (hstack : g.stack = argsL.reverse ++ rest) (hW : 2 * g.monitorRoom + (rest.map fun v => v.category).sum ≤ W9) (hdg : decode c.code g.pc = .ok (.invokestatic index, 3))
    (hpre : ∀ vm₁, s.WarmedH vm₁ → Pre ⟨T.setVm vm₁, locs, cells, slots⟩ argsL.toArray) :
    (∃ (v : Option Value) (vm₁ : Vm) (B : Pt), s.WarmedH vm₁ ∧ Stand p l e R s m args below meth c B.U B.locs B.cells B.slots ∧ Post ⟨T.setVm vm₁, locs, cells, slots⟩ argsL.toArray v B ∧
      ∀ target, Steps p.tables e below (B.U.setTop { g with pc := g.pc + 3, stack := v.toList ++ rest }) target → Steps p.tables e below (T.setTop g) target) ∨
    (∃ (q : Addr) (vm₁ : Vm) (B : Pt), s.WarmedH vm₁ ∧ Stand p l e R s m args below meth c B.U B.locs B.cells B.slots ∧ PostX ⟨T.setVm vm₁, locs, cells, slots⟩ argsL.toArray q B ∧
      Steps p.tables e below (T.setTop g) ((B.U.setTop { g with stack := rest }).pushFrame (.throwing q))) := by
  obtain ⟨mk, methM, cM, hnamed, hmethM, -, -, -, -, -, -, hsigM⟩ := Cond.codeWith_spec hcode
  have hstatic : methM.isStatic = true := Cond.static_spec hnamed hmethM hstat
  obtain ⟨kP, hkP, -⟩ := className_of_methodNamed hnamed
  have hinitP : kP.init = .initialized := Cond.initialized_spec (findClass_of_methodNamed hnamed) hkP hinit
  obtain ⟨vm₁, X₁, hstep₁⟩ := X.invokestatic hexec hown hlink hnamed hmethM hstatic hkP hinitP hy (g := g) hg (argsL := argsL) (rest := rest) (hlen _ hsigM) hstack hdg
  rcases hK m meth c ⟨T.setVm vm₁, locs, cells, slots⟩ { g with stack := rest } (.invokestatic index) mk argsL.toArray X₁ hg hsize hdg hW (X₁.named hnamed) (hpre vm₁ X₁.warmed) with ⟨v, B, X', hpost, hsteps⟩ | ⟨q, B, X', hpost, hsteps⟩
  · exact Or.inl ⟨v, vm₁, B, X₁.warmed, X', hpost, fun target h => hstep₁ _ fun acts => by rw [doInvoke_state]; exact hsteps.trans h⟩
  · exact Or.inr ⟨q, vm₁, B, X₁.warmed, X', hpost, hstep₁ _ fun acts => by rw [doInvoke_state]; exact hsteps⟩
theorem vx_callVW (X : Stand p l e R s m args below meth c T locs cells slots) (hexec : p.tables.exec = Jvm.exec) {own C : String} {index : Nat} {y : MethodName} {bytes : ByteArray} {maxL : Nat} {ret : Option FieldType} {hh : List (Nat × Nat × Nat × Nat)}
    (hown : s.vm.findClass own = some m.cls) (hlink : (Cond.methodLink own index y).before args s = true) (hinst : (Cond.instanceMethod y).before args s = true) (hsel : (Cond.selects C y y).before args s = true)
    (hcode : (Cond.codeWith y bytes maxL ret hh).before args s = true) (hy : y.cls ≠ "java/lang/invoke/MethodHandle" ∧ y.cls ≠ "java/lang/invoke/VarHandle")
    {W9 : Nat} {Pre : Pt → Array Value → Prop} {Post : Pt → Array Value → Option Value → Pt → Prop} (hK : Back l R p e below s args y 3 W9 Pre Post)
    {b : Addr} {cellB : Cell} (hcell : T.heap[b]? = some cellB) (hobj : cellB.vm.isStatics = false) (hcls : s.vm.findClass C = some cellB.cls)
    {g : JFrame} (hg : g.method = m) (hsize : g.locals.size = c.maxLocals) {argsL rest : List Value} (hlen : ∀ sig, parseMethodDescriptor y.desc = some sig → argsL.length = sig.parameters.length)
    (hstack : g.stack = argsL.reverse ++ .ref b :: rest) (hW : 2 * g.monitorRoom + (rest.map fun v => v.category).sum ≤ W9) (hdg : decode c.code g.pc = .ok (.invokevirtual index, 3))
    (hpre : ∀ vm₁, s.WarmedH vm₁ → Pre ⟨T.setVm vm₁, locs, cells, slots⟩ (Value.ref b :: argsL).toArray) :
    ∃ (v : Option Value) (vm₁ : Vm) (B : Pt), s.WarmedH vm₁ ∧ Stand p l e R s m args below meth c B.U B.locs B.cells B.slots ∧ Post ⟨T.setVm vm₁, locs, cells, slots⟩ (Value.ref b :: argsL).toArray v B ∧
      ∀ target, Steps p.tables e below (B.U.setTop { g with pc := g.pc + 3, stack := v.toList ++ rest }) target → Steps p.tables e below (T.setTop g) target := by
  obtain ⟨mk, methM, hnamed, hmethM, hstM, habM⟩ := Cond.instanceMethod_spec hinst
  obtain ⟨m8, methM', cM, hn8, hmethM', -, -, -, -, -, -, hsigM⟩ := Cond.codeWith_spec hcode
  cases Option.some.inj (hn8.symm.trans hnamed)
  cases hmethM.symm.trans hmethM'
  obtain ⟨c2, r2, m2, q1, q2, q3, q4, kP, hkP, hkPi⟩ := Cond.selects_spec hsel
  cases hcls.symm.trans q1
  cases (State.methodFound?_of_named hnamed hy).symm.trans q2
  cases hnamed.symm.trans q3
  have hselP : selectMethod e.platform s.vm cellB.cls mk = .method mk := by rw [Launch.admits_selectMethod X.admits]; exact q4
  obtain ⟨vm₁, X₁, hstep₁⟩ := X.invokevirtual hexec hown hlink hnamed hmethM hstM hkP hkPi hy (a := b) (cell := cellB) hcell
    (fun z h => by rw [h] at hobj; cases hobj) hselP hmethM habM hkP hkPi (g := g) hg (argsL := argsL) (rest := rest) (hlen _ hsigM) hstack hdg
  obtain ⟨v, B, X', hpost, hsteps⟩ := hK m meth c ⟨T.setVm vm₁, locs, cells, slots⟩ { g with stack := rest } (.invokevirtual index) mk (Value.ref b :: argsL).toArray X₁ hg hsize hdg hW (X₁.named hnamed) (hpre vm₁ X₁.warmed)
  exact ⟨v, vm₁, B, X₁.warmed, X', hpost, fun target h => hstep₁ _ fun acts => by rw [doInvoke_state]; exact hsteps.trans h⟩
abbrev vx_CVW (R : Room) (s : State) (args : Array Value) (own C : String) (index : Nat) (y : MethodName) (bytes : ByteArray) (maxL : Nat) (ret : Option FieldType) (hh : List (Nat × Nat × Nat × Nat)) (ws : List Cond) (rm : Room) (mc ms n : Nat) : Prop :=
  (rm.cells = mc ∧ rm.slots = ms ∧ rm.frames + 1 ≤ R.frames ∧ 8 + (maxL + 11) + rm.locals ≤ R.locals ∧ (∀ w ∈ ws, ∀ (a' : Array Value) (U : State), s.WarmedH U.vm → w.before a' U = true) ∧ Cond.codeWith y bytes maxL ret hh ∈ ws) ∧
  (Cond.codeWith y bytes maxL ret hh).before args s = true ∧ (Cond.initialized y.cls).before args s = true ∧ (y.cls ≠ "java/lang/invoke/MethodHandle" ∧ y.cls ≠ "java/lang/invoke/VarHandle") ∧
  (∀ sig, parseMethodDescriptor y.desc = some sig → n = sig.parameters.length) ∧ (Cond.methodLink own index y).before args s = true ∧ (Cond.instanceMethod y).before args s = true ∧ (Cond.selects C y y).before args s = true
theorem vx_cwVW {own C : String} {index maxL mc ms : Nat} {y : MethodName} {bytes : ByteArray} {ret : Option FieldType} {hh : List (Nat × Nat × Nat × Nat)} {Ts ws ws' : List Cond} {rm : Room} (n : Nat) (ht : ∀ w ∈ Ts, w.before args s = true) (hT : GoodIn Ts (wsV own index C y ws)) (hw : ws = Cond.codeWith y bytes maxL ret hh :: ws') (hrc : rm.cells = mc) (hrs : rm.slots = ms)
    (hd : y.cls = C ∧ y.cls ≠ "java/lang/invoke/MethodHandle" ∧ y.cls ≠ "java/lang/invoke/VarHandle" ∧ (parseMethodDescriptor y.desc).map (fun d => d.parameters.length) = some n) (hR : rm.frames + 1 ≤ R.frames ∧ 8 + (maxL + 11) + rm.locals ≤ R.locals) :
    vx_CVW R s args own C index y bytes maxL ret hh ws rm mc ms n := by
  obtain ⟨hC, hd⟩ := hd
  subst hC
  have ok : ∀ w ∈ wsV own index y.cls y ws, w.before args s = true := fun w h => ht w (hT w h).1
  have hG : GoodIn Ts ws := fun w h => hT w (by unfold wsV; exact List.mem_append_right _ h)
  have hc : Cond.codeWith y bytes maxL ret hh ∈ ws := by rw [hw]; exact List.mem_cons_self
  refine ⟨⟨hrc, hrs, hR.1, hR.2, pay_in ht hG, hc⟩, ht _ (hG _ hc).1, ok _ (by simp [wsV]), ⟨hd.1, hd.2.1⟩, fun sig h => ?_, ok _ (by simp [wsV]), ok _ (by simp [wsV]), ok _ (by simp [wsV])⟩
  have h2 := hd.2.2
  rw [h] at h2
  exact (Option.some.inj h2).symm
theorem vx_runVW {y : MethodName} {bytes cc : ByteArray} {maxL nL mc ms n index : Nat} {ret : Option FieldType} {hh : List (Nat × Nat × Nat × Nat)} {ws : List Cond} {rm : Room} {Pc : Array Value → State → Prop} {Qc : Array Value → State → Outcome → State → Prop} {free : Addr → Prop} {Ts : List Cond} {own C : String} {b : Addr} {As rest : List Value} {g : JFrame}
    (S : CallFix p m c cc nL s args Ts own) (hM : Met l y ws rm Pc Qc mc ms free) (cw : vx_CVW R s args own C index y bytes maxL ret hh ws rm mc ms n) (hp : PreV s H C b Pc As)
    (hg : g.method = m) (hn : As.length = n) (hsize : g.locals.size = nL) (hstack : g.stack = As.reverse ++ .ref b :: rest) (hW : 2 * g.monitorRoom + (rest.map fun v => v.category).sum ≤ 8) (hdg : decode cc g.pc = .ok (.invokevirtual index, 3)) (hf : cells + mc ≤ R.cells ∧ slots + ms ≤ R.slots) :
    va_Run p l e R s m args below meth c H locs cells slots mc ms g rest (Qc (Value.ref b :: As).toArray) free := by
  obtain ⟨⟨hrc, hrs, hfr, hlo, hws, hcw⟩, hcode, hini, hy, hlen, hl, hin, hse⟩ := cw
  have hK : Back l R p e below s args y 3 8 (PreOf R mc ms Pc) (PostOf Qc mc ms free) := va_backW (hh := hh) (bytes := bytes) (maxL := maxL) (ret := ret) hM hp.1 hrc hrs hfr hlo hws hcw (fun a' U hW => word_at hW (Or.inl (by first | rfl | simp [Cond.onTables, Cond.keeps, Cond.steady])) hini)
  obtain ⟨hx, hb, hml, ho, -⟩ := S
  obtain ⟨-, ⟨cellB, hcB, hoB, hclB⟩, hPc⟩ := hp
  intro T hT X
  obtain ⟨v, vm₁, ⟨U', l2, c2, s2⟩, hW₁, X', ⟨g', mk, t, L, e1, e2, hq, h1, hL, h2, h3⟩, st⟩ := vx_callVW X hx (C := C) (hh := hh) (bytes := bytes) (maxL := maxL) (ret := ret) ho hl hin hse hcode hy hK (by rw [hT]; exact hcB) hoB hclB hg (hsize.trans hml.symm) (argsL := As) (rest := rest) (fun sig h => hn.trans (hlen sig h)) hstack hW (by rw [hb]; exact hdg)
    (fun vm₁ hW₁ => ⟨hf.1, hf.2, hPc (T.setVm vm₁) hT hW₁⟩)
  dsimp only [Pt.U, Pt.locs, Pt.cells, Pt.slots] at X' e1 e2 h1 h2 h3 st
  subst h1; subst h2; subst h3
  exact ⟨v, (T.setVm vm₁).calling g' mk (Value.ref b :: As).toArray, t, U', L, hT, X', hL, e1, e2, hq, st⟩
section
variable {y : MethodName} {bytes cc : ByteArray} {maxL nL mc ms n index : Nat} {ret : Option FieldType} {ws : List Cond} {rm : Room} {Pc : Array Value → State → Prop} {Qc : Array Value → State → Outcome → State → Prop} {XC : String → State → State → Prop} {free : Addr → Prop} {Ts : List Cond} {own C : String} {b : Addr} {As rest : List Value} {g : JFrame}
theorem vx_runVX {hh : List (Nat × Nat × Nat × Nat)} (S : CallFix p m c cc nL s args Ts own) (hM : vx_Met l y ws rm Pc Qc XC mc ms free) (cw : vx_CVW R s args own C index y bytes maxL ret hh ws rm mc ms n) (hp : PreV s H C b Pc As)
    (hg : g.method = m) (hn : As.length = n) (hsize : g.locals.size = nL) (hstack : g.stack = As.reverse ++ .ref b :: rest) (hW : 2 * g.monitorRoom + (rest.map fun v => v.category).sum ≤ 8) (hdg : decode cc g.pc = .ok (.invokevirtual index, 3)) (hf : cells + mc ≤ R.cells ∧ slots + ms ≤ R.slots) :
    vx_Run p l e R s m args below meth c H locs cells slots mc ms g rest (Qc (Value.ref b :: As).toArray) XC free := by
  obtain ⟨⟨hrc, hrs, hfr, hlo, hws, hcw⟩, hcode, hini, hy, hlen, hl, hin, hse⟩ := cw
  have hK : vx_Back l R p e below s args y 3 8 (PreOf R mc ms Pc) (PostOf Qc mc ms free) (vx_Post XC mc ms free) := vx_backW (hh := hh) (bytes := bytes) (maxL := maxL) (ret := ret) hM hp.1 hrc hrs hfr hlo hws hcw (fun a' U hW => word_at hW (Or.inl (by first | rfl | simp [Cond.onTables, Cond.keeps, Cond.steady])) hini)
  obtain ⟨hx, hb, hml, ho, -⟩ := S
  obtain ⟨-, ⟨cellB, hcB, hoB, hclB⟩, hPc⟩ := hp
  intro T hT X
  rcases vx_callVX X hx (C := C) (hh := hh) (bytes := bytes) (maxL := maxL) (ret := ret) ho hl hin hse hcode hy hK (by rw [hT]; exact hcB) hoB hclB hg (hsize.trans hml.symm) (argsL := As) (rest := rest) (fun sig h => hn.trans (hlen sig h)) hstack hW (by rw [hb]; exact hdg)
    (fun vm₁ hW₁ => ⟨hf.1, hf.2, hPc (T.setVm vm₁) hT hW₁⟩) with ⟨v, vm₁, ⟨U', l2, c2, s2⟩, hW₁, X', ⟨g', mk, t, L, e1, e2, hq, h1, hL, h2, h3⟩, st⟩ | ⟨q, vm₁, ⟨U', l2, c2, s2⟩, hW₁, X', ⟨g', mk, t, L, E, ce, e1, e2, hq, hce, hcv, hcl, h1, hL, h2, h3⟩, st⟩
  · dsimp only [Pt.U, Pt.locs, Pt.cells, Pt.slots] at X' e1 e2 h1 h2 h3 st
    subst h1; subst h2; subst h3
    exact Or.inl ⟨v, (T.setVm vm₁).calling g' mk (Value.ref b :: As).toArray, t, U', L, hT, X', hL, e1, e2, hq, st⟩
  · dsimp only [Pt.U, Pt.locs, Pt.cells, Pt.slots] at X' e1 e2 h1 h2 h3 st hcl
    subst h1; subst h2; subst h3
    exact Or.inr ⟨q, (T.setVm vm₁).calling g' mk (Value.ref b :: As).toArray, t, U', L, E, ce, hT, X', hL, e1, e2, hq, hce, hcv, vx_cls hW₁ hcl, st⟩
theorem vx_runSX {hh : List (Nat × Nat × Nat × Nat)} (S : CallFix p m c cc nL s args Ts own) (hM : vx_Met l y ws rm Pc Qc XC mc ms free) (cw : vx_CSW R s args own index y bytes maxL ret hh ws rm mc ms n) (hp : PreS s H Pc As)
    (hg : g.method = m) (hn : As.length = n) (hsize : g.locals.size = nL) (hstack : g.stack = As.reverse ++ rest) (hW : 2 * g.monitorRoom + (rest.map fun v => v.category).sum ≤ 8) (hdg : decode cc g.pc = .ok (.invokestatic index, 3)) (hf : cells + mc ≤ R.cells ∧ slots + ms ≤ R.slots) :
    vx_Run p l e R s m args below meth c H locs cells slots mc ms g rest (Qc As.toArray) XC free := by
  obtain ⟨⟨hrc, hrs, hfr, hlo, hws, hcw⟩, hcode, hini, hy, hlen, hl, hstt⟩ := cw
  have hK : vx_Back l R p e below s args y 3 8 (PreOf R mc ms Pc) (PostOf Qc mc ms free) (vx_Post XC mc ms free) := vx_backW (hh := hh) (bytes := bytes) (maxL := maxL) (ret := ret) hM hp.1 hrc hrs hfr hlo hws hcw (fun a' U hW => word_at hW (Or.inl (by first | rfl | simp [Cond.onTables, Cond.keeps, Cond.steady])) hini)
  obtain ⟨hx, hb, hml, ho, -⟩ := S
  intro T hT X
  rcases vx_callSX X hx (hh := hh) (bytes := bytes) (maxL := maxL) (ret := ret) ho hl hstt hini hcode hy hK hg (hsize.trans hml.symm) (argsL := As) (rest := rest) (fun sig h => hn.trans (hlen sig h)) hstack hW (by rw [hb]; exact hdg)
    (fun vm₁ hW₁ => ⟨hf.1, hf.2, hp.2 (T.setVm vm₁) hT hW₁⟩) with ⟨v, vm₁, ⟨U', l2, c2, s2⟩, hW₁, X', ⟨g', mk, t, L, e1, e2, hq, h1, hL, h2, h3⟩, st⟩ | ⟨q, vm₁, ⟨U', l2, c2, s2⟩, hW₁, X', ⟨g', mk, t, L, E, ce, e1, e2, hq, hce, hcv, hcl, h1, hL, h2, h3⟩, st⟩
  · dsimp only [Pt.U, Pt.locs, Pt.cells, Pt.slots] at X' e1 e2 h1 h2 h3 st
    subst h1; subst h2; subst h3
    exact Or.inl ⟨v, (T.setVm vm₁).calling g' mk As.toArray, t, U', L, hT, X', hL, e1, e2, hq, st⟩
  · dsimp only [Pt.U, Pt.locs, Pt.cells, Pt.slots] at X' e1 e2 h1 h2 h3 st hcl
    subst h1; subst h2; subst h3
    exact Or.inr ⟨q, (T.setVm vm₁).calling g' mk As.toArray, t, U', L, E, ce, hT, X', hL, e1, e2, hq, hce, hcv, vx_cls hW₁ hcl, st⟩
end
end VXH
theorem vx_ofWH {l : Launch} {y : MethodName} {ws ws' : List Cond} {rm : Room} {Pc : Array Value → State → Prop} {Qc : Array Value → State → Outcome → State → Prop} {XC : String → State → State → Prop} {mc ms : Nat} {free : Addr → Prop} {cc : ByteArray} {maxL : Nat} {ret : Option FieldType} {hh : List (Nat × Nat × Nat × Nat)}
    (hy : plainName y.cls = true) (hw : ws = Cond.codeWith y cc maxL ret hh :: ws')
    (body : ∀ p e s m args below meth c s₁, BodyLoose p l y (headSpec ws rm) cc maxL ret e s m args below meth c s₁ → c.maxLocals = maxL → Pc args s →
      W p l e (headSpec ws rm).room s m args below meth c s.heap [] 0 0 (vx_MQ below Qc XC args s mc ms free) (entryFrame m args maxL)) : vx_Met l y ws rm Pc Qc XC mc ms free := by
  refine MetFree.of_bodyS (code := cc) (maxLocals := maxL) (ret := ret) hy ?_ ?_
  · intro args s m h hn
    obtain ⟨m9, meth, c, hn9, h1, h2, h3, h4, -, h5, h6, -⟩ := Cond.codeWith_spec (atoms_spec (ws := ws) h _ (by rw [hw]; exact List.mem_cons_self))
    cases hn.symm.trans hn9
    exact ⟨meth, c, h1, h2, h3, h4, h5, h6⟩
  · intro p e s m args below meth c s₁ B hml hP _
    have hh0 : s₁.heap = s.heap := by rw [B.state]; rfl
    obtain ⟨t, a1, o, b1, b2, b3⟩ := body p e s m args below meth c s₁ B hml hP s₁ hh0 (Stand.of_body B)
    exact ⟨t, o, a1, b1, b2, b3⟩
/-! ===== END ===== -/
end
section
/-! ===== BEGIN printed: names, fields, word lists, decode rows ===== -/
def RX0 : String := "Kelirnight$Figure"
def TX0 : u_T := fun k => match k with
  | 0 => ("Kelirnight$Figure", "person", "I", true)
  | 1 => ("Kelirnight$Figure", "side", "I", true)
  | 2 => ("Kelirnight$Figure", "height", "I", true)
  | 3 => ("Kelirnight$Figure", "wear", "I", false)
  | 4 => ("Kelirnight$Figure", "where", "I", false)
  | 5 => ("Kelirnight$Figure", "place", "I", false)
  | _ => ("Kelirnight$Figure", "lifted", "I", false)
def tyX0 : Nat → FieldType := fun k => match k with
  | 0 => .int
  | 1 => .int
  | 2 => .int
  | 3 => .int
  | 4 => .int
  | 5 => .int
  | _ => .int
abbrev wsX00 : List Cond := u_ws RX0 TX0 7
theorem nmX0 : ∀ a, a < 7 → ∀ b, b < 7 → a ≠ b → (TX0 a).2.1 ≠ (TX0 b).2.1 := by decide +kernel
theorem tyX0_ok : ∀ k, k < 7 → parseFieldDescriptor (TX0 k).2.2.1 = some (tyX0 k) := by decide +kernel
abbrev cX0_init : ByteArray := prog_2_method_1_code
def yX0_init : MethodName := ⟨RX0, "<init>", "(III)V"⟩
abbrev cX0_inHand : ByteArray := prog_2_method_2_code
def yX0_inHand : MethodName := ⟨RX0, "inHand", "()Z"⟩
abbrev cX0_shown : ByteArray := prog_2_method_3_code
def yX0_shown : MethodName := ⟨RX0, "shown", "()Z"⟩
abbrev cX0_wearBy : ByteArray := prog_2_method_4_code
def yX0_wearBy : MethodName := ⟨RX0, "wearBy", "(I)V"⟩
def RX1 : String := "Kelirnight$Orchestra"
def TX1 : u_T := fun k => match k with
  | 0 => ("Kelirnight$Orchestra", "mood", "I", false)
  | 1 => ("Kelirnight$Orchestra", "speed", "I", false)
  | 2 => ("Kelirnight$Orchestra", "beat", "I", false)
  | 3 => ("Kelirnight$Orchestra", "waiting", "I", false)
  | _ => ("Kelirnight$Orchestra", "gongs", "I", false)
def tyX1 : Nat → FieldType := fun k => match k with
  | 0 => .int
  | 1 => .int
  | 2 => .int
  | 3 => .int
  | _ => .int
abbrev wsX10 : List Cond := u_ws RX1 TX1 5
theorem nmX1 : ∀ a, a < 5 → ∀ b, b < 5 → a ≠ b → (TX1 a).2.1 ≠ (TX1 b).2.1 := by decide +kernel
theorem tyX1_ok : ∀ k, k < 5 → parseFieldDescriptor (TX1 k).2.2.1 = some (tyX1 k) := by decide +kernel
abbrev cX1_init : ByteArray := prog_3_method_1_code
def yX1_init : MethodName := ⟨RX1, "<init>", "()V"⟩
abbrev cX1_begin : ByteArray := prog_3_method_2_code
def yX1_begin : MethodName := ⟨RX1, "begin", "(I)Z"⟩
abbrev cX1_bid : ByteArray := prog_3_method_3_code
def yX1_bid : MethodName := ⟨RX1, "bid", "(I)Z"⟩
abbrev cX1_playMinute : ByteArray := prog_3_method_4_code
def yX1_playMinute : MethodName := ⟨RX1, "playMinute", "()V"⟩
abbrev cX1_minutesToGong : ByteArray := prog_3_method_5_code
def yX1_minutesToGong : MethodName := ⟨RX1, "minutesToGong", "()I"⟩
abbrev cX1_value : ByteArray := prog_3_method_6_code
def yX1_value : MethodName := ⟨RX1, "value", "(I)I"⟩
abbrev cX1_soundGong : ByteArray := prog_3_method_7_code
def yX1_soundGong : MethodName := ⟨RX1, "soundGong", "()V"⟩
abbrev cX1_beatsOfMinute : ByteArray := prog_3_method_8_code
def yX1_beatsOfMinute : MethodName := ⟨RX1, "beatsOfMinute", "()I"⟩
abbrev cX1_beatsOfCycle : ByteArray := prog_3_method_9_code
def yX1_beatsOfCycle : MethodName := ⟨RX1, "beatsOfCycle", "()I"⟩
def RX2 : String := "Kelirnight$Person"
def TX2 : u_T := fun k => match k with
  | 0 => ("Kelirnight$Person", "side", "I", true)
  | 1 => ("Kelirnight$Person", "rank", "I", true)
  | 2 => ("Kelirnight$Person", "pitch", "I", true)
  | 3 => ("Kelirnight$Person", "born", "I", true)
  | 4 => ("Kelirnight$Person", "dies", "I", true)
  | _ => ("Kelirnight$Person", "knewFirst", "Z", true)
def tyX2 : Nat → FieldType := fun k => match k with
  | 0 => .int
  | 1 => .int
  | 2 => .int
  | 3 => .int
  | 4 => .int
  | _ => .boolean
abbrev wsX20 : List Cond := u_ws RX2 TX2 6
theorem nmX2 : ∀ a, a < 6 → ∀ b, b < 6 → a ≠ b → (TX2 a).2.1 ≠ (TX2 b).2.1 := by decide +kernel
theorem tyX2_ok : ∀ k, k < 6 → parseFieldDescriptor (TX2 k).2.2.1 = some (tyX2 k) := by decide +kernel
abbrev cX2_init : ByteArray := prog_4_method_1_code
def yX2_init : MethodName := ⟨RX2, "<init>", "(IIIIIZ)V"⟩
abbrev cX2_livesIn : ByteArray := prog_4_method_2_code
def yX2_livesIn : MethodName := ⟨RX2, "livesIn", "(I)Z"⟩
def RX3 : String := "Kelirnight$Plot"
def TX3 : u_T := fun k => match k with
  | 0 => ("Kelirnight$Plot", "persons", "Ljava/util/ArrayList;", true)
  | 1 => ("Kelirnight$Plot", "scenes", "Ljava/util/ArrayList;", true)
  | 2 => ("Kelirnight$Plot", "knewFirst", "I", false)
  | 3 => ("Kelirnight$Plot", "breached", "I", false)
  | _ => ("Kelirnight$Plot", "end", "I", false)
def tyX3 : Nat → FieldType := fun k => match k with
  | 0 => .object "java/util/ArrayList"
  | 1 => .object "java/util/ArrayList"
  | 2 => .int
  | 3 => .int
  | _ => .int
abbrev wsX30 : List Cond := u_ws RX3 TX3 5
theorem nmX3 : ∀ a, a < 5 → ∀ b, b < 5 → a ≠ b → (TX3 a).2.1 ≠ (TX3 b).2.1 := by decide +kernel
theorem tyX3_ok : ∀ k, k < 5 → parseFieldDescriptor (TX3 k).2.2.1 = some (tyX3 k) := by decide +kernel
abbrev cX3_init : ByteArray := prog_5_method_1_code
def yX3_init : MethodName := ⟨RX3, "<init>", "()V"⟩
abbrev cX3_tell : ByteArray := prog_5_method_2_code
def yX3_tell : MethodName := ⟨RX3, "tell", "(LKelirnight$Person;)I"⟩
abbrev cX3_append : ByteArray := prog_5_method_3_code
def yX3_append : MethodName := ⟨RX3, "append", "(IIIIII)I"⟩
abbrev cX3_changeLength : ByteArray := prog_5_method_4_code
def yX3_changeLength : MethodName := ⟨RX3, "changeLength", "(II)I"⟩
abbrev cX3_exchange : ByteArray := prog_5_method_5_code
def yX3_exchange : MethodName := ⟨RX3, "exchange", "(II)V"⟩
abbrev cX3_bestExchange : ByteArray := prog_5_method_6_code
def yX3_bestExchange : MethodName := ⟨RX3, "bestExchange", "()I"⟩
abbrev cX3_isCast : ByteArray := prog_5_method_7_code
def yX3_isCast : MethodName := ⟨RX3, "isCast", "(I)Z"⟩
abbrev cX3_sceneOn : ByteArray := prog_5_method_8_code
def yX3_sceneOn : MethodName := ⟨RX3, "sceneOn", "(I)I"⟩
abbrev cX3_knowersBehind : ByteArray := prog_5_method_9_code
def yX3_knowersBehind : MethodName := ⟨RX3, "knowersBehind", "(I)I"⟩
abbrev cX3_trade : ByteArray := prog_5_method_10_code
def yX3_trade : MethodName := ⟨RX3, "trade", "(II)V"⟩
abbrev cX3_refresh : ByteArray := prog_5_method_11_code
def yX3_refresh : MethodName := ⟨RX3, "refresh", "()V"⟩
abbrev cX3_deadIn : ByteArray := prog_5_method_12_code
def yX3_deadIn : MethodName := ⟨RX3, "deadIn", "(II)I"⟩
abbrev cX3_breachOfCycle : ByteArray := prog_5_method_13_code
def yX3_breachOfCycle : MethodName := ⟨RX3, "breachOfCycle", "(III)I"⟩
def RX4 : String := "Kelirnight$Scene"
def TX4 : u_T := fun k => match k with
  | 0 => ("Kelirnight$Scene", "year", "I", true)
  | 1 => ("Kelirnight$Scene", "mood", "I", true)
  | 2 => ("Kelirnight$Scene", "cast", "I", true)
  | 3 => ("Kelirnight$Scene", "dies", "I", true)
  | 4 => ("Kelirnight$Scene", "tells", "I", true)
  | 5 => ("Kelirnight$Scene", "cycleBreach", "I", true)
  | 6 => ("Kelirnight$Scene", "length", "I", false)
  | 7 => ("Kelirnight$Scene", "begins", "I", false)
  | 8 => ("Kelirnight$Scene", "breach", "I", false)
  | _ => ("Kelirnight$Scene", "knowersBehind", "I", false)
def tyX4 : Nat → FieldType := fun k => match k with
  | 0 => .int
  | 1 => .int
  | 2 => .int
  | 3 => .int
  | 4 => .int
  | 5 => .int
  | 6 => .int
  | 7 => .int
  | 8 => .int
  | _ => .int
abbrev wsX40 : List Cond := u_ws RX4 TX4 10
theorem nmX4 : ∀ a, a < 10 → ∀ b, b < 10 → a ≠ b → (TX4 a).2.1 ≠ (TX4 b).2.1 := by decide +kernel
theorem tyX4_ok : ∀ k, k < 10 → parseFieldDescriptor (TX4 k).2.2.1 = some (tyX4 k) := by decide +kernel
abbrev cX4_init : ByteArray := prog_6_method_1_code
def yX4_init : MethodName := ⟨RX4, "<init>", "(IIIIIII)V"⟩
abbrev cX4_end : ByteArray := prog_6_method_2_code
def yX4_end : MethodName := ⟨RX4, "end", "()I"⟩
abbrev cX4_part : ByteArray := prog_6_method_3_code
def yX4_part : MethodName := ⟨RX4, "part", "()I"⟩
abbrev cX4_breachWith : ByteArray := prog_6_method_4_code
def yX4_breachWith : MethodName := ⟨RX4, "breachWith", "(II)I"⟩
abbrev cX4_value : ByteArray := prog_6_method_5_code
def yX4_value : MethodName := ⟨RX4, "value", "(I)I"⟩
def RX5 : String := "Kelirnight$Screen"
def TX5 : u_T := fun k => match k with
  | 0 => ("Kelirnight$Screen", "figures", "Ljava/util/ArrayList;", true)
  | 1 => ("Kelirnight$Screen", "distance", "I", false)
  | _ => ("Kelirnight$Screen", "sway", "I", false)
def tyX5 : Nat → FieldType := fun k => match k with
  | 0 => .object "java/util/ArrayList"
  | 1 => .int
  | _ => .int
abbrev wsX50 : List Cond := u_ws RX5 TX5 3
theorem nmX5 : ∀ a, a < 3 → ∀ b, b < 3 → a ≠ b → (TX5 a).2.1 ≠ (TX5 b).2.1 := by decide +kernel
theorem tyX5_ok : ∀ k, k < 3 → parseFieldDescriptor (TX5 k).2.2.1 = some (tyX5 k) := by decide +kernel
abbrev cX5_init : ByteArray := prog_7_method_1_code
def yX5_init : MethodName := ⟨RX5, "<init>", "()V"⟩
abbrev cX5_figureAt : ByteArray := prog_7_method_2_code
def yX5_figureAt : MethodName := ⟨RX5, "figureAt", "(I)I"⟩
abbrev cX5_canTake : ByteArray := prog_7_method_3_code
def yX5_canTake : MethodName := ⟨RX5, "canTake", "(II)Z"⟩
abbrev cX5_gripper : ByteArray := prog_7_method_4_code
def yX5_gripper : MethodName := ⟨RX5, "gripper", "(LKelirnight$Figure;)I"⟩
abbrev cX5_gripableFigures : ByteArray := prog_7_method_5_code
def yX5_gripableFigures : MethodName := ⟨RX5, "gripableFigures", "()I"⟩
abbrev cX5_shadow : ByteArray := prog_7_method_6_code
def yX5_shadow : MethodName := ⟨RX5, "shadow", "(LKelirnight$Figure;I)I"⟩
abbrev cX5_leastLift : ByteArray := prog_7_method_7_code
def yX5_leastLift : MethodName := ⟨RX5, "leastLift", "(LKelirnight$Figure;I)I"⟩
abbrev cX5_shownFigures : ByteArray := prog_7_method_8_code
def yX5_shownFigures : MethodName := ⟨RX5, "shownFigures", "()I"⟩
abbrev cX5_shownPersons : ByteArray := prog_7_method_9_code
def yX5_shownPersons : MethodName := ⟨RX5, "shownPersons", "()I"⟩
abbrev cX5_shadowSum : ByteArray := prog_7_method_10_code
def yX5_shadowSum : MethodName := ⟨RX5, "shadowSum", "()I"⟩
abbrev cX5_wearShown : ByteArray := prog_7_method_11_code
def yX5_wearShown : MethodName := ⟨RX5, "wearShown", "()V"⟩
abbrev cX5_figureValue : ByteArray := prog_7_method_12_code
def yX5_figureValue : MethodName := ⟨RX5, "figureValue", "(LKelirnight$Figure;I)I"⟩
abbrev cX5_isFree : ByteArray := prog_7_method_13_code
def yX5_isFree : MethodName := ⟨RX5, "isFree", "(I)Z"⟩
def RX6 : String := "Kelirnight"
def TX6 : u_T := fun k => match k with
  | 0 => ("Kelirnight", "plot", "LKelirnight$Plot;", true)
  | 1 => ("Kelirnight", "screen", "LKelirnight$Screen;", true)
  | 2 => ("Kelirnight", "orchestra", "LKelirnight$Orchestra;", true)
  | 3 => ("Kelirnight", "minute", "I", false)
  | 4 => ("Kelirnight", "tired", "I", false)
  | 5 => ("Kelirnight", "lastPitch", "I", false)
  | 6 => ("Kelirnight", "bears", "I", false)
  | 7 => ("Kelirnight", "missed", "I", false)
  | 8 => ("Kelirnight", "slips", "I", false)
  | _ => ("Kelirnight", "offences", "I", false)
def tyX6 : Nat → FieldType := fun k => match k with
  | 0 => .object "Kelirnight$Plot"
  | 1 => .object "Kelirnight$Screen"
  | 2 => .object "Kelirnight$Orchestra"
  | 3 => .int
  | 4 => .int
  | 5 => .int
  | 6 => .int
  | 7 => .int
  | 8 => .int
  | _ => .int
abbrev wsX60 : List Cond := u_ws RX6 TX6 10
theorem nmX6 : ∀ a, a < 10 → ∀ b, b < 10 → a ≠ b → (TX6 a).2.1 ≠ (TX6 b).2.1 := by decide +kernel
theorem tyX6_ok : ∀ k, k < 10 → parseFieldDescriptor (TX6 k).2.2.1 = some (tyX6 k) := by decide +kernel
abbrev cX6_init : ByteArray := prog_1_method_1_code
def yX6_init : MethodName := ⟨RX6, "<init>", "()V"⟩
abbrev cX6_person : ByteArray := prog_1_method_2_code
def yX6_person : MethodName := ⟨RX6, "person", "(IIIIIZ)I"⟩
abbrev cX6_figure : ByteArray := prog_1_method_3_code
def yX6_figure : MethodName := ⟨RX6, "figure", "(II)I"⟩
abbrev cX6_scene : ByteArray := prog_1_method_4_code
def yX6_scene : MethodName := ⟨RX6, "scene", "(IIIIII)I"⟩
abbrev cX6_length : ByteArray := prog_1_method_5_code
def yX6_length : MethodName := ⟨RX6, "length", "(II)I"⟩
abbrev cX6_swap : ByteArray := prog_1_method_6_code
def yX6_swap : MethodName := ⟨RX6, "swap", "(II)I"⟩
abbrev cX6_lamp : ByteArray := prog_1_method_7_code
def yX6_lamp : MethodName := ⟨RX6, "lamp", "(II)I"⟩
abbrev cX6_grip : ByteArray := prog_1_method_8_code
def yX6_grip : MethodName := ⟨RX6, "grip", "(I)I"⟩
abbrev cX6_move : ByteArray := prog_1_method_9_code
def yX6_move : MethodName := ⟨RX6, "move", "(II)I"⟩
abbrev cX6_lift : ByteArray := prog_1_method_10_code
def yX6_lift : MethodName := ⟨RX6, "lift", "(II)I"⟩
abbrev cX6_plant : ByteArray := prog_1_method_11_code
def yX6_plant : MethodName := ⟨RX6, "plant", "(I)I"⟩
abbrev cX6_hand : ByteArray := prog_1_method_12_code
def yX6_hand : MethodName := ⟨RX6, "hand", "(I)I"⟩
abbrev cX6_away : ByteArray := prog_1_method_13_code
def yX6_away : MethodName := ⟨RX6, "away", "(I)I"⟩
abbrev cX6_tap : ByteArray := prog_1_method_14_code
def yX6_tap : MethodName := ⟨RX6, "tap", "(I)Z"⟩
abbrev cX6_speak : ByteArray := prog_1_method_15_code
def yX6_speak : MethodName := ⟨RX6, "speak", "(IIII)I"⟩
abbrev cX6_joke : ByteArray := prog_1_method_16_code
def yX6_joke : MethodName := ⟨RX6, "joke", "(I)I"⟩
abbrev cX6_offer : ByteArray := prog_1_method_17_code
def yX6_offer : MethodName := ⟨RX6, "offer", "()I"⟩
abbrev cX6_pass : ByteArray := prog_1_method_18_code
def yX6_pass : MethodName := ⟨RX6, "pass", "(I)I"⟩
abbrev cX6_knows : ByteArray := prog_1_method_19_code
def yX6_knows : MethodName := ⟨RX6, "knows", "(II)Z"⟩
abbrev cX6_ofFigure : ByteArray := prog_1_method_20_code
def yX6_ofFigure : MethodName := ⟨RX6, "ofFigure", "(II)I"⟩
abbrev cX6_ofScene : ByteArray := prog_1_method_21_code
def yX6_ofScene : MethodName := ⟨RX6, "ofScene", "(II)I"⟩
abbrev cX6_at : ByteArray := prog_1_method_22_code
def yX6_at : MethodName := ⟨RX6, "at", "(I)I"⟩
abbrev cX6_sound : ByteArray := prog_1_method_23_code
def yX6_sound : MethodName := ⟨RX6, "sound", "(I)I"⟩
abbrev cX6_many : ByteArray := prog_1_method_24_code
def yX6_many : MethodName := ⟨RX6, "many", "(I)I"⟩
abbrev cX6_meanShadow : ByteArray := prog_1_method_25_code
def yX6_meanShadow : MethodName := ⟨RX6, "meanShadow", "()D"⟩
abbrev cX6_nextGong : ByteArray := prog_1_method_26_code
def yX6_nextGong : MethodName := ⟨RX6, "nextGong", "()I"⟩
abbrev cX6_bestSwap : ByteArray := prog_1_method_27_code
def yX6_bestSwap : MethodName := ⟨RX6, "bestSwap", "()I"⟩
abbrev cX6_liftFor : ByteArray := prog_1_method_28_code
def yX6_liftFor : MethodName := ⟨RX6, "liftFor", "(II)I"⟩
abbrev cX6_gripable : ByteArray := prog_1_method_29_code
def yX6_gripable : MethodName := ⟨RX6, "gripable", "()I"⟩
abbrev cX6_digest : ByteArray := prog_1_method_30_code
def yX6_digest : MethodName := ⟨RX6, "digest", "()J"⟩
abbrev cX6_mix : ByteArray := prog_1_method_31_code
def yX6_mix : MethodName := ⟨RX6, "mix", "(JJ)J"⟩
abbrev cX6_mixPersons : ByteArray := prog_1_method_32_code
def yX6_mixPersons : MethodName := ⟨RX6, "mixPersons", "(J)J"⟩
abbrev cX6_mixFigures : ByteArray := prog_1_method_33_code
def yX6_mixFigures : MethodName := ⟨RX6, "mixFigures", "(J)J"⟩
abbrev cX6_mixScenes : ByteArray := prog_1_method_34_code
def yX6_mixScenes : MethodName := ⟨RX6, "mixScenes", "(J)J"⟩
abbrev cX6_nightValue : ByteArray := prog_1_method_35_code
def yX6_nightValue : MethodName := ⟨RX6, "nightValue", "(I)I"⟩
abbrev cX6_strangers : ByteArray := prog_1_method_36_code
def yX6_strangers : MethodName := ⟨RX6, "strangers", "()I"⟩
abbrev cX6_beginPiece : ByteArray := prog_1_method_37_code
def yX6_beginPiece : MethodName := ⟨RX6, "beginPiece", "()Z"⟩
abbrev cX6_rightLevel : ByteArray := prog_1_method_38_code
def yX6_rightLevel : MethodName := ⟨RX6, "rightLevel", "(II)I"⟩
abbrev cX6_goBy : ByteArray := prog_1_method_39_code
def yX6_goBy : MethodName := ⟨RX6, "goBy", "(IZ)V"⟩
abbrev cX6_isPerson : ByteArray := prog_1_method_40_code
def yX6_isPerson : MethodName := ⟨RX6, "isPerson", "(I)Z"⟩
abbrev cX6_isFigure : ByteArray := prog_1_method_41_code
def yX6_isFigure : MethodName := ⟨RX6, "isFigure", "(I)Z"⟩
abbrev cX6_isScene : ByteArray := prog_1_method_42_code
def yX6_isScene : MethodName := ⟨RX6, "isScene", "(I)Z"⟩
abbrev cX6_isPlace : ByteArray := prog_1_method_43_code
def yX6_isPlace : MethodName := ⟨RX6, "isPlace", "(I)Z"⟩
abbrev cX6_isLength : ByteArray := prog_1_method_44_code
def yX6_isLength : MethodName := ⟨RX6, "isLength", "(I)Z"⟩
abbrev cX6_isNoneOrOf : ByteArray := prog_1_method_45_code
def yX6_isNoneOrOf : MethodName := ⟨RX6, "isNoneOrOf", "(II)Z"⟩
abbrev cX6_outside : ByteArray := prog_1_method_46_code
def yX6_outside : MethodName := ⟨RX6, "outside", "(III)Z"⟩
abbrev cX6_holds : ByteArray := prog_1_method_47_code
def yX6_holds : MethodName := ⟨RX6, "holds", "(II)Z"⟩
abbrev cX6_edge : ByteArray := prog_1_method_48_code
def yX6_edge : MethodName := ⟨RX6, "edge", "(I)I"⟩
abbrev cX6_reaches : ByteArray := prog_1_method_49_code
def yX6_reaches : MethodName := ⟨RX6, "reaches", "(II)Z"⟩
def RX7 : String := "KelirnightModel"
def TX7 : u_T := fun k => match k with
  | 0 => ("KelirnightModel", "thrown", "I", false)
  | 1 => ("KelirnightModel", "persons", "Ljava/util/ArrayList;", true)
  | 2 => ("KelirnightModel", "figures", "Ljava/util/ArrayList;", true)
  | 3 => ("KelirnightModel", "scenes", "Ljava/util/ArrayList;", true)
  | 4 => ("KelirnightModel", "minute", "I", false)
  | 5 => ("KelirnightModel", "distance", "I", false)
  | 6 => ("KelirnightModel", "sway", "I", false)
  | 7 => ("KelirnightModel", "mood", "I", false)
  | 8 => ("KelirnightModel", "speed", "I", false)
  | 9 => ("KelirnightModel", "beat", "I", false)
  | 10 => ("KelirnightModel", "waits", "I", false)
  | 11 => ("KelirnightModel", "tired", "I", false)
  | 12 => ("KelirnightModel", "last", "I", false)
  | 13 => ("KelirnightModel", "bears", "I", false)
  | 14 => ("KelirnightModel", "missed", "I", false)
  | 15 => ("KelirnightModel", "slips", "I", false)
  | 16 => ("KelirnightModel", "offences", "I", false)
  | 17 => ("KelirnightModel", "gongs", "I", false)
  | _ => ("KelirnightModel", "sum", "J", false)
def tyX7 : Nat → FieldType := fun k => match k with
  | 0 => .int
  | 1 => .object "java/util/ArrayList"
  | 2 => .object "java/util/ArrayList"
  | 3 => .object "java/util/ArrayList"
  | 4 => .int
  | 5 => .int
  | 6 => .int
  | 7 => .int
  | 8 => .int
  | 9 => .int
  | 10 => .int
  | 11 => .int
  | 12 => .int
  | 13 => .int
  | 14 => .int
  | 15 => .int
  | 16 => .int
  | 17 => .int
  | _ => .long
abbrev wsX70 : List Cond := u_ws RX7 TX7 19
theorem nmX7 : ∀ a, a < 19 → ∀ b, b < 19 → a ≠ b → (TX7 a).2.1 ≠ (TX7 b).2.1 := by decide +kernel
theorem tyX7_ok : ∀ k, k < 19 → parseFieldDescriptor (TX7 k).2.2.1 = some (tyX7 k) := by decide +kernel
abbrev cX7_init : ByteArray := prog_9_method_1_code
def yX7_init : MethodName := ⟨RX7, "<init>", "()V"⟩
abbrev cX7_thrown : ByteArray := prog_9_method_2_code
def yX7_thrown : MethodName := ⟨RX7, "thrown", "()I"⟩
abbrev cX7_refuse : ByteArray := prog_9_method_3_code
def yX7_refuse : MethodName := ⟨RX7, "refuse", "(I)I"⟩
abbrev cX7_is : ByteArray := prog_9_method_4_code
def yX7_is : MethodName := ⟨RX7, "is", "(III)Z"⟩
abbrev cX7_isPerson : ByteArray := prog_9_method_5_code
def yX7_isPerson : MethodName := ⟨RX7, "isPerson", "(I)Z"⟩
abbrev cX7_isFigure : ByteArray := prog_9_method_6_code
def yX7_isFigure : MethodName := ⟨RX7, "isFigure", "(I)Z"⟩
abbrev cX7_isScene : ByteArray := prog_9_method_7_code
def yX7_isScene : MethodName := ⟨RX7, "isScene", "(I)Z"⟩
abbrev cX7_plot : ByteArray := prog_9_method_8_code
def yX7_plot : MethodName := ⟨RX7, "plot", "(Ljava/util/ArrayList;)[[I"⟩
abbrev cX7_breach : ByteArray := prog_9_method_9_code
def yX7_breach : MethodName := ⟨RX7, "breach", "(Ljava/util/ArrayList;III)I"⟩
abbrev cX7_isDead : ByteArray := prog_9_method_10_code
def yX7_isDead : MethodName := ⟨RX7, "isDead", "(Ljava/util/ArrayList;II)Z"⟩
abbrev cX7_breaches : ByteArray := prog_9_method_11_code
def yX7_breaches : MethodName := ⟨RX7, "breaches", "(Ljava/util/ArrayList;)I"⟩
abbrev cX7_over : ByteArray := prog_9_method_12_code
def yX7_over : MethodName := ⟨RX7, "over", "()I"⟩
abbrev cX7_on : ByteArray := prog_9_method_13_code
def yX7_on : MethodName := ⟨RX7, "on", "()I"⟩
abbrev cX7_exchange : ByteArray := prog_9_method_14_code
def yX7_exchange : MethodName := ⟨RX7, "exchange", "(Ljava/util/ArrayList;II)V"⟩
abbrev cX7_person : ByteArray := prog_9_method_15_code
def yX7_person : MethodName := ⟨RX7, "person", "(IIIIIZ)I"⟩
abbrev cX7_figure : ByteArray := prog_9_method_16_code
def yX7_figure : MethodName := ⟨RX7, "figure", "(II)I"⟩
abbrev cX7_isOf : ByteArray := prog_9_method_17_code
def yX7_isOf : MethodName := ⟨RX7, "isOf", "(II)Z"⟩
abbrev cX7_scene : ByteArray := prog_9_method_18_code
def yX7_scene : MethodName := ⟨RX7, "scene", "(IIIIII)I"⟩
abbrev cX7_length : ByteArray := prog_9_method_19_code
def yX7_length : MethodName := ⟨RX7, "length", "(II)I"⟩
abbrev cX7_swap : ByteArray := prog_9_method_20_code
def yX7_swap : MethodName := ⟨RX7, "swap", "(II)I"⟩
abbrev cX7_lamp : ByteArray := prog_9_method_21_code
def yX7_lamp : MethodName := ⟨RX7, "lamp", "(II)I"⟩
abbrev cX7_at : ByteArray := prog_9_method_22_code
def yX7_at : MethodName := ⟨RX7, "at", "(II)I"⟩
abbrev cX7_isFree : ByteArray := prog_9_method_23_code
def yX7_isFree : MethodName := ⟨RX7, "isFree", "(I)Z"⟩
abbrev cX7_reaches : ByteArray := prog_9_method_24_code
def yX7_reaches : MethodName := ⟨RX7, "reaches", "(II)Z"⟩
abbrev cX7_gripper : ByteArray := prog_9_method_25_code
def yX7_gripper : MethodName := ⟨RX7, "gripper", "(I)I"⟩
abbrev cX7_grip : ByteArray := prog_9_method_26_code
def yX7_grip : MethodName := ⟨RX7, "grip", "(I)I"⟩
abbrev cX7_isHeld : ByteArray := prog_9_method_27_code
def yX7_isHeld : MethodName := ⟨RX7, "isHeld", "(I)Z"⟩
abbrev cX7_wear : ByteArray := prog_9_method_28_code
def yX7_wear : MethodName := ⟨RX7, "wear", "([II)V"⟩
abbrev cX7_move : ByteArray := prog_9_method_29_code
def yX7_move : MethodName := ⟨RX7, "move", "(II)I"⟩
abbrev cX7_shadow : ByteArray := prog_9_method_30_code
def yX7_shadow : MethodName := ⟨RX7, "shadow", "([II)I"⟩
abbrev cX7_lift : ByteArray := prog_9_method_31_code
def yX7_lift : MethodName := ⟨RX7, "lift", "(II)I"⟩
abbrev cX7_plant : ByteArray := prog_9_method_32_code
def yX7_plant : MethodName := ⟨RX7, "plant", "(I)I"⟩
abbrev cX7_hand : ByteArray := prog_9_method_33_code
def yX7_hand : MethodName := ⟨RX7, "hand", "(I)I"⟩
abbrev cX7_onScreen : ByteArray := prog_9_method_34_code
def yX7_onScreen : MethodName := ⟨RX7, "onScreen", "()I"⟩
abbrev cX7_away : ByteArray := prog_9_method_35_code
def yX7_away : MethodName := ⟨RX7, "away", "(I)I"⟩
abbrev cX7_tap : ByteArray := prog_9_method_36_code
def yX7_tap : MethodName := ⟨RX7, "tap", "(I)Z"⟩
abbrev cX7_cycle : ByteArray := prog_9_method_37_code
def yX7_cycle : MethodName := ⟨RX7, "cycle", "()I"⟩
abbrev cX7_silence : ByteArray := prog_9_method_38_code
def yX7_silence : MethodName := ⟨RX7, "silence", "()V"⟩
abbrev cX7_play : ByteArray := prog_9_method_39_code
def yX7_play : MethodName := ⟨RX7, "play", "()I"⟩
abbrev cX7_go : ByteArray := prog_9_method_40_code
def yX7_go : MethodName := ⟨RX7, "go", "(IZ)I"⟩
abbrev cX7_people : ByteArray := prog_9_method_41_code
def yX7_people : MethodName := ⟨RX7, "people", "()I"⟩
abbrev cX7_speak : ByteArray := prog_9_method_42_code
def yX7_speak : MethodName := ⟨RX7, "speak", "(IIII)I"⟩
abbrev cX7_joke : ByteArray := prog_9_method_43_code
def yX7_joke : MethodName := ⟨RX7, "joke", "(I)I"⟩
abbrev cX7_offer : ByteArray := prog_9_method_44_code
def yX7_offer : MethodName := ⟨RX7, "offer", "()I"⟩
abbrev cX7_pass : ByteArray := prog_9_method_45_code
def yX7_pass : MethodName := ⟨RX7, "pass", "(I)I"⟩
abbrev cX7_knowsBehind : ByteArray := prog_9_method_46_code
def yX7_knowsBehind : MethodName := ⟨RX7, "knowsBehind", "(II)Z"⟩
abbrev cX7_knows : ByteArray := prog_9_method_47_code
def yX7_knows : MethodName := ⟨RX7, "knows", "(II)Z"⟩
abbrev cX7_ofFigureNow : ByteArray := prog_9_method_48_code
def yX7_ofFigureNow : MethodName := ⟨RX7, "ofFigureNow", "(II)I"⟩
abbrev cX7_ofFigure : ByteArray := prog_9_method_49_code
def yX7_ofFigure : MethodName := ⟨RX7, "ofFigure", "(II)I"⟩
abbrev cX7_ofSceneNow : ByteArray := prog_9_method_50_code
def yX7_ofSceneNow : MethodName := ⟨RX7, "ofSceneNow", "(II)I"⟩
abbrev cX7_ofScene : ByteArray := prog_9_method_51_code
def yX7_ofScene : MethodName := ⟨RX7, "ofScene", "(II)I"⟩
abbrev cX7_at_ : ByteArray := prog_9_method_52_code
def yX7_at_ : MethodName := ⟨RX7, "at", "(I)I"⟩
abbrev cX7_soundNow : ByteArray := prog_9_method_53_code
def yX7_soundNow : MethodName := ⟨RX7, "soundNow", "(I)I"⟩
abbrev cX7_sound : ByteArray := prog_9_method_54_code
def yX7_sound : MethodName := ⟨RX7, "sound", "(I)I"⟩
abbrev cX7_manyNow : ByteArray := prog_9_method_55_code
def yX7_manyNow : MethodName := ⟨RX7, "manyNow", "(I)I"⟩
abbrev cX7_many : ByteArray := prog_9_method_56_code
def yX7_many : MethodName := ⟨RX7, "many", "(I)I"⟩
abbrev cX7_meanShadow : ByteArray := prog_9_method_57_code
def yX7_meanShadow : MethodName := ⟨RX7, "meanShadow", "()D"⟩
abbrev cX7_gongNow : ByteArray := prog_9_method_58_code
def yX7_gongNow : MethodName := ⟨RX7, "gongNow", "()I"⟩
abbrev cX7_nextGong : ByteArray := prog_9_method_59_code
def yX7_nextGong : MethodName := ⟨RX7, "nextGong", "()I"⟩
abbrev cX7_swapNow : ByteArray := prog_9_method_60_code
def yX7_swapNow : MethodName := ⟨RX7, "swapNow", "()I"⟩
abbrev cX7_bestSwap : ByteArray := prog_9_method_61_code
def yX7_bestSwap : MethodName := ⟨RX7, "bestSwap", "()I"⟩
abbrev cX7_liftNow : ByteArray := prog_9_method_62_code
def yX7_liftNow : MethodName := ⟨RX7, "liftNow", "(II)I"⟩
abbrev cX7_liftFor : ByteArray := prog_9_method_63_code
def yX7_liftFor : MethodName := ⟨RX7, "liftFor", "(II)I"⟩
abbrev cX7_gripNow : ByteArray := prog_9_method_64_code
def yX7_gripNow : MethodName := ⟨RX7, "gripNow", "()I"⟩
abbrev cX7_gripable : ByteArray := prog_9_method_65_code
def yX7_gripable : MethodName := ⟨RX7, "gripable", "()I"⟩
abbrev cX7_add : ByteArray := prog_9_method_66_code
def yX7_add : MethodName := ⟨RX7, "add", "(I)V"⟩
abbrev cX7_digest : ByteArray := prog_9_method_67_code
def yX7_digest : MethodName := ⟨RX7, "digest", "()J"⟩
def RJx145de : String := "java/io/Serializable"
def TJx145de : u_T := fun k => match k with
  | _ => ("", "", "", false)
def tyJx145de : Nat → FieldType := fun k => match k with
  | _ => .int
abbrev wsJx145de0 : List Cond := u_ws RJx145de TJx145de 0
theorem nmJx145de : ∀ a, a < 0 → ∀ b, b < 0 → a ≠ b → (TJx145de a).2.1 ≠ (TJx145de b).2.1 := by decide +kernel
theorem tyJx145de_ok : ∀ k, k < 0 → parseFieldDescriptor (TJx145de k).2.2.1 = some (tyJx145de k) := by decide +kernel
def RJx8e188 : String := "java/lang/Cloneable"
def TJx8e188 : u_T := fun k => match k with
  | _ => ("", "", "", false)
def tyJx8e188 : Nat → FieldType := fun k => match k with
  | _ => .int
abbrev wsJx8e1880 : List Cond := u_ws RJx8e188 TJx8e188 0
theorem nmJx8e188 : ∀ a, a < 0 → ∀ b, b < 0 → a ≠ b → (TJx8e188 a).2.1 ≠ (TJx8e188 b).2.1 := by decide +kernel
theorem tyJx8e188_ok : ∀ k, k < 0 → parseFieldDescriptor (TJx8e188 k).2.2.1 = some (tyJx8e188 k) := by decide +kernel
def RJ6 : String := "java/lang/Integer"
def TJ6 : u_T := fun k => match k with
  | _ => ("", "", "", false)
def tyJ6 : Nat → FieldType := fun k => match k with
  | _ => .int
abbrev wsJ60 : List Cond := u_ws RJ6 TJ6 0
theorem nmJ6 : ∀ a, a < 0 → ∀ b, b < 0 → a ≠ b → (TJ6 a).2.1 ≠ (TJ6 b).2.1 := by decide +kernel
theorem tyJ6_ok : ∀ k, k < 0 → parseFieldDescriptor (TJ6 k).2.2.1 = some (tyJ6 k) := by decide +kernel
abbrev cJ6_signum_0f7a4 : ByteArray := prog_16_method_56_code
def yJ6_signum_0f7a4 : MethodName := ⟨RJ6, "signum", "(I)I"⟩
def RJxab1ab : String := "java/lang/Iterable"
def TJxab1ab : u_T := fun k => match k with
  | _ => ("", "", "", false)
def tyJxab1ab : Nat → FieldType := fun k => match k with
  | _ => .int
abbrev wsJxab1ab0 : List Cond := u_ws RJxab1ab TJxab1ab 0
theorem nmJxab1ab : ∀ a, a < 0 → ∀ b, b < 0 → a ≠ b → (TJxab1ab a).2.1 ≠ (TJxab1ab b).2.1 := by decide +kernel
theorem tyJxab1ab_ok : ∀ k, k < 0 → parseFieldDescriptor (TJxab1ab k).2.2.1 = some (tyJxab1ab k) := by decide +kernel
def RJ9 : String := "java/lang/Math"
def TJ9 : u_T := fun k => match k with
  | _ => ("", "", "", false)
def tyJ9 : Nat → FieldType := fun k => match k with
  | _ => .int
abbrev wsJ90 : List Cond := u_ws RJ9 TJ9 0
theorem nmJ9 : ∀ a, a < 0 → ∀ b, b < 0 → a ≠ b → (TJ9 a).2.1 ≠ (TJ9 b).2.1 := by decide +kernel
theorem tyJ9_ok : ∀ k, k < 0 → parseFieldDescriptor (TJ9 k).2.2.1 = some (tyJ9 k) := by decide +kernel
abbrev cJ9_abs_0f7a4 : ByteArray := prog_18_method_59_code
def yJ9_abs_0f7a4 : MethodName := ⟨RJ9, "abs", "(I)I"⟩
abbrev cJ9_max_7cf53 : ByteArray := prog_18_method_65_code
def yJ9_max_7cf53 : MethodName := ⟨RJ9, "max", "(II)I"⟩
abbrev cJ9_min_7cf53 : ByteArray := prog_18_method_69_code
def yJ9_min_7cf53 : MethodName := ⟨RJ9, "min", "(II)I"⟩
def RJ0 : String := "java/lang/String"
def TJ0 : u_T := fun k => match k with
  | _ => ("", "", "", false)
def tyJ0 : Nat → FieldType := fun k => match k with
  | _ => .int
abbrev wsJ00 : List Cond := u_ws RJ0 TJ0 0
theorem nmJ0 : ∀ a, a < 0 → ∀ b, b < 0 → a ≠ b → (TJ0 a).2.1 ≠ (TJ0 b).2.1 := by decide +kernel
theorem tyJ0_ok : ∀ k, k < 0 → parseFieldDescriptor (TJ0 k).2.2.1 = some (tyJ0 k) := by decide +kernel
def RJ10 : String := "java/lang/System"
def TJ10 : u_T := fun k => match k with
  | _ => ("", "", "", false)
def tyJ10 : Nat → FieldType := fun k => match k with
  | _ => .int
abbrev wsJ100 : List Cond := u_ws RJ10 TJ10 0
theorem nmJ10 : ∀ a, a < 0 → ∀ b, b < 0 → a ≠ b → (TJ10 a).2.1 ≠ (TJ10 b).2.1 := by decide +kernel
theorem tyJ10_ok : ∀ k, k < 0 → parseFieldDescriptor (TJ10 k).2.2.1 = some (tyJ10 k) := by decide +kernel
def RJxa1e45 : String := "java/util/AbstractCollection"
def TJxa1e45 : u_T := fun k => match k with
  | _ => ("", "", "", false)
def tyJxa1e45 : Nat → FieldType := fun k => match k with
  | _ => .int
abbrev wsJxa1e450 : List Cond := u_ws RJxa1e45 TJxa1e45 0
theorem nmJxa1e45 : ∀ a, a < 0 → ∀ b, b < 0 → a ≠ b → (TJxa1e45 a).2.1 ≠ (TJxa1e45 b).2.1 := by decide +kernel
theorem tyJxa1e45_ok : ∀ k, k < 0 → parseFieldDescriptor (TJxa1e45 k).2.2.1 = some (tyJxa1e45 k) := by decide +kernel
abbrev cJxa1e45_init_da8c8 : ByteArray := prog_23_method_1_code
def yJxa1e45_init_da8c8 : MethodName := ⟨RJxa1e45, "<init>", "()V"⟩
def RJxc12de : String := "java/util/AbstractList"
def TJxc12de : u_T := fun k => match k with
  | _ => ("", "", "", false)
def tyJxc12de : Nat → FieldType := fun k => match k with
  | _ => .int
abbrev wsJxc12de0 : List Cond := u_ws RJxc12de TJxc12de 0
theorem nmJxc12de : ∀ a, a < 0 → ∀ b, b < 0 → a ≠ b → (TJxc12de a).2.1 ≠ (TJxc12de b).2.1 := by decide +kernel
theorem tyJxc12de_ok : ∀ k, k < 0 → parseFieldDescriptor (TJxc12de k).2.2.1 = some (tyJxc12de k) := by decide +kernel
abbrev cJxc12de_init_da8c8 : ByteArray := prog_24_method_1_code
def yJxc12de_init_da8c8 : MethodName := ⟨RJxc12de, "<init>", "()V"⟩
def RJx35411 : String := "java/util/ArrayList$Itr"
def TJx35411 : u_T := fun k => match k with
  | 0 => ("java/util/ArrayList$Itr", "cursor", "I", false)
  | 1 => ("java/util/ArrayList$Itr", "lastRet", "I", false)
  | 2 => ("java/util/ArrayList$Itr", "expectedModCount", "I", false)
  | _ => ("java/util/ArrayList$Itr", "this$0", "Ljava/util/ArrayList;", true)
def tyJx35411 : Nat → FieldType := fun k => match k with
  | 0 => .int
  | 1 => .int
  | 2 => .int
  | _ => .object "java/util/ArrayList"
abbrev wsJx354110 : List Cond := u_ws RJx35411 TJx35411 4
theorem nmJx35411 : ∀ a, a < 4 → ∀ b, b < 4 → a ≠ b → (TJx35411 a).2.1 ≠ (TJx35411 b).2.1 := by decide +kernel
theorem tyJx35411_ok : ∀ k, k < 4 → parseFieldDescriptor (TJx35411 k).2.2.1 = some (tyJx35411 k) := by decide +kernel
abbrev cJx35411_init_45d68 : ByteArray := prog_26_method_1_code
def yJx35411_init_45d68 : MethodName := ⟨RJx35411, "<init>", "(Ljava/util/ArrayList;)V"⟩
abbrev cJx35411_hasNext_aae02 : ByteArray := prog_26_method_2_code
def yJx35411_hasNext_aae02 : MethodName := ⟨RJx35411, "hasNext", "()Z"⟩
abbrev cJx35411_next_0502b : ByteArray := prog_26_method_3_code
def yJx35411_next_0502b : MethodName := ⟨RJx35411, "next", "()Ljava/lang/Object;"⟩
abbrev cJx35411_checkForComodification_da8c8 : ByteArray := prog_26_method_6_code
def yJx35411_checkForComodification_da8c8 : MethodName := ⟨RJx35411, "checkForComodification", "()V"⟩
def RJx4a65c : String := "java/util/ArrayList"
def TJx4a65c : u_T := fun k => match k with
  | 0 => ("java/util/AbstractList", "modCount", "I", false)
  | 1 => ("java/util/ArrayList", "elementData", "[Ljava/lang/Object;", false)
  | _ => ("java/util/ArrayList", "size", "I", false)
def tyJx4a65c : Nat → FieldType := fun k => match k with
  | 0 => .int
  | 1 => .array (.object "java/lang/Object")
  | _ => .int
abbrev wsJx4a65c0 : List Cond := u_ws RJx4a65c TJx4a65c 3
theorem nmJx4a65c : ∀ a, a < 3 → ∀ b, b < 3 → a ≠ b → (TJx4a65c a).2.1 ≠ (TJx4a65c b).2.1 := by decide +kernel
theorem tyJx4a65c_ok : ∀ k, k < 3 → parseFieldDescriptor (TJx4a65c k).2.2.1 = some (tyJx4a65c k) := by decide +kernel
abbrev cJx4a65c_init_da8c8 : ByteArray := prog_25_method_2_code
def yJx4a65c_init_da8c8 : MethodName := ⟨RJx4a65c, "<init>", "()V"⟩
abbrev cJx4a65c_init_4bcb3 : ByteArray := prog_25_method_3_code
def yJx4a65c_init_4bcb3 : MethodName := ⟨RJx4a65c, "<init>", "(Ljava/util/Collection;)V"⟩
abbrev cJx4a65c_grow_92f84 : ByteArray := prog_25_method_6_code
def yJx4a65c_grow_92f84 : MethodName := ⟨RJx4a65c, "grow", "(I)[Ljava/lang/Object;"⟩
abbrev cJx4a65c_grow_d5877 : ByteArray := prog_25_method_7_code
def yJx4a65c_grow_d5877 : MethodName := ⟨RJx4a65c, "grow", "()[Ljava/lang/Object;"⟩
abbrev cJx4a65c_size_8abf5 : ByteArray := prog_25_method_8_code
def yJx4a65c_size_8abf5 : MethodName := ⟨RJx4a65c, "size", "()I"⟩
abbrev cJx4a65c_toArray_d5877 : ByteArray := prog_25_method_16_code
def yJx4a65c_toArray_d5877 : MethodName := ⟨RJx4a65c, "toArray", "()[Ljava/lang/Object;"⟩
abbrev cJx4a65c_elementData_915e3 : ByteArray := prog_25_method_18_code
def yJx4a65c_elementData_915e3 : MethodName := ⟨RJx4a65c, "elementData", "(I)Ljava/lang/Object;"⟩
abbrev cJx4a65c_get_915e3 : ByteArray := prog_25_method_20_code
def yJx4a65c_get_915e3 : MethodName := ⟨RJx4a65c, "get", "(I)Ljava/lang/Object;"⟩
abbrev cJx4a65c_set_bcc79 : ByteArray := prog_25_method_23_code
def yJx4a65c_set_bcc79 : MethodName := ⟨RJx4a65c, "set", "(ILjava/lang/Object;)Ljava/lang/Object;"⟩
abbrev cJx4a65c_add_72be8 : ByteArray := prog_25_method_24_code
def yJx4a65c_add_72be8 : MethodName := ⟨RJx4a65c, "add", "(Ljava/lang/Object;[Ljava/lang/Object;I)V"⟩
abbrev cJx4a65c_add_9ea2d : ByteArray := prog_25_method_25_code
def yJx4a65c_add_9ea2d : MethodName := ⟨RJx4a65c, "add", "(Ljava/lang/Object;)Z"⟩
abbrev cJx4a65c_iterator_32c93 : ByteArray := prog_25_method_55_code
def yJx4a65c_iterator_32c93 : MethodName := ⟨RJx4a65c, "iterator", "()Ljava/util/Iterator;"⟩
def RJ7 : String := "java/util/Arrays"
def TJ7 : u_T := fun k => match k with
  | _ => ("", "", "", false)
def tyJ7 : Nat → FieldType := fun k => match k with
  | _ => .int
abbrev wsJ70 : List Cond := u_ws RJ7 TJ7 0
theorem nmJ7 : ∀ a, a < 0 → ∀ b, b < 0 → a ≠ b → (TJ7 a).2.1 ≠ (TJ7 b).2.1 := by decide +kernel
theorem tyJ7_ok : ∀ k, k < 0 → parseFieldDescriptor (TJ7 k).2.2.1 = some (tyJ7 k) := by decide +kernel
abbrev cJ7_copyOf_1904c : ByteArray := prog_27_method_119_code
def yJ7_copyOf_1904c : MethodName := ⟨RJ7, "copyOf", "([Ljava/lang/Object;I)[Ljava/lang/Object;"⟩
abbrev cJ7_copyOf_6403c : ByteArray := prog_27_method_120_code
def yJ7_copyOf_6403c : MethodName := ⟨RJ7, "copyOf", "([Ljava/lang/Object;ILjava/lang/Class;)[Ljava/lang/Object;"⟩
def RJx5ef63 : String := "java/util/Collection"
def TJx5ef63 : u_T := fun k => match k with
  | _ => ("", "", "", false)
def tyJx5ef63 : Nat → FieldType := fun k => match k with
  | _ => .int
abbrev wsJx5ef630 : List Cond := u_ws RJx5ef63 TJx5ef63 0
theorem nmJx5ef63 : ∀ a, a < 0 → ∀ b, b < 0 → a ≠ b → (TJx5ef63 a).2.1 ≠ (TJx5ef63 b).2.1 := by decide +kernel
theorem tyJx5ef63_ok : ∀ k, k < 0 → parseFieldDescriptor (TJx5ef63 k).2.2.1 = some (tyJx5ef63 k) := by decide +kernel
def RJx4d0d8 : String := "java/util/Iterator"
def TJx4d0d8 : u_T := fun k => match k with
  | _ => ("", "", "", false)
def tyJx4d0d8 : Nat → FieldType := fun k => match k with
  | _ => .int
abbrev wsJx4d0d80 : List Cond := u_ws RJx4d0d8 TJx4d0d8 0
theorem nmJx4d0d8 : ∀ a, a < 0 → ∀ b, b < 0 → a ≠ b → (TJx4d0d8 a).2.1 ≠ (TJx4d0d8 b).2.1 := by decide +kernel
theorem tyJx4d0d8_ok : ∀ k, k < 0 → parseFieldDescriptor (TJx4d0d8 k).2.2.1 = some (tyJx4d0d8 k) := by decide +kernel
def RJxbd725 : String := "java/util/List"
def TJxbd725 : u_T := fun k => match k with
  | _ => ("", "", "", false)
def tyJxbd725 : Nat → FieldType := fun k => match k with
  | _ => .int
abbrev wsJxbd7250 : List Cond := u_ws RJxbd725 TJxbd725 0
theorem nmJxbd725 : ∀ a, a < 0 → ∀ b, b < 0 → a ≠ b → (TJxbd725 a).2.1 ≠ (TJxbd725 b).2.1 := by decide +kernel
theorem tyJxbd725_ok : ∀ k, k < 0 → parseFieldDescriptor (TJxbd725 k).2.2.1 = some (tyJxbd725 k) := by decide +kernel
def RJ15 : String := "java/util/Objects"
def TJ15 : u_T := fun k => match k with
  | _ => ("", "", "", false)
def tyJ15 : Nat → FieldType := fun k => match k with
  | _ => .int
abbrev wsJ150 : List Cond := u_ws RJ15 TJ15 0
theorem nmJ15 : ∀ a, a < 0 → ∀ b, b < 0 → a ≠ b → (TJ15 a).2.1 ≠ (TJ15 b).2.1 := by decide +kernel
theorem tyJ15_ok : ∀ k, k < 0 → parseFieldDescriptor (TJ15 k).2.2.1 = some (tyJ15 k) := by decide +kernel
abbrev cJ15_checkIndex_7cf53 : ByteArray := prog_31_method_17_code
def yJ15_checkIndex_7cf53 : MethodName := ⟨RJ15, "checkIndex", "(II)I"⟩
def RJxf0a74 : String := "java/util/RandomAccess"
def TJxf0a74 : u_T := fun k => match k with
  | _ => ("", "", "", false)
def tyJxf0a74 : Nat → FieldType := fun k => match k with
  | _ => .int
abbrev wsJxf0a740 : List Cond := u_ws RJxf0a74 TJxf0a74 0
theorem nmJxf0a74 : ∀ a, a < 0 → ∀ b, b < 0 → a ≠ b → (TJxf0a74 a).2.1 ≠ (TJxf0a74 b).2.1 := by decide +kernel
theorem tyJxf0a74_ok : ∀ k, k < 0 → parseFieldDescriptor (TJxf0a74 k).2.2.1 = some (tyJxf0a74 k) := by decide +kernel
def RJxa66e6 : String := "java/util/SequencedCollection"
def TJxa66e6 : u_T := fun k => match k with
  | _ => ("", "", "", false)
def tyJxa66e6 : Nat → FieldType := fun k => match k with
  | _ => .int
abbrev wsJxa66e60 : List Cond := u_ws RJxa66e6 TJxa66e6 0
theorem nmJxa66e6 : ∀ a, a < 0 → ∀ b, b < 0 → a ≠ b → (TJxa66e6 a).2.1 ≠ (TJxa66e6 b).2.1 := by decide +kernel
theorem tyJxa66e6_ok : ∀ k, k < 0 → parseFieldDescriptor (TJxa66e6 k).2.2.1 = some (tyJxa66e6 k) := by decide +kernel
def RJ8 : String := "jdk/internal/util/ArraysSupport"
def TJ8 : u_T := fun k => match k with
  | _ => ("", "", "", false)
def tyJ8 : Nat → FieldType := fun k => match k with
  | _ => .int
abbrev wsJ80 : List Cond := u_ws RJ8 TJ8 0
theorem nmJ8 : ∀ a, a < 0 → ∀ b, b < 0 → a ≠ b → (TJ8 a).2.1 ≠ (TJ8 b).2.1 := by decide +kernel
theorem tyJ8_ok : ∀ k, k < 0 → parseFieldDescriptor (TJ8 k).2.2.1 = some (tyJ8 k) := by decide +kernel
abbrev cJ8_newLength_cabcc : ByteArray := prog_34_method_27_code
def yJ8_newLength_cabcc : MethodName := ⟨RJ8, "newLength", "(III)I"⟩
abbrev cJ8_hugeLength_7cf53 : ByteArray := prog_34_method_28_code
def yJ8_hugeLength_7cf53 : MethodName := ⟨RJ8, "hugeLength", "(II)I"⟩
def RJ3 : String := "jdk/internal/util/Preconditions"
def TJ3 : u_T := fun k => match k with
  | _ => ("", "", "", false)
def tyJ3 : Nat → FieldType := fun k => match k with
  | _ => .int
abbrev wsJ30 : List Cond := u_ws RJ3 TJ3 0
theorem nmJ3 : ∀ a, a < 0 → ∀ b, b < 0 → a ≠ b → (TJ3 a).2.1 ≠ (TJ3 b).2.1 := by decide +kernel
theorem tyJ3_ok : ∀ k, k < 0 → parseFieldDescriptor (TJ3 k).2.2.1 = some (tyJ3 k) := by decide +kernel
abbrev cJ3_checkIndex_8e157 : ByteArray := prog_35_method_11_code
def yJ3_checkIndex_8e157 : MethodName := ⟨RJ3, "checkIndex", "(IILjava/util/function/BiFunction;)I"⟩
def RL : String := "KelirnightLaw"
abbrev cL_person : ByteArray := method_3_code
def yL_person : MethodName := ⟨RL, "person", "(LKelirnight;IIIIIZ[J)I"⟩
abbrev cL_figure : ByteArray := method_4_code
def yL_figure : MethodName := ⟨RL, "figure", "(LKelirnight;II[J)I"⟩
abbrev cL_scene : ByteArray := method_5_code
def yL_scene : MethodName := ⟨RL, "scene", "(LKelirnight;IIIIII[J)I"⟩
abbrev cL_length : ByteArray := method_6_code
def yL_length : MethodName := ⟨RL, "length", "(LKelirnight;II[J)I"⟩
abbrev cL_swap : ByteArray := method_7_code
def yL_swap : MethodName := ⟨RL, "swap", "(LKelirnight;II[J)I"⟩
abbrev cL_lamp : ByteArray := method_8_code
def yL_lamp : MethodName := ⟨RL, "lamp", "(LKelirnight;II[J)I"⟩
abbrev cL_grip : ByteArray := method_9_code
def yL_grip : MethodName := ⟨RL, "grip", "(LKelirnight;I[J)I"⟩
abbrev cL_move : ByteArray := method_10_code
def yL_move : MethodName := ⟨RL, "move", "(LKelirnight;II[J)I"⟩
abbrev cL_lift : ByteArray := method_11_code
def yL_lift : MethodName := ⟨RL, "lift", "(LKelirnight;II[J)I"⟩
abbrev cL_plant : ByteArray := method_12_code
def yL_plant : MethodName := ⟨RL, "plant", "(LKelirnight;I[J)I"⟩
abbrev cL_hand : ByteArray := method_13_code
def yL_hand : MethodName := ⟨RL, "hand", "(LKelirnight;I[J)I"⟩
abbrev cL_away : ByteArray := method_14_code
def yL_away : MethodName := ⟨RL, "away", "(LKelirnight;I[J)I"⟩
abbrev cL_tap : ByteArray := method_15_code
def yL_tap : MethodName := ⟨RL, "tap", "(LKelirnight;I[J)I"⟩
abbrev cL_speak : ByteArray := method_16_code
def yL_speak : MethodName := ⟨RL, "speak", "(LKelirnight;IIII[J)I"⟩
abbrev cL_joke : ByteArray := method_17_code
def yL_joke : MethodName := ⟨RL, "joke", "(LKelirnight;I[J)I"⟩
abbrev cL_offer : ByteArray := method_18_code
def yL_offer : MethodName := ⟨RL, "offer", "(LKelirnight;[J)I"⟩
abbrev cL_pass : ByteArray := method_19_code
def yL_pass : MethodName := ⟨RL, "pass", "(LKelirnight;I[J)I"⟩
abbrev cL_knows : ByteArray := method_20_code
def yL_knows : MethodName := ⟨RL, "knows", "(LKelirnight;II[J)I"⟩
abbrev cL_ofFigure : ByteArray := method_21_code
def yL_ofFigure : MethodName := ⟨RL, "ofFigure", "(LKelirnight;II[J)I"⟩
abbrev cL_ofScene : ByteArray := method_22_code
def yL_ofScene : MethodName := ⟨RL, "ofScene", "(LKelirnight;II[J)I"⟩
abbrev cL_at : ByteArray := method_23_code
def yL_at : MethodName := ⟨RL, "at", "(LKelirnight;I[J)I"⟩
abbrev cL_sound : ByteArray := method_24_code
def yL_sound : MethodName := ⟨RL, "sound", "(LKelirnight;I[J)I"⟩
abbrev cL_many : ByteArray := method_25_code
def yL_many : MethodName := ⟨RL, "many", "(LKelirnight;I[J)I"⟩
abbrev cL_liftFor : ByteArray := method_26_code
def yL_liftFor : MethodName := ⟨RL, "liftFor", "(LKelirnight;II[J)I"⟩
abbrev cL_law : ByteArray := code
def yL_law : MethodName := ⟨RL, "law", "([I)Z"⟩
set_option maxRecDepth 20000 in
theorem wsL_law_x0 : ∀ w ∈ (vx_atS RX6 60 "java/lang/IllegalArgumentException" ["java/lang/RuntimeException", "java/lang/Exception"]).filter goodWord, w ∈ lw_tbl := by decide +kernel
theorem wsL_law_x1 : ∀ w ∈ (vx_atS RX6 77 "java/lang/IllegalStateException" ["java/lang/RuntimeException", "java/lang/Exception"]).filter goodWord, w ∈ lw_tbl := by decide +kernel
theorem wsL_law_x2 : ∀ w ∈ (vx_atS RX6 95 "java/lang/IndexOutOfBoundsException" ["java/lang/RuntimeException", "java/lang/Exception"]).filter goodWord, w ∈ lw_tbl := by decide +kernel
theorem inX0 : ∀ w ∈ wsX00, w ∈ lw_tbl := by decide +kernel
theorem inX1 : ∀ w ∈ wsX10, w ∈ lw_tbl := by decide +kernel
theorem inX2 : ∀ w ∈ wsX20, w ∈ lw_tbl := by decide +kernel
theorem inX3 : ∀ w ∈ wsX30, w ∈ lw_tbl := by decide +kernel
theorem inX4 : ∀ w ∈ wsX40, w ∈ lw_tbl := by decide +kernel
theorem inX5 : ∀ w ∈ wsX50, w ∈ lw_tbl := by decide +kernel
theorem inX6 : ∀ w ∈ wsX60, w ∈ lw_tbl := by decide +kernel
theorem inX7 : ∀ w ∈ wsX70, w ∈ lw_tbl := by decide +kernel
theorem inJx145de : ∀ w ∈ wsJx145de0, w ∈ lw_tbl := by decide +kernel
theorem inJx8e188 : ∀ w ∈ wsJx8e1880, w ∈ lw_tbl := by decide +kernel
theorem inJ6 : ∀ w ∈ wsJ60, w ∈ lw_tbl := by decide +kernel
theorem inJxab1ab : ∀ w ∈ wsJxab1ab0, w ∈ lw_tbl := by decide +kernel
theorem inJ9 : ∀ w ∈ wsJ90, w ∈ lw_tbl := by decide +kernel
theorem inJ0 : ∀ w ∈ wsJ00, w ∈ lw_tbl := by decide +kernel
theorem inJ10 : ∀ w ∈ wsJ100, w ∈ lw_tbl := by decide +kernel
theorem inJxa1e45 : ∀ w ∈ wsJxa1e450, w ∈ lw_tbl := by decide +kernel
theorem inJxc12de : ∀ w ∈ wsJxc12de0, w ∈ lw_tbl := by decide +kernel
theorem inJx35411 : ∀ w ∈ wsJx354110, w ∈ lw_tbl := by decide +kernel
theorem inJx4a65c : ∀ w ∈ wsJx4a65c0, w ∈ lw_tbl := by decide +kernel
theorem inJ7 : ∀ w ∈ wsJ70, w ∈ lw_tbl := by decide +kernel
theorem inJx5ef63 : ∀ w ∈ wsJx5ef630, w ∈ lw_tbl := by decide +kernel
theorem inJx4d0d8 : ∀ w ∈ wsJx4d0d80, w ∈ lw_tbl := by decide +kernel
theorem inJxbd725 : ∀ w ∈ wsJxbd7250, w ∈ lw_tbl := by decide +kernel
theorem inJ15 : ∀ w ∈ wsJ150, w ∈ lw_tbl := by decide +kernel
theorem inJxf0a74 : ∀ w ∈ wsJxf0a740, w ∈ lw_tbl := by decide +kernel
theorem inJxa66e6 : ∀ w ∈ wsJxa66e60, w ∈ lw_tbl := by decide +kernel
theorem inJ8 : ∀ w ∈ wsJ80, w ∈ lw_tbl := by decide +kernel
theorem inJ3 : ∀ w ∈ wsJ30, w ∈ lw_tbl := by decide +kernel
abbrev vwCl : List vw_C := [(RJx35411, TJx35411, 4), (RJx4a65c, TJx4a65c, 3), (RX0, TX0, 7), (RX1, TX1, 5), (RX2, TX2, 6), (RX3, TX3, 5), (RX4, TX4, 10), (RX5, TX5, 3), (RX6, TX6, 10), (RX7, TX7, 19)]
end
section
theorem dX0_init_0 : decode cX0_init 0 = .ok (.aload_n 0, 1) := by decide +kernel
theorem dX0_init_1 : decode cX0_init 1 = .ok (.invokespecial 3, 3) := by decide +kernel
theorem dX0_init_4 : decode cX0_init 4 = .ok (.aload_n 0, 1) := by decide +kernel
theorem dX0_init_5 : decode cX0_init 5 = .ok (.iconst 0, 1) := by decide +kernel
theorem dX0_init_6 : decode cX0_init 6 = .ok (.putfield 9, 3) := by decide +kernel
theorem dX0_init_9 : decode cX0_init 9 = .ok (.aload_n 0, 1) := by decide +kernel
theorem dX0_init_10 : decode cX0_init 10 = .ok (.iconst 0, 1) := by decide +kernel
theorem dX0_init_11 : decode cX0_init 11 = .ok (.putfield 15, 3) := by decide +kernel
theorem dX0_init_14 : decode cX0_init 14 = .ok (.aload_n 0, 1) := by decide +kernel
theorem dX0_init_15 : decode cX0_init 15 = .ok (.iconst (-1), 1) := by decide +kernel
theorem dX0_init_16 : decode cX0_init 16 = .ok (.putfield 18, 3) := by decide +kernel
theorem dX0_init_19 : decode cX0_init 19 = .ok (.aload_n 0, 1) := by decide +kernel
theorem dX0_init_20 : decode cX0_init 20 = .ok (.iconst 0, 1) := by decide +kernel
theorem dX0_init_21 : decode cX0_init 21 = .ok (.putfield 21, 3) := by decide +kernel
theorem dX0_init_24 : decode cX0_init 24 = .ok (.aload_n 0, 1) := by decide +kernel
theorem dX0_init_25 : decode cX0_init 25 = .ok (.iload_n 1, 1) := by decide +kernel
theorem dX0_init_26 : decode cX0_init 26 = .ok (.putfield 24, 3) := by decide +kernel
theorem dX0_init_29 : decode cX0_init 29 = .ok (.aload_n 0, 1) := by decide +kernel
theorem dX0_init_30 : decode cX0_init 30 = .ok (.iload_n 2, 1) := by decide +kernel
theorem dX0_init_31 : decode cX0_init 31 = .ok (.putfield 27, 3) := by decide +kernel
theorem dX0_init_34 : decode cX0_init 34 = .ok (.aload_n 0, 1) := by decide +kernel
theorem dX0_init_35 : decode cX0_init 35 = .ok (.iload_n 3, 1) := by decide +kernel
theorem dX0_init_36 : decode cX0_init 36 = .ok (.putfield 30, 3) := by decide +kernel
theorem dX0_init_39 : decode cX0_init 39 = .ok (.return_, 1) := by decide +kernel
theorem dX0_inHand_0 : decode cX0_inHand 0 = .ok (.aload_n 0, 1) := by decide +kernel
theorem dX0_inHand_1 : decode cX0_inHand 1 = .ok (.getfield 15, 3) := by decide +kernel
theorem dX0_inHand_4 : decode cX0_inHand 4 = .ok (.iconst 2, 1) := by decide +kernel
theorem dX0_inHand_5 : decode cX0_inHand 5 = .ok (.if_icmp .eq 11, 3) := by decide +kernel
theorem dX0_inHand_8 : decode cX0_inHand 8 = .ok (.aload_n 0, 1) := by decide +kernel
theorem dX0_inHand_9 : decode cX0_inHand 9 = .ok (.getfield 15, 3) := by decide +kernel
theorem dX0_inHand_12 : decode cX0_inHand 12 = .ok (.iconst 3, 1) := by decide +kernel
theorem dX0_inHand_13 : decode cX0_inHand 13 = .ok (.if_icmp .ne 7, 3) := by decide +kernel
theorem dX0_inHand_16 : decode cX0_inHand 16 = .ok (.iconst 1, 1) := by decide +kernel
theorem dX0_inHand_17 : decode cX0_inHand 17 = .ok (.goto 4, 3) := by decide +kernel
theorem dX0_inHand_20 : decode cX0_inHand 20 = .ok (.iconst 0, 1) := by decide +kernel
theorem dX0_inHand_21 : decode cX0_inHand 21 = .ok (.ireturn, 1) := by decide +kernel
theorem dX0_shown_0 : decode cX0_shown 0 = .ok (.aload_n 0, 1) := by decide +kernel
theorem dX0_shown_1 : decode cX0_shown 1 = .ok (.getfield 15, 3) := by decide +kernel
theorem dX0_shown_4 : decode cX0_shown 4 = .ok (.ifCond .eq 7, 3) := by decide +kernel
theorem dX0_shown_7 : decode cX0_shown 7 = .ok (.iconst 1, 1) := by decide +kernel
theorem dX0_shown_8 : decode cX0_shown 8 = .ok (.goto 4, 3) := by decide +kernel
theorem dX0_shown_11 : decode cX0_shown 11 = .ok (.iconst 0, 1) := by decide +kernel
theorem dX0_shown_12 : decode cX0_shown 12 = .ok (.ireturn, 1) := by decide +kernel
theorem dX0_wearBy_0 : decode cX0_wearBy 0 = .ok (.aload_n 0, 1) := by decide +kernel
theorem dX0_wearBy_1 : decode cX0_wearBy 1 = .ok (.bipush 100, 2) := by decide +kernel
theorem dX0_wearBy_3 : decode cX0_wearBy 3 = .ok (.aload_n 0, 1) := by decide +kernel
theorem dX0_wearBy_4 : decode cX0_wearBy 4 = .ok (.getfield 9, 3) := by decide +kernel
theorem dX0_wearBy_7 : decode cX0_wearBy 7 = .ok (.iload_n 1, 1) := by decide +kernel
theorem dX0_wearBy_8 : decode cX0_wearBy 8 = .ok (.iadd, 1) := by decide +kernel
theorem dX0_wearBy_9 : decode cX0_wearBy 9 = .ok (.invokestatic 33, 3) := by decide +kernel
theorem dX0_wearBy_12 : decode cX0_wearBy 12 = .ok (.putfield 9, 3) := by decide +kernel
theorem dX0_wearBy_15 : decode cX0_wearBy 15 = .ok (.return_, 1) := by decide +kernel
theorem dX1_init_0 : decode cX1_init 0 = .ok (.aload_n 0, 1) := by decide +kernel
theorem dX1_init_1 : decode cX1_init 1 = .ok (.invokespecial 3, 3) := by decide +kernel
theorem dX1_init_4 : decode cX1_init 4 = .ok (.aload_n 0, 1) := by decide +kernel
theorem dX1_init_5 : decode cX1_init 5 = .ok (.iconst (-1), 1) := by decide +kernel
theorem dX1_init_6 : decode cX1_init 6 = .ok (.putfield 9, 3) := by decide +kernel
theorem dX1_init_9 : decode cX1_init 9 = .ok (.aload_n 0, 1) := by decide +kernel
theorem dX1_init_10 : decode cX1_init 10 = .ok (.iconst 0, 1) := by decide +kernel
theorem dX1_init_11 : decode cX1_init 11 = .ok (.putfield 15, 3) := by decide +kernel
theorem dX1_init_14 : decode cX1_init 14 = .ok (.aload_n 0, 1) := by decide +kernel
theorem dX1_init_15 : decode cX1_init 15 = .ok (.iconst 0, 1) := by decide +kernel
theorem dX1_init_16 : decode cX1_init 16 = .ok (.putfield 18, 3) := by decide +kernel
theorem dX1_init_19 : decode cX1_init 19 = .ok (.aload_n 0, 1) := by decide +kernel
theorem dX1_init_20 : decode cX1_init 20 = .ok (.iconst 0, 1) := by decide +kernel
theorem dX1_init_21 : decode cX1_init 21 = .ok (.putfield 21, 3) := by decide +kernel
theorem dX1_init_24 : decode cX1_init 24 = .ok (.aload_n 0, 1) := by decide +kernel
theorem dX1_init_25 : decode cX1_init 25 = .ok (.iconst 0, 1) := by decide +kernel
theorem dX1_init_26 : decode cX1_init 26 = .ok (.putfield 24, 3) := by decide +kernel
theorem dX1_init_29 : decode cX1_init 29 = .ok (.return_, 1) := by decide +kernel
theorem dX1_begin_0 : decode cX1_begin 0 = .ok (.aload_n 0, 1) := by decide +kernel
theorem dX1_begin_1 : decode cX1_begin 1 = .ok (.getfield 9, 3) := by decide +kernel
theorem dX1_begin_4 : decode cX1_begin 4 = .ok (.iconst (-1), 1) := by decide +kernel
theorem dX1_begin_5 : decode cX1_begin 5 = .ok (.if_icmp .eq 5, 3) := by decide +kernel
theorem dX1_begin_8 : decode cX1_begin 8 = .ok (.iconst 0, 1) := by decide +kernel
theorem dX1_begin_9 : decode cX1_begin 9 = .ok (.ireturn, 1) := by decide +kernel
theorem dX1_begin_10 : decode cX1_begin 10 = .ok (.aload_n 0, 1) := by decide +kernel
theorem dX1_begin_11 : decode cX1_begin 11 = .ok (.iload_n 1, 1) := by decide +kernel
theorem dX1_begin_12 : decode cX1_begin 12 = .ok (.putfield 9, 3) := by decide +kernel
theorem dX1_begin_15 : decode cX1_begin 15 = .ok (.aload_n 0, 1) := by decide +kernel
theorem dX1_begin_16 : decode cX1_begin 16 = .ok (.iconst 1, 1) := by decide +kernel
theorem dX1_begin_17 : decode cX1_begin 17 = .ok (.putfield 15, 3) := by decide +kernel
theorem dX1_begin_20 : decode cX1_begin 20 = .ok (.iconst 1, 1) := by decide +kernel
theorem dX1_begin_21 : decode cX1_begin 21 = .ok (.ireturn, 1) := by decide +kernel
theorem dX1_bid_0 : decode cX1_bid 0 = .ok (.aload_n 0, 1) := by decide +kernel
theorem dX1_bid_1 : decode cX1_bid 1 = .ok (.getfield 9, 3) := by decide +kernel
theorem dX1_bid_4 : decode cX1_bid 4 = .ok (.iconst (-1), 1) := by decide +kernel
theorem dX1_bid_5 : decode cX1_bid 5 = .ok (.if_icmp .ne 5, 3) := by decide +kernel
theorem dX1_bid_8 : decode cX1_bid 8 = .ok (.iconst 0, 1) := by decide +kernel
theorem dX1_bid_9 : decode cX1_bid 9 = .ok (.ireturn, 1) := by decide +kernel
theorem dX1_bid_10 : decode cX1_bid 10 = .ok (.aload_n 0, 1) := by decide +kernel
theorem dX1_bid_11 : decode cX1_bid 11 = .ok (.iload_n 1, 1) := by decide +kernel
theorem dX1_bid_12 : decode cX1_bid 12 = .ok (.putfield 21, 3) := by decide +kernel
theorem dX1_bid_15 : decode cX1_bid 15 = .ok (.iconst 1, 1) := by decide +kernel
theorem dX1_bid_16 : decode cX1_bid 16 = .ok (.ireturn, 1) := by decide +kernel
theorem dX1_playMinute_0 : decode cX1_playMinute 0 = .ok (.aload_n 0, 1) := by decide +kernel
theorem dX1_playMinute_1 : decode cX1_playMinute 1 = .ok (.invokevirtual 27, 3) := by decide +kernel
theorem dX1_playMinute_4 : decode cX1_playMinute 4 = .ok (.istore_n 1, 1) := by decide +kernel
theorem dX1_playMinute_5 : decode cX1_playMinute 5 = .ok (.iconst 0, 1) := by decide +kernel
theorem dX1_playMinute_6 : decode cX1_playMinute 6 = .ok (.istore_n 2, 1) := by decide +kernel
theorem dX1_playMinute_7 : decode cX1_playMinute 7 = .ok (.iload_n 2, 1) := by decide +kernel
theorem dX1_playMinute_8 : decode cX1_playMinute 8 = .ok (.iload_n 1, 1) := by decide +kernel
theorem dX1_playMinute_9 : decode cX1_playMinute 9 = .ok (.if_icmp .ge 42, 3) := by decide +kernel
theorem dX1_playMinute_12 : decode cX1_playMinute 12 = .ok (.aload_n 0, 1) := by decide +kernel
theorem dX1_playMinute_13 : decode cX1_playMinute 13 = .ok (.getfield 9, 3) := by decide +kernel
theorem dX1_playMinute_16 : decode cX1_playMinute 16 = .ok (.iconst (-1), 1) := by decide +kernel
theorem dX1_playMinute_17 : decode cX1_playMinute 17 = .ok (.if_icmp .eq 34, 3) := by decide +kernel
theorem dX1_playMinute_20 : decode cX1_playMinute 20 = .ok (.aload_n 0, 1) := by decide +kernel
theorem dX1_playMinute_21 : decode cX1_playMinute 21 = .ok (.dup, 1) := by decide +kernel
theorem dX1_playMinute_22 : decode cX1_playMinute 22 = .ok (.getfield 18, 3) := by decide +kernel
theorem dX1_playMinute_25 : decode cX1_playMinute 25 = .ok (.iconst 1, 1) := by decide +kernel
theorem dX1_playMinute_26 : decode cX1_playMinute 26 = .ok (.iadd, 1) := by decide +kernel
theorem dX1_playMinute_27 : decode cX1_playMinute 27 = .ok (.putfield 18, 3) := by decide +kernel
theorem dX1_playMinute_30 : decode cX1_playMinute 30 = .ok (.aload_n 0, 1) := by decide +kernel
theorem dX1_playMinute_31 : decode cX1_playMinute 31 = .ok (.getfield 18, 3) := by decide +kernel
theorem dX1_playMinute_34 : decode cX1_playMinute 34 = .ok (.aload_n 0, 1) := by decide +kernel
theorem dX1_playMinute_35 : decode cX1_playMinute 35 = .ok (.invokevirtual 31, 3) := by decide +kernel
theorem dX1_playMinute_38 : decode cX1_playMinute 38 = .ok (.if_icmp .ne 7, 3) := by decide +kernel
theorem dX1_playMinute_41 : decode cX1_playMinute 41 = .ok (.aload_n 0, 1) := by decide +kernel
theorem dX1_playMinute_42 : decode cX1_playMinute 42 = .ok (.invokevirtual 34, 3) := by decide +kernel
theorem dX1_playMinute_45 : decode cX1_playMinute 45 = .ok (.iinc 2 1, 3) := by decide +kernel
theorem dX1_playMinute_48 : decode cX1_playMinute 48 = .ok (.goto (-41), 3) := by decide +kernel
theorem dX1_playMinute_51 : decode cX1_playMinute 51 = .ok (.return_, 1) := by decide +kernel
theorem dX1_minutesToGong_0 : decode cX1_minutesToGong 0 = .ok (.aload_n 0, 1) := by decide +kernel
theorem dX1_minutesToGong_1 : decode cX1_minutesToGong 1 = .ok (.invokevirtual 27, 3) := by decide +kernel
theorem dX1_minutesToGong_4 : decode cX1_minutesToGong 4 = .ok (.istore_n 1, 1) := by decide +kernel
theorem dX1_minutesToGong_5 : decode cX1_minutesToGong 5 = .ok (.iload_n 1, 1) := by decide +kernel
theorem dX1_minutesToGong_6 : decode cX1_minutesToGong 6 = .ok (.ifCond .gt 5, 3) := by decide +kernel
theorem dX1_minutesToGong_9 : decode cX1_minutesToGong 9 = .ok (.iconst (-1), 1) := by decide +kernel
theorem dX1_minutesToGong_10 : decode cX1_minutesToGong 10 = .ok (.ireturn, 1) := by decide +kernel
theorem dX1_minutesToGong_11 : decode cX1_minutesToGong 11 = .ok (.aload_n 0, 1) := by decide +kernel
theorem dX1_minutesToGong_12 : decode cX1_minutesToGong 12 = .ok (.invokevirtual 31, 3) := by decide +kernel
theorem dX1_minutesToGong_15 : decode cX1_minutesToGong 15 = .ok (.aload_n 0, 1) := by decide +kernel
theorem dX1_minutesToGong_16 : decode cX1_minutesToGong 16 = .ok (.getfield 18, 3) := by decide +kernel
theorem dX1_minutesToGong_19 : decode cX1_minutesToGong 19 = .ok (.isub, 1) := by decide +kernel
theorem dX1_minutesToGong_20 : decode cX1_minutesToGong 20 = .ok (.iload_n 1, 1) := by decide +kernel
theorem dX1_minutesToGong_21 : decode cX1_minutesToGong 21 = .ok (.iadd, 1) := by decide +kernel
theorem dX1_minutesToGong_22 : decode cX1_minutesToGong 22 = .ok (.iconst 1, 1) := by decide +kernel
theorem dX1_minutesToGong_23 : decode cX1_minutesToGong 23 = .ok (.isub, 1) := by decide +kernel
theorem dX1_minutesToGong_24 : decode cX1_minutesToGong 24 = .ok (.iload_n 1, 1) := by decide +kernel
theorem dX1_minutesToGong_25 : decode cX1_minutesToGong 25 = .ok (.idiv, 1) := by decide +kernel
theorem dX1_minutesToGong_26 : decode cX1_minutesToGong 26 = .ok (.ireturn, 1) := by decide +kernel
theorem dX1_value_0 : decode cX1_value 0 = .ok (.iload_n 1, 1) := by decide +kernel
theorem dX1_value_1 : decode cX1_value 1 = .ok (.tableswitch 42 0 2 #[27, 32, 37], 27) := by decide +kernel
theorem dX1_value_28 : decode cX1_value 28 = .ok (.aload_n 0, 1) := by decide +kernel
theorem dX1_value_29 : decode cX1_value 29 = .ok (.getfield 9, 3) := by decide +kernel
theorem dX1_value_32 : decode cX1_value 32 = .ok (.ireturn, 1) := by decide +kernel
theorem dX1_value_33 : decode cX1_value 33 = .ok (.aload_n 0, 1) := by decide +kernel
theorem dX1_value_34 : decode cX1_value 34 = .ok (.getfield 15, 3) := by decide +kernel
theorem dX1_value_37 : decode cX1_value 37 = .ok (.ireturn, 1) := by decide +kernel
theorem dX1_value_38 : decode cX1_value 38 = .ok (.aload_n 0, 1) := by decide +kernel
theorem dX1_value_39 : decode cX1_value 39 = .ok (.getfield 18, 3) := by decide +kernel
theorem dX1_value_42 : decode cX1_value 42 = .ok (.ireturn, 1) := by decide +kernel
theorem dX1_value_43 : decode cX1_value 43 = .ok (.aload_n 0, 1) := by decide +kernel
theorem dX1_value_44 : decode cX1_value 44 = .ok (.getfield 21, 3) := by decide +kernel
theorem dX1_value_47 : decode cX1_value 47 = .ok (.ireturn, 1) := by decide +kernel
theorem dX1_soundGong_0 : decode cX1_soundGong 0 = .ok (.aload_n 0, 1) := by decide +kernel
theorem dX1_soundGong_1 : decode cX1_soundGong 1 = .ok (.dup, 1) := by decide +kernel
theorem dX1_soundGong_2 : decode cX1_soundGong 2 = .ok (.getfield 24, 3) := by decide +kernel
theorem dX1_soundGong_5 : decode cX1_soundGong 5 = .ok (.iconst 1, 1) := by decide +kernel
theorem dX1_soundGong_6 : decode cX1_soundGong 6 = .ok (.iadd, 1) := by decide +kernel
theorem dX1_soundGong_7 : decode cX1_soundGong 7 = .ok (.putfield 24, 3) := by decide +kernel
theorem dX1_soundGong_10 : decode cX1_soundGong 10 = .ok (.aload_n 0, 1) := by decide +kernel
theorem dX1_soundGong_11 : decode cX1_soundGong 11 = .ok (.iconst 0, 1) := by decide +kernel
theorem dX1_soundGong_12 : decode cX1_soundGong 12 = .ok (.putfield 18, 3) := by decide +kernel
theorem dX1_soundGong_15 : decode cX1_soundGong 15 = .ok (.aload_n 0, 1) := by decide +kernel
theorem dX1_soundGong_16 : decode cX1_soundGong 16 = .ok (.getfield 21, 3) := by decide +kernel
theorem dX1_soundGong_19 : decode cX1_soundGong 19 = .ok (.iconst 1, 1) := by decide +kernel
theorem dX1_soundGong_20 : decode cX1_soundGong 20 = .ok (.if_icmp .ne 20, 3) := by decide +kernel
theorem dX1_soundGong_23 : decode cX1_soundGong 23 = .ok (.aload_n 0, 1) := by decide +kernel
theorem dX1_soundGong_24 : decode cX1_soundGong 24 = .ok (.iconst 3, 1) := by decide +kernel
theorem dX1_soundGong_25 : decode cX1_soundGong 25 = .ok (.aload_n 0, 1) := by decide +kernel
theorem dX1_soundGong_26 : decode cX1_soundGong 26 = .ok (.getfield 15, 3) := by decide +kernel
theorem dX1_soundGong_29 : decode cX1_soundGong 29 = .ok (.iconst 1, 1) := by decide +kernel
theorem dX1_soundGong_30 : decode cX1_soundGong 30 = .ok (.iadd, 1) := by decide +kernel
theorem dX1_soundGong_31 : decode cX1_soundGong 31 = .ok (.invokestatic 37, 3) := by decide +kernel
theorem dX1_soundGong_34 : decode cX1_soundGong 34 = .ok (.putfield 15, 3) := by decide +kernel
theorem dX1_soundGong_37 : decode cX1_soundGong 37 = .ok (.goto 46, 3) := by decide +kernel
theorem dX1_soundGong_40 : decode cX1_soundGong 40 = .ok (.aload_n 0, 1) := by decide +kernel
theorem dX1_soundGong_41 : decode cX1_soundGong 41 = .ok (.getfield 21, 3) := by decide +kernel
theorem dX1_soundGong_44 : decode cX1_soundGong 44 = .ok (.iconst 2, 1) := by decide +kernel
theorem dX1_soundGong_45 : decode cX1_soundGong 45 = .ok (.if_icmp .ne 20, 3) := by decide +kernel
theorem dX1_soundGong_48 : decode cX1_soundGong 48 = .ok (.aload_n 0, 1) := by decide +kernel
theorem dX1_soundGong_49 : decode cX1_soundGong 49 = .ok (.iconst 1, 1) := by decide +kernel
theorem dX1_soundGong_50 : decode cX1_soundGong 50 = .ok (.aload_n 0, 1) := by decide +kernel
theorem dX1_soundGong_51 : decode cX1_soundGong 51 = .ok (.getfield 15, 3) := by decide +kernel
theorem dX1_soundGong_54 : decode cX1_soundGong 54 = .ok (.iconst 1, 1) := by decide +kernel
theorem dX1_soundGong_55 : decode cX1_soundGong 55 = .ok (.isub, 1) := by decide +kernel
theorem dX1_soundGong_56 : decode cX1_soundGong 56 = .ok (.invokestatic 43, 3) := by decide +kernel
theorem dX1_soundGong_59 : decode cX1_soundGong 59 = .ok (.putfield 15, 3) := by decide +kernel
theorem dX1_soundGong_62 : decode cX1_soundGong 62 = .ok (.goto 21, 3) := by decide +kernel
theorem dX1_soundGong_65 : decode cX1_soundGong 65 = .ok (.aload_n 0, 1) := by decide +kernel
theorem dX1_soundGong_66 : decode cX1_soundGong 66 = .ok (.getfield 21, 3) := by decide +kernel
theorem dX1_soundGong_69 : decode cX1_soundGong 69 = .ok (.iconst 3, 1) := by decide +kernel
theorem dX1_soundGong_70 : decode cX1_soundGong 70 = .ok (.if_icmp .ne 13, 3) := by decide +kernel
theorem dX1_soundGong_73 : decode cX1_soundGong 73 = .ok (.aload_n 0, 1) := by decide +kernel
theorem dX1_soundGong_74 : decode cX1_soundGong 74 = .ok (.iconst (-1), 1) := by decide +kernel
theorem dX1_soundGong_75 : decode cX1_soundGong 75 = .ok (.putfield 9, 3) := by decide +kernel
theorem dX1_soundGong_78 : decode cX1_soundGong 78 = .ok (.aload_n 0, 1) := by decide +kernel
theorem dX1_soundGong_79 : decode cX1_soundGong 79 = .ok (.iconst 0, 1) := by decide +kernel
theorem dX1_soundGong_80 : decode cX1_soundGong 80 = .ok (.putfield 15, 3) := by decide +kernel
theorem dX1_soundGong_83 : decode cX1_soundGong 83 = .ok (.aload_n 0, 1) := by decide +kernel
theorem dX1_soundGong_84 : decode cX1_soundGong 84 = .ok (.iconst 0, 1) := by decide +kernel
theorem dX1_soundGong_85 : decode cX1_soundGong 85 = .ok (.putfield 21, 3) := by decide +kernel
theorem dX1_soundGong_88 : decode cX1_soundGong 88 = .ok (.return_, 1) := by decide +kernel
theorem dX1_beatsOfMinute_0 : decode cX1_beatsOfMinute 0 = .ok (.bipush 8, 2) := by decide +kernel
theorem dX1_beatsOfMinute_2 : decode cX1_beatsOfMinute 2 = .ok (.aload_n 0, 1) := by decide +kernel
theorem dX1_beatsOfMinute_3 : decode cX1_beatsOfMinute 3 = .ok (.getfield 15, 3) := by decide +kernel
theorem dX1_beatsOfMinute_6 : decode cX1_beatsOfMinute 6 = .ok (.imul, 1) := by decide +kernel
theorem dX1_beatsOfMinute_7 : decode cX1_beatsOfMinute 7 = .ok (.ireturn, 1) := by decide +kernel
theorem dX1_beatsOfCycle_0 : decode cX1_beatsOfCycle 0 = .ok (.aload_n 0, 1) := by decide +kernel
theorem dX1_beatsOfCycle_1 : decode cX1_beatsOfCycle 1 = .ok (.getfield 9, 3) := by decide +kernel
theorem dX1_beatsOfCycle_4 : decode cX1_beatsOfCycle 4 = .ok (.tableswitch 37 0 2 #[28, 31, 34], 28) := by decide +kernel
theorem dX1_beatsOfCycle_32 : decode cX1_beatsOfCycle 32 = .ok (.bipush 8, 2) := by decide +kernel
theorem dX1_beatsOfCycle_34 : decode cX1_beatsOfCycle 34 = .ok (.ireturn, 1) := by decide +kernel
theorem dX1_beatsOfCycle_35 : decode cX1_beatsOfCycle 35 = .ok (.bipush 16, 2) := by decide +kernel
theorem dX1_beatsOfCycle_37 : decode cX1_beatsOfCycle 37 = .ok (.ireturn, 1) := by decide +kernel
theorem dX1_beatsOfCycle_38 : decode cX1_beatsOfCycle 38 = .ok (.bipush 12, 2) := by decide +kernel
theorem dX1_beatsOfCycle_40 : decode cX1_beatsOfCycle 40 = .ok (.ireturn, 1) := by decide +kernel
theorem dX1_beatsOfCycle_41 : decode cX1_beatsOfCycle 41 = .ok (.bipush 32, 2) := by decide +kernel
theorem dX1_beatsOfCycle_43 : decode cX1_beatsOfCycle 43 = .ok (.ireturn, 1) := by decide +kernel
theorem dX2_init_0 : decode cX2_init 0 = .ok (.aload_n 0, 1) := by decide +kernel
theorem dX2_init_1 : decode cX2_init 1 = .ok (.invokespecial 1, 3) := by decide +kernel
theorem dX2_init_4 : decode cX2_init 4 = .ok (.aload_n 0, 1) := by decide +kernel
theorem dX2_init_5 : decode cX2_init 5 = .ok (.iload_n 1, 1) := by decide +kernel
theorem dX2_init_6 : decode cX2_init 6 = .ok (.putfield 7, 3) := by decide +kernel
theorem dX2_init_9 : decode cX2_init 9 = .ok (.aload_n 0, 1) := by decide +kernel
theorem dX2_init_10 : decode cX2_init 10 = .ok (.iload_n 2, 1) := by decide +kernel
theorem dX2_init_11 : decode cX2_init 11 = .ok (.putfield 13, 3) := by decide +kernel
theorem dX2_init_14 : decode cX2_init 14 = .ok (.aload_n 0, 1) := by decide +kernel
theorem dX2_init_15 : decode cX2_init 15 = .ok (.iload_n 3, 1) := by decide +kernel
theorem dX2_init_16 : decode cX2_init 16 = .ok (.putfield 16, 3) := by decide +kernel
theorem dX2_init_19 : decode cX2_init 19 = .ok (.aload_n 0, 1) := by decide +kernel
theorem dX2_init_20 : decode cX2_init 20 = .ok (.iload 4, 2) := by decide +kernel
theorem dX2_init_22 : decode cX2_init 22 = .ok (.putfield 19, 3) := by decide +kernel
theorem dX2_init_25 : decode cX2_init 25 = .ok (.aload_n 0, 1) := by decide +kernel
theorem dX2_init_26 : decode cX2_init 26 = .ok (.iload 5, 2) := by decide +kernel
theorem dX2_init_28 : decode cX2_init 28 = .ok (.putfield 22, 3) := by decide +kernel
theorem dX2_init_31 : decode cX2_init 31 = .ok (.aload_n 0, 1) := by decide +kernel
theorem dX2_init_32 : decode cX2_init 32 = .ok (.iload 6, 2) := by decide +kernel
theorem dX2_init_34 : decode cX2_init 34 = .ok (.putfield 25, 3) := by decide +kernel
theorem dX2_init_37 : decode cX2_init 37 = .ok (.return_, 1) := by decide +kernel
theorem dX2_livesIn_0 : decode cX2_livesIn 0 = .ok (.aload_n 0, 1) := by decide +kernel
theorem dX2_livesIn_1 : decode cX2_livesIn 1 = .ok (.getfield 19, 3) := by decide +kernel
theorem dX2_livesIn_4 : decode cX2_livesIn 4 = .ok (.iload_n 1, 1) := by decide +kernel
theorem dX2_livesIn_5 : decode cX2_livesIn 5 = .ok (.if_icmp .gt 15, 3) := by decide +kernel
theorem dX2_livesIn_8 : decode cX2_livesIn 8 = .ok (.iload_n 1, 1) := by decide +kernel
theorem dX2_livesIn_9 : decode cX2_livesIn 9 = .ok (.aload_n 0, 1) := by decide +kernel
theorem dX2_livesIn_10 : decode cX2_livesIn 10 = .ok (.getfield 22, 3) := by decide +kernel
theorem dX2_livesIn_13 : decode cX2_livesIn 13 = .ok (.if_icmp .gt 7, 3) := by decide +kernel
theorem dX2_livesIn_16 : decode cX2_livesIn 16 = .ok (.iconst 1, 1) := by decide +kernel
theorem dX2_livesIn_17 : decode cX2_livesIn 17 = .ok (.goto 4, 3) := by decide +kernel
theorem dX2_livesIn_20 : decode cX2_livesIn 20 = .ok (.iconst 0, 1) := by decide +kernel
theorem dX2_livesIn_21 : decode cX2_livesIn 21 = .ok (.ireturn, 1) := by decide +kernel
theorem dX3_init_0 : decode cX3_init 0 = .ok (.aload_n 0, 1) := by decide +kernel
theorem dX3_init_1 : decode cX3_init 1 = .ok (.invokespecial 3, 3) := by decide +kernel
theorem dX3_init_4 : decode cX3_init 4 = .ok (.aload_n 0, 1) := by decide +kernel
theorem dX3_init_5 : decode cX3_init 5 = .ok (.new 9, 3) := by decide +kernel
theorem dX3_init_8 : decode cX3_init 8 = .ok (.dup, 1) := by decide +kernel
theorem dX3_init_9 : decode cX3_init 9 = .ok (.invokespecial 11, 3) := by decide +kernel
theorem dX3_init_12 : decode cX3_init 12 = .ok (.putfield 12, 3) := by decide +kernel
theorem dX3_init_15 : decode cX3_init 15 = .ok (.aload_n 0, 1) := by decide +kernel
theorem dX3_init_16 : decode cX3_init 16 = .ok (.new 9, 3) := by decide +kernel
theorem dX3_init_19 : decode cX3_init 19 = .ok (.dup, 1) := by decide +kernel
theorem dX3_init_20 : decode cX3_init 20 = .ok (.invokespecial 11, 3) := by decide +kernel
theorem dX3_init_23 : decode cX3_init 23 = .ok (.putfield 18, 3) := by decide +kernel
theorem dX3_init_26 : decode cX3_init 26 = .ok (.aload_n 0, 1) := by decide +kernel
theorem dX3_init_27 : decode cX3_init 27 = .ok (.iconst 0, 1) := by decide +kernel
theorem dX3_init_28 : decode cX3_init 28 = .ok (.putfield 21, 3) := by decide +kernel
theorem dX3_init_31 : decode cX3_init 31 = .ok (.aload_n 0, 1) := by decide +kernel
theorem dX3_init_32 : decode cX3_init 32 = .ok (.iconst 0, 1) := by decide +kernel
theorem dX3_init_33 : decode cX3_init 33 = .ok (.putfield 25, 3) := by decide +kernel
theorem dX3_init_36 : decode cX3_init 36 = .ok (.aload_n 0, 1) := by decide +kernel
theorem dX3_init_37 : decode cX3_init 37 = .ok (.iconst 0, 1) := by decide +kernel
theorem dX3_init_38 : decode cX3_init 38 = .ok (.putfield 28, 3) := by decide +kernel
theorem dX3_init_41 : decode cX3_init 41 = .ok (.return_, 1) := by decide +kernel
theorem dX3_tell_0 : decode cX3_tell 0 = .ok (.aload_n 0, 1) := by decide +kernel
theorem dX3_tell_1 : decode cX3_tell 1 = .ok (.getfield 12, 3) := by decide +kernel
theorem dX3_tell_4 : decode cX3_tell 4 = .ok (.invokevirtual 31, 3) := by decide +kernel
theorem dX3_tell_7 : decode cX3_tell 7 = .ok (.istore_n 2, 1) := by decide +kernel
theorem dX3_tell_8 : decode cX3_tell 8 = .ok (.aload_n 0, 1) := by decide +kernel
theorem dX3_tell_9 : decode cX3_tell 9 = .ok (.getfield 12, 3) := by decide +kernel
theorem dX3_tell_12 : decode cX3_tell 12 = .ok (.aload_n 1, 1) := by decide +kernel
theorem dX3_tell_13 : decode cX3_tell 13 = .ok (.invokevirtual 35, 3) := by decide +kernel
theorem dX3_tell_16 : decode cX3_tell 16 = .ok (.pop, 1) := by decide +kernel
theorem dX3_tell_17 : decode cX3_tell 17 = .ok (.aload_n 1, 1) := by decide +kernel
theorem dX3_tell_18 : decode cX3_tell 18 = .ok (.getfield 39, 3) := by decide +kernel
theorem dX3_tell_21 : decode cX3_tell 21 = .ok (.ifCond .eq 15, 3) := by decide +kernel
theorem dX3_tell_24 : decode cX3_tell 24 = .ok (.aload_n 0, 1) := by decide +kernel
theorem dX3_tell_25 : decode cX3_tell 25 = .ok (.dup, 1) := by decide +kernel
theorem dX3_tell_26 : decode cX3_tell 26 = .ok (.getfield 21, 3) := by decide +kernel
theorem dX3_tell_29 : decode cX3_tell 29 = .ok (.iconst 1, 1) := by decide +kernel
theorem dX3_tell_30 : decode cX3_tell 30 = .ok (.iload_n 2, 1) := by decide +kernel
theorem dX3_tell_31 : decode cX3_tell 31 = .ok (.ishl, 1) := by decide +kernel
theorem dX3_tell_32 : decode cX3_tell 32 = .ok (.ior, 1) := by decide +kernel
theorem dX3_tell_33 : decode cX3_tell 33 = .ok (.putfield 21, 3) := by decide +kernel
theorem dX3_tell_36 : decode cX3_tell 36 = .ok (.aload_n 0, 1) := by decide +kernel
theorem dX3_tell_37 : decode cX3_tell 37 = .ok (.invokevirtual 44, 3) := by decide +kernel
theorem dX3_tell_40 : decode cX3_tell 40 = .ok (.iload_n 2, 1) := by decide +kernel
theorem dX3_tell_41 : decode cX3_tell 41 = .ok (.ireturn, 1) := by decide +kernel
theorem dX3_append_0 : decode cX3_append 0 = .ok (.aload_n 0, 1) := by decide +kernel
theorem dX3_append_1 : decode cX3_append 1 = .ok (.iload_n 1, 1) := by decide +kernel
theorem dX3_append_2 : decode cX3_append 2 = .ok (.iload_n 3, 1) := by decide +kernel
theorem dX3_append_3 : decode cX3_append 3 = .ok (.iload 5, 2) := by decide +kernel
theorem dX3_append_5 : decode cX3_append 5 = .ok (.invokevirtual 47, 3) := by decide +kernel
theorem dX3_append_8 : decode cX3_append 8 = .ok (.istore 7, 2) := by decide +kernel
theorem dX3_append_10 : decode cX3_append 10 = .ok (.aload_n 0, 1) := by decide +kernel
theorem dX3_append_11 : decode cX3_append 11 = .ok (.getfield 18, 3) := by decide +kernel
theorem dX3_append_14 : decode cX3_append 14 = .ok (.new 51, 3) := by decide +kernel
theorem dX3_append_17 : decode cX3_append 17 = .ok (.dup, 1) := by decide +kernel
theorem dX3_append_18 : decode cX3_append 18 = .ok (.iload_n 1, 1) := by decide +kernel
theorem dX3_append_19 : decode cX3_append 19 = .ok (.iload_n 2, 1) := by decide +kernel
theorem dX3_append_20 : decode cX3_append 20 = .ok (.iload_n 3, 1) := by decide +kernel
theorem dX3_append_21 : decode cX3_append 21 = .ok (.iload 4, 2) := by decide +kernel
theorem dX3_append_23 : decode cX3_append 23 = .ok (.iload 5, 2) := by decide +kernel
theorem dX3_append_25 : decode cX3_append 25 = .ok (.iload 6, 2) := by decide +kernel
theorem dX3_append_27 : decode cX3_append 27 = .ok (.iload 7, 2) := by decide +kernel
theorem dX3_append_29 : decode cX3_append 29 = .ok (.invokespecial 53, 3) := by decide +kernel
theorem dX3_append_32 : decode cX3_append 32 = .ok (.invokevirtual 35, 3) := by decide +kernel
theorem dX3_append_35 : decode cX3_append 35 = .ok (.pop, 1) := by decide +kernel
theorem dX3_append_36 : decode cX3_append 36 = .ok (.aload_n 0, 1) := by decide +kernel
theorem dX3_append_37 : decode cX3_append 37 = .ok (.invokevirtual 44, 3) := by decide +kernel
theorem dX3_append_40 : decode cX3_append 40 = .ok (.aload_n 0, 1) := by decide +kernel
theorem dX3_append_41 : decode cX3_append 41 = .ok (.getfield 18, 3) := by decide +kernel
theorem dX3_append_44 : decode cX3_append 44 = .ok (.invokevirtual 31, 3) := by decide +kernel
theorem dX3_append_47 : decode cX3_append 47 = .ok (.iconst 1, 1) := by decide +kernel
theorem dX3_append_48 : decode cX3_append 48 = .ok (.isub, 1) := by decide +kernel
theorem dX3_append_49 : decode cX3_append 49 = .ok (.ireturn, 1) := by decide +kernel
theorem dX3_changeLength_0 : decode cX3_changeLength 0 = .ok (.aload_n 0, 1) := by decide +kernel
theorem dX3_changeLength_1 : decode cX3_changeLength 1 = .ok (.getfield 18, 3) := by decide +kernel
theorem dX3_changeLength_4 : decode cX3_changeLength 4 = .ok (.iload_n 1, 1) := by decide +kernel
theorem dX3_changeLength_5 : decode cX3_changeLength 5 = .ok (.invokevirtual 56, 3) := by decide +kernel
theorem dX3_changeLength_8 : decode cX3_changeLength 8 = .ok (.checkcast 51, 3) := by decide +kernel
theorem dX3_changeLength_11 : decode cX3_changeLength 11 = .ok (.astore_n 3, 1) := by decide +kernel
theorem dX3_changeLength_12 : decode cX3_changeLength 12 = .ok (.aload_n 3, 1) := by decide +kernel
theorem dX3_changeLength_13 : decode cX3_changeLength 13 = .ok (.getfield 60, 3) := by decide +kernel
theorem dX3_changeLength_16 : decode cX3_changeLength 16 = .ok (.istore 4, 2) := by decide +kernel
theorem dX3_changeLength_18 : decode cX3_changeLength 18 = .ok (.aload_n 3, 1) := by decide +kernel
theorem dX3_changeLength_19 : decode cX3_changeLength 19 = .ok (.iload_n 2, 1) := by decide +kernel
theorem dX3_changeLength_20 : decode cX3_changeLength 20 = .ok (.putfield 60, 3) := by decide +kernel
theorem dX3_changeLength_23 : decode cX3_changeLength 23 = .ok (.aload_n 0, 1) := by decide +kernel
theorem dX3_changeLength_24 : decode cX3_changeLength 24 = .ok (.invokevirtual 44, 3) := by decide +kernel
theorem dX3_changeLength_27 : decode cX3_changeLength 27 = .ok (.iload 4, 2) := by decide +kernel
theorem dX3_changeLength_29 : decode cX3_changeLength 29 = .ok (.ireturn, 1) := by decide +kernel
theorem dX3_exchange_0 : decode cX3_exchange 0 = .ok (.aload_n 0, 1) := by decide +kernel
theorem dX3_exchange_1 : decode cX3_exchange 1 = .ok (.iload_n 1, 1) := by decide +kernel
theorem dX3_exchange_2 : decode cX3_exchange 2 = .ok (.iload_n 2, 1) := by decide +kernel
theorem dX3_exchange_3 : decode cX3_exchange 3 = .ok (.invokevirtual 63, 3) := by decide +kernel
theorem dX3_exchange_6 : decode cX3_exchange 6 = .ok (.aload_n 0, 1) := by decide +kernel
theorem dX3_exchange_7 : decode cX3_exchange 7 = .ok (.invokevirtual 44, 3) := by decide +kernel
theorem dX3_exchange_10 : decode cX3_exchange 10 = .ok (.return_, 1) := by decide +kernel
theorem dX3_bestExchange_0 : decode cX3_bestExchange 0 = .ok (.aload_n 0, 1) := by decide +kernel
theorem dX3_bestExchange_1 : decode cX3_bestExchange 1 = .ok (.getfield 25, 3) := by decide +kernel
theorem dX3_bestExchange_4 : decode cX3_bestExchange 4 = .ok (.istore_n 1, 1) := by decide +kernel
theorem dX3_bestExchange_5 : decode cX3_bestExchange 5 = .ok (.iconst (-1), 1) := by decide +kernel
theorem dX3_bestExchange_6 : decode cX3_bestExchange 6 = .ok (.istore_n 2, 1) := by decide +kernel
theorem dX3_bestExchange_7 : decode cX3_bestExchange 7 = .ok (.iconst 0, 1) := by decide +kernel
theorem dX3_bestExchange_8 : decode cX3_bestExchange 8 = .ok (.istore_n 3, 1) := by decide +kernel
theorem dX3_bestExchange_9 : decode cX3_bestExchange 9 = .ok (.iload_n 3, 1) := by decide +kernel
theorem dX3_bestExchange_10 : decode cX3_bestExchange 10 = .ok (.aload_n 0, 1) := by decide +kernel
theorem dX3_bestExchange_11 : decode cX3_bestExchange 11 = .ok (.getfield 18, 3) := by decide +kernel
theorem dX3_bestExchange_14 : decode cX3_bestExchange 14 = .ok (.invokevirtual 31, 3) := by decide +kernel
theorem dX3_bestExchange_17 : decode cX3_bestExchange 17 = .ok (.if_icmp .ge 67, 3) := by decide +kernel
theorem dX3_bestExchange_20 : decode cX3_bestExchange 20 = .ok (.iload_n 3, 1) := by decide +kernel
theorem dX3_bestExchange_21 : decode cX3_bestExchange 21 = .ok (.iconst 1, 1) := by decide +kernel
theorem dX3_bestExchange_22 : decode cX3_bestExchange 22 = .ok (.iadd, 1) := by decide +kernel
theorem dX3_bestExchange_23 : decode cX3_bestExchange 23 = .ok (.istore 4, 2) := by decide +kernel
theorem dX3_bestExchange_25 : decode cX3_bestExchange 25 = .ok (.iload 4, 2) := by decide +kernel
theorem dX3_bestExchange_27 : decode cX3_bestExchange 27 = .ok (.aload_n 0, 1) := by decide +kernel
theorem dX3_bestExchange_28 : decode cX3_bestExchange 28 = .ok (.getfield 18, 3) := by decide +kernel
theorem dX3_bestExchange_31 : decode cX3_bestExchange 31 = .ok (.invokevirtual 31, 3) := by decide +kernel
theorem dX3_bestExchange_34 : decode cX3_bestExchange 34 = .ok (.if_icmp .ge 44, 3) := by decide +kernel
theorem dX3_bestExchange_37 : decode cX3_bestExchange 37 = .ok (.aload_n 0, 1) := by decide +kernel
theorem dX3_bestExchange_38 : decode cX3_bestExchange 38 = .ok (.iload_n 3, 1) := by decide +kernel
theorem dX3_bestExchange_39 : decode cX3_bestExchange 39 = .ok (.iload 4, 2) := by decide +kernel
theorem dX3_bestExchange_41 : decode cX3_bestExchange 41 = .ok (.invokevirtual 67, 3) := by decide +kernel
theorem dX3_bestExchange_44 : decode cX3_bestExchange 44 = .ok (.aload_n 0, 1) := by decide +kernel
theorem dX3_bestExchange_45 : decode cX3_bestExchange 45 = .ok (.getfield 25, 3) := by decide +kernel
theorem dX3_bestExchange_48 : decode cX3_bestExchange 48 = .ok (.iload_n 1, 1) := by decide +kernel
theorem dX3_bestExchange_49 : decode cX3_bestExchange 49 = .ok (.if_icmp .ge 16, 3) := by decide +kernel
theorem dX3_bestExchange_52 : decode cX3_bestExchange 52 = .ok (.aload_n 0, 1) := by decide +kernel
theorem dX3_bestExchange_53 : decode cX3_bestExchange 53 = .ok (.getfield 25, 3) := by decide +kernel
theorem dX3_bestExchange_56 : decode cX3_bestExchange 56 = .ok (.istore_n 1, 1) := by decide +kernel
theorem dX3_bestExchange_57 : decode cX3_bestExchange 57 = .ok (.bipush 10, 2) := by decide +kernel
theorem dX3_bestExchange_59 : decode cX3_bestExchange 59 = .ok (.iload_n 3, 1) := by decide +kernel
theorem dX3_bestExchange_60 : decode cX3_bestExchange 60 = .ok (.imul, 1) := by decide +kernel
theorem dX3_bestExchange_61 : decode cX3_bestExchange 61 = .ok (.iload 4, 2) := by decide +kernel
theorem dX3_bestExchange_63 : decode cX3_bestExchange 63 = .ok (.iadd, 1) := by decide +kernel
theorem dX3_bestExchange_64 : decode cX3_bestExchange 64 = .ok (.istore_n 2, 1) := by decide +kernel
theorem dX3_bestExchange_65 : decode cX3_bestExchange 65 = .ok (.aload_n 0, 1) := by decide +kernel
theorem dX3_bestExchange_66 : decode cX3_bestExchange 66 = .ok (.iload_n 3, 1) := by decide +kernel
theorem dX3_bestExchange_67 : decode cX3_bestExchange 67 = .ok (.iload 4, 2) := by decide +kernel
theorem dX3_bestExchange_69 : decode cX3_bestExchange 69 = .ok (.invokevirtual 63, 3) := by decide +kernel
theorem dX3_bestExchange_72 : decode cX3_bestExchange 72 = .ok (.iinc 4 1, 3) := by decide +kernel
theorem dX3_bestExchange_75 : decode cX3_bestExchange 75 = .ok (.goto (-50), 3) := by decide +kernel
theorem dX3_bestExchange_78 : decode cX3_bestExchange 78 = .ok (.iinc 3 1, 3) := by decide +kernel
theorem dX3_bestExchange_81 : decode cX3_bestExchange 81 = .ok (.goto (-72), 3) := by decide +kernel
theorem dX3_bestExchange_84 : decode cX3_bestExchange 84 = .ok (.aload_n 0, 1) := by decide +kernel
theorem dX3_bestExchange_85 : decode cX3_bestExchange 85 = .ok (.invokevirtual 44, 3) := by decide +kernel
theorem dX3_bestExchange_88 : decode cX3_bestExchange 88 = .ok (.iload_n 2, 1) := by decide +kernel
theorem dX3_bestExchange_89 : decode cX3_bestExchange 89 = .ok (.ireturn, 1) := by decide +kernel
theorem dX3_isCast_0 : decode cX3_isCast 0 = .ok (.iload_n 1, 1) := by decide +kernel
theorem dX3_isCast_1 : decode cX3_isCast 1 = .ok (.ifCond .le 20, 3) := by decide +kernel
theorem dX3_isCast_4 : decode cX3_isCast 4 = .ok (.iload_n 1, 1) := by decide +kernel
theorem dX3_isCast_5 : decode cX3_isCast 5 = .ok (.iconst 1, 1) := by decide +kernel
theorem dX3_isCast_6 : decode cX3_isCast 6 = .ok (.aload_n 0, 1) := by decide +kernel
theorem dX3_isCast_7 : decode cX3_isCast 7 = .ok (.getfield 12, 3) := by decide +kernel
theorem dX3_isCast_10 : decode cX3_isCast 10 = .ok (.invokevirtual 31, 3) := by decide +kernel
theorem dX3_isCast_13 : decode cX3_isCast 13 = .ok (.ishl, 1) := by decide +kernel
theorem dX3_isCast_14 : decode cX3_isCast 14 = .ok (.if_icmp .ge 7, 3) := by decide +kernel
theorem dX3_isCast_17 : decode cX3_isCast 17 = .ok (.iconst 1, 1) := by decide +kernel
theorem dX3_isCast_18 : decode cX3_isCast 18 = .ok (.goto 4, 3) := by decide +kernel
theorem dX3_isCast_21 : decode cX3_isCast 21 = .ok (.iconst 0, 1) := by decide +kernel
theorem dX3_isCast_22 : decode cX3_isCast 22 = .ok (.ireturn, 1) := by decide +kernel
theorem dX3_sceneOn_0 : decode cX3_sceneOn 0 = .ok (.iconst 0, 1) := by decide +kernel
theorem dX3_sceneOn_1 : decode cX3_sceneOn 1 = .ok (.istore_n 2, 1) := by decide +kernel
theorem dX3_sceneOn_2 : decode cX3_sceneOn 2 = .ok (.iload_n 2, 1) := by decide +kernel
theorem dX3_sceneOn_3 : decode cX3_sceneOn 3 = .ok (.aload_n 0, 1) := by decide +kernel
theorem dX3_sceneOn_4 : decode cX3_sceneOn 4 = .ok (.getfield 18, 3) := by decide +kernel
theorem dX3_sceneOn_7 : decode cX3_sceneOn 7 = .ok (.invokevirtual 31, 3) := by decide +kernel
theorem dX3_sceneOn_10 : decode cX3_sceneOn 10 = .ok (.if_icmp .ge 29, 3) := by decide +kernel
theorem dX3_sceneOn_13 : decode cX3_sceneOn 13 = .ok (.iload_n 1, 1) := by decide +kernel
theorem dX3_sceneOn_14 : decode cX3_sceneOn 14 = .ok (.aload_n 0, 1) := by decide +kernel
theorem dX3_sceneOn_15 : decode cX3_sceneOn 15 = .ok (.getfield 18, 3) := by decide +kernel
theorem dX3_sceneOn_18 : decode cX3_sceneOn 18 = .ok (.iload_n 2, 1) := by decide +kernel
theorem dX3_sceneOn_19 : decode cX3_sceneOn 19 = .ok (.invokevirtual 56, 3) := by decide +kernel
theorem dX3_sceneOn_22 : decode cX3_sceneOn 22 = .ok (.checkcast 51, 3) := by decide +kernel
theorem dX3_sceneOn_25 : decode cX3_sceneOn 25 = .ok (.invokevirtual 70, 3) := by decide +kernel
theorem dX3_sceneOn_28 : decode cX3_sceneOn 28 = .ok (.if_icmp .ge 5, 3) := by decide +kernel
theorem dX3_sceneOn_31 : decode cX3_sceneOn 31 = .ok (.iload_n 2, 1) := by decide +kernel
theorem dX3_sceneOn_32 : decode cX3_sceneOn 32 = .ok (.ireturn, 1) := by decide +kernel
theorem dX3_sceneOn_33 : decode cX3_sceneOn 33 = .ok (.iinc 2 1, 3) := by decide +kernel
theorem dX3_sceneOn_36 : decode cX3_sceneOn 36 = .ok (.goto (-34), 3) := by decide +kernel
theorem dX3_sceneOn_39 : decode cX3_sceneOn 39 = .ok (.iconst (-1), 1) := by decide +kernel
theorem dX3_sceneOn_40 : decode cX3_sceneOn 40 = .ok (.ireturn, 1) := by decide +kernel
theorem dX3_knowersBehind_0 : decode cX3_knowersBehind 0 = .ok (.iload_n 1, 1) := by decide +kernel
theorem dX3_knowersBehind_1 : decode cX3_knowersBehind 1 = .ok (.ifCond .lt 14, 3) := by decide +kernel
theorem dX3_knowersBehind_4 : decode cX3_knowersBehind 4 = .ok (.iload_n 1, 1) := by decide +kernel
theorem dX3_knowersBehind_5 : decode cX3_knowersBehind 5 = .ok (.aload_n 0, 1) := by decide +kernel
theorem dX3_knowersBehind_6 : decode cX3_knowersBehind 6 = .ok (.getfield 18, 3) := by decide +kernel
theorem dX3_knowersBehind_9 : decode cX3_knowersBehind 9 = .ok (.invokevirtual 31, 3) := by decide +kernel
theorem dX3_knowersBehind_12 : decode cX3_knowersBehind 12 = .ok (.if_icmp .lt 8, 3) := by decide +kernel
theorem dX3_knowersBehind_15 : decode cX3_knowersBehind 15 = .ok (.aload_n 0, 1) := by decide +kernel
theorem dX3_knowersBehind_16 : decode cX3_knowersBehind 16 = .ok (.getfield 21, 3) := by decide +kernel
theorem dX3_knowersBehind_19 : decode cX3_knowersBehind 19 = .ok (.ireturn, 1) := by decide +kernel
theorem dX3_knowersBehind_20 : decode cX3_knowersBehind 20 = .ok (.aload_n 0, 1) := by decide +kernel
theorem dX3_knowersBehind_21 : decode cX3_knowersBehind 21 = .ok (.getfield 18, 3) := by decide +kernel
theorem dX3_knowersBehind_24 : decode cX3_knowersBehind 24 = .ok (.iload_n 1, 1) := by decide +kernel
theorem dX3_knowersBehind_25 : decode cX3_knowersBehind 25 = .ok (.invokevirtual 56, 3) := by decide +kernel
theorem dX3_knowersBehind_28 : decode cX3_knowersBehind 28 = .ok (.checkcast 51, 3) := by decide +kernel
theorem dX3_knowersBehind_31 : decode cX3_knowersBehind 31 = .ok (.getfield 72, 3) := by decide +kernel
theorem dX3_knowersBehind_34 : decode cX3_knowersBehind 34 = .ok (.ireturn, 1) := by decide +kernel
theorem dX3_trade_0 : decode cX3_trade 0 = .ok (.aload_n 0, 1) := by decide +kernel
theorem dX3_trade_1 : decode cX3_trade 1 = .ok (.getfield 18, 3) := by decide +kernel
theorem dX3_trade_4 : decode cX3_trade 4 = .ok (.iload_n 1, 1) := by decide +kernel
theorem dX3_trade_5 : decode cX3_trade 5 = .ok (.invokevirtual 56, 3) := by decide +kernel
theorem dX3_trade_8 : decode cX3_trade 8 = .ok (.checkcast 51, 3) := by decide +kernel
theorem dX3_trade_11 : decode cX3_trade 11 = .ok (.astore_n 3, 1) := by decide +kernel
theorem dX3_trade_12 : decode cX3_trade 12 = .ok (.aload_n 0, 1) := by decide +kernel
theorem dX3_trade_13 : decode cX3_trade 13 = .ok (.getfield 18, 3) := by decide +kernel
theorem dX3_trade_16 : decode cX3_trade 16 = .ok (.iload_n 1, 1) := by decide +kernel
theorem dX3_trade_17 : decode cX3_trade 17 = .ok (.aload_n 0, 1) := by decide +kernel
theorem dX3_trade_18 : decode cX3_trade 18 = .ok (.getfield 18, 3) := by decide +kernel
theorem dX3_trade_21 : decode cX3_trade 21 = .ok (.iload_n 2, 1) := by decide +kernel
theorem dX3_trade_22 : decode cX3_trade 22 = .ok (.invokevirtual 56, 3) := by decide +kernel
theorem dX3_trade_25 : decode cX3_trade 25 = .ok (.checkcast 51, 3) := by decide +kernel
theorem dX3_trade_28 : decode cX3_trade 28 = .ok (.invokevirtual 75, 3) := by decide +kernel
theorem dX3_trade_31 : decode cX3_trade 31 = .ok (.pop, 1) := by decide +kernel
theorem dX3_trade_32 : decode cX3_trade 32 = .ok (.aload_n 0, 1) := by decide +kernel
theorem dX3_trade_33 : decode cX3_trade 33 = .ok (.getfield 18, 3) := by decide +kernel
theorem dX3_trade_36 : decode cX3_trade 36 = .ok (.iload_n 2, 1) := by decide +kernel
theorem dX3_trade_37 : decode cX3_trade 37 = .ok (.aload_n 3, 1) := by decide +kernel
theorem dX3_trade_38 : decode cX3_trade 38 = .ok (.invokevirtual 75, 3) := by decide +kernel
theorem dX3_trade_41 : decode cX3_trade 41 = .ok (.pop, 1) := by decide +kernel
theorem dX3_trade_42 : decode cX3_trade 42 = .ok (.return_, 1) := by decide +kernel
theorem dX3_refresh_0 : decode cX3_refresh 0 = .ok (.iconst 0, 1) := by decide +kernel
theorem dX3_refresh_1 : decode cX3_refresh 1 = .ok (.istore_n 1, 1) := by decide +kernel
theorem dX3_refresh_2 : decode cX3_refresh 2 = .ok (.aload_n 0, 1) := by decide +kernel
theorem dX3_refresh_3 : decode cX3_refresh 3 = .ok (.getfield 21, 3) := by decide +kernel
theorem dX3_refresh_6 : decode cX3_refresh 6 = .ok (.istore_n 2, 1) := by decide +kernel
theorem dX3_refresh_7 : decode cX3_refresh 7 = .ok (.aload_n 0, 1) := by decide +kernel
theorem dX3_refresh_8 : decode cX3_refresh 8 = .ok (.iconst 0, 1) := by decide +kernel
theorem dX3_refresh_9 : decode cX3_refresh 9 = .ok (.putfield 25, 3) := by decide +kernel
theorem dX3_refresh_12 : decode cX3_refresh 12 = .ok (.iconst 0, 1) := by decide +kernel
theorem dX3_refresh_13 : decode cX3_refresh 13 = .ok (.istore_n 3, 1) := by decide +kernel
theorem dX3_refresh_14 : decode cX3_refresh 14 = .ok (.iload_n 3, 1) := by decide +kernel
theorem dX3_refresh_15 : decode cX3_refresh 15 = .ok (.aload_n 0, 1) := by decide +kernel
theorem dX3_refresh_16 : decode cX3_refresh 16 = .ok (.getfield 18, 3) := by decide +kernel
theorem dX3_refresh_19 : decode cX3_refresh 19 = .ok (.invokevirtual 31, 3) := by decide +kernel
theorem dX3_refresh_22 : decode cX3_refresh 22 = .ok (.if_icmp .ge 99, 3) := by decide +kernel
theorem dX3_refresh_25 : decode cX3_refresh 25 = .ok (.aload_n 0, 1) := by decide +kernel
theorem dX3_refresh_26 : decode cX3_refresh 26 = .ok (.getfield 18, 3) := by decide +kernel
theorem dX3_refresh_29 : decode cX3_refresh 29 = .ok (.iload_n 3, 1) := by decide +kernel
theorem dX3_refresh_30 : decode cX3_refresh 30 = .ok (.invokevirtual 56, 3) := by decide +kernel
theorem dX3_refresh_33 : decode cX3_refresh 33 = .ok (.checkcast 51, 3) := by decide +kernel
theorem dX3_refresh_36 : decode cX3_refresh 36 = .ok (.astore 4, 2) := by decide +kernel
theorem dX3_refresh_38 : decode cX3_refresh 38 = .ok (.aload 4, 2) := by decide +kernel
theorem dX3_refresh_40 : decode cX3_refresh 40 = .ok (.iload_n 1, 1) := by decide +kernel
theorem dX3_refresh_41 : decode cX3_refresh 41 = .ok (.putfield 79, 3) := by decide +kernel
theorem dX3_refresh_44 : decode cX3_refresh 44 = .ok (.aload 4, 2) := by decide +kernel
theorem dX3_refresh_46 : decode cX3_refresh 46 = .ok (.aload 4, 2) := by decide +kernel
theorem dX3_refresh_48 : decode cX3_refresh 48 = .ok (.aload_n 0, 1) := by decide +kernel
theorem dX3_refresh_49 : decode cX3_refresh 49 = .ok (.aload 4, 2) := by decide +kernel
theorem dX3_refresh_51 : decode cX3_refresh 51 = .ok (.getfield 82, 3) := by decide +kernel
theorem dX3_refresh_54 : decode cX3_refresh 54 = .ok (.iload_n 3, 1) := by decide +kernel
theorem dX3_refresh_55 : decode cX3_refresh 55 = .ok (.invokevirtual 85, 3) := by decide +kernel
theorem dX3_refresh_58 : decode cX3_refresh 58 = .ok (.iload_n 2, 1) := by decide +kernel
theorem dX3_refresh_59 : decode cX3_refresh 59 = .ok (.invokevirtual 89, 3) := by decide +kernel
theorem dX3_refresh_62 : decode cX3_refresh 62 = .ok (.putfield 92, 3) := by decide +kernel
theorem dX3_refresh_65 : decode cX3_refresh 65 = .ok (.aload 4, 2) := by decide +kernel
theorem dX3_refresh_67 : decode cX3_refresh 67 = .ok (.getfield 92, 3) := by decide +kernel
theorem dX3_refresh_70 : decode cX3_refresh 70 = .ok (.ifCond .eq 13, 3) := by decide +kernel
theorem dX3_refresh_73 : decode cX3_refresh 73 = .ok (.aload_n 0, 1) := by decide +kernel
theorem dX3_refresh_74 : decode cX3_refresh 74 = .ok (.dup, 1) := by decide +kernel
theorem dX3_refresh_75 : decode cX3_refresh 75 = .ok (.getfield 25, 3) := by decide +kernel
theorem dX3_refresh_78 : decode cX3_refresh 78 = .ok (.iconst 1, 1) := by decide +kernel
theorem dX3_refresh_79 : decode cX3_refresh 79 = .ok (.iadd, 1) := by decide +kernel
theorem dX3_refresh_80 : decode cX3_refresh 80 = .ok (.putfield 25, 3) := by decide +kernel
theorem dX3_refresh_83 : decode cX3_refresh 83 = .ok (.iload_n 2, 1) := by decide +kernel
theorem dX3_refresh_84 : decode cX3_refresh 84 = .ok (.aload 4, 2) := by decide +kernel
theorem dX3_refresh_86 : decode cX3_refresh 86 = .ok (.getfield 95, 3) := by decide +kernel
theorem dX3_refresh_89 : decode cX3_refresh 89 = .ok (.invokestatic 98, 3) := by decide +kernel
theorem dX3_refresh_92 : decode cX3_refresh 92 = .ok (.ifCond .eq 11, 3) := by decide +kernel
theorem dX3_refresh_95 : decode cX3_refresh 95 = .ok (.iload_n 2, 1) := by decide +kernel
theorem dX3_refresh_96 : decode cX3_refresh 96 = .ok (.aload 4, 2) := by decide +kernel
theorem dX3_refresh_98 : decode cX3_refresh 98 = .ok (.getfield 102, 3) := by decide +kernel
theorem dX3_refresh_101 : decode cX3_refresh 101 = .ok (.ior, 1) := by decide +kernel
theorem dX3_refresh_102 : decode cX3_refresh 102 = .ok (.istore_n 2, 1) := by decide +kernel
theorem dX3_refresh_103 : decode cX3_refresh 103 = .ok (.aload 4, 2) := by decide +kernel
theorem dX3_refresh_105 : decode cX3_refresh 105 = .ok (.iload_n 2, 1) := by decide +kernel
theorem dX3_refresh_106 : decode cX3_refresh 106 = .ok (.putfield 72, 3) := by decide +kernel
theorem dX3_refresh_109 : decode cX3_refresh 109 = .ok (.aload 4, 2) := by decide +kernel
theorem dX3_refresh_111 : decode cX3_refresh 111 = .ok (.invokevirtual 70, 3) := by decide +kernel
theorem dX3_refresh_114 : decode cX3_refresh 114 = .ok (.istore_n 1, 1) := by decide +kernel
theorem dX3_refresh_115 : decode cX3_refresh 115 = .ok (.iinc 3 1, 3) := by decide +kernel
theorem dX3_refresh_118 : decode cX3_refresh 118 = .ok (.goto (-104), 3) := by decide +kernel
theorem dX3_refresh_121 : decode cX3_refresh 121 = .ok (.aload_n 0, 1) := by decide +kernel
theorem dX3_refresh_122 : decode cX3_refresh 122 = .ok (.iload_n 1, 1) := by decide +kernel
theorem dX3_refresh_123 : decode cX3_refresh 123 = .ok (.putfield 28, 3) := by decide +kernel
theorem dX3_refresh_126 : decode cX3_refresh 126 = .ok (.return_, 1) := by decide +kernel
theorem dX3_deadIn_0 : decode cX3_deadIn 0 = .ok (.iconst 0, 1) := by decide +kernel
theorem dX3_deadIn_1 : decode cX3_deadIn 1 = .ok (.istore_n 3, 1) := by decide +kernel
theorem dX3_deadIn_2 : decode cX3_deadIn 2 = .ok (.iconst 0, 1) := by decide +kernel
theorem dX3_deadIn_3 : decode cX3_deadIn 3 = .ok (.istore 4, 2) := by decide +kernel
theorem dX3_deadIn_5 : decode cX3_deadIn 5 = .ok (.iload 4, 2) := by decide +kernel
theorem dX3_deadIn_7 : decode cX3_deadIn 7 = .ok (.iload_n 2, 1) := by decide +kernel
theorem dX3_deadIn_8 : decode cX3_deadIn 8 = .ok (.if_icmp .ge 63, 3) := by decide +kernel
theorem dX3_deadIn_11 : decode cX3_deadIn 11 = .ok (.iload 4, 2) := by decide +kernel
theorem dX3_deadIn_13 : decode cX3_deadIn 13 = .ok (.aload_n 0, 1) := by decide +kernel
theorem dX3_deadIn_14 : decode cX3_deadIn 14 = .ok (.getfield 18, 3) := by decide +kernel
theorem dX3_deadIn_17 : decode cX3_deadIn 17 = .ok (.invokevirtual 31, 3) := by decide +kernel
theorem dX3_deadIn_20 : decode cX3_deadIn 20 = .ok (.if_icmp .ge 51, 3) := by decide +kernel
theorem dX3_deadIn_23 : decode cX3_deadIn 23 = .ok (.aload_n 0, 1) := by decide +kernel
theorem dX3_deadIn_24 : decode cX3_deadIn 24 = .ok (.getfield 18, 3) := by decide +kernel
theorem dX3_deadIn_27 : decode cX3_deadIn 27 = .ok (.iload 4, 2) := by decide +kernel
theorem dX3_deadIn_29 : decode cX3_deadIn 29 = .ok (.invokevirtual 56, 3) := by decide +kernel
theorem dX3_deadIn_32 : decode cX3_deadIn 32 = .ok (.checkcast 51, 3) := by decide +kernel
theorem dX3_deadIn_35 : decode cX3_deadIn 35 = .ok (.astore 5, 2) := by decide +kernel
theorem dX3_deadIn_37 : decode cX3_deadIn 37 = .ok (.aload 5, 2) := by decide +kernel
theorem dX3_deadIn_39 : decode cX3_deadIn 39 = .ok (.getfield 105, 3) := by decide +kernel
theorem dX3_deadIn_42 : decode cX3_deadIn 42 = .ok (.iconst (-1), 1) := by decide +kernel
theorem dX3_deadIn_43 : decode cX3_deadIn 43 = .ok (.if_icmp .eq 22, 3) := by decide +kernel
theorem dX3_deadIn_46 : decode cX3_deadIn 46 = .ok (.aload 5, 2) := by decide +kernel
theorem dX3_deadIn_48 : decode cX3_deadIn 48 = .ok (.getfield 82, 3) := by decide +kernel
theorem dX3_deadIn_51 : decode cX3_deadIn 51 = .ok (.iload_n 1, 1) := by decide +kernel
theorem dX3_deadIn_52 : decode cX3_deadIn 52 = .ok (.if_icmp .gt 13, 3) := by decide +kernel
theorem dX3_deadIn_55 : decode cX3_deadIn 55 = .ok (.iload_n 3, 1) := by decide +kernel
theorem dX3_deadIn_56 : decode cX3_deadIn 56 = .ok (.iconst 1, 1) := by decide +kernel
theorem dX3_deadIn_57 : decode cX3_deadIn 57 = .ok (.aload 5, 2) := by decide +kernel
theorem dX3_deadIn_59 : decode cX3_deadIn 59 = .ok (.getfield 105, 3) := by decide +kernel
theorem dX3_deadIn_62 : decode cX3_deadIn 62 = .ok (.ishl, 1) := by decide +kernel
theorem dX3_deadIn_63 : decode cX3_deadIn 63 = .ok (.ior, 1) := by decide +kernel
theorem dX3_deadIn_64 : decode cX3_deadIn 64 = .ok (.istore_n 3, 1) := by decide +kernel
theorem dX3_deadIn_65 : decode cX3_deadIn 65 = .ok (.iinc 4 1, 3) := by decide +kernel
theorem dX3_deadIn_68 : decode cX3_deadIn 68 = .ok (.goto (-63), 3) := by decide +kernel
theorem dX3_deadIn_71 : decode cX3_deadIn 71 = .ok (.iload_n 3, 1) := by decide +kernel
theorem dX3_deadIn_72 : decode cX3_deadIn 72 = .ok (.ireturn, 1) := by decide +kernel
theorem dX3_breachOfCycle_0 : decode cX3_breachOfCycle 0 = .ok (.iconst 0, 1) := by decide +kernel
theorem dX3_breachOfCycle_1 : decode cX3_breachOfCycle 1 = .ok (.istore 4, 2) := by decide +kernel
theorem dX3_breachOfCycle_3 : decode cX3_breachOfCycle 3 = .ok (.iconst 0, 1) := by decide +kernel
theorem dX3_breachOfCycle_4 : decode cX3_breachOfCycle 4 = .ok (.istore 5, 2) := by decide +kernel
theorem dX3_breachOfCycle_6 : decode cX3_breachOfCycle 6 = .ok (.iload 5, 2) := by decide +kernel
theorem dX3_breachOfCycle_8 : decode cX3_breachOfCycle 8 = .ok (.aload_n 0, 1) := by decide +kernel
theorem dX3_breachOfCycle_9 : decode cX3_breachOfCycle 9 = .ok (.getfield 12, 3) := by decide +kernel
theorem dX3_breachOfCycle_12 : decode cX3_breachOfCycle 12 = .ok (.invokevirtual 31, 3) := by decide +kernel
theorem dX3_breachOfCycle_15 : decode cX3_breachOfCycle 15 = .ok (.if_icmp .ge 61, 3) := by decide +kernel
theorem dX3_breachOfCycle_18 : decode cX3_breachOfCycle 18 = .ok (.aload_n 0, 1) := by decide +kernel
theorem dX3_breachOfCycle_19 : decode cX3_breachOfCycle 19 = .ok (.getfield 12, 3) := by decide +kernel
theorem dX3_breachOfCycle_22 : decode cX3_breachOfCycle 22 = .ok (.iload 5, 2) := by decide +kernel
theorem dX3_breachOfCycle_24 : decode cX3_breachOfCycle 24 = .ok (.invokevirtual 56, 3) := by decide +kernel
theorem dX3_breachOfCycle_27 : decode cX3_breachOfCycle 27 = .ok (.checkcast 40, 3) := by decide +kernel
theorem dX3_breachOfCycle_30 : decode cX3_breachOfCycle 30 = .ok (.astore 6, 2) := by decide +kernel
theorem dX3_breachOfCycle_32 : decode cX3_breachOfCycle 32 = .ok (.iload_n 2, 1) := by decide +kernel
theorem dX3_breachOfCycle_33 : decode cX3_breachOfCycle 33 = .ok (.iload 5, 2) := by decide +kernel
theorem dX3_breachOfCycle_35 : decode cX3_breachOfCycle 35 = .ok (.invokestatic 98, 3) := by decide +kernel
theorem dX3_breachOfCycle_38 : decode cX3_breachOfCycle 38 = .ok (.ifCond .eq 14, 3) := by decide +kernel
theorem dX3_breachOfCycle_41 : decode cX3_breachOfCycle 41 = .ok (.aload 6, 2) := by decide +kernel
theorem dX3_breachOfCycle_43 : decode cX3_breachOfCycle 43 = .ok (.iload_n 1, 1) := by decide +kernel
theorem dX3_breachOfCycle_44 : decode cX3_breachOfCycle 44 = .ok (.invokevirtual 108, 3) := by decide +kernel
theorem dX3_breachOfCycle_47 : decode cX3_breachOfCycle 47 = .ok (.ifCond .ne 5, 3) := by decide +kernel
theorem dX3_breachOfCycle_50 : decode cX3_breachOfCycle 50 = .ok (.iconst 1, 1) := by decide +kernel
theorem dX3_breachOfCycle_51 : decode cX3_breachOfCycle 51 = .ok (.ireturn, 1) := by decide +kernel
theorem dX3_breachOfCycle_52 : decode cX3_breachOfCycle 52 = .ok (.iload 5, 2) := by decide +kernel
theorem dX3_breachOfCycle_54 : decode cX3_breachOfCycle 54 = .ok (.iload_n 3, 1) := by decide +kernel
theorem dX3_breachOfCycle_55 : decode cX3_breachOfCycle 55 = .ok (.if_icmp .ne 15, 3) := by decide +kernel
theorem dX3_breachOfCycle_58 : decode cX3_breachOfCycle 58 = .ok (.aload 6, 2) := by decide +kernel
theorem dX3_breachOfCycle_60 : decode cX3_breachOfCycle 60 = .ok (.getfield 112, 3) := by decide +kernel
theorem dX3_breachOfCycle_63 : decode cX3_breachOfCycle 63 = .ok (.iload_n 1, 1) := by decide +kernel
theorem dX3_breachOfCycle_64 : decode cX3_breachOfCycle 64 = .ok (.if_icmp .eq 6, 3) := by decide +kernel
theorem dX3_breachOfCycle_67 : decode cX3_breachOfCycle 67 = .ok (.iconst 2, 1) := by decide +kernel
theorem dX3_breachOfCycle_68 : decode cX3_breachOfCycle 68 = .ok (.istore 4, 2) := by decide +kernel
theorem dX3_breachOfCycle_70 : decode cX3_breachOfCycle 70 = .ok (.iinc 5 1, 3) := by decide +kernel
theorem dX3_breachOfCycle_73 : decode cX3_breachOfCycle 73 = .ok (.goto (-67), 3) := by decide +kernel
theorem dX3_breachOfCycle_76 : decode cX3_breachOfCycle 76 = .ok (.iload 4, 2) := by decide +kernel
theorem dX3_breachOfCycle_78 : decode cX3_breachOfCycle 78 = .ok (.ireturn, 1) := by decide +kernel
theorem dX4_init_0 : decode cX4_init 0 = .ok (.aload_n 0, 1) := by decide +kernel
theorem dX4_init_1 : decode cX4_init 1 = .ok (.invokespecial 3, 3) := by decide +kernel
theorem dX4_init_4 : decode cX4_init 4 = .ok (.aload_n 0, 1) := by decide +kernel
theorem dX4_init_5 : decode cX4_init 5 = .ok (.iload_n 1, 1) := by decide +kernel
theorem dX4_init_6 : decode cX4_init 6 = .ok (.putfield 9, 3) := by decide +kernel
theorem dX4_init_9 : decode cX4_init 9 = .ok (.aload_n 0, 1) := by decide +kernel
theorem dX4_init_10 : decode cX4_init 10 = .ok (.iload_n 2, 1) := by decide +kernel
theorem dX4_init_11 : decode cX4_init 11 = .ok (.putfield 15, 3) := by decide +kernel
theorem dX4_init_14 : decode cX4_init 14 = .ok (.aload_n 0, 1) := by decide +kernel
theorem dX4_init_15 : decode cX4_init 15 = .ok (.iload_n 3, 1) := by decide +kernel
theorem dX4_init_16 : decode cX4_init 16 = .ok (.putfield 18, 3) := by decide +kernel
theorem dX4_init_19 : decode cX4_init 19 = .ok (.aload_n 0, 1) := by decide +kernel
theorem dX4_init_20 : decode cX4_init 20 = .ok (.iload 4, 2) := by decide +kernel
theorem dX4_init_22 : decode cX4_init 22 = .ok (.putfield 21, 3) := by decide +kernel
theorem dX4_init_25 : decode cX4_init 25 = .ok (.aload_n 0, 1) := by decide +kernel
theorem dX4_init_26 : decode cX4_init 26 = .ok (.iload 5, 2) := by decide +kernel
theorem dX4_init_28 : decode cX4_init 28 = .ok (.putfield 24, 3) := by decide +kernel
theorem dX4_init_31 : decode cX4_init 31 = .ok (.aload_n 0, 1) := by decide +kernel
theorem dX4_init_32 : decode cX4_init 32 = .ok (.iload 6, 2) := by decide +kernel
theorem dX4_init_34 : decode cX4_init 34 = .ok (.putfield 27, 3) := by decide +kernel
theorem dX4_init_37 : decode cX4_init 37 = .ok (.aload_n 0, 1) := by decide +kernel
theorem dX4_init_38 : decode cX4_init 38 = .ok (.iload 7, 2) := by decide +kernel
theorem dX4_init_40 : decode cX4_init 40 = .ok (.putfield 30, 3) := by decide +kernel
theorem dX4_init_43 : decode cX4_init 43 = .ok (.return_, 1) := by decide +kernel
theorem dX4_end_0 : decode cX4_end 0 = .ok (.aload_n 0, 1) := by decide +kernel
theorem dX4_end_1 : decode cX4_end 1 = .ok (.getfield 33, 3) := by decide +kernel
theorem dX4_end_4 : decode cX4_end 4 = .ok (.aload_n 0, 1) := by decide +kernel
theorem dX4_end_5 : decode cX4_end 5 = .ok (.getfield 21, 3) := by decide +kernel
theorem dX4_end_8 : decode cX4_end 8 = .ok (.iadd, 1) := by decide +kernel
theorem dX4_end_9 : decode cX4_end 9 = .ok (.ireturn, 1) := by decide +kernel
theorem dX4_part_0 : decode cX4_part 0 = .ok (.iconst 2, 1) := by decide +kernel
theorem dX4_part_1 : decode cX4_part 1 = .ok (.aload_n 0, 1) := by decide +kernel
theorem dX4_part_2 : decode cX4_part 2 = .ok (.getfield 33, 3) := by decide +kernel
theorem dX4_part_5 : decode cX4_part 5 = .ok (.sipush 180, 3) := by decide +kernel
theorem dX4_part_8 : decode cX4_part 8 = .ok (.idiv, 1) := by decide +kernel
theorem dX4_part_9 : decode cX4_part 9 = .ok (.invokestatic 36, 3) := by decide +kernel
theorem dX4_part_12 : decode cX4_part 12 = .ok (.ireturn, 1) := by decide +kernel
theorem dX4_breachWith_0 : decode cX4_breachWith 0 = .ok (.aload_n 0, 1) := by decide +kernel
theorem dX4_breachWith_1 : decode cX4_breachWith 1 = .ok (.getfield 30, 3) := by decide +kernel
theorem dX4_breachWith_4 : decode cX4_breachWith 4 = .ok (.iconst 1, 1) := by decide +kernel
theorem dX4_breachWith_5 : decode cX4_breachWith 5 = .ok (.if_icmp .eq 12, 3) := by decide +kernel
theorem dX4_breachWith_8 : decode cX4_breachWith 8 = .ok (.aload_n 0, 1) := by decide +kernel
theorem dX4_breachWith_9 : decode cX4_breachWith 9 = .ok (.getfield 18, 3) := by decide +kernel
theorem dX4_breachWith_12 : decode cX4_breachWith 12 = .ok (.iload_n 1, 1) := by decide +kernel
theorem dX4_breachWith_13 : decode cX4_breachWith 13 = .ok (.iand, 1) := by decide +kernel
theorem dX4_breachWith_14 : decode cX4_breachWith 14 = .ok (.ifCond .eq 5, 3) := by decide +kernel
theorem dX4_breachWith_17 : decode cX4_breachWith 17 = .ok (.iconst 1, 1) := by decide +kernel
theorem dX4_breachWith_18 : decode cX4_breachWith 18 = .ok (.ireturn, 1) := by decide +kernel
theorem dX4_breachWith_19 : decode cX4_breachWith 19 = .ok (.aload_n 0, 1) := by decide +kernel
theorem dX4_breachWith_20 : decode cX4_breachWith 20 = .ok (.getfield 30, 3) := by decide +kernel
theorem dX4_breachWith_23 : decode cX4_breachWith 23 = .ok (.iconst 2, 1) := by decide +kernel
theorem dX4_breachWith_24 : decode cX4_breachWith 24 = .ok (.if_icmp .ne 5, 3) := by decide +kernel
theorem dX4_breachWith_27 : decode cX4_breachWith 27 = .ok (.iconst 2, 1) := by decide +kernel
theorem dX4_breachWith_28 : decode cX4_breachWith 28 = .ok (.ireturn, 1) := by decide +kernel
theorem dX4_breachWith_29 : decode cX4_breachWith 29 = .ok (.aload_n 0, 1) := by decide +kernel
theorem dX4_breachWith_30 : decode cX4_breachWith 30 = .ok (.getfield 27, 3) := by decide +kernel
theorem dX4_breachWith_33 : decode cX4_breachWith 33 = .ok (.iconst (-1), 1) := by decide +kernel
theorem dX4_breachWith_34 : decode cX4_breachWith 34 = .ok (.if_icmp .eq 16, 3) := by decide +kernel
theorem dX4_breachWith_37 : decode cX4_breachWith 37 = .ok (.iload_n 2, 1) := by decide +kernel
theorem dX4_breachWith_38 : decode cX4_breachWith 38 = .ok (.aload_n 0, 1) := by decide +kernel
theorem dX4_breachWith_39 : decode cX4_breachWith 39 = .ok (.getfield 27, 3) := by decide +kernel
theorem dX4_breachWith_42 : decode cX4_breachWith 42 = .ok (.invokestatic 42, 3) := by decide +kernel
theorem dX4_breachWith_45 : decode cX4_breachWith 45 = .ok (.ifCond .ne 5, 3) := by decide +kernel
theorem dX4_breachWith_48 : decode cX4_breachWith 48 = .ok (.iconst 3, 1) := by decide +kernel
theorem dX4_breachWith_49 : decode cX4_breachWith 49 = .ok (.ireturn, 1) := by decide +kernel
theorem dX4_breachWith_50 : decode cX4_breachWith 50 = .ok (.aload_n 0, 1) := by decide +kernel
theorem dX4_breachWith_51 : decode cX4_breachWith 51 = .ok (.getfield 15, 3) := by decide +kernel
theorem dX4_breachWith_54 : decode cX4_breachWith 54 = .ok (.aload_n 0, 1) := by decide +kernel
theorem dX4_breachWith_55 : decode cX4_breachWith 55 = .ok (.invokevirtual 46, 3) := by decide +kernel
theorem dX4_breachWith_58 : decode cX4_breachWith 58 = .ok (.iconst 1, 1) := by decide +kernel
theorem dX4_breachWith_59 : decode cX4_breachWith 59 = .ok (.iadd, 1) := by decide +kernel
theorem dX4_breachWith_60 : decode cX4_breachWith 60 = .ok (.if_icmp .le 5, 3) := by decide +kernel
theorem dX4_breachWith_63 : decode cX4_breachWith 63 = .ok (.iconst 4, 1) := by decide +kernel
theorem dX4_breachWith_64 : decode cX4_breachWith 64 = .ok (.ireturn, 1) := by decide +kernel
theorem dX4_breachWith_65 : decode cX4_breachWith 65 = .ok (.aload_n 0, 1) := by decide +kernel
theorem dX4_breachWith_66 : decode cX4_breachWith 66 = .ok (.invokevirtual 50, 3) := by decide +kernel
theorem dX4_breachWith_69 : decode cX4_breachWith 69 = .ok (.sipush 540, 3) := by decide +kernel
theorem dX4_breachWith_72 : decode cX4_breachWith 72 = .ok (.if_icmp .le 7, 3) := by decide +kernel
theorem dX4_breachWith_75 : decode cX4_breachWith 75 = .ok (.iconst 5, 1) := by decide +kernel
theorem dX4_breachWith_76 : decode cX4_breachWith 76 = .ok (.goto 4, 3) := by decide +kernel
theorem dX4_breachWith_79 : decode cX4_breachWith 79 = .ok (.iconst 0, 1) := by decide +kernel
theorem dX4_breachWith_80 : decode cX4_breachWith 80 = .ok (.ireturn, 1) := by decide +kernel
theorem dX4_value_0 : decode cX4_value 0 = .ok (.iload_n 1, 1) := by decide +kernel
theorem dX4_value_1 : decode cX4_value 1 = .ok (.tableswitch 87 0 7 #[47, 52, 57, 62, 67, 72, 77, 82], 47) := by decide +kernel
theorem dX4_value_48 : decode cX4_value 48 = .ok (.aload_n 0, 1) := by decide +kernel
theorem dX4_value_49 : decode cX4_value 49 = .ok (.getfield 9, 3) := by decide +kernel
theorem dX4_value_52 : decode cX4_value 52 = .ok (.ireturn, 1) := by decide +kernel
theorem dX4_value_53 : decode cX4_value 53 = .ok (.aload_n 0, 1) := by decide +kernel
theorem dX4_value_54 : decode cX4_value 54 = .ok (.getfield 15, 3) := by decide +kernel
theorem dX4_value_57 : decode cX4_value 57 = .ok (.ireturn, 1) := by decide +kernel
theorem dX4_value_58 : decode cX4_value 58 = .ok (.aload_n 0, 1) := by decide +kernel
theorem dX4_value_59 : decode cX4_value 59 = .ok (.getfield 18, 3) := by decide +kernel
theorem dX4_value_62 : decode cX4_value 62 = .ok (.ireturn, 1) := by decide +kernel
theorem dX4_value_63 : decode cX4_value 63 = .ok (.aload_n 0, 1) := by decide +kernel
theorem dX4_value_64 : decode cX4_value 64 = .ok (.getfield 21, 3) := by decide +kernel
theorem dX4_value_67 : decode cX4_value 67 = .ok (.ireturn, 1) := by decide +kernel
theorem dX4_value_68 : decode cX4_value 68 = .ok (.aload_n 0, 1) := by decide +kernel
theorem dX4_value_69 : decode cX4_value 69 = .ok (.getfield 24, 3) := by decide +kernel
theorem dX4_value_72 : decode cX4_value 72 = .ok (.ireturn, 1) := by decide +kernel
theorem dX4_value_73 : decode cX4_value 73 = .ok (.aload_n 0, 1) := by decide +kernel
theorem dX4_value_74 : decode cX4_value 74 = .ok (.getfield 27, 3) := by decide +kernel
theorem dX4_value_77 : decode cX4_value 77 = .ok (.ireturn, 1) := by decide +kernel
theorem dX4_value_78 : decode cX4_value 78 = .ok (.aload_n 0, 1) := by decide +kernel
theorem dX4_value_79 : decode cX4_value 79 = .ok (.getfield 33, 3) := by decide +kernel
theorem dX4_value_82 : decode cX4_value 82 = .ok (.ireturn, 1) := by decide +kernel
theorem dX4_value_83 : decode cX4_value 83 = .ok (.aload_n 0, 1) := by decide +kernel
theorem dX4_value_84 : decode cX4_value 84 = .ok (.invokevirtual 46, 3) := by decide +kernel
theorem dX4_value_87 : decode cX4_value 87 = .ok (.ireturn, 1) := by decide +kernel
theorem dX4_value_88 : decode cX4_value 88 = .ok (.aload_n 0, 1) := by decide +kernel
theorem dX4_value_89 : decode cX4_value 89 = .ok (.getfield 53, 3) := by decide +kernel
theorem dX4_value_92 : decode cX4_value 92 = .ok (.ireturn, 1) := by decide +kernel
theorem dX5_init_0 : decode cX5_init 0 = .ok (.aload_n 0, 1) := by decide +kernel
theorem dX5_init_1 : decode cX5_init 1 = .ok (.invokespecial 3, 3) := by decide +kernel
theorem dX5_init_4 : decode cX5_init 4 = .ok (.aload_n 0, 1) := by decide +kernel
theorem dX5_init_5 : decode cX5_init 5 = .ok (.new 9, 3) := by decide +kernel
theorem dX5_init_8 : decode cX5_init 8 = .ok (.dup, 1) := by decide +kernel
theorem dX5_init_9 : decode cX5_init 9 = .ok (.invokespecial 11, 3) := by decide +kernel
theorem dX5_init_12 : decode cX5_init 12 = .ok (.putfield 12, 3) := by decide +kernel
theorem dX5_init_15 : decode cX5_init 15 = .ok (.aload_n 0, 1) := by decide +kernel
theorem dX5_init_16 : decode cX5_init 16 = .ok (.bipush 50, 2) := by decide +kernel
theorem dX5_init_18 : decode cX5_init 18 = .ok (.putfield 18, 3) := by decide +kernel
theorem dX5_init_21 : decode cX5_init 21 = .ok (.aload_n 0, 1) := by decide +kernel
theorem dX5_init_22 : decode cX5_init 22 = .ok (.iconst 0, 1) := by decide +kernel
theorem dX5_init_23 : decode cX5_init 23 = .ok (.putfield 22, 3) := by decide +kernel
theorem dX5_init_26 : decode cX5_init 26 = .ok (.return_, 1) := by decide +kernel
theorem dX5_figureAt_0 : decode cX5_figureAt 0 = .ok (.iconst 0, 1) := by decide +kernel
theorem dX5_figureAt_1 : decode cX5_figureAt 1 = .ok (.istore_n 2, 1) := by decide +kernel
theorem dX5_figureAt_2 : decode cX5_figureAt 2 = .ok (.iload_n 2, 1) := by decide +kernel
theorem dX5_figureAt_3 : decode cX5_figureAt 3 = .ok (.aload_n 0, 1) := by decide +kernel
theorem dX5_figureAt_4 : decode cX5_figureAt 4 = .ok (.getfield 12, 3) := by decide +kernel
theorem dX5_figureAt_7 : decode cX5_figureAt 7 = .ok (.invokevirtual 25, 3) := by decide +kernel
theorem dX5_figureAt_10 : decode cX5_figureAt 10 = .ok (.if_icmp .ge 38, 3) := by decide +kernel
theorem dX5_figureAt_13 : decode cX5_figureAt 13 = .ok (.aload_n 0, 1) := by decide +kernel
theorem dX5_figureAt_14 : decode cX5_figureAt 14 = .ok (.getfield 12, 3) := by decide +kernel
theorem dX5_figureAt_17 : decode cX5_figureAt 17 = .ok (.iload_n 2, 1) := by decide +kernel
theorem dX5_figureAt_18 : decode cX5_figureAt 18 = .ok (.invokevirtual 29, 3) := by decide +kernel
theorem dX5_figureAt_21 : decode cX5_figureAt 21 = .ok (.checkcast 33, 3) := by decide +kernel
theorem dX5_figureAt_24 : decode cX5_figureAt 24 = .ok (.astore_n 3, 1) := by decide +kernel
theorem dX5_figureAt_25 : decode cX5_figureAt 25 = .ok (.aload_n 3, 1) := by decide +kernel
theorem dX5_figureAt_26 : decode cX5_figureAt 26 = .ok (.invokevirtual 35, 3) := by decide +kernel
theorem dX5_figureAt_29 : decode cX5_figureAt 29 = .ok (.ifCond .eq 13, 3) := by decide +kernel
theorem dX5_figureAt_32 : decode cX5_figureAt 32 = .ok (.aload_n 3, 1) := by decide +kernel
theorem dX5_figureAt_33 : decode cX5_figureAt 33 = .ok (.getfield 39, 3) := by decide +kernel
theorem dX5_figureAt_36 : decode cX5_figureAt 36 = .ok (.iload_n 1, 1) := by decide +kernel
theorem dX5_figureAt_37 : decode cX5_figureAt 37 = .ok (.if_icmp .ne 5, 3) := by decide +kernel
theorem dX5_figureAt_40 : decode cX5_figureAt 40 = .ok (.iload_n 2, 1) := by decide +kernel
theorem dX5_figureAt_41 : decode cX5_figureAt 41 = .ok (.ireturn, 1) := by decide +kernel
theorem dX5_figureAt_42 : decode cX5_figureAt 42 = .ok (.iinc 2 1, 3) := by decide +kernel
theorem dX5_figureAt_45 : decode cX5_figureAt 45 = .ok (.goto (-43), 3) := by decide +kernel
theorem dX5_figureAt_48 : decode cX5_figureAt 48 = .ok (.iconst (-1), 1) := by decide +kernel
theorem dX5_figureAt_49 : decode cX5_figureAt 49 = .ok (.ireturn, 1) := by decide +kernel
theorem dX5_canTake_0 : decode cX5_canTake 0 = .ok (.iload_n 1, 1) := by decide +kernel
theorem dX5_canTake_1 : decode cX5_canTake 1 = .ok (.iload_n 2, 1) := by decide +kernel
theorem dX5_canTake_2 : decode cX5_canTake 2 = .ok (.invokestatic 42, 3) := by decide +kernel
theorem dX5_canTake_5 : decode cX5_canTake 5 = .ok (.ifCond .eq 15, 3) := by decide +kernel
theorem dX5_canTake_8 : decode cX5_canTake 8 = .ok (.aload_n 0, 1) := by decide +kernel
theorem dX5_canTake_9 : decode cX5_canTake 9 = .ok (.iload_n 1, 1) := by decide +kernel
theorem dX5_canTake_10 : decode cX5_canTake 10 = .ok (.invokevirtual 46, 3) := by decide +kernel
theorem dX5_canTake_13 : decode cX5_canTake 13 = .ok (.ifCond .eq 7, 3) := by decide +kernel
theorem dX5_canTake_16 : decode cX5_canTake 16 = .ok (.iconst 1, 1) := by decide +kernel
theorem dX5_canTake_17 : decode cX5_canTake 17 = .ok (.goto 4, 3) := by decide +kernel
theorem dX5_canTake_20 : decode cX5_canTake 20 = .ok (.iconst 0, 1) := by decide +kernel
theorem dX5_canTake_21 : decode cX5_canTake 21 = .ok (.ireturn, 1) := by decide +kernel
theorem dX5_gripper_0 : decode cX5_gripper 0 = .ok (.aload_n 1, 1) := by decide +kernel
theorem dX5_gripper_1 : decode cX5_gripper 1 = .ok (.getfield 50, 3) := by decide +kernel
theorem dX5_gripper_4 : decode cX5_gripper 4 = .ok (.ifCond .ne 45, 3) := by decide +kernel
theorem dX5_gripper_7 : decode cX5_gripper 7 = .ok (.aload_n 1, 1) := by decide +kernel
theorem dX5_gripper_8 : decode cX5_gripper 8 = .ok (.getfield 53, 3) := by decide +kernel
theorem dX5_gripper_11 : decode cX5_gripper 11 = .ok (.ifCond .ne 7, 3) := by decide +kernel
theorem dX5_gripper_14 : decode cX5_gripper 14 = .ok (.iconst 2, 1) := by decide +kernel
theorem dX5_gripper_15 : decode cX5_gripper 15 = .ok (.goto 4, 3) := by decide +kernel
theorem dX5_gripper_18 : decode cX5_gripper 18 = .ok (.iconst 3, 1) := by decide +kernel
theorem dX5_gripper_19 : decode cX5_gripper 19 = .ok (.istore_n 2, 1) := by decide +kernel
theorem dX5_gripper_20 : decode cX5_gripper 20 = .ok (.aload_n 0, 1) := by decide +kernel
theorem dX5_gripper_21 : decode cX5_gripper 21 = .ok (.iload_n 2, 1) := by decide +kernel
theorem dX5_gripper_22 : decode cX5_gripper 22 = .ok (.invokevirtual 46, 3) := by decide +kernel
theorem dX5_gripper_25 : decode cX5_gripper 25 = .ok (.ifCond .eq 22, 3) := by decide +kernel
theorem dX5_gripper_28 : decode cX5_gripper 28 = .ok (.aload_n 0, 1) := by decide +kernel
theorem dX5_gripper_29 : decode cX5_gripper 29 = .ok (.aload_n 1, 1) := by decide +kernel
theorem dX5_gripper_30 : decode cX5_gripper 30 = .ok (.getfield 53, 3) := by decide +kernel
theorem dX5_gripper_33 : decode cX5_gripper 33 = .ok (.invokestatic 56, 3) := by decide +kernel
theorem dX5_gripper_36 : decode cX5_gripper 36 = .ok (.invokevirtual 60, 3) := by decide +kernel
theorem dX5_gripper_39 : decode cX5_gripper 39 = .ok (.iconst (-1), 1) := by decide +kernel
theorem dX5_gripper_40 : decode cX5_gripper 40 = .ok (.if_icmp .ne 7, 3) := by decide +kernel
theorem dX5_gripper_43 : decode cX5_gripper 43 = .ok (.iload_n 2, 1) := by decide +kernel
theorem dX5_gripper_44 : decode cX5_gripper 44 = .ok (.goto 4, 3) := by decide +kernel
theorem dX5_gripper_47 : decode cX5_gripper 47 = .ok (.iconst (-1), 1) := by decide +kernel
theorem dX5_gripper_48 : decode cX5_gripper 48 = .ok (.ireturn, 1) := by decide +kernel
theorem dX5_gripper_49 : decode cX5_gripper 49 = .ok (.aload_n 1, 1) := by decide +kernel
theorem dX5_gripper_50 : decode cX5_gripper 50 = .ok (.getfield 50, 3) := by decide +kernel
theorem dX5_gripper_53 : decode cX5_gripper 53 = .ok (.iconst 1, 1) := by decide +kernel
theorem dX5_gripper_54 : decode cX5_gripper 54 = .ok (.if_icmp .eq 5, 3) := by decide +kernel
theorem dX5_gripper_57 : decode cX5_gripper 57 = .ok (.iconst (-1), 1) := by decide +kernel
theorem dX5_gripper_58 : decode cX5_gripper 58 = .ok (.ireturn, 1) := by decide +kernel
theorem dX5_gripper_59 : decode cX5_gripper 59 = .ok (.aload_n 0, 1) := by decide +kernel
theorem dX5_gripper_60 : decode cX5_gripper 60 = .ok (.iconst 2, 1) := by decide +kernel
theorem dX5_gripper_61 : decode cX5_gripper 61 = .ok (.aload_n 1, 1) := by decide +kernel
theorem dX5_gripper_62 : decode cX5_gripper 62 = .ok (.getfield 39, 3) := by decide +kernel
theorem dX5_gripper_65 : decode cX5_gripper 65 = .ok (.invokevirtual 63, 3) := by decide +kernel
theorem dX5_gripper_68 : decode cX5_gripper 68 = .ok (.ifCond .eq 5, 3) := by decide +kernel
theorem dX5_gripper_71 : decode cX5_gripper 71 = .ok (.iconst 2, 1) := by decide +kernel
theorem dX5_gripper_72 : decode cX5_gripper 72 = .ok (.ireturn, 1) := by decide +kernel
theorem dX5_gripper_73 : decode cX5_gripper 73 = .ok (.aload_n 0, 1) := by decide +kernel
theorem dX5_gripper_74 : decode cX5_gripper 74 = .ok (.iconst 3, 1) := by decide +kernel
theorem dX5_gripper_75 : decode cX5_gripper 75 = .ok (.aload_n 1, 1) := by decide +kernel
theorem dX5_gripper_76 : decode cX5_gripper 76 = .ok (.getfield 39, 3) := by decide +kernel
theorem dX5_gripper_79 : decode cX5_gripper 79 = .ok (.invokevirtual 63, 3) := by decide +kernel
theorem dX5_gripper_82 : decode cX5_gripper 82 = .ok (.ifCond .eq 7, 3) := by decide +kernel
theorem dX5_gripper_85 : decode cX5_gripper 85 = .ok (.iconst 3, 1) := by decide +kernel
theorem dX5_gripper_86 : decode cX5_gripper 86 = .ok (.goto 4, 3) := by decide +kernel
theorem dX5_gripper_89 : decode cX5_gripper 89 = .ok (.iconst (-1), 1) := by decide +kernel
theorem dX5_gripper_90 : decode cX5_gripper 90 = .ok (.ireturn, 1) := by decide +kernel
theorem dX5_gripableFigures_0 : decode cX5_gripableFigures 0 = .ok (.iconst 0, 1) := by decide +kernel
theorem dX5_gripableFigures_1 : decode cX5_gripableFigures 1 = .ok (.istore_n 1, 1) := by decide +kernel
theorem dX5_gripableFigures_2 : decode cX5_gripableFigures 2 = .ok (.iconst 0, 1) := by decide +kernel
theorem dX5_gripableFigures_3 : decode cX5_gripableFigures 3 = .ok (.istore_n 2, 1) := by decide +kernel
theorem dX5_gripableFigures_4 : decode cX5_gripableFigures 4 = .ok (.iload_n 2, 1) := by decide +kernel
theorem dX5_gripableFigures_5 : decode cX5_gripableFigures 5 = .ok (.aload_n 0, 1) := by decide +kernel
theorem dX5_gripableFigures_6 : decode cX5_gripableFigures 6 = .ok (.getfield 12, 3) := by decide +kernel
theorem dX5_gripableFigures_9 : decode cX5_gripableFigures 9 = .ok (.invokevirtual 25, 3) := by decide +kernel
theorem dX5_gripableFigures_12 : decode cX5_gripableFigures 12 = .ok (.if_icmp .ge 34, 3) := by decide +kernel
theorem dX5_gripableFigures_15 : decode cX5_gripableFigures 15 = .ok (.aload_n 0, 1) := by decide +kernel
theorem dX5_gripableFigures_16 : decode cX5_gripableFigures 16 = .ok (.aload_n 0, 1) := by decide +kernel
theorem dX5_gripableFigures_17 : decode cX5_gripableFigures 17 = .ok (.getfield 12, 3) := by decide +kernel
theorem dX5_gripableFigures_20 : decode cX5_gripableFigures 20 = .ok (.iload_n 2, 1) := by decide +kernel
theorem dX5_gripableFigures_21 : decode cX5_gripableFigures 21 = .ok (.invokevirtual 29, 3) := by decide +kernel
theorem dX5_gripableFigures_24 : decode cX5_gripableFigures 24 = .ok (.checkcast 33, 3) := by decide +kernel
theorem dX5_gripableFigures_27 : decode cX5_gripableFigures 27 = .ok (.invokevirtual 66, 3) := by decide +kernel
theorem dX5_gripableFigures_30 : decode cX5_gripableFigures 30 = .ok (.iconst (-1), 1) := by decide +kernel
theorem dX5_gripableFigures_31 : decode cX5_gripableFigures 31 = .ok (.if_icmp .eq 9, 3) := by decide +kernel
theorem dX5_gripableFigures_34 : decode cX5_gripableFigures 34 = .ok (.iload_n 1, 1) := by decide +kernel
theorem dX5_gripableFigures_35 : decode cX5_gripableFigures 35 = .ok (.iconst 1, 1) := by decide +kernel
theorem dX5_gripableFigures_36 : decode cX5_gripableFigures 36 = .ok (.iload_n 2, 1) := by decide +kernel
theorem dX5_gripableFigures_37 : decode cX5_gripableFigures 37 = .ok (.ishl, 1) := by decide +kernel
theorem dX5_gripableFigures_38 : decode cX5_gripableFigures 38 = .ok (.ior, 1) := by decide +kernel
theorem dX5_gripableFigures_39 : decode cX5_gripableFigures 39 = .ok (.istore_n 1, 1) := by decide +kernel
theorem dX5_gripableFigures_40 : decode cX5_gripableFigures 40 = .ok (.iinc 2 1, 3) := by decide +kernel
theorem dX5_gripableFigures_43 : decode cX5_gripableFigures 43 = .ok (.goto (-39), 3) := by decide +kernel
theorem dX5_gripableFigures_46 : decode cX5_gripableFigures 46 = .ok (.iload_n 1, 1) := by decide +kernel
theorem dX5_gripableFigures_47 : decode cX5_gripableFigures 47 = .ok (.ireturn, 1) := by decide +kernel
theorem dX5_shadow_0 : decode cX5_shadow 0 = .ok (.aload_n 0, 1) := by decide +kernel
theorem dX5_shadow_1 : decode cX5_shadow 1 = .ok (.getfield 18, 3) := by decide +kernel
theorem dX5_shadow_4 : decode cX5_shadow 4 = .ok (.iload_n 2, 1) := by decide +kernel
theorem dX5_shadow_5 : decode cX5_shadow 5 = .ok (.isub, 1) := by decide +kernel
theorem dX5_shadow_6 : decode cX5_shadow 6 = .ok (.istore_n 3, 1) := by decide +kernel
theorem dX5_shadow_7 : decode cX5_shadow 7 = .ok (.iload_n 3, 1) := by decide +kernel
theorem dX5_shadow_8 : decode cX5_shadow 8 = .ok (.ifCond .gt 5, 3) := by decide +kernel
theorem dX5_shadow_11 : decode cX5_shadow 11 = .ok (.iconst 0, 1) := by decide +kernel
theorem dX5_shadow_12 : decode cX5_shadow 12 = .ok (.ireturn, 1) := by decide +kernel
theorem dX5_shadow_13 : decode cX5_shadow 13 = .ok (.aload_n 1, 1) := by decide +kernel
theorem dX5_shadow_14 : decode cX5_shadow 14 = .ok (.getfield 70, 3) := by decide +kernel
theorem dX5_shadow_17 : decode cX5_shadow 17 = .ok (.aload_n 0, 1) := by decide +kernel
theorem dX5_shadow_18 : decode cX5_shadow 18 = .ok (.getfield 18, 3) := by decide +kernel
theorem dX5_shadow_21 : decode cX5_shadow 21 = .ok (.imul, 1) := by decide +kernel
theorem dX5_shadow_22 : decode cX5_shadow 22 = .ok (.iload_n 3, 1) := by decide +kernel
theorem dX5_shadow_23 : decode cX5_shadow 23 = .ok (.idiv, 1) := by decide +kernel
theorem dX5_shadow_24 : decode cX5_shadow 24 = .ok (.ireturn, 1) := by decide +kernel
theorem dX5_leastLift_0 : decode cX5_leastLift 0 = .ok (.iconst 0, 1) := by decide +kernel
theorem dX5_leastLift_1 : decode cX5_leastLift 1 = .ok (.istore_n 3, 1) := by decide +kernel
theorem dX5_leastLift_2 : decode cX5_leastLift 2 = .ok (.iload_n 3, 1) := by decide +kernel
theorem dX5_leastLift_3 : decode cX5_leastLift 3 = .ok (.bipush 15, 2) := by decide +kernel
theorem dX5_leastLift_5 : decode cX5_leastLift 5 = .ok (.if_icmp .gt 21, 3) := by decide +kernel
theorem dX5_leastLift_8 : decode cX5_leastLift 8 = .ok (.aload_n 0, 1) := by decide +kernel
theorem dX5_leastLift_9 : decode cX5_leastLift 9 = .ok (.aload_n 1, 1) := by decide +kernel
theorem dX5_leastLift_10 : decode cX5_leastLift 10 = .ok (.iload_n 3, 1) := by decide +kernel
theorem dX5_leastLift_11 : decode cX5_leastLift 11 = .ok (.invokevirtual 73, 3) := by decide +kernel
theorem dX5_leastLift_14 : decode cX5_leastLift 14 = .ok (.iload_n 2, 1) := by decide +kernel
theorem dX5_leastLift_15 : decode cX5_leastLift 15 = .ok (.if_icmp .lt 5, 3) := by decide +kernel
theorem dX5_leastLift_18 : decode cX5_leastLift 18 = .ok (.iload_n 3, 1) := by decide +kernel
theorem dX5_leastLift_19 : decode cX5_leastLift 19 = .ok (.ireturn, 1) := by decide +kernel
theorem dX5_leastLift_20 : decode cX5_leastLift 20 = .ok (.iinc 3 1, 3) := by decide +kernel
theorem dX5_leastLift_23 : decode cX5_leastLift 23 = .ok (.goto (-21), 3) := by decide +kernel
theorem dX5_leastLift_26 : decode cX5_leastLift 26 = .ok (.iconst (-1), 1) := by decide +kernel
theorem dX5_leastLift_27 : decode cX5_leastLift 27 = .ok (.ireturn, 1) := by decide +kernel
theorem dX5_shownFigures_0 : decode cX5_shownFigures 0 = .ok (.iconst 0, 1) := by decide +kernel
theorem dX5_shownFigures_1 : decode cX5_shownFigures 1 = .ok (.istore_n 1, 1) := by decide +kernel
theorem dX5_shownFigures_2 : decode cX5_shownFigures 2 = .ok (.iconst 0, 1) := by decide +kernel
theorem dX5_shownFigures_3 : decode cX5_shownFigures 3 = .ok (.istore_n 2, 1) := by decide +kernel
theorem dX5_shownFigures_4 : decode cX5_shownFigures 4 = .ok (.iload_n 2, 1) := by decide +kernel
theorem dX5_shownFigures_5 : decode cX5_shownFigures 5 = .ok (.aload_n 0, 1) := by decide +kernel
theorem dX5_shownFigures_6 : decode cX5_shownFigures 6 = .ok (.getfield 12, 3) := by decide +kernel
theorem dX5_shownFigures_9 : decode cX5_shownFigures 9 = .ok (.invokevirtual 25, 3) := by decide +kernel
theorem dX5_shownFigures_12 : decode cX5_shownFigures 12 = .ok (.if_icmp .ge 29, 3) := by decide +kernel
theorem dX5_shownFigures_15 : decode cX5_shownFigures 15 = .ok (.aload_n 0, 1) := by decide +kernel
theorem dX5_shownFigures_16 : decode cX5_shownFigures 16 = .ok (.getfield 12, 3) := by decide +kernel
theorem dX5_shownFigures_19 : decode cX5_shownFigures 19 = .ok (.iload_n 2, 1) := by decide +kernel
theorem dX5_shownFigures_20 : decode cX5_shownFigures 20 = .ok (.invokevirtual 29, 3) := by decide +kernel
theorem dX5_shownFigures_23 : decode cX5_shownFigures 23 = .ok (.checkcast 33, 3) := by decide +kernel
theorem dX5_shownFigures_26 : decode cX5_shownFigures 26 = .ok (.invokevirtual 35, 3) := by decide +kernel
theorem dX5_shownFigures_29 : decode cX5_shownFigures 29 = .ok (.ifCond .eq 6, 3) := by decide +kernel
theorem dX5_shownFigures_32 : decode cX5_shownFigures 32 = .ok (.iinc 1 1, 3) := by decide +kernel
theorem dX5_shownFigures_35 : decode cX5_shownFigures 35 = .ok (.iinc 2 1, 3) := by decide +kernel
theorem dX5_shownFigures_38 : decode cX5_shownFigures 38 = .ok (.goto (-34), 3) := by decide +kernel
theorem dX5_shownFigures_41 : decode cX5_shownFigures 41 = .ok (.iload_n 1, 1) := by decide +kernel
theorem dX5_shownFigures_42 : decode cX5_shownFigures 42 = .ok (.ireturn, 1) := by decide +kernel
theorem dX5_shownPersons_0 : decode cX5_shownPersons 0 = .ok (.iconst 0, 1) := by decide +kernel
theorem dX5_shownPersons_1 : decode cX5_shownPersons 1 = .ok (.istore_n 1, 1) := by decide +kernel
theorem dX5_shownPersons_2 : decode cX5_shownPersons 2 = .ok (.iconst 0, 1) := by decide +kernel
theorem dX5_shownPersons_3 : decode cX5_shownPersons 3 = .ok (.istore_n 2, 1) := by decide +kernel
theorem dX5_shownPersons_4 : decode cX5_shownPersons 4 = .ok (.iload_n 2, 1) := by decide +kernel
theorem dX5_shownPersons_5 : decode cX5_shownPersons 5 = .ok (.aload_n 0, 1) := by decide +kernel
theorem dX5_shownPersons_6 : decode cX5_shownPersons 6 = .ok (.getfield 12, 3) := by decide +kernel
theorem dX5_shownPersons_9 : decode cX5_shownPersons 9 = .ok (.invokevirtual 25, 3) := by decide +kernel
theorem dX5_shownPersons_12 : decode cX5_shownPersons 12 = .ok (.if_icmp .ge 37, 3) := by decide +kernel
theorem dX5_shownPersons_15 : decode cX5_shownPersons 15 = .ok (.aload_n 0, 1) := by decide +kernel
theorem dX5_shownPersons_16 : decode cX5_shownPersons 16 = .ok (.getfield 12, 3) := by decide +kernel
theorem dX5_shownPersons_19 : decode cX5_shownPersons 19 = .ok (.iload_n 2, 1) := by decide +kernel
theorem dX5_shownPersons_20 : decode cX5_shownPersons 20 = .ok (.invokevirtual 29, 3) := by decide +kernel
theorem dX5_shownPersons_23 : decode cX5_shownPersons 23 = .ok (.checkcast 33, 3) := by decide +kernel
theorem dX5_shownPersons_26 : decode cX5_shownPersons 26 = .ok (.astore_n 3, 1) := by decide +kernel
theorem dX5_shownPersons_27 : decode cX5_shownPersons 27 = .ok (.aload_n 3, 1) := by decide +kernel
theorem dX5_shownPersons_28 : decode cX5_shownPersons 28 = .ok (.invokevirtual 35, 3) := by decide +kernel
theorem dX5_shownPersons_31 : decode cX5_shownPersons 31 = .ok (.ifCond .eq 12, 3) := by decide +kernel
theorem dX5_shownPersons_34 : decode cX5_shownPersons 34 = .ok (.iload_n 1, 1) := by decide +kernel
theorem dX5_shownPersons_35 : decode cX5_shownPersons 35 = .ok (.iconst 1, 1) := by decide +kernel
theorem dX5_shownPersons_36 : decode cX5_shownPersons 36 = .ok (.aload_n 3, 1) := by decide +kernel
theorem dX5_shownPersons_37 : decode cX5_shownPersons 37 = .ok (.getfield 77, 3) := by decide +kernel
theorem dX5_shownPersons_40 : decode cX5_shownPersons 40 = .ok (.ishl, 1) := by decide +kernel
theorem dX5_shownPersons_41 : decode cX5_shownPersons 41 = .ok (.ior, 1) := by decide +kernel
theorem dX5_shownPersons_42 : decode cX5_shownPersons 42 = .ok (.istore_n 1, 1) := by decide +kernel
theorem dX5_shownPersons_43 : decode cX5_shownPersons 43 = .ok (.iinc 2 1, 3) := by decide +kernel
theorem dX5_shownPersons_46 : decode cX5_shownPersons 46 = .ok (.goto (-42), 3) := by decide +kernel
theorem dX5_shownPersons_49 : decode cX5_shownPersons 49 = .ok (.iload_n 1, 1) := by decide +kernel
theorem dX5_shownPersons_50 : decode cX5_shownPersons 50 = .ok (.ireturn, 1) := by decide +kernel
theorem dX5_shadowSum_0 : decode cX5_shadowSum 0 = .ok (.iconst 0, 1) := by decide +kernel
theorem dX5_shadowSum_1 : decode cX5_shadowSum 1 = .ok (.istore_n 1, 1) := by decide +kernel
theorem dX5_shadowSum_2 : decode cX5_shadowSum 2 = .ok (.iconst 0, 1) := by decide +kernel
theorem dX5_shadowSum_3 : decode cX5_shadowSum 3 = .ok (.istore_n 2, 1) := by decide +kernel
theorem dX5_shadowSum_4 : decode cX5_shadowSum 4 = .ok (.iload_n 2, 1) := by decide +kernel
theorem dX5_shadowSum_5 : decode cX5_shadowSum 5 = .ok (.aload_n 0, 1) := by decide +kernel
theorem dX5_shadowSum_6 : decode cX5_shadowSum 6 = .ok (.getfield 12, 3) := by decide +kernel
theorem dX5_shadowSum_9 : decode cX5_shadowSum 9 = .ok (.invokevirtual 25, 3) := by decide +kernel
theorem dX5_shadowSum_12 : decode cX5_shadowSum 12 = .ok (.if_icmp .ge 40, 3) := by decide +kernel
theorem dX5_shadowSum_15 : decode cX5_shadowSum 15 = .ok (.aload_n 0, 1) := by decide +kernel
theorem dX5_shadowSum_16 : decode cX5_shadowSum 16 = .ok (.getfield 12, 3) := by decide +kernel
theorem dX5_shadowSum_19 : decode cX5_shadowSum 19 = .ok (.iload_n 2, 1) := by decide +kernel
theorem dX5_shadowSum_20 : decode cX5_shadowSum 20 = .ok (.invokevirtual 29, 3) := by decide +kernel
theorem dX5_shadowSum_23 : decode cX5_shadowSum 23 = .ok (.checkcast 33, 3) := by decide +kernel
theorem dX5_shadowSum_26 : decode cX5_shadowSum 26 = .ok (.astore_n 3, 1) := by decide +kernel
theorem dX5_shadowSum_27 : decode cX5_shadowSum 27 = .ok (.aload_n 3, 1) := by decide +kernel
theorem dX5_shadowSum_28 : decode cX5_shadowSum 28 = .ok (.invokevirtual 35, 3) := by decide +kernel
theorem dX5_shadowSum_31 : decode cX5_shadowSum 31 = .ok (.ifCond .eq 15, 3) := by decide +kernel
theorem dX5_shadowSum_34 : decode cX5_shadowSum 34 = .ok (.iload_n 1, 1) := by decide +kernel
theorem dX5_shadowSum_35 : decode cX5_shadowSum 35 = .ok (.aload_n 0, 1) := by decide +kernel
theorem dX5_shadowSum_36 : decode cX5_shadowSum 36 = .ok (.aload_n 3, 1) := by decide +kernel
theorem dX5_shadowSum_37 : decode cX5_shadowSum 37 = .ok (.aload_n 3, 1) := by decide +kernel
theorem dX5_shadowSum_38 : decode cX5_shadowSum 38 = .ok (.getfield 80, 3) := by decide +kernel
theorem dX5_shadowSum_41 : decode cX5_shadowSum 41 = .ok (.invokevirtual 73, 3) := by decide +kernel
theorem dX5_shadowSum_44 : decode cX5_shadowSum 44 = .ok (.iadd, 1) := by decide +kernel
theorem dX5_shadowSum_45 : decode cX5_shadowSum 45 = .ok (.istore_n 1, 1) := by decide +kernel
theorem dX5_shadowSum_46 : decode cX5_shadowSum 46 = .ok (.iinc 2 1, 3) := by decide +kernel
theorem dX5_shadowSum_49 : decode cX5_shadowSum 49 = .ok (.goto (-45), 3) := by decide +kernel
theorem dX5_shadowSum_52 : decode cX5_shadowSum 52 = .ok (.iload_n 1, 1) := by decide +kernel
theorem dX5_shadowSum_53 : decode cX5_shadowSum 53 = .ok (.ireturn, 1) := by decide +kernel
theorem dX5_wearShown_0 : decode cX5_wearShown 0 = .ok (.iconst 0, 1) := by decide +kernel
theorem dX5_wearShown_1 : decode cX5_wearShown 1 = .ok (.istore_n 1, 1) := by decide +kernel
theorem dX5_wearShown_2 : decode cX5_wearShown 2 = .ok (.iload_n 1, 1) := by decide +kernel
theorem dX5_wearShown_3 : decode cX5_wearShown 3 = .ok (.aload_n 0, 1) := by decide +kernel
theorem dX5_wearShown_4 : decode cX5_wearShown 4 = .ok (.getfield 12, 3) := by decide +kernel
theorem dX5_wearShown_7 : decode cX5_wearShown 7 = .ok (.invokevirtual 25, 3) := by decide +kernel
theorem dX5_wearShown_10 : decode cX5_wearShown 10 = .ok (.if_icmp .ge 33, 3) := by decide +kernel
theorem dX5_wearShown_13 : decode cX5_wearShown 13 = .ok (.aload_n 0, 1) := by decide +kernel
theorem dX5_wearShown_14 : decode cX5_wearShown 14 = .ok (.getfield 12, 3) := by decide +kernel
theorem dX5_wearShown_17 : decode cX5_wearShown 17 = .ok (.iload_n 1, 1) := by decide +kernel
theorem dX5_wearShown_18 : decode cX5_wearShown 18 = .ok (.invokevirtual 29, 3) := by decide +kernel
theorem dX5_wearShown_21 : decode cX5_wearShown 21 = .ok (.checkcast 33, 3) := by decide +kernel
theorem dX5_wearShown_24 : decode cX5_wearShown 24 = .ok (.astore_n 2, 1) := by decide +kernel
theorem dX5_wearShown_25 : decode cX5_wearShown 25 = .ok (.aload_n 2, 1) := by decide +kernel
theorem dX5_wearShown_26 : decode cX5_wearShown 26 = .ok (.invokevirtual 35, 3) := by decide +kernel
theorem dX5_wearShown_29 : decode cX5_wearShown 29 = .ok (.ifCond .eq 8, 3) := by decide +kernel
theorem dX5_wearShown_32 : decode cX5_wearShown 32 = .ok (.aload_n 2, 1) := by decide +kernel
theorem dX5_wearShown_33 : decode cX5_wearShown 33 = .ok (.iconst 1, 1) := by decide +kernel
theorem dX5_wearShown_34 : decode cX5_wearShown 34 = .ok (.invokevirtual 83, 3) := by decide +kernel
theorem dX5_wearShown_37 : decode cX5_wearShown 37 = .ok (.iinc 1 1, 3) := by decide +kernel
theorem dX5_wearShown_40 : decode cX5_wearShown 40 = .ok (.goto (-38), 3) := by decide +kernel
theorem dX5_wearShown_43 : decode cX5_wearShown 43 = .ok (.return_, 1) := by decide +kernel
theorem dX5_figureValue_0 : decode cX5_figureValue 0 = .ok (.iload_n 2, 1) := by decide +kernel
theorem dX5_figureValue_1 : decode cX5_figureValue 1 = .ok (.tableswitch 83 0 6 #[43, 48, 53, 58, 63, 68, 73], 43) := by decide +kernel
theorem dX5_figureValue_44 : decode cX5_figureValue 44 = .ok (.aload_n 1, 1) := by decide +kernel
theorem dX5_figureValue_45 : decode cX5_figureValue 45 = .ok (.getfield 77, 3) := by decide +kernel
theorem dX5_figureValue_48 : decode cX5_figureValue 48 = .ok (.ireturn, 1) := by decide +kernel
theorem dX5_figureValue_49 : decode cX5_figureValue 49 = .ok (.aload_n 1, 1) := by decide +kernel
theorem dX5_figureValue_50 : decode cX5_figureValue 50 = .ok (.getfield 70, 3) := by decide +kernel
theorem dX5_figureValue_53 : decode cX5_figureValue 53 = .ok (.ireturn, 1) := by decide +kernel
theorem dX5_figureValue_54 : decode cX5_figureValue 54 = .ok (.aload_n 1, 1) := by decide +kernel
theorem dX5_figureValue_55 : decode cX5_figureValue 55 = .ok (.getfield 87, 3) := by decide +kernel
theorem dX5_figureValue_58 : decode cX5_figureValue 58 = .ok (.ireturn, 1) := by decide +kernel
theorem dX5_figureValue_59 : decode cX5_figureValue 59 = .ok (.aload_n 1, 1) := by decide +kernel
theorem dX5_figureValue_60 : decode cX5_figureValue 60 = .ok (.getfield 50, 3) := by decide +kernel
theorem dX5_figureValue_63 : decode cX5_figureValue 63 = .ok (.ireturn, 1) := by decide +kernel
theorem dX5_figureValue_64 : decode cX5_figureValue 64 = .ok (.aload_n 1, 1) := by decide +kernel
theorem dX5_figureValue_65 : decode cX5_figureValue 65 = .ok (.getfield 39, 3) := by decide +kernel
theorem dX5_figureValue_68 : decode cX5_figureValue 68 = .ok (.ireturn, 1) := by decide +kernel
theorem dX5_figureValue_69 : decode cX5_figureValue 69 = .ok (.aload_n 1, 1) := by decide +kernel
theorem dX5_figureValue_70 : decode cX5_figureValue 70 = .ok (.getfield 80, 3) := by decide +kernel
theorem dX5_figureValue_73 : decode cX5_figureValue 73 = .ok (.ireturn, 1) := by decide +kernel
theorem dX5_figureValue_74 : decode cX5_figureValue 74 = .ok (.aload_n 0, 1) := by decide +kernel
theorem dX5_figureValue_75 : decode cX5_figureValue 75 = .ok (.aload_n 1, 1) := by decide +kernel
theorem dX5_figureValue_76 : decode cX5_figureValue 76 = .ok (.aload_n 1, 1) := by decide +kernel
theorem dX5_figureValue_77 : decode cX5_figureValue 77 = .ok (.getfield 80, 3) := by decide +kernel
theorem dX5_figureValue_80 : decode cX5_figureValue 80 = .ok (.invokevirtual 73, 3) := by decide +kernel
theorem dX5_figureValue_83 : decode cX5_figureValue 83 = .ok (.ireturn, 1) := by decide +kernel
theorem dX5_figureValue_84 : decode cX5_figureValue 84 = .ok (.aload_n 1, 1) := by decide +kernel
theorem dX5_figureValue_85 : decode cX5_figureValue 85 = .ok (.getfield 80, 3) := by decide +kernel
theorem dX5_figureValue_88 : decode cX5_figureValue 88 = .ok (.aload_n 0, 1) := by decide +kernel
theorem dX5_figureValue_89 : decode cX5_figureValue 89 = .ok (.getfield 22, 3) := by decide +kernel
theorem dX5_figureValue_92 : decode cX5_figureValue 92 = .ok (.iconst 1, 1) := by decide +kernel
theorem dX5_figureValue_93 : decode cX5_figureValue 93 = .ok (.iadd, 1) := by decide +kernel
theorem dX5_figureValue_94 : decode cX5_figureValue 94 = .ok (.imul, 1) := by decide +kernel
theorem dX5_figureValue_95 : decode cX5_figureValue 95 = .ok (.iconst 4, 1) := by decide +kernel
theorem dX5_figureValue_96 : decode cX5_figureValue 96 = .ok (.idiv, 1) := by decide +kernel
theorem dX5_figureValue_97 : decode cX5_figureValue 97 = .ok (.aload_n 1, 1) := by decide +kernel
theorem dX5_figureValue_98 : decode cX5_figureValue 98 = .ok (.getfield 87, 3) := by decide +kernel
theorem dX5_figureValue_101 : decode cX5_figureValue 101 = .ok (.bipush 10, 2) := by decide +kernel
theorem dX5_figureValue_103 : decode cX5_figureValue 103 = .ok (.idiv, 1) := by decide +kernel
theorem dX5_figureValue_104 : decode cX5_figureValue 104 = .ok (.iadd, 1) := by decide +kernel
theorem dX5_figureValue_105 : decode cX5_figureValue 105 = .ok (.ireturn, 1) := by decide +kernel
theorem dX5_isFree_0 : decode cX5_isFree 0 = .ok (.iconst 0, 1) := by decide +kernel
theorem dX5_isFree_1 : decode cX5_isFree 1 = .ok (.istore_n 2, 1) := by decide +kernel
theorem dX5_isFree_2 : decode cX5_isFree 2 = .ok (.iload_n 2, 1) := by decide +kernel
theorem dX5_isFree_3 : decode cX5_isFree 3 = .ok (.aload_n 0, 1) := by decide +kernel
theorem dX5_isFree_4 : decode cX5_isFree 4 = .ok (.getfield 12, 3) := by decide +kernel
theorem dX5_isFree_7 : decode cX5_isFree 7 = .ok (.invokevirtual 25, 3) := by decide +kernel
theorem dX5_isFree_10 : decode cX5_isFree 10 = .ok (.if_icmp .ge 29, 3) := by decide +kernel
theorem dX5_isFree_13 : decode cX5_isFree 13 = .ok (.aload_n 0, 1) := by decide +kernel
theorem dX5_isFree_14 : decode cX5_isFree 14 = .ok (.getfield 12, 3) := by decide +kernel
theorem dX5_isFree_17 : decode cX5_isFree 17 = .ok (.iload_n 2, 1) := by decide +kernel
theorem dX5_isFree_18 : decode cX5_isFree 18 = .ok (.invokevirtual 29, 3) := by decide +kernel
theorem dX5_isFree_21 : decode cX5_isFree 21 = .ok (.checkcast 33, 3) := by decide +kernel
theorem dX5_isFree_24 : decode cX5_isFree 24 = .ok (.getfield 50, 3) := by decide +kernel
theorem dX5_isFree_27 : decode cX5_isFree 27 = .ok (.iload_n 1, 1) := by decide +kernel
theorem dX5_isFree_28 : decode cX5_isFree 28 = .ok (.if_icmp .ne 5, 3) := by decide +kernel
theorem dX5_isFree_31 : decode cX5_isFree 31 = .ok (.iconst 0, 1) := by decide +kernel
theorem dX5_isFree_32 : decode cX5_isFree 32 = .ok (.ireturn, 1) := by decide +kernel
theorem dX5_isFree_33 : decode cX5_isFree 33 = .ok (.iinc 2 1, 3) := by decide +kernel
theorem dX5_isFree_36 : decode cX5_isFree 36 = .ok (.goto (-34), 3) := by decide +kernel
theorem dX5_isFree_39 : decode cX5_isFree 39 = .ok (.iconst 1, 1) := by decide +kernel
theorem dX5_isFree_40 : decode cX5_isFree 40 = .ok (.ireturn, 1) := by decide +kernel
theorem dX6_init_0 : decode cX6_init 0 = .ok (.aload_n 0, 1) := by decide +kernel
theorem dX6_init_1 : decode cX6_init 1 = .ok (.invokespecial 1, 3) := by decide +kernel
theorem dX6_init_4 : decode cX6_init 4 = .ok (.aload_n 0, 1) := by decide +kernel
theorem dX6_init_5 : decode cX6_init 5 = .ok (.new 7, 3) := by decide +kernel
theorem dX6_init_8 : decode cX6_init 8 = .ok (.dup, 1) := by decide +kernel
theorem dX6_init_9 : decode cX6_init 9 = .ok (.invokespecial 9, 3) := by decide +kernel
theorem dX6_init_12 : decode cX6_init 12 = .ok (.putfield 10, 3) := by decide +kernel
theorem dX6_init_15 : decode cX6_init 15 = .ok (.aload_n 0, 1) := by decide +kernel
theorem dX6_init_16 : decode cX6_init 16 = .ok (.new 16, 3) := by decide +kernel
theorem dX6_init_19 : decode cX6_init 19 = .ok (.dup, 1) := by decide +kernel
theorem dX6_init_20 : decode cX6_init 20 = .ok (.invokespecial 18, 3) := by decide +kernel
theorem dX6_init_23 : decode cX6_init 23 = .ok (.putfield 19, 3) := by decide +kernel
theorem dX6_init_26 : decode cX6_init 26 = .ok (.aload_n 0, 1) := by decide +kernel
theorem dX6_init_27 : decode cX6_init 27 = .ok (.new 23, 3) := by decide +kernel
theorem dX6_init_30 : decode cX6_init 30 = .ok (.dup, 1) := by decide +kernel
theorem dX6_init_31 : decode cX6_init 31 = .ok (.invokespecial 25, 3) := by decide +kernel
theorem dX6_init_34 : decode cX6_init 34 = .ok (.putfield 26, 3) := by decide +kernel
theorem dX6_init_37 : decode cX6_init 37 = .ok (.aload_n 0, 1) := by decide +kernel
theorem dX6_init_38 : decode cX6_init 38 = .ok (.iconst 0, 1) := by decide +kernel
theorem dX6_init_39 : decode cX6_init 39 = .ok (.putfield 30, 3) := by decide +kernel
theorem dX6_init_42 : decode cX6_init 42 = .ok (.aload_n 0, 1) := by decide +kernel
theorem dX6_init_43 : decode cX6_init 43 = .ok (.iconst 0, 1) := by decide +kernel
theorem dX6_init_44 : decode cX6_init 44 = .ok (.putfield 34, 3) := by decide +kernel
theorem dX6_init_47 : decode cX6_init 47 = .ok (.aload_n 0, 1) := by decide +kernel
theorem dX6_init_48 : decode cX6_init 48 = .ok (.iconst 5, 1) := by decide +kernel
theorem dX6_init_49 : decode cX6_init 49 = .ok (.putfield 37, 3) := by decide +kernel
theorem dX6_init_52 : decode cX6_init 52 = .ok (.aload_n 0, 1) := by decide +kernel
theorem dX6_init_53 : decode cX6_init 53 = .ok (.bipush 20, 2) := by decide +kernel
theorem dX6_init_55 : decode cX6_init 55 = .ok (.putfield 40, 3) := by decide +kernel
theorem dX6_init_58 : decode cX6_init 58 = .ok (.aload_n 0, 1) := by decide +kernel
theorem dX6_init_59 : decode cX6_init 59 = .ok (.iconst 0, 1) := by decide +kernel
theorem dX6_init_60 : decode cX6_init 60 = .ok (.putfield 43, 3) := by decide +kernel
theorem dX6_init_63 : decode cX6_init 63 = .ok (.aload_n 0, 1) := by decide +kernel
theorem dX6_init_64 : decode cX6_init 64 = .ok (.iconst 0, 1) := by decide +kernel
theorem dX6_init_65 : decode cX6_init 65 = .ok (.putfield 46, 3) := by decide +kernel
theorem dX6_init_68 : decode cX6_init 68 = .ok (.aload_n 0, 1) := by decide +kernel
theorem dX6_init_69 : decode cX6_init 69 = .ok (.iconst 0, 1) := by decide +kernel
theorem dX6_init_70 : decode cX6_init 70 = .ok (.putfield 49, 3) := by decide +kernel
theorem dX6_init_73 : decode cX6_init 73 = .ok (.return_, 1) := by decide +kernel
theorem dX6_person_0 : decode cX6_person 0 = .ok (.iload_n 1, 1) := by decide +kernel
theorem dX6_person_1 : decode cX6_person 1 = .ok (.iconst 0, 1) := by decide +kernel
theorem dX6_person_2 : decode cX6_person 2 = .ok (.iconst 1, 1) := by decide +kernel
theorem dX6_person_3 : decode cX6_person 3 = .ok (.invokestatic 52, 3) := by decide +kernel
theorem dX6_person_6 : decode cX6_person 6 = .ok (.ifCond .ne 47, 3) := by decide +kernel
theorem dX6_person_9 : decode cX6_person 9 = .ok (.iload_n 2, 1) := by decide +kernel
theorem dX6_person_10 : decode cX6_person 10 = .ok (.iconst 0, 1) := by decide +kernel
theorem dX6_person_11 : decode cX6_person 11 = .ok (.iconst 3, 1) := by decide +kernel
theorem dX6_person_12 : decode cX6_person 12 = .ok (.invokestatic 52, 3) := by decide +kernel
theorem dX6_person_15 : decode cX6_person 15 = .ok (.ifCond .ne 38, 3) := by decide +kernel
theorem dX6_person_18 : decode cX6_person 18 = .ok (.iload_n 3, 1) := by decide +kernel
theorem dX6_person_19 : decode cX6_person 19 = .ok (.iconst 0, 1) := by decide +kernel
theorem dX6_person_20 : decode cX6_person 20 = .ok (.bipush 9, 2) := by decide +kernel
theorem dX6_person_22 : decode cX6_person 22 = .ok (.invokestatic 52, 3) := by decide +kernel
theorem dX6_person_25 : decode cX6_person 25 = .ok (.ifCond .ne 28, 3) := by decide +kernel
theorem dX6_person_28 : decode cX6_person 28 = .ok (.iload 4, 2) := by decide +kernel
theorem dX6_person_30 : decode cX6_person 30 = .ok (.iconst 0, 1) := by decide +kernel
theorem dX6_person_31 : decode cX6_person 31 = .ok (.bipush 99, 2) := by decide +kernel
theorem dX6_person_33 : decode cX6_person 33 = .ok (.invokestatic 52, 3) := by decide +kernel
theorem dX6_person_36 : decode cX6_person 36 = .ok (.ifCond .ne 17, 3) := by decide +kernel
theorem dX6_person_39 : decode cX6_person 39 = .ok (.iload 5, 2) := by decide +kernel
theorem dX6_person_41 : decode cX6_person 41 = .ok (.iload 4, 2) := by decide +kernel
theorem dX6_person_43 : decode cX6_person 43 = .ok (.if_icmp .le 10, 3) := by decide +kernel
theorem dX6_person_46 : decode cX6_person 46 = .ok (.iload 5, 2) := by decide +kernel
theorem dX6_person_48 : decode cX6_person 48 = .ok (.bipush 100, 2) := by decide +kernel
theorem dX6_person_50 : decode cX6_person 50 = .ok (.if_icmp .le 13, 3) := by decide +kernel
theorem dX6_person_53 : decode cX6_person 53 = .ok (.new 56, 3) := by decide +kernel
theorem dX6_person_56 : decode cX6_person 56 = .ok (.dup, 1) := by decide +kernel
theorem dX6_person_57 : decode cX6_person 57 = .ok (.ldc 58, 2) := by decide +kernel
theorem dX6_person_59 : decode cX6_person 59 = .ok (.invokespecial 60, 3) := by decide +kernel
theorem dX6_person_62 : decode cX6_person 62 = .ok (.athrow, 1) := by decide +kernel
theorem dX6_person_63 : decode cX6_person 63 = .ok (.aload_n 0, 1) := by decide +kernel
theorem dX6_person_64 : decode cX6_person 64 = .ok (.getfield 10, 3) := by decide +kernel
theorem dX6_person_67 : decode cX6_person 67 = .ok (.getfield 63, 3) := by decide +kernel
theorem dX6_person_70 : decode cX6_person 70 = .ok (.invokevirtual 67, 3) := by decide +kernel
theorem dX6_person_73 : decode cX6_person 73 = .ok (.bipush 8, 2) := by decide +kernel
theorem dX6_person_75 : decode cX6_person 75 = .ok (.if_icmp .lt 13, 3) := by decide +kernel
theorem dX6_person_78 : decode cX6_person 78 = .ok (.new 73, 3) := by decide +kernel
theorem dX6_person_81 : decode cX6_person 81 = .ok (.dup, 1) := by decide +kernel
theorem dX6_person_82 : decode cX6_person 82 = .ok (.ldc 75, 2) := by decide +kernel
theorem dX6_person_84 : decode cX6_person 84 = .ok (.invokespecial 77, 3) := by decide +kernel
theorem dX6_person_87 : decode cX6_person 87 = .ok (.athrow, 1) := by decide +kernel
theorem dX6_person_88 : decode cX6_person 88 = .ok (.aload_n 0, 1) := by decide +kernel
theorem dX6_person_89 : decode cX6_person 89 = .ok (.getfield 10, 3) := by decide +kernel
theorem dX6_person_92 : decode cX6_person 92 = .ok (.new 78, 3) := by decide +kernel
theorem dX6_person_95 : decode cX6_person 95 = .ok (.dup, 1) := by decide +kernel
theorem dX6_person_96 : decode cX6_person 96 = .ok (.iload_n 1, 1) := by decide +kernel
theorem dX6_person_97 : decode cX6_person 97 = .ok (.iload_n 2, 1) := by decide +kernel
theorem dX6_person_98 : decode cX6_person 98 = .ok (.iload_n 3, 1) := by decide +kernel
theorem dX6_person_99 : decode cX6_person 99 = .ok (.iload 4, 2) := by decide +kernel
theorem dX6_person_101 : decode cX6_person 101 = .ok (.iload 5, 2) := by decide +kernel
theorem dX6_person_103 : decode cX6_person 103 = .ok (.iload 6, 2) := by decide +kernel
theorem dX6_person_105 : decode cX6_person 105 = .ok (.invokespecial 80, 3) := by decide +kernel
theorem dX6_person_108 : decode cX6_person 108 = .ok (.invokevirtual 83, 3) := by decide +kernel
theorem dX6_person_111 : decode cX6_person 111 = .ok (.ireturn, 1) := by decide +kernel
theorem dX6_figure_0 : decode cX6_figure 0 = .ok (.aload_n 0, 1) := by decide +kernel
theorem dX6_figure_1 : decode cX6_figure 1 = .ok (.iload_n 1, 1) := by decide +kernel
theorem dX6_figure_2 : decode cX6_figure 2 = .ok (.invokevirtual 87, 3) := by decide +kernel
theorem dX6_figure_5 : decode cX6_figure 5 = .ok (.ifCond .ne 13, 3) := by decide +kernel
theorem dX6_figure_8 : decode cX6_figure 8 = .ok (.new 91, 3) := by decide +kernel
theorem dX6_figure_11 : decode cX6_figure 11 = .ok (.dup, 1) := by decide +kernel
theorem dX6_figure_12 : decode cX6_figure 12 = .ok (.ldc 93, 2) := by decide +kernel
theorem dX6_figure_14 : decode cX6_figure 14 = .ok (.invokespecial 95, 3) := by decide +kernel
theorem dX6_figure_17 : decode cX6_figure 17 = .ok (.athrow, 1) := by decide +kernel
theorem dX6_figure_18 : decode cX6_figure 18 = .ok (.iload_n 2, 1) := by decide +kernel
theorem dX6_figure_19 : decode cX6_figure 19 = .ok (.bipush 10, 2) := by decide +kernel
theorem dX6_figure_21 : decode cX6_figure 21 = .ok (.bipush 90, 2) := by decide +kernel
theorem dX6_figure_23 : decode cX6_figure 23 = .ok (.invokestatic 52, 3) := by decide +kernel
theorem dX6_figure_26 : decode cX6_figure 26 = .ok (.ifCond .eq 13, 3) := by decide +kernel
theorem dX6_figure_29 : decode cX6_figure 29 = .ok (.new 56, 3) := by decide +kernel
theorem dX6_figure_32 : decode cX6_figure 32 = .ok (.dup, 1) := by decide +kernel
theorem dX6_figure_33 : decode cX6_figure 33 = .ok (.ldc 96, 2) := by decide +kernel
theorem dX6_figure_35 : decode cX6_figure 35 = .ok (.invokespecial 60, 3) := by decide +kernel
theorem dX6_figure_38 : decode cX6_figure 38 = .ok (.athrow, 1) := by decide +kernel
theorem dX6_figure_39 : decode cX6_figure 39 = .ok (.aload_n 0, 1) := by decide +kernel
theorem dX6_figure_40 : decode cX6_figure 40 = .ok (.getfield 19, 3) := by decide +kernel
theorem dX6_figure_43 : decode cX6_figure 43 = .ok (.getfield 98, 3) := by decide +kernel
theorem dX6_figure_46 : decode cX6_figure 46 = .ok (.invokevirtual 67, 3) := by decide +kernel
theorem dX6_figure_49 : decode cX6_figure 49 = .ok (.bipush 12, 2) := by decide +kernel
theorem dX6_figure_51 : decode cX6_figure 51 = .ok (.if_icmp .lt 13, 3) := by decide +kernel
theorem dX6_figure_54 : decode cX6_figure 54 = .ok (.new 73, 3) := by decide +kernel
theorem dX6_figure_57 : decode cX6_figure 57 = .ok (.dup, 1) := by decide +kernel
theorem dX6_figure_58 : decode cX6_figure 58 = .ok (.ldc 101, 2) := by decide +kernel
theorem dX6_figure_60 : decode cX6_figure 60 = .ok (.invokespecial 77, 3) := by decide +kernel
theorem dX6_figure_63 : decode cX6_figure 63 = .ok (.athrow, 1) := by decide +kernel
theorem dX6_figure_64 : decode cX6_figure 64 = .ok (.aload_n 0, 1) := by decide +kernel
theorem dX6_figure_65 : decode cX6_figure 65 = .ok (.getfield 19, 3) := by decide +kernel
theorem dX6_figure_68 : decode cX6_figure 68 = .ok (.getfield 98, 3) := by decide +kernel
theorem dX6_figure_71 : decode cX6_figure 71 = .ok (.new 103, 3) := by decide +kernel
theorem dX6_figure_74 : decode cX6_figure 74 = .ok (.dup, 1) := by decide +kernel
theorem dX6_figure_75 : decode cX6_figure 75 = .ok (.iload_n 1, 1) := by decide +kernel
theorem dX6_figure_76 : decode cX6_figure 76 = .ok (.aload_n 0, 1) := by decide +kernel
theorem dX6_figure_77 : decode cX6_figure 77 = .ok (.getfield 10, 3) := by decide +kernel
theorem dX6_figure_80 : decode cX6_figure 80 = .ok (.getfield 63, 3) := by decide +kernel
theorem dX6_figure_83 : decode cX6_figure 83 = .ok (.iload_n 1, 1) := by decide +kernel
theorem dX6_figure_84 : decode cX6_figure 84 = .ok (.invokevirtual 105, 3) := by decide +kernel
theorem dX6_figure_87 : decode cX6_figure 87 = .ok (.checkcast 78, 3) := by decide +kernel
theorem dX6_figure_90 : decode cX6_figure 90 = .ok (.getfield 109, 3) := by decide +kernel
theorem dX6_figure_93 : decode cX6_figure 93 = .ok (.iload_n 2, 1) := by decide +kernel
theorem dX6_figure_94 : decode cX6_figure 94 = .ok (.invokespecial 112, 3) := by decide +kernel
theorem dX6_figure_97 : decode cX6_figure 97 = .ok (.invokevirtual 115, 3) := by decide +kernel
theorem dX6_figure_100 : decode cX6_figure 100 = .ok (.pop, 1) := by decide +kernel
theorem dX6_figure_101 : decode cX6_figure 101 = .ok (.aload_n 0, 1) := by decide +kernel
theorem dX6_figure_102 : decode cX6_figure 102 = .ok (.getfield 19, 3) := by decide +kernel
theorem dX6_figure_105 : decode cX6_figure 105 = .ok (.getfield 98, 3) := by decide +kernel
theorem dX6_figure_108 : decode cX6_figure 108 = .ok (.invokevirtual 67, 3) := by decide +kernel
theorem dX6_figure_111 : decode cX6_figure 111 = .ok (.iconst 1, 1) := by decide +kernel
theorem dX6_figure_112 : decode cX6_figure 112 = .ok (.isub, 1) := by decide +kernel
theorem dX6_figure_113 : decode cX6_figure 113 = .ok (.ireturn, 1) := by decide +kernel
theorem dX6_scene_0 : decode cX6_scene 0 = .ok (.iload_n 1, 1) := by decide +kernel
theorem dX6_scene_1 : decode cX6_scene 1 = .ok (.iconst 0, 1) := by decide +kernel
theorem dX6_scene_2 : decode cX6_scene 2 = .ok (.bipush 100, 2) := by decide +kernel
theorem dX6_scene_4 : decode cX6_scene 4 = .ok (.invokestatic 52, 3) := by decide +kernel
theorem dX6_scene_7 : decode cX6_scene 7 = .ok (.ifCond .ne 49, 3) := by decide +kernel
theorem dX6_scene_10 : decode cX6_scene 10 = .ok (.iload_n 2, 1) := by decide +kernel
theorem dX6_scene_11 : decode cX6_scene 11 = .ok (.iconst 0, 1) := by decide +kernel
theorem dX6_scene_12 : decode cX6_scene 12 = .ok (.iconst 3, 1) := by decide +kernel
theorem dX6_scene_13 : decode cX6_scene 13 = .ok (.invokestatic 52, 3) := by decide +kernel
theorem dX6_scene_16 : decode cX6_scene 16 = .ok (.ifCond .ne 40, 3) := by decide +kernel
theorem dX6_scene_19 : decode cX6_scene 19 = .ok (.aload_n 0, 1) := by decide +kernel
theorem dX6_scene_20 : decode cX6_scene 20 = .ok (.getfield 10, 3) := by decide +kernel
theorem dX6_scene_23 : decode cX6_scene 23 = .ok (.iload_n 3, 1) := by decide +kernel
theorem dX6_scene_24 : decode cX6_scene 24 = .ok (.invokevirtual 119, 3) := by decide +kernel
theorem dX6_scene_27 : decode cX6_scene 27 = .ok (.ifCond .eq 29, 3) := by decide +kernel
theorem dX6_scene_30 : decode cX6_scene 30 = .ok (.iload 4, 2) := by decide +kernel
theorem dX6_scene_32 : decode cX6_scene 32 = .ok (.invokestatic 122, 3) := by decide +kernel
theorem dX6_scene_35 : decode cX6_scene 35 = .ok (.ifCond .eq 21, 3) := by decide +kernel
theorem dX6_scene_38 : decode cX6_scene 38 = .ok (.iload_n 3, 1) := by decide +kernel
theorem dX6_scene_39 : decode cX6_scene 39 = .ok (.iload 5, 2) := by decide +kernel
theorem dX6_scene_41 : decode cX6_scene 41 = .ok (.invokestatic 125, 3) := by decide +kernel
theorem dX6_scene_44 : decode cX6_scene 44 = .ok (.ifCond .eq 12, 3) := by decide +kernel
theorem dX6_scene_47 : decode cX6_scene 47 = .ok (.iload_n 3, 1) := by decide +kernel
theorem dX6_scene_48 : decode cX6_scene 48 = .ok (.iload 6, 2) := by decide +kernel
theorem dX6_scene_50 : decode cX6_scene 50 = .ok (.invokestatic 125, 3) := by decide +kernel
theorem dX6_scene_53 : decode cX6_scene 53 = .ok (.ifCond .ne 13, 3) := by decide +kernel
theorem dX6_scene_56 : decode cX6_scene 56 = .ok (.new 56, 3) := by decide +kernel
theorem dX6_scene_59 : decode cX6_scene 59 = .ok (.dup, 1) := by decide +kernel
theorem dX6_scene_60 : decode cX6_scene 60 = .ok (.ldc 129, 2) := by decide +kernel
theorem dX6_scene_62 : decode cX6_scene 62 = .ok (.invokespecial 60, 3) := by decide +kernel
theorem dX6_scene_65 : decode cX6_scene 65 = .ok (.athrow, 1) := by decide +kernel
theorem dX6_scene_66 : decode cX6_scene 66 = .ok (.aload_n 0, 1) := by decide +kernel
theorem dX6_scene_67 : decode cX6_scene 67 = .ok (.getfield 10, 3) := by decide +kernel
theorem dX6_scene_70 : decode cX6_scene 70 = .ok (.getfield 131, 3) := by decide +kernel
theorem dX6_scene_73 : decode cX6_scene 73 = .ok (.invokevirtual 67, 3) := by decide +kernel
theorem dX6_scene_76 : decode cX6_scene 76 = .ok (.bipush 10, 2) := by decide +kernel
theorem dX6_scene_78 : decode cX6_scene 78 = .ok (.if_icmp .lt 13, 3) := by decide +kernel
theorem dX6_scene_81 : decode cX6_scene 81 = .ok (.new 73, 3) := by decide +kernel
theorem dX6_scene_84 : decode cX6_scene 84 = .ok (.dup, 1) := by decide +kernel
theorem dX6_scene_85 : decode cX6_scene 85 = .ok (.ldc 134, 2) := by decide +kernel
theorem dX6_scene_87 : decode cX6_scene 87 = .ok (.invokespecial 77, 3) := by decide +kernel
theorem dX6_scene_90 : decode cX6_scene 90 = .ok (.athrow, 1) := by decide +kernel
theorem dX6_scene_91 : decode cX6_scene 91 = .ok (.aload_n 0, 1) := by decide +kernel
theorem dX6_scene_92 : decode cX6_scene 92 = .ok (.getfield 10, 3) := by decide +kernel
theorem dX6_scene_95 : decode cX6_scene 95 = .ok (.iload_n 1, 1) := by decide +kernel
theorem dX6_scene_96 : decode cX6_scene 96 = .ok (.iload_n 2, 1) := by decide +kernel
theorem dX6_scene_97 : decode cX6_scene 97 = .ok (.iload_n 3, 1) := by decide +kernel
theorem dX6_scene_98 : decode cX6_scene 98 = .ok (.iload 4, 2) := by decide +kernel
theorem dX6_scene_100 : decode cX6_scene 100 = .ok (.iload 5, 2) := by decide +kernel
theorem dX6_scene_102 : decode cX6_scene 102 = .ok (.iload 6, 2) := by decide +kernel
theorem dX6_scene_104 : decode cX6_scene 104 = .ok (.invokevirtual 136, 3) := by decide +kernel
theorem dX6_scene_107 : decode cX6_scene 107 = .ok (.ireturn, 1) := by decide +kernel
theorem dX6_length_0 : decode cX6_length 0 = .ok (.aload_n 0, 1) := by decide +kernel
theorem dX6_length_1 : decode cX6_length 1 = .ok (.iload_n 1, 1) := by decide +kernel
theorem dX6_length_2 : decode cX6_length 2 = .ok (.invokevirtual 140, 3) := by decide +kernel
theorem dX6_length_5 : decode cX6_length 5 = .ok (.ifCond .ne 13, 3) := by decide +kernel
theorem dX6_length_8 : decode cX6_length 8 = .ok (.new 91, 3) := by decide +kernel
theorem dX6_length_11 : decode cX6_length 11 = .ok (.dup, 1) := by decide +kernel
theorem dX6_length_12 : decode cX6_length 12 = .ok (.ldc 143, 2) := by decide +kernel
theorem dX6_length_14 : decode cX6_length 14 = .ok (.invokespecial 95, 3) := by decide +kernel
theorem dX6_length_17 : decode cX6_length 17 = .ok (.athrow, 1) := by decide +kernel
theorem dX6_length_18 : decode cX6_length 18 = .ok (.iload_n 2, 1) := by decide +kernel
theorem dX6_length_19 : decode cX6_length 19 = .ok (.invokestatic 122, 3) := by decide +kernel
theorem dX6_length_22 : decode cX6_length 22 = .ok (.ifCond .ne 13, 3) := by decide +kernel
theorem dX6_length_25 : decode cX6_length 25 = .ok (.new 56, 3) := by decide +kernel
theorem dX6_length_28 : decode cX6_length 28 = .ok (.dup, 1) := by decide +kernel
theorem dX6_length_29 : decode cX6_length 29 = .ok (.ldc 145, 2) := by decide +kernel
theorem dX6_length_31 : decode cX6_length 31 = .ok (.invokespecial 60, 3) := by decide +kernel
theorem dX6_length_34 : decode cX6_length 34 = .ok (.athrow, 1) := by decide +kernel
theorem dX6_length_35 : decode cX6_length 35 = .ok (.aload_n 0, 1) := by decide +kernel
theorem dX6_length_36 : decode cX6_length 36 = .ok (.getfield 10, 3) := by decide +kernel
theorem dX6_length_39 : decode cX6_length 39 = .ok (.getfield 131, 3) := by decide +kernel
theorem dX6_length_42 : decode cX6_length 42 = .ok (.iload_n 1, 1) := by decide +kernel
theorem dX6_length_43 : decode cX6_length 43 = .ok (.invokevirtual 105, 3) := by decide +kernel
theorem dX6_length_46 : decode cX6_length 46 = .ok (.checkcast 147, 3) := by decide +kernel
theorem dX6_length_49 : decode cX6_length 49 = .ok (.invokevirtual 149, 3) := by decide +kernel
theorem dX6_length_52 : decode cX6_length 52 = .ok (.aload_n 0, 1) := by decide +kernel
theorem dX6_length_53 : decode cX6_length 53 = .ok (.getfield 30, 3) := by decide +kernel
theorem dX6_length_56 : decode cX6_length 56 = .ok (.if_icmp .gt 13, 3) := by decide +kernel
theorem dX6_length_59 : decode cX6_length 59 = .ok (.new 73, 3) := by decide +kernel
theorem dX6_length_62 : decode cX6_length 62 = .ok (.dup, 1) := by decide +kernel
theorem dX6_length_63 : decode cX6_length 63 = .ok (.ldc 152, 2) := by decide +kernel
theorem dX6_length_65 : decode cX6_length 65 = .ok (.invokespecial 77, 3) := by decide +kernel
theorem dX6_length_68 : decode cX6_length 68 = .ok (.athrow, 1) := by decide +kernel
theorem dX6_length_69 : decode cX6_length 69 = .ok (.aload_n 0, 1) := by decide +kernel
theorem dX6_length_70 : decode cX6_length 70 = .ok (.getfield 10, 3) := by decide +kernel
theorem dX6_length_73 : decode cX6_length 73 = .ok (.iload_n 1, 1) := by decide +kernel
theorem dX6_length_74 : decode cX6_length 74 = .ok (.iload_n 2, 1) := by decide +kernel
theorem dX6_length_75 : decode cX6_length 75 = .ok (.invokevirtual 154, 3) := by decide +kernel
theorem dX6_length_78 : decode cX6_length 78 = .ok (.ireturn, 1) := by decide +kernel
theorem dX6_swap_0 : decode cX6_swap 0 = .ok (.aload_n 0, 1) := by decide +kernel
theorem dX6_swap_1 : decode cX6_swap 1 = .ok (.iload_n 1, 1) := by decide +kernel
theorem dX6_swap_2 : decode cX6_swap 2 = .ok (.invokevirtual 140, 3) := by decide +kernel
theorem dX6_swap_5 : decode cX6_swap 5 = .ok (.ifCond .eq 11, 3) := by decide +kernel
theorem dX6_swap_8 : decode cX6_swap 8 = .ok (.aload_n 0, 1) := by decide +kernel
theorem dX6_swap_9 : decode cX6_swap 9 = .ok (.iload_n 2, 1) := by decide +kernel
theorem dX6_swap_10 : decode cX6_swap 10 = .ok (.invokevirtual 140, 3) := by decide +kernel
theorem dX6_swap_13 : decode cX6_swap 13 = .ok (.ifCond .ne 13, 3) := by decide +kernel
theorem dX6_swap_16 : decode cX6_swap 16 = .ok (.new 91, 3) := by decide +kernel
theorem dX6_swap_19 : decode cX6_swap 19 = .ok (.dup, 1) := by decide +kernel
theorem dX6_swap_20 : decode cX6_swap 20 = .ok (.ldc 143, 2) := by decide +kernel
theorem dX6_swap_22 : decode cX6_swap 22 = .ok (.invokespecial 95, 3) := by decide +kernel
theorem dX6_swap_25 : decode cX6_swap 25 = .ok (.athrow, 1) := by decide +kernel
theorem dX6_swap_26 : decode cX6_swap 26 = .ok (.aload_n 0, 1) := by decide +kernel
theorem dX6_swap_27 : decode cX6_swap 27 = .ok (.getfield 30, 3) := by decide +kernel
theorem dX6_swap_30 : decode cX6_swap 30 = .ok (.ifCond .le 13, 3) := by decide +kernel
theorem dX6_swap_33 : decode cX6_swap 33 = .ok (.new 73, 3) := by decide +kernel
theorem dX6_swap_36 : decode cX6_swap 36 = .ok (.dup, 1) := by decide +kernel
theorem dX6_swap_37 : decode cX6_swap 37 = .ok (.ldc 158, 2) := by decide +kernel
theorem dX6_swap_39 : decode cX6_swap 39 = .ok (.invokespecial 77, 3) := by decide +kernel
theorem dX6_swap_42 : decode cX6_swap 42 = .ok (.athrow, 1) := by decide +kernel
theorem dX6_swap_43 : decode cX6_swap 43 = .ok (.aload_n 0, 1) := by decide +kernel
theorem dX6_swap_44 : decode cX6_swap 44 = .ok (.getfield 10, 3) := by decide +kernel
theorem dX6_swap_47 : decode cX6_swap 47 = .ok (.iload_n 1, 1) := by decide +kernel
theorem dX6_swap_48 : decode cX6_swap 48 = .ok (.iload_n 2, 1) := by decide +kernel
theorem dX6_swap_49 : decode cX6_swap 49 = .ok (.invokevirtual 160, 3) := by decide +kernel
theorem dX6_swap_52 : decode cX6_swap 52 = .ok (.aload_n 0, 1) := by decide +kernel
theorem dX6_swap_53 : decode cX6_swap 53 = .ok (.getfield 10, 3) := by decide +kernel
theorem dX6_swap_56 : decode cX6_swap 56 = .ok (.getfield 164, 3) := by decide +kernel
theorem dX6_swap_59 : decode cX6_swap 59 = .ok (.ireturn, 1) := by decide +kernel
theorem dX6_lamp_0 : decode cX6_lamp 0 = .ok (.iload_n 1, 1) := by decide +kernel
theorem dX6_lamp_1 : decode cX6_lamp 1 = .ok (.bipush 20, 2) := by decide +kernel
theorem dX6_lamp_3 : decode cX6_lamp 3 = .ok (.bipush 80, 2) := by decide +kernel
theorem dX6_lamp_5 : decode cX6_lamp 5 = .ok (.invokestatic 52, 3) := by decide +kernel
theorem dX6_lamp_8 : decode cX6_lamp 8 = .ok (.ifCond .ne 13, 3) := by decide +kernel
theorem dX6_lamp_11 : decode cX6_lamp 11 = .ok (.iload_n 2, 1) := by decide +kernel
theorem dX6_lamp_12 : decode cX6_lamp 12 = .ok (.iconst 0, 1) := by decide +kernel
theorem dX6_lamp_13 : decode cX6_lamp 13 = .ok (.bipush 9, 2) := by decide +kernel
theorem dX6_lamp_15 : decode cX6_lamp 15 = .ok (.invokestatic 52, 3) := by decide +kernel
theorem dX6_lamp_18 : decode cX6_lamp 18 = .ok (.ifCond .eq 13, 3) := by decide +kernel
theorem dX6_lamp_21 : decode cX6_lamp 21 = .ok (.new 56, 3) := by decide +kernel
theorem dX6_lamp_24 : decode cX6_lamp 24 = .ok (.dup, 1) := by decide +kernel
theorem dX6_lamp_25 : decode cX6_lamp 25 = .ok (.ldc 167, 2) := by decide +kernel
theorem dX6_lamp_27 : decode cX6_lamp 27 = .ok (.invokespecial 60, 3) := by decide +kernel
theorem dX6_lamp_30 : decode cX6_lamp 30 = .ok (.athrow, 1) := by decide +kernel
theorem dX6_lamp_31 : decode cX6_lamp 31 = .ok (.aload_n 0, 1) := by decide +kernel
theorem dX6_lamp_32 : decode cX6_lamp 32 = .ok (.getfield 19, 3) := by decide +kernel
theorem dX6_lamp_35 : decode cX6_lamp 35 = .ok (.getfield 169, 3) := by decide +kernel
theorem dX6_lamp_38 : decode cX6_lamp 38 = .ok (.istore_n 3, 1) := by decide +kernel
theorem dX6_lamp_39 : decode cX6_lamp 39 = .ok (.aload_n 0, 1) := by decide +kernel
theorem dX6_lamp_40 : decode cX6_lamp 40 = .ok (.getfield 19, 3) := by decide +kernel
theorem dX6_lamp_43 : decode cX6_lamp 43 = .ok (.iload_n 1, 1) := by decide +kernel
theorem dX6_lamp_44 : decode cX6_lamp 44 = .ok (.putfield 169, 3) := by decide +kernel
theorem dX6_lamp_47 : decode cX6_lamp 47 = .ok (.aload_n 0, 1) := by decide +kernel
theorem dX6_lamp_48 : decode cX6_lamp 48 = .ok (.getfield 19, 3) := by decide +kernel
theorem dX6_lamp_51 : decode cX6_lamp 51 = .ok (.iload_n 2, 1) := by decide +kernel
theorem dX6_lamp_52 : decode cX6_lamp 52 = .ok (.putfield 172, 3) := by decide +kernel
theorem dX6_lamp_55 : decode cX6_lamp 55 = .ok (.iload_n 3, 1) := by decide +kernel
theorem dX6_lamp_56 : decode cX6_lamp 56 = .ok (.ireturn, 1) := by decide +kernel
theorem dX6_grip_0 : decode cX6_grip 0 = .ok (.aload_n 0, 1) := by decide +kernel
theorem dX6_grip_1 : decode cX6_grip 1 = .ok (.iload_n 1, 1) := by decide +kernel
theorem dX6_grip_2 : decode cX6_grip 2 = .ok (.invokevirtual 175, 3) := by decide +kernel
theorem dX6_grip_5 : decode cX6_grip 5 = .ok (.ifCond .ne 13, 3) := by decide +kernel
theorem dX6_grip_8 : decode cX6_grip 8 = .ok (.new 91, 3) := by decide +kernel
theorem dX6_grip_11 : decode cX6_grip 11 = .ok (.dup, 1) := by decide +kernel
theorem dX6_grip_12 : decode cX6_grip 12 = .ok (.ldc 178, 2) := by decide +kernel
theorem dX6_grip_14 : decode cX6_grip 14 = .ok (.invokespecial 95, 3) := by decide +kernel
theorem dX6_grip_17 : decode cX6_grip 17 = .ok (.athrow, 1) := by decide +kernel
theorem dX6_grip_18 : decode cX6_grip 18 = .ok (.aload_n 0, 1) := by decide +kernel
theorem dX6_grip_19 : decode cX6_grip 19 = .ok (.getfield 19, 3) := by decide +kernel
theorem dX6_grip_22 : decode cX6_grip 22 = .ok (.getfield 98, 3) := by decide +kernel
theorem dX6_grip_25 : decode cX6_grip 25 = .ok (.iload_n 1, 1) := by decide +kernel
theorem dX6_grip_26 : decode cX6_grip 26 = .ok (.invokevirtual 105, 3) := by decide +kernel
theorem dX6_grip_29 : decode cX6_grip 29 = .ok (.checkcast 103, 3) := by decide +kernel
theorem dX6_grip_32 : decode cX6_grip 32 = .ok (.astore_n 2, 1) := by decide +kernel
theorem dX6_grip_33 : decode cX6_grip 33 = .ok (.aload_n 0, 1) := by decide +kernel
theorem dX6_grip_34 : decode cX6_grip 34 = .ok (.getfield 19, 3) := by decide +kernel
theorem dX6_grip_37 : decode cX6_grip 37 = .ok (.aload_n 2, 1) := by decide +kernel
theorem dX6_grip_38 : decode cX6_grip 38 = .ok (.invokevirtual 180, 3) := by decide +kernel
theorem dX6_grip_41 : decode cX6_grip 41 = .ok (.istore_n 3, 1) := by decide +kernel
theorem dX6_grip_42 : decode cX6_grip 42 = .ok (.iload_n 3, 1) := by decide +kernel
theorem dX6_grip_43 : decode cX6_grip 43 = .ok (.iconst (-1), 1) := by decide +kernel
theorem dX6_grip_44 : decode cX6_grip 44 = .ok (.if_icmp .ne 13, 3) := by decide +kernel
theorem dX6_grip_47 : decode cX6_grip 47 = .ok (.new 73, 3) := by decide +kernel
theorem dX6_grip_50 : decode cX6_grip 50 = .ok (.dup, 1) := by decide +kernel
theorem dX6_grip_51 : decode cX6_grip 51 = .ok (.ldc 184, 2) := by decide +kernel
theorem dX6_grip_53 : decode cX6_grip 53 = .ok (.invokespecial 77, 3) := by decide +kernel
theorem dX6_grip_56 : decode cX6_grip 56 = .ok (.athrow, 1) := by decide +kernel
theorem dX6_grip_57 : decode cX6_grip 57 = .ok (.aload_n 2, 1) := by decide +kernel
theorem dX6_grip_58 : decode cX6_grip 58 = .ok (.getfield 186, 3) := by decide +kernel
theorem dX6_grip_61 : decode cX6_grip 61 = .ok (.ifCond .ne 14, 3) := by decide +kernel
theorem dX6_grip_64 : decode cX6_grip 64 = .ok (.aload_n 2, 1) := by decide +kernel
theorem dX6_grip_65 : decode cX6_grip 65 = .ok (.aload_n 2, 1) := by decide +kernel
theorem dX6_grip_66 : decode cX6_grip 66 = .ok (.getfield 189, 3) := by decide +kernel
theorem dX6_grip_69 : decode cX6_grip 69 = .ok (.invokestatic 190, 3) := by decide +kernel
theorem dX6_grip_72 : decode cX6_grip 72 = .ok (.putfield 194, 3) := by decide +kernel
theorem dX6_grip_75 : decode cX6_grip 75 = .ok (.aload_n 2, 1) := by decide +kernel
theorem dX6_grip_76 : decode cX6_grip 76 = .ok (.iload_n 3, 1) := by decide +kernel
theorem dX6_grip_77 : decode cX6_grip 77 = .ok (.putfield 186, 3) := by decide +kernel
theorem dX6_grip_80 : decode cX6_grip 80 = .ok (.iload_n 3, 1) := by decide +kernel
theorem dX6_grip_81 : decode cX6_grip 81 = .ok (.ireturn, 1) := by decide +kernel
theorem dX6_move_0 : decode cX6_move 0 = .ok (.aload_n 0, 1) := by decide +kernel
theorem dX6_move_1 : decode cX6_move 1 = .ok (.iload_n 1, 1) := by decide +kernel
theorem dX6_move_2 : decode cX6_move 2 = .ok (.invokevirtual 175, 3) := by decide +kernel
theorem dX6_move_5 : decode cX6_move 5 = .ok (.ifCond .ne 13, 3) := by decide +kernel
theorem dX6_move_8 : decode cX6_move 8 = .ok (.new 91, 3) := by decide +kernel
theorem dX6_move_11 : decode cX6_move 11 = .ok (.dup, 1) := by decide +kernel
theorem dX6_move_12 : decode cX6_move 12 = .ok (.ldc 178, 2) := by decide +kernel
theorem dX6_move_14 : decode cX6_move 14 = .ok (.invokespecial 95, 3) := by decide +kernel
theorem dX6_move_17 : decode cX6_move 17 = .ok (.athrow, 1) := by decide +kernel
theorem dX6_move_18 : decode cX6_move 18 = .ok (.iload_n 2, 1) := by decide +kernel
theorem dX6_move_19 : decode cX6_move 19 = .ok (.invokestatic 197, 3) := by decide +kernel
theorem dX6_move_22 : decode cX6_move 22 = .ok (.ifCond .ne 13, 3) := by decide +kernel
theorem dX6_move_25 : decode cX6_move 25 = .ok (.new 56, 3) := by decide +kernel
theorem dX6_move_28 : decode cX6_move 28 = .ok (.dup, 1) := by decide +kernel
theorem dX6_move_29 : decode cX6_move 29 = .ok (.ldc 200, 2) := by decide +kernel
theorem dX6_move_31 : decode cX6_move 31 = .ok (.invokespecial 60, 3) := by decide +kernel
theorem dX6_move_34 : decode cX6_move 34 = .ok (.athrow, 1) := by decide +kernel
theorem dX6_move_35 : decode cX6_move 35 = .ok (.aload_n 0, 1) := by decide +kernel
theorem dX6_move_36 : decode cX6_move 36 = .ok (.getfield 19, 3) := by decide +kernel
theorem dX6_move_39 : decode cX6_move 39 = .ok (.getfield 98, 3) := by decide +kernel
theorem dX6_move_42 : decode cX6_move 42 = .ok (.iload_n 1, 1) := by decide +kernel
theorem dX6_move_43 : decode cX6_move 43 = .ok (.invokevirtual 105, 3) := by decide +kernel
theorem dX6_move_46 : decode cX6_move 46 = .ok (.checkcast 103, 3) := by decide +kernel
theorem dX6_move_49 : decode cX6_move 49 = .ok (.astore_n 3, 1) := by decide +kernel
theorem dX6_move_50 : decode cX6_move 50 = .ok (.aload_n 3, 1) := by decide +kernel
theorem dX6_move_51 : decode cX6_move 51 = .ok (.invokevirtual 202, 3) := by decide +kernel
theorem dX6_move_54 : decode cX6_move 54 = .ok (.ifCond .eq 26, 3) := by decide +kernel
theorem dX6_move_57 : decode cX6_move 57 = .ok (.aload_n 3, 1) := by decide +kernel
theorem dX6_move_58 : decode cX6_move 58 = .ok (.getfield 186, 3) := by decide +kernel
theorem dX6_move_61 : decode cX6_move 61 = .ok (.iload_n 2, 1) := by decide +kernel
theorem dX6_move_62 : decode cX6_move 62 = .ok (.invokestatic 206, 3) := by decide +kernel
theorem dX6_move_65 : decode cX6_move 65 = .ok (.ifCond .eq 15, 3) := by decide +kernel
theorem dX6_move_68 : decode cX6_move 68 = .ok (.aload_n 0, 1) := by decide +kernel
theorem dX6_move_69 : decode cX6_move 69 = .ok (.getfield 19, 3) := by decide +kernel
theorem dX6_move_72 : decode cX6_move 72 = .ok (.iload_n 2, 1) := by decide +kernel
theorem dX6_move_73 : decode cX6_move 73 = .ok (.invokevirtual 209, 3) := by decide +kernel
theorem dX6_move_76 : decode cX6_move 76 = .ok (.iconst (-1), 1) := by decide +kernel
theorem dX6_move_77 : decode cX6_move 77 = .ok (.if_icmp .eq 13, 3) := by decide +kernel
theorem dX6_move_80 : decode cX6_move 80 = .ok (.new 73, 3) := by decide +kernel
theorem dX6_move_83 : decode cX6_move 83 = .ok (.dup, 1) := by decide +kernel
theorem dX6_move_84 : decode cX6_move 84 = .ok (.ldc 212, 2) := by decide +kernel
theorem dX6_move_86 : decode cX6_move 86 = .ok (.invokespecial 77, 3) := by decide +kernel
theorem dX6_move_89 : decode cX6_move 89 = .ok (.athrow, 1) := by decide +kernel
theorem dX6_move_90 : decode cX6_move 90 = .ok (.aload_n 3, 1) := by decide +kernel
theorem dX6_move_91 : decode cX6_move 91 = .ok (.iload_n 2, 1) := by decide +kernel
theorem dX6_move_92 : decode cX6_move 92 = .ok (.aload_n 3, 1) := by decide +kernel
theorem dX6_move_93 : decode cX6_move 93 = .ok (.getfield 194, 3) := by decide +kernel
theorem dX6_move_96 : decode cX6_move 96 = .ok (.isub, 1) := by decide +kernel
theorem dX6_move_97 : decode cX6_move 97 = .ok (.invokestatic 214, 3) := by decide +kernel
theorem dX6_move_100 : decode cX6_move 100 = .ok (.invokevirtual 219, 3) := by decide +kernel
theorem dX6_move_103 : decode cX6_move 103 = .ok (.aload_n 3, 1) := by decide +kernel
theorem dX6_move_104 : decode cX6_move 104 = .ok (.iload_n 2, 1) := by decide +kernel
theorem dX6_move_105 : decode cX6_move 105 = .ok (.putfield 194, 3) := by decide +kernel
theorem dX6_move_108 : decode cX6_move 108 = .ok (.aload_n 3, 1) := by decide +kernel
theorem dX6_move_109 : decode cX6_move 109 = .ok (.getfield 223, 3) := by decide +kernel
theorem dX6_move_112 : decode cX6_move 112 = .ok (.ireturn, 1) := by decide +kernel
theorem dX6_lift_0 : decode cX6_lift 0 = .ok (.aload_n 0, 1) := by decide +kernel
theorem dX6_lift_1 : decode cX6_lift 1 = .ok (.iload_n 1, 1) := by decide +kernel
theorem dX6_lift_2 : decode cX6_lift 2 = .ok (.invokevirtual 175, 3) := by decide +kernel
theorem dX6_lift_5 : decode cX6_lift 5 = .ok (.ifCond .ne 13, 3) := by decide +kernel
theorem dX6_lift_8 : decode cX6_lift 8 = .ok (.new 91, 3) := by decide +kernel
theorem dX6_lift_11 : decode cX6_lift 11 = .ok (.dup, 1) := by decide +kernel
theorem dX6_lift_12 : decode cX6_lift 12 = .ok (.ldc 178, 2) := by decide +kernel
theorem dX6_lift_14 : decode cX6_lift 14 = .ok (.invokespecial 95, 3) := by decide +kernel
theorem dX6_lift_17 : decode cX6_lift 17 = .ok (.athrow, 1) := by decide +kernel
theorem dX6_lift_18 : decode cX6_lift 18 = .ok (.iload_n 2, 1) := by decide +kernel
theorem dX6_lift_19 : decode cX6_lift 19 = .ok (.iconst 0, 1) := by decide +kernel
theorem dX6_lift_20 : decode cX6_lift 20 = .ok (.bipush 15, 2) := by decide +kernel
theorem dX6_lift_22 : decode cX6_lift 22 = .ok (.invokestatic 52, 3) := by decide +kernel
theorem dX6_lift_25 : decode cX6_lift 25 = .ok (.ifCond .eq 13, 3) := by decide +kernel
theorem dX6_lift_28 : decode cX6_lift 28 = .ok (.new 56, 3) := by decide +kernel
theorem dX6_lift_31 : decode cX6_lift 31 = .ok (.dup, 1) := by decide +kernel
theorem dX6_lift_32 : decode cX6_lift 32 = .ok (.ldc 226, 2) := by decide +kernel
theorem dX6_lift_34 : decode cX6_lift 34 = .ok (.invokespecial 60, 3) := by decide +kernel
theorem dX6_lift_37 : decode cX6_lift 37 = .ok (.athrow, 1) := by decide +kernel
theorem dX6_lift_38 : decode cX6_lift 38 = .ok (.aload_n 0, 1) := by decide +kernel
theorem dX6_lift_39 : decode cX6_lift 39 = .ok (.getfield 19, 3) := by decide +kernel
theorem dX6_lift_42 : decode cX6_lift 42 = .ok (.getfield 98, 3) := by decide +kernel
theorem dX6_lift_45 : decode cX6_lift 45 = .ok (.iload_n 1, 1) := by decide +kernel
theorem dX6_lift_46 : decode cX6_lift 46 = .ok (.invokevirtual 105, 3) := by decide +kernel
theorem dX6_lift_49 : decode cX6_lift 49 = .ok (.checkcast 103, 3) := by decide +kernel
theorem dX6_lift_52 : decode cX6_lift 52 = .ok (.astore_n 3, 1) := by decide +kernel
theorem dX6_lift_53 : decode cX6_lift 53 = .ok (.aload_n 3, 1) := by decide +kernel
theorem dX6_lift_54 : decode cX6_lift 54 = .ok (.invokevirtual 202, 3) := by decide +kernel
theorem dX6_lift_57 : decode cX6_lift 57 = .ok (.ifCond .ne 13, 3) := by decide +kernel
theorem dX6_lift_60 : decode cX6_lift 60 = .ok (.new 73, 3) := by decide +kernel
theorem dX6_lift_63 : decode cX6_lift 63 = .ok (.dup, 1) := by decide +kernel
theorem dX6_lift_64 : decode cX6_lift 64 = .ok (.ldc 228, 2) := by decide +kernel
theorem dX6_lift_66 : decode cX6_lift 66 = .ok (.invokespecial 77, 3) := by decide +kernel
theorem dX6_lift_69 : decode cX6_lift 69 = .ok (.athrow, 1) := by decide +kernel
theorem dX6_lift_70 : decode cX6_lift 70 = .ok (.aload_n 3, 1) := by decide +kernel
theorem dX6_lift_71 : decode cX6_lift 71 = .ok (.iload_n 2, 1) := by decide +kernel
theorem dX6_lift_72 : decode cX6_lift 72 = .ok (.putfield 230, 3) := by decide +kernel
theorem dX6_lift_75 : decode cX6_lift 75 = .ok (.aload_n 0, 1) := by decide +kernel
theorem dX6_lift_76 : decode cX6_lift 76 = .ok (.getfield 19, 3) := by decide +kernel
theorem dX6_lift_79 : decode cX6_lift 79 = .ok (.aload_n 3, 1) := by decide +kernel
theorem dX6_lift_80 : decode cX6_lift 80 = .ok (.iload_n 2, 1) := by decide +kernel
theorem dX6_lift_81 : decode cX6_lift 81 = .ok (.invokevirtual 233, 3) := by decide +kernel
theorem dX6_lift_84 : decode cX6_lift 84 = .ok (.ireturn, 1) := by decide +kernel
theorem dX6_plant_0 : decode cX6_plant 0 = .ok (.aload_n 0, 1) := by decide +kernel
theorem dX6_plant_1 : decode cX6_plant 1 = .ok (.iload_n 1, 1) := by decide +kernel
theorem dX6_plant_2 : decode cX6_plant 2 = .ok (.invokevirtual 175, 3) := by decide +kernel
theorem dX6_plant_5 : decode cX6_plant 5 = .ok (.ifCond .ne 13, 3) := by decide +kernel
theorem dX6_plant_8 : decode cX6_plant 8 = .ok (.new 91, 3) := by decide +kernel
theorem dX6_plant_11 : decode cX6_plant 11 = .ok (.dup, 1) := by decide +kernel
theorem dX6_plant_12 : decode cX6_plant 12 = .ok (.ldc 178, 2) := by decide +kernel
theorem dX6_plant_14 : decode cX6_plant 14 = .ok (.invokespecial 95, 3) := by decide +kernel
theorem dX6_plant_17 : decode cX6_plant 17 = .ok (.athrow, 1) := by decide +kernel
theorem dX6_plant_18 : decode cX6_plant 18 = .ok (.aload_n 0, 1) := by decide +kernel
theorem dX6_plant_19 : decode cX6_plant 19 = .ok (.getfield 19, 3) := by decide +kernel
theorem dX6_plant_22 : decode cX6_plant 22 = .ok (.getfield 98, 3) := by decide +kernel
theorem dX6_plant_25 : decode cX6_plant 25 = .ok (.iload_n 1, 1) := by decide +kernel
theorem dX6_plant_26 : decode cX6_plant 26 = .ok (.invokevirtual 105, 3) := by decide +kernel
theorem dX6_plant_29 : decode cX6_plant 29 = .ok (.checkcast 103, 3) := by decide +kernel
theorem dX6_plant_32 : decode cX6_plant 32 = .ok (.astore_n 2, 1) := by decide +kernel
theorem dX6_plant_33 : decode cX6_plant 33 = .ok (.aload_n 2, 1) := by decide +kernel
theorem dX6_plant_34 : decode cX6_plant 34 = .ok (.invokevirtual 202, 3) := by decide +kernel
theorem dX6_plant_37 : decode cX6_plant 37 = .ok (.ifCond .ne 13, 3) := by decide +kernel
theorem dX6_plant_40 : decode cX6_plant 40 = .ok (.new 73, 3) := by decide +kernel
theorem dX6_plant_43 : decode cX6_plant 43 = .ok (.dup, 1) := by decide +kernel
theorem dX6_plant_44 : decode cX6_plant 44 = .ok (.ldc 228, 2) := by decide +kernel
theorem dX6_plant_46 : decode cX6_plant 46 = .ok (.invokespecial 77, 3) := by decide +kernel
theorem dX6_plant_49 : decode cX6_plant 49 = .ok (.athrow, 1) := by decide +kernel
theorem dX6_plant_50 : decode cX6_plant 50 = .ok (.aload_n 2, 1) := by decide +kernel
theorem dX6_plant_51 : decode cX6_plant 51 = .ok (.iconst 1, 1) := by decide +kernel
theorem dX6_plant_52 : decode cX6_plant 52 = .ok (.putfield 186, 3) := by decide +kernel
theorem dX6_plant_55 : decode cX6_plant 55 = .ok (.aload_n 2, 1) := by decide +kernel
theorem dX6_plant_56 : decode cX6_plant 56 = .ok (.iconst 0, 1) := by decide +kernel
theorem dX6_plant_57 : decode cX6_plant 57 = .ok (.putfield 230, 3) := by decide +kernel
theorem dX6_plant_60 : decode cX6_plant 60 = .ok (.aload_n 2, 1) := by decide +kernel
theorem dX6_plant_61 : decode cX6_plant 61 = .ok (.getfield 194, 3) := by decide +kernel
theorem dX6_plant_64 : decode cX6_plant 64 = .ok (.ireturn, 1) := by decide +kernel
theorem dX6_hand_0 : decode cX6_hand 0 = .ok (.aload_n 0, 1) := by decide +kernel
theorem dX6_hand_1 : decode cX6_hand 1 = .ok (.iload_n 1, 1) := by decide +kernel
theorem dX6_hand_2 : decode cX6_hand 2 = .ok (.invokevirtual 175, 3) := by decide +kernel
theorem dX6_hand_5 : decode cX6_hand 5 = .ok (.ifCond .ne 13, 3) := by decide +kernel
theorem dX6_hand_8 : decode cX6_hand 8 = .ok (.new 91, 3) := by decide +kernel
theorem dX6_hand_11 : decode cX6_hand 11 = .ok (.dup, 1) := by decide +kernel
theorem dX6_hand_12 : decode cX6_hand 12 = .ok (.ldc 178, 2) := by decide +kernel
theorem dX6_hand_14 : decode cX6_hand 14 = .ok (.invokespecial 95, 3) := by decide +kernel
theorem dX6_hand_17 : decode cX6_hand 17 = .ok (.athrow, 1) := by decide +kernel
theorem dX6_hand_18 : decode cX6_hand 18 = .ok (.aload_n 0, 1) := by decide +kernel
theorem dX6_hand_19 : decode cX6_hand 19 = .ok (.getfield 19, 3) := by decide +kernel
theorem dX6_hand_22 : decode cX6_hand 22 = .ok (.getfield 98, 3) := by decide +kernel
theorem dX6_hand_25 : decode cX6_hand 25 = .ok (.iload_n 1, 1) := by decide +kernel
theorem dX6_hand_26 : decode cX6_hand 26 = .ok (.invokevirtual 105, 3) := by decide +kernel
theorem dX6_hand_29 : decode cX6_hand 29 = .ok (.checkcast 103, 3) := by decide +kernel
theorem dX6_hand_32 : decode cX6_hand 32 = .ok (.astore_n 2, 1) := by decide +kernel
theorem dX6_hand_33 : decode cX6_hand 33 = .ok (.aload_n 2, 1) := by decide +kernel
theorem dX6_hand_34 : decode cX6_hand 34 = .ok (.getfield 186, 3) := by decide +kernel
theorem dX6_hand_37 : decode cX6_hand 37 = .ok (.iconst 2, 1) := by decide +kernel
theorem dX6_hand_38 : decode cX6_hand 38 = .ok (.if_icmp .ne 7, 3) := by decide +kernel
theorem dX6_hand_41 : decode cX6_hand 41 = .ok (.iconst 3, 1) := by decide +kernel
theorem dX6_hand_42 : decode cX6_hand 42 = .ok (.goto 4, 3) := by decide +kernel
theorem dX6_hand_45 : decode cX6_hand 45 = .ok (.iconst 2, 1) := by decide +kernel
theorem dX6_hand_46 : decode cX6_hand 46 = .ok (.istore_n 3, 1) := by decide +kernel
theorem dX6_hand_47 : decode cX6_hand 47 = .ok (.aload_n 2, 1) := by decide +kernel
theorem dX6_hand_48 : decode cX6_hand 48 = .ok (.invokevirtual 202, 3) := by decide +kernel
theorem dX6_hand_51 : decode cX6_hand 51 = .ok (.ifCond .eq 18, 3) := by decide +kernel
theorem dX6_hand_54 : decode cX6_hand 54 = .ok (.aload_n 0, 1) := by decide +kernel
theorem dX6_hand_55 : decode cX6_hand 55 = .ok (.getfield 19, 3) := by decide +kernel
theorem dX6_hand_58 : decode cX6_hand 58 = .ok (.iload_n 3, 1) := by decide +kernel
theorem dX6_hand_59 : decode cX6_hand 59 = .ok (.aload_n 2, 1) := by decide +kernel
theorem dX6_hand_60 : decode cX6_hand 60 = .ok (.getfield 194, 3) := by decide +kernel
theorem dX6_hand_63 : decode cX6_hand 63 = .ok (.invokevirtual 237, 3) := by decide +kernel
theorem dX6_hand_66 : decode cX6_hand 66 = .ok (.ifCond .ne 13, 3) := by decide +kernel
theorem dX6_hand_69 : decode cX6_hand 69 = .ok (.new 73, 3) := by decide +kernel
theorem dX6_hand_72 : decode cX6_hand 72 = .ok (.dup, 1) := by decide +kernel
theorem dX6_hand_73 : decode cX6_hand 73 = .ok (.ldc 240, 2) := by decide +kernel
theorem dX6_hand_75 : decode cX6_hand 75 = .ok (.invokespecial 77, 3) := by decide +kernel
theorem dX6_hand_78 : decode cX6_hand 78 = .ok (.athrow, 1) := by decide +kernel
theorem dX6_hand_79 : decode cX6_hand 79 = .ok (.aload_n 2, 1) := by decide +kernel
theorem dX6_hand_80 : decode cX6_hand 80 = .ok (.iload_n 3, 1) := by decide +kernel
theorem dX6_hand_81 : decode cX6_hand 81 = .ok (.putfield 186, 3) := by decide +kernel
theorem dX6_hand_84 : decode cX6_hand 84 = .ok (.iload_n 3, 1) := by decide +kernel
theorem dX6_hand_85 : decode cX6_hand 85 = .ok (.ireturn, 1) := by decide +kernel
theorem dX6_away_0 : decode cX6_away 0 = .ok (.aload_n 0, 1) := by decide +kernel
theorem dX6_away_1 : decode cX6_away 1 = .ok (.iload_n 1, 1) := by decide +kernel
theorem dX6_away_2 : decode cX6_away 2 = .ok (.invokevirtual 175, 3) := by decide +kernel
theorem dX6_away_5 : decode cX6_away 5 = .ok (.ifCond .ne 13, 3) := by decide +kernel
theorem dX6_away_8 : decode cX6_away 8 = .ok (.new 91, 3) := by decide +kernel
theorem dX6_away_11 : decode cX6_away 11 = .ok (.dup, 1) := by decide +kernel
theorem dX6_away_12 : decode cX6_away 12 = .ok (.ldc 178, 2) := by decide +kernel
theorem dX6_away_14 : decode cX6_away 14 = .ok (.invokespecial 95, 3) := by decide +kernel
theorem dX6_away_17 : decode cX6_away 17 = .ok (.athrow, 1) := by decide +kernel
theorem dX6_away_18 : decode cX6_away 18 = .ok (.aload_n 0, 1) := by decide +kernel
theorem dX6_away_19 : decode cX6_away 19 = .ok (.getfield 19, 3) := by decide +kernel
theorem dX6_away_22 : decode cX6_away 22 = .ok (.getfield 98, 3) := by decide +kernel
theorem dX6_away_25 : decode cX6_away 25 = .ok (.iload_n 1, 1) := by decide +kernel
theorem dX6_away_26 : decode cX6_away 26 = .ok (.invokevirtual 105, 3) := by decide +kernel
theorem dX6_away_29 : decode cX6_away 29 = .ok (.checkcast 103, 3) := by decide +kernel
theorem dX6_away_32 : decode cX6_away 32 = .ok (.astore_n 2, 1) := by decide +kernel
theorem dX6_away_33 : decode cX6_away 33 = .ok (.aload_n 2, 1) := by decide +kernel
theorem dX6_away_34 : decode cX6_away 34 = .ok (.invokevirtual 202, 3) := by decide +kernel
theorem dX6_away_37 : decode cX6_away 37 = .ok (.ifCond .eq 17, 3) := by decide +kernel
theorem dX6_away_40 : decode cX6_away 40 = .ok (.aload_n 2, 1) := by decide +kernel
theorem dX6_away_41 : decode cX6_away 41 = .ok (.getfield 194, 3) := by decide +kernel
theorem dX6_away_44 : decode cX6_away 44 = .ok (.aload_n 2, 1) := by decide +kernel
theorem dX6_away_45 : decode cX6_away 45 = .ok (.getfield 189, 3) := by decide +kernel
theorem dX6_away_48 : decode cX6_away 48 = .ok (.invokestatic 190, 3) := by decide +kernel
theorem dX6_away_51 : decode cX6_away 51 = .ok (.if_icmp .eq 13, 3) := by decide +kernel
theorem dX6_away_54 : decode cX6_away 54 = .ok (.new 73, 3) := by decide +kernel
theorem dX6_away_57 : decode cX6_away 57 = .ok (.dup, 1) := by decide +kernel
theorem dX6_away_58 : decode cX6_away 58 = .ok (.ldc 242, 2) := by decide +kernel
theorem dX6_away_60 : decode cX6_away 60 = .ok (.invokespecial 77, 3) := by decide +kernel
theorem dX6_away_63 : decode cX6_away 63 = .ok (.athrow, 1) := by decide +kernel
theorem dX6_away_64 : decode cX6_away 64 = .ok (.aload_n 2, 1) := by decide +kernel
theorem dX6_away_65 : decode cX6_away 65 = .ok (.iconst 0, 1) := by decide +kernel
theorem dX6_away_66 : decode cX6_away 66 = .ok (.putfield 186, 3) := by decide +kernel
theorem dX6_away_69 : decode cX6_away 69 = .ok (.aload_n 2, 1) := by decide +kernel
theorem dX6_away_70 : decode cX6_away 70 = .ok (.iconst (-1), 1) := by decide +kernel
theorem dX6_away_71 : decode cX6_away 71 = .ok (.putfield 194, 3) := by decide +kernel
theorem dX6_away_74 : decode cX6_away 74 = .ok (.aload_n 2, 1) := by decide +kernel
theorem dX6_away_75 : decode cX6_away 75 = .ok (.iconst 0, 1) := by decide +kernel
theorem dX6_away_76 : decode cX6_away 76 = .ok (.putfield 230, 3) := by decide +kernel
theorem dX6_away_79 : decode cX6_away 79 = .ok (.aload_n 0, 1) := by decide +kernel
theorem dX6_away_80 : decode cX6_away 80 = .ok (.getfield 19, 3) := by decide +kernel
theorem dX6_away_83 : decode cX6_away 83 = .ok (.invokevirtual 244, 3) := by decide +kernel
theorem dX6_away_86 : decode cX6_away 86 = .ok (.ireturn, 1) := by decide +kernel
theorem dX6_tap_0 : decode cX6_tap 0 = .ok (.iload_n 1, 1) := by decide +kernel
theorem dX6_tap_1 : decode cX6_tap 1 = .ok (.iconst 0, 1) := by decide +kernel
theorem dX6_tap_2 : decode cX6_tap 2 = .ok (.iconst 3, 1) := by decide +kernel
theorem dX6_tap_3 : decode cX6_tap 3 = .ok (.invokestatic 52, 3) := by decide +kernel
theorem dX6_tap_6 : decode cX6_tap 6 = .ok (.ifCond .eq 13, 3) := by decide +kernel
theorem dX6_tap_9 : decode cX6_tap 9 = .ok (.new 56, 3) := by decide +kernel
theorem dX6_tap_12 : decode cX6_tap 12 = .ok (.dup, 1) := by decide +kernel
theorem dX6_tap_13 : decode cX6_tap 13 = .ok (.ldc 247, 2) := by decide +kernel
theorem dX6_tap_15 : decode cX6_tap 15 = .ok (.invokespecial 60, 3) := by decide +kernel
theorem dX6_tap_18 : decode cX6_tap 18 = .ok (.athrow, 1) := by decide +kernel
theorem dX6_tap_19 : decode cX6_tap 19 = .ok (.iload_n 1, 1) := by decide +kernel
theorem dX6_tap_20 : decode cX6_tap 20 = .ok (.ifCond .ne 10, 3) := by decide +kernel
theorem dX6_tap_23 : decode cX6_tap 23 = .ok (.aload_n 0, 1) := by decide +kernel
theorem dX6_tap_24 : decode cX6_tap 24 = .ok (.invokevirtual 249, 3) := by decide +kernel
theorem dX6_tap_27 : decode cX6_tap 27 = .ok (.goto 11, 3) := by decide +kernel
theorem dX6_tap_30 : decode cX6_tap 30 = .ok (.aload_n 0, 1) := by decide +kernel
theorem dX6_tap_31 : decode cX6_tap 31 = .ok (.getfield 26, 3) := by decide +kernel
theorem dX6_tap_34 : decode cX6_tap 34 = .ok (.iload_n 1, 1) := by decide +kernel
theorem dX6_tap_35 : decode cX6_tap 35 = .ok (.invokevirtual 252, 3) := by decide +kernel
theorem dX6_tap_38 : decode cX6_tap 38 = .ok (.istore_n 2, 1) := by decide +kernel
theorem dX6_tap_39 : decode cX6_tap 39 = .ok (.iload_n 2, 1) := by decide +kernel
theorem dX6_tap_40 : decode cX6_tap 40 = .ok (.ifCond .ne 13, 3) := by decide +kernel
theorem dX6_tap_43 : decode cX6_tap 43 = .ok (.aload_n 0, 1) := by decide +kernel
theorem dX6_tap_44 : decode cX6_tap 44 = .ok (.dup, 1) := by decide +kernel
theorem dX6_tap_45 : decode cX6_tap 45 = .ok (.getfield 43, 3) := by decide +kernel
theorem dX6_tap_48 : decode cX6_tap 48 = .ok (.iconst 1, 1) := by decide +kernel
theorem dX6_tap_49 : decode cX6_tap 49 = .ok (.iadd, 1) := by decide +kernel
theorem dX6_tap_50 : decode cX6_tap 50 = .ok (.putfield 43, 3) := by decide +kernel
theorem dX6_tap_53 : decode cX6_tap 53 = .ok (.iload_n 2, 1) := by decide +kernel
theorem dX6_tap_54 : decode cX6_tap 54 = .ok (.ireturn, 1) := by decide +kernel
theorem dX6_speak_0 : decode cX6_speak 0 = .ok (.aload_n 0, 1) := by decide +kernel
theorem dX6_speak_1 : decode cX6_speak 1 = .ok (.iload_n 1, 1) := by decide +kernel
theorem dX6_speak_2 : decode cX6_speak 2 = .ok (.invokevirtual 87, 3) := by decide +kernel
theorem dX6_speak_5 : decode cX6_speak 5 = .ok (.ifCond .eq 11, 3) := by decide +kernel
theorem dX6_speak_8 : decode cX6_speak 8 = .ok (.aload_n 0, 1) := by decide +kernel
theorem dX6_speak_9 : decode cX6_speak 9 = .ok (.iload_n 2, 1) := by decide +kernel
theorem dX6_speak_10 : decode cX6_speak 10 = .ok (.invokevirtual 87, 3) := by decide +kernel
theorem dX6_speak_13 : decode cX6_speak 13 = .ok (.ifCond .ne 13, 3) := by decide +kernel
theorem dX6_speak_16 : decode cX6_speak 16 = .ok (.new 91, 3) := by decide +kernel
theorem dX6_speak_19 : decode cX6_speak 19 = .ok (.dup, 1) := by decide +kernel
theorem dX6_speak_20 : decode cX6_speak 20 = .ok (.ldc 93, 2) := by decide +kernel
theorem dX6_speak_22 : decode cX6_speak 22 = .ok (.invokespecial 95, 3) := by decide +kernel
theorem dX6_speak_25 : decode cX6_speak 25 = .ok (.athrow, 1) := by decide +kernel
theorem dX6_speak_26 : decode cX6_speak 26 = .ok (.iload_n 1, 1) := by decide +kernel
theorem dX6_speak_27 : decode cX6_speak 27 = .ok (.iload_n 2, 1) := by decide +kernel
theorem dX6_speak_28 : decode cX6_speak 28 = .ok (.if_icmp .eq 23, 3) := by decide +kernel
theorem dX6_speak_31 : decode cX6_speak 31 = .ok (.iload_n 3, 1) := by decide +kernel
theorem dX6_speak_32 : decode cX6_speak 32 = .ok (.iconst 1, 1) := by decide +kernel
theorem dX6_speak_33 : decode cX6_speak 33 = .ok (.bipush 9, 2) := by decide +kernel
theorem dX6_speak_35 : decode cX6_speak 35 = .ok (.invokestatic 52, 3) := by decide +kernel
theorem dX6_speak_38 : decode cX6_speak 38 = .ok (.ifCond .ne 13, 3) := by decide +kernel
theorem dX6_speak_41 : decode cX6_speak 41 = .ok (.iload 4, 2) := by decide +kernel
theorem dX6_speak_43 : decode cX6_speak 43 = .ok (.iconst (-1), 1) := by decide +kernel
theorem dX6_speak_44 : decode cX6_speak 44 = .ok (.iconst 1, 1) := by decide +kernel
theorem dX6_speak_45 : decode cX6_speak 45 = .ok (.invokestatic 52, 3) := by decide +kernel
theorem dX6_speak_48 : decode cX6_speak 48 = .ok (.ifCond .eq 13, 3) := by decide +kernel
theorem dX6_speak_51 : decode cX6_speak 51 = .ok (.new 56, 3) := by decide +kernel
theorem dX6_speak_54 : decode cX6_speak 54 = .ok (.dup, 1) := by decide +kernel
theorem dX6_speak_55 : decode cX6_speak 55 = .ok (.ldc 255, 2) := by decide +kernel
theorem dX6_speak_57 : decode cX6_speak 57 = .ok (.invokespecial 60, 3) := by decide +kernel
theorem dX6_speak_60 : decode cX6_speak 60 = .ok (.athrow, 1) := by decide +kernel
theorem dX6_speak_61 : decode cX6_speak 61 = .ok (.aload_n 0, 1) := by decide +kernel
theorem dX6_speak_62 : decode cX6_speak 62 = .ok (.getfield 19, 3) := by decide +kernel
theorem dX6_speak_65 : decode cX6_speak 65 = .ok (.invokevirtual 257, 3) := by decide +kernel
theorem dX6_speak_68 : decode cX6_speak 68 = .ok (.iload_n 1, 1) := by decide +kernel
theorem dX6_speak_69 : decode cX6_speak 69 = .ok (.invokestatic 260, 3) := by decide +kernel
theorem dX6_speak_72 : decode cX6_speak 72 = .ok (.ifCond .eq 24, 3) := by decide +kernel
theorem dX6_speak_75 : decode cX6_speak 75 = .ok (.aload_n 0, 1) := by decide +kernel
theorem dX6_speak_76 : decode cX6_speak 76 = .ok (.getfield 34, 3) := by decide +kernel
theorem dX6_speak_79 : decode cX6_speak 79 = .ok (.bipush 80, 2) := by decide +kernel
theorem dX6_speak_81 : decode cX6_speak 81 = .ok (.if_icmp .ge 15, 3) := by decide +kernel
theorem dX6_speak_84 : decode cX6_speak 84 = .ok (.aload_n 0, 1) := by decide +kernel
theorem dX6_speak_85 : decode cX6_speak 85 = .ok (.getfield 30, 3) := by decide +kernel
theorem dX6_speak_88 : decode cX6_speak 88 = .ok (.iload_n 3, 1) := by decide +kernel
theorem dX6_speak_89 : decode cX6_speak 89 = .ok (.iadd, 1) := by decide +kernel
theorem dX6_speak_90 : decode cX6_speak 90 = .ok (.sipush 540, 3) := by decide +kernel
theorem dX6_speak_93 : decode cX6_speak 93 = .ok (.if_icmp .le 14, 3) := by decide +kernel
theorem dX6_speak_96 : decode cX6_speak 96 = .ok (.new 73, 3) := by decide +kernel
theorem dX6_speak_99 : decode cX6_speak 99 = .ok (.dup, 1) := by decide +kernel
theorem dX6_speak_100 : decode cX6_speak 100 = .ok (.ldc_w 263, 3) := by decide +kernel
theorem dX6_speak_103 : decode cX6_speak 103 = .ok (.invokespecial 77, 3) := by decide +kernel
theorem dX6_speak_106 : decode cX6_speak 106 = .ok (.athrow, 1) := by decide +kernel
theorem dX6_speak_107 : decode cX6_speak 107 = .ok (.aload_n 0, 1) := by decide +kernel
theorem dX6_speak_108 : decode cX6_speak 108 = .ok (.getfield 10, 3) := by decide +kernel
theorem dX6_speak_111 : decode cX6_speak 111 = .ok (.getfield 63, 3) := by decide +kernel
theorem dX6_speak_114 : decode cX6_speak 114 = .ok (.iload_n 1, 1) := by decide +kernel
theorem dX6_speak_115 : decode cX6_speak 115 = .ok (.invokevirtual 105, 3) := by decide +kernel
theorem dX6_speak_118 : decode cX6_speak 118 = .ok (.checkcast 78, 3) := by decide +kernel
theorem dX6_speak_121 : decode cX6_speak 121 = .ok (.astore 5, 2) := by decide +kernel
theorem dX6_speak_123 : decode cX6_speak 123 = .ok (.iconst 1, 1) := by decide +kernel
theorem dX6_speak_124 : decode cX6_speak 124 = .ok (.iload_n 3, 1) := by decide +kernel
theorem dX6_speak_125 : decode cX6_speak 125 = .ok (.aload 5, 2) := by decide +kernel
theorem dX6_speak_127 : decode cX6_speak 127 = .ok (.getfield 265, 3) := by decide +kernel
theorem dX6_speak_130 : decode cX6_speak 130 = .ok (.aload_n 0, 1) := by decide +kernel
theorem dX6_speak_131 : decode cX6_speak 131 = .ok (.getfield 37, 3) := by decide +kernel
theorem dX6_speak_134 : decode cX6_speak 134 = .ok (.isub, 1) := by decide +kernel
theorem dX6_speak_135 : decode cX6_speak 135 = .ok (.invokestatic 214, 3) := by decide +kernel
theorem dX6_speak_138 : decode cX6_speak 138 = .ok (.imul, 1) := by decide +kernel
theorem dX6_speak_139 : decode cX6_speak 139 = .ok (.iconst 3, 1) := by decide +kernel
theorem dX6_speak_140 : decode cX6_speak 140 = .ok (.idiv, 1) := by decide +kernel
theorem dX6_speak_141 : decode cX6_speak 141 = .ok (.iadd, 1) := by decide +kernel
theorem dX6_speak_142 : decode cX6_speak 142 = .ok (.istore 6, 2) := by decide +kernel
theorem dX6_speak_144 : decode cX6_speak 144 = .ok (.aload_n 0, 1) := by decide +kernel
theorem dX6_speak_145 : decode cX6_speak 145 = .ok (.bipush 100, 2) := by decide +kernel
theorem dX6_speak_147 : decode cX6_speak 147 = .ok (.aload_n 0, 1) := by decide +kernel
theorem dX6_speak_148 : decode cX6_speak 148 = .ok (.getfield 34, 3) := by decide +kernel
theorem dX6_speak_151 : decode cX6_speak 151 = .ok (.iload 6, 2) := by decide +kernel
theorem dX6_speak_153 : decode cX6_speak 153 = .ok (.iadd, 1) := by decide +kernel
theorem dX6_speak_154 : decode cX6_speak 154 = .ok (.invokestatic 268, 3) := by decide +kernel
theorem dX6_speak_157 : decode cX6_speak 157 = .ok (.putfield 34, 3) := by decide +kernel
theorem dX6_speak_160 : decode cX6_speak 160 = .ok (.aload_n 0, 1) := by decide +kernel
theorem dX6_speak_161 : decode cX6_speak 161 = .ok (.aload 5, 2) := by decide +kernel
theorem dX6_speak_163 : decode cX6_speak 163 = .ok (.getfield 265, 3) := by decide +kernel
theorem dX6_speak_166 : decode cX6_speak 166 = .ok (.putfield 37, 3) := by decide +kernel
theorem dX6_speak_169 : decode cX6_speak 169 = .ok (.iload 4, 2) := by decide +kernel
theorem dX6_speak_171 : decode cX6_speak 171 = .ok (.aload 5, 2) := by decide +kernel
theorem dX6_speak_173 : decode cX6_speak 173 = .ok (.getfield 271, 3) := by decide +kernel
theorem dX6_speak_176 : decode cX6_speak 176 = .ok (.aload_n 0, 1) := by decide +kernel
theorem dX6_speak_177 : decode cX6_speak 177 = .ok (.getfield 10, 3) := by decide +kernel
theorem dX6_speak_180 : decode cX6_speak 180 = .ok (.getfield 63, 3) := by decide +kernel
theorem dX6_speak_183 : decode cX6_speak 183 = .ok (.iload_n 2, 1) := by decide +kernel
theorem dX6_speak_184 : decode cX6_speak 184 = .ok (.invokevirtual 105, 3) := by decide +kernel
theorem dX6_speak_187 : decode cX6_speak 187 = .ok (.checkcast 78, 3) := by decide +kernel
theorem dX6_speak_190 : decode cX6_speak 190 = .ok (.getfield 271, 3) := by decide +kernel
theorem dX6_speak_193 : decode cX6_speak 193 = .ok (.invokestatic 274, 3) := by decide +kernel
theorem dX6_speak_196 : decode cX6_speak 196 = .ok (.if_icmp .eq 13, 3) := by decide +kernel
theorem dX6_speak_199 : decode cX6_speak 199 = .ok (.aload_n 0, 1) := by decide +kernel
theorem dX6_speak_200 : decode cX6_speak 200 = .ok (.dup, 1) := by decide +kernel
theorem dX6_speak_201 : decode cX6_speak 201 = .ok (.getfield 46, 3) := by decide +kernel
theorem dX6_speak_204 : decode cX6_speak 204 = .ok (.iconst 1, 1) := by decide +kernel
theorem dX6_speak_205 : decode cX6_speak 205 = .ok (.iadd, 1) := by decide +kernel
theorem dX6_speak_206 : decode cX6_speak 206 = .ok (.putfield 46, 3) := by decide +kernel
theorem dX6_speak_209 : decode cX6_speak 209 = .ok (.aload_n 0, 1) := by decide +kernel
theorem dX6_speak_210 : decode cX6_speak 210 = .ok (.iload_n 3, 1) := by decide +kernel
theorem dX6_speak_211 : decode cX6_speak 211 = .ok (.iconst 1, 1) := by decide +kernel
theorem dX6_speak_212 : decode cX6_speak 212 = .ok (.invokevirtual 277, 3) := by decide +kernel
theorem dX6_speak_215 : decode cX6_speak 215 = .ok (.aload_n 0, 1) := by decide +kernel
theorem dX6_speak_216 : decode cX6_speak 216 = .ok (.getfield 34, 3) := by decide +kernel
theorem dX6_speak_219 : decode cX6_speak 219 = .ok (.ireturn, 1) := by decide +kernel
theorem dX6_joke_0 : decode cX6_joke 0 = .ok (.iload_n 1, 1) := by decide +kernel
theorem dX6_joke_1 : decode cX6_joke 1 = .ok (.iconst 0, 1) := by decide +kernel
theorem dX6_joke_2 : decode cX6_joke 2 = .ok (.bipush 9, 2) := by decide +kernel
theorem dX6_joke_4 : decode cX6_joke 4 = .ok (.invokestatic 52, 3) := by decide +kernel
theorem dX6_joke_7 : decode cX6_joke 7 = .ok (.ifCond .eq 14, 3) := by decide +kernel
theorem dX6_joke_10 : decode cX6_joke 10 = .ok (.new 56, 3) := by decide +kernel
theorem dX6_joke_13 : decode cX6_joke 13 = .ok (.dup, 1) := by decide +kernel
theorem dX6_joke_14 : decode cX6_joke 14 = .ok (.ldc_w 281, 3) := by decide +kernel
theorem dX6_joke_17 : decode cX6_joke 17 = .ok (.invokespecial 60, 3) := by decide +kernel
theorem dX6_joke_20 : decode cX6_joke 20 = .ok (.athrow, 1) := by decide +kernel
theorem dX6_joke_21 : decode cX6_joke 21 = .ok (.iload_n 1, 1) := by decide +kernel
theorem dX6_joke_22 : decode cX6_joke 22 = .ok (.aload_n 0, 1) := by decide +kernel
theorem dX6_joke_23 : decode cX6_joke 23 = .ok (.getfield 40, 3) := by decide +kernel
theorem dX6_joke_26 : decode cX6_joke 26 = .ok (.if_icmp .le 16, 3) := by decide +kernel
theorem dX6_joke_29 : decode cX6_joke 29 = .ok (.aload_n 0, 1) := by decide +kernel
theorem dX6_joke_30 : decode cX6_joke 30 = .ok (.dup, 1) := by decide +kernel
theorem dX6_joke_31 : decode cX6_joke 31 = .ok (.getfield 49, 3) := by decide +kernel
theorem dX6_joke_34 : decode cX6_joke 34 = .ok (.iconst 1, 1) := by decide +kernel
theorem dX6_joke_35 : decode cX6_joke 35 = .ok (.iadd, 1) := by decide +kernel
theorem dX6_joke_36 : decode cX6_joke 36 = .ok (.putfield 49, 3) := by decide +kernel
theorem dX6_joke_39 : decode cX6_joke 39 = .ok (.bipush (-2), 2) := by decide +kernel
theorem dX6_joke_41 : decode cX6_joke 41 = .ok (.ireturn, 1) := by decide +kernel
theorem dX6_joke_42 : decode cX6_joke 42 = .ok (.aload_n 0, 1) := by decide +kernel
theorem dX6_joke_43 : decode cX6_joke 43 = .ok (.dup, 1) := by decide +kernel
theorem dX6_joke_44 : decode cX6_joke 44 = .ok (.getfield 40, 3) := by decide +kernel
theorem dX6_joke_47 : decode cX6_joke 47 = .ok (.iload_n 1, 1) := by decide +kernel
theorem dX6_joke_48 : decode cX6_joke 48 = .ok (.isub, 1) := by decide +kernel
theorem dX6_joke_49 : decode cX6_joke 49 = .ok (.putfield 40, 3) := by decide +kernel
theorem dX6_joke_52 : decode cX6_joke 52 = .ok (.aload_n 0, 1) := by decide +kernel
theorem dX6_joke_53 : decode cX6_joke 53 = .ok (.getfield 40, 3) := by decide +kernel
theorem dX6_joke_56 : decode cX6_joke 56 = .ok (.ireturn, 1) := by decide +kernel
theorem dX6_offer_0 : decode cX6_offer 0 = .ok (.aload_n 0, 1) := by decide +kernel
theorem dX6_offer_1 : decode cX6_offer 1 = .ok (.getfield 30, 3) := by decide +kernel
theorem dX6_offer_4 : decode cX6_offer 4 = .ok (.iconst 3, 1) := by decide +kernel
theorem dX6_offer_5 : decode cX6_offer 5 = .ok (.iadd, 1) := by decide +kernel
theorem dX6_offer_6 : decode cX6_offer 6 = .ok (.sipush 540, 3) := by decide +kernel
theorem dX6_offer_9 : decode cX6_offer 9 = .ok (.if_icmp .le 14, 3) := by decide +kernel
theorem dX6_offer_12 : decode cX6_offer 12 = .ok (.new 73, 3) := by decide +kernel
theorem dX6_offer_15 : decode cX6_offer 15 = .ok (.dup, 1) := by decide +kernel
theorem dX6_offer_16 : decode cX6_offer 16 = .ok (.ldc_w 283, 3) := by decide +kernel
theorem dX6_offer_19 : decode cX6_offer 19 = .ok (.invokespecial 77, 3) := by decide +kernel
theorem dX6_offer_22 : decode cX6_offer 22 = .ok (.athrow, 1) := by decide +kernel
theorem dX6_offer_23 : decode cX6_offer 23 = .ok (.aload_n 0, 1) := by decide +kernel
theorem dX6_offer_24 : decode cX6_offer 24 = .ok (.bipush 30, 2) := by decide +kernel
theorem dX6_offer_26 : decode cX6_offer 26 = .ok (.aload_n 0, 1) := by decide +kernel
theorem dX6_offer_27 : decode cX6_offer 27 = .ok (.getfield 40, 3) := by decide +kernel
theorem dX6_offer_30 : decode cX6_offer 30 = .ok (.iconst 5, 1) := by decide +kernel
theorem dX6_offer_31 : decode cX6_offer 31 = .ok (.iadd, 1) := by decide +kernel
theorem dX6_offer_32 : decode cX6_offer 32 = .ok (.invokestatic 268, 3) := by decide +kernel
theorem dX6_offer_35 : decode cX6_offer 35 = .ok (.putfield 40, 3) := by decide +kernel
theorem dX6_offer_38 : decode cX6_offer 38 = .ok (.aload_n 0, 1) := by decide +kernel
theorem dX6_offer_39 : decode cX6_offer 39 = .ok (.iconst 3, 1) := by decide +kernel
theorem dX6_offer_40 : decode cX6_offer 40 = .ok (.iconst 0, 1) := by decide +kernel
theorem dX6_offer_41 : decode cX6_offer 41 = .ok (.invokevirtual 277, 3) := by decide +kernel
theorem dX6_offer_44 : decode cX6_offer 44 = .ok (.aload_n 0, 1) := by decide +kernel
theorem dX6_offer_45 : decode cX6_offer 45 = .ok (.getfield 40, 3) := by decide +kernel
theorem dX6_offer_48 : decode cX6_offer 48 = .ok (.ireturn, 1) := by decide +kernel
theorem dX6_pass_0 : decode cX6_pass 0 = .ok (.iload_n 1, 1) := by decide +kernel
theorem dX6_pass_1 : decode cX6_pass 1 = .ok (.iconst 1, 1) := by decide +kernel
theorem dX6_pass_2 : decode cX6_pass 2 = .ok (.bipush 99, 2) := by decide +kernel
theorem dX6_pass_4 : decode cX6_pass 4 = .ok (.invokestatic 52, 3) := by decide +kernel
theorem dX6_pass_7 : decode cX6_pass 7 = .ok (.ifCond .eq 14, 3) := by decide +kernel
theorem dX6_pass_10 : decode cX6_pass 10 = .ok (.new 56, 3) := by decide +kernel
theorem dX6_pass_13 : decode cX6_pass 13 = .ok (.dup, 1) := by decide +kernel
theorem dX6_pass_14 : decode cX6_pass 14 = .ok (.ldc_w 285, 3) := by decide +kernel
theorem dX6_pass_17 : decode cX6_pass 17 = .ok (.invokespecial 60, 3) := by decide +kernel
theorem dX6_pass_20 : decode cX6_pass 20 = .ok (.athrow, 1) := by decide +kernel
theorem dX6_pass_21 : decode cX6_pass 21 = .ok (.aload_n 0, 1) := by decide +kernel
theorem dX6_pass_22 : decode cX6_pass 22 = .ok (.getfield 30, 3) := by decide +kernel
theorem dX6_pass_25 : decode cX6_pass 25 = .ok (.iload_n 1, 1) := by decide +kernel
theorem dX6_pass_26 : decode cX6_pass 26 = .ok (.iadd, 1) := by decide +kernel
theorem dX6_pass_27 : decode cX6_pass 27 = .ok (.sipush 540, 3) := by decide +kernel
theorem dX6_pass_30 : decode cX6_pass 30 = .ok (.if_icmp .le 14, 3) := by decide +kernel
theorem dX6_pass_33 : decode cX6_pass 33 = .ok (.new 73, 3) := by decide +kernel
theorem dX6_pass_36 : decode cX6_pass 36 = .ok (.dup, 1) := by decide +kernel
theorem dX6_pass_37 : decode cX6_pass 37 = .ok (.ldc_w 283, 3) := by decide +kernel
theorem dX6_pass_40 : decode cX6_pass 40 = .ok (.invokespecial 77, 3) := by decide +kernel
theorem dX6_pass_43 : decode cX6_pass 43 = .ok (.athrow, 1) := by decide +kernel
theorem dX6_pass_44 : decode cX6_pass 44 = .ok (.aload_n 0, 1) := by decide +kernel
theorem dX6_pass_45 : decode cX6_pass 45 = .ok (.getfield 26, 3) := by decide +kernel
theorem dX6_pass_48 : decode cX6_pass 48 = .ok (.getfield 287, 3) := by decide +kernel
theorem dX6_pass_51 : decode cX6_pass 51 = .ok (.istore_n 2, 1) := by decide +kernel
theorem dX6_pass_52 : decode cX6_pass 52 = .ok (.aload_n 0, 1) := by decide +kernel
theorem dX6_pass_53 : decode cX6_pass 53 = .ok (.iload_n 1, 1) := by decide +kernel
theorem dX6_pass_54 : decode cX6_pass 54 = .ok (.iconst 0, 1) := by decide +kernel
theorem dX6_pass_55 : decode cX6_pass 55 = .ok (.invokevirtual 277, 3) := by decide +kernel
theorem dX6_pass_58 : decode cX6_pass 58 = .ok (.aload_n 0, 1) := by decide +kernel
theorem dX6_pass_59 : decode cX6_pass 59 = .ok (.getfield 26, 3) := by decide +kernel
theorem dX6_pass_62 : decode cX6_pass 62 = .ok (.getfield 287, 3) := by decide +kernel
theorem dX6_pass_65 : decode cX6_pass 65 = .ok (.iload_n 2, 1) := by decide +kernel
theorem dX6_pass_66 : decode cX6_pass 66 = .ok (.isub, 1) := by decide +kernel
theorem dX6_pass_67 : decode cX6_pass 67 = .ok (.ireturn, 1) := by decide +kernel
theorem dX6_knows_0 : decode cX6_knows 0 = .ok (.aload_n 0, 1) := by decide +kernel
theorem dX6_knows_1 : decode cX6_knows 1 = .ok (.iload_n 1, 1) := by decide +kernel
theorem dX6_knows_2 : decode cX6_knows 2 = .ok (.invokevirtual 87, 3) := by decide +kernel
theorem dX6_knows_5 : decode cX6_knows 5 = .ok (.ifCond .eq 16, 3) := by decide +kernel
theorem dX6_knows_8 : decode cX6_knows 8 = .ok (.iload_n 2, 1) := by decide +kernel
theorem dX6_knows_9 : decode cX6_knows 9 = .ok (.iconst (-1), 1) := by decide +kernel
theorem dX6_knows_10 : decode cX6_knows 10 = .ok (.if_icmp .eq 22, 3) := by decide +kernel
theorem dX6_knows_13 : decode cX6_knows 13 = .ok (.aload_n 0, 1) := by decide +kernel
theorem dX6_knows_14 : decode cX6_knows 14 = .ok (.iload_n 2, 1) := by decide +kernel
theorem dX6_knows_15 : decode cX6_knows 15 = .ok (.invokevirtual 140, 3) := by decide +kernel
theorem dX6_knows_18 : decode cX6_knows 18 = .ok (.ifCond .ne 14, 3) := by decide +kernel
theorem dX6_knows_21 : decode cX6_knows 21 = .ok (.new 91, 3) := by decide +kernel
theorem dX6_knows_24 : decode cX6_knows 24 = .ok (.dup, 1) := by decide +kernel
theorem dX6_knows_25 : decode cX6_knows 25 = .ok (.ldc_w 290, 3) := by decide +kernel
theorem dX6_knows_28 : decode cX6_knows 28 = .ok (.invokespecial 95, 3) := by decide +kernel
theorem dX6_knows_31 : decode cX6_knows 31 = .ok (.athrow, 1) := by decide +kernel
theorem dX6_knows_32 : decode cX6_knows 32 = .ok (.aload_n 0, 1) := by decide +kernel
theorem dX6_knows_33 : decode cX6_knows 33 = .ok (.getfield 10, 3) := by decide +kernel
theorem dX6_knows_36 : decode cX6_knows 36 = .ok (.iload_n 2, 1) := by decide +kernel
theorem dX6_knows_37 : decode cX6_knows 37 = .ok (.invokevirtual 292, 3) := by decide +kernel
theorem dX6_knows_40 : decode cX6_knows 40 = .ok (.iload_n 1, 1) := by decide +kernel
theorem dX6_knows_41 : decode cX6_knows 41 = .ok (.invokestatic 260, 3) := by decide +kernel
theorem dX6_knows_44 : decode cX6_knows 44 = .ok (.ireturn, 1) := by decide +kernel
theorem dX6_ofFigure_0 : decode cX6_ofFigure 0 = .ok (.aload_n 0, 1) := by decide +kernel
theorem dX6_ofFigure_1 : decode cX6_ofFigure 1 = .ok (.iload_n 1, 1) := by decide +kernel
theorem dX6_ofFigure_2 : decode cX6_ofFigure 2 = .ok (.invokevirtual 175, 3) := by decide +kernel
theorem dX6_ofFigure_5 : decode cX6_ofFigure 5 = .ok (.ifCond .ne 13, 3) := by decide +kernel
theorem dX6_ofFigure_8 : decode cX6_ofFigure 8 = .ok (.new 91, 3) := by decide +kernel
theorem dX6_ofFigure_11 : decode cX6_ofFigure 11 = .ok (.dup, 1) := by decide +kernel
theorem dX6_ofFigure_12 : decode cX6_ofFigure 12 = .ok (.ldc 178, 2) := by decide +kernel
theorem dX6_ofFigure_14 : decode cX6_ofFigure 14 = .ok (.invokespecial 95, 3) := by decide +kernel
theorem dX6_ofFigure_17 : decode cX6_ofFigure 17 = .ok (.athrow, 1) := by decide +kernel
theorem dX6_ofFigure_18 : decode cX6_ofFigure 18 = .ok (.iload_n 2, 1) := by decide +kernel
theorem dX6_ofFigure_19 : decode cX6_ofFigure 19 = .ok (.iconst 0, 1) := by decide +kernel
theorem dX6_ofFigure_20 : decode cX6_ofFigure 20 = .ok (.bipush 7, 2) := by decide +kernel
theorem dX6_ofFigure_22 : decode cX6_ofFigure 22 = .ok (.invokestatic 52, 3) := by decide +kernel
theorem dX6_ofFigure_25 : decode cX6_ofFigure 25 = .ok (.ifCond .eq 14, 3) := by decide +kernel
theorem dX6_ofFigure_28 : decode cX6_ofFigure 28 = .ok (.new 56, 3) := by decide +kernel
theorem dX6_ofFigure_31 : decode cX6_ofFigure 31 = .ok (.dup, 1) := by decide +kernel
theorem dX6_ofFigure_32 : decode cX6_ofFigure 32 = .ok (.ldc_w 295, 3) := by decide +kernel
theorem dX6_ofFigure_35 : decode cX6_ofFigure 35 = .ok (.invokespecial 60, 3) := by decide +kernel
theorem dX6_ofFigure_38 : decode cX6_ofFigure 38 = .ok (.athrow, 1) := by decide +kernel
theorem dX6_ofFigure_39 : decode cX6_ofFigure 39 = .ok (.aload_n 0, 1) := by decide +kernel
theorem dX6_ofFigure_40 : decode cX6_ofFigure 40 = .ok (.getfield 19, 3) := by decide +kernel
theorem dX6_ofFigure_43 : decode cX6_ofFigure 43 = .ok (.aload_n 0, 1) := by decide +kernel
theorem dX6_ofFigure_44 : decode cX6_ofFigure 44 = .ok (.getfield 19, 3) := by decide +kernel
theorem dX6_ofFigure_47 : decode cX6_ofFigure 47 = .ok (.getfield 98, 3) := by decide +kernel
theorem dX6_ofFigure_50 : decode cX6_ofFigure 50 = .ok (.iload_n 1, 1) := by decide +kernel
theorem dX6_ofFigure_51 : decode cX6_ofFigure 51 = .ok (.invokevirtual 105, 3) := by decide +kernel
theorem dX6_ofFigure_54 : decode cX6_ofFigure 54 = .ok (.checkcast 103, 3) := by decide +kernel
theorem dX6_ofFigure_57 : decode cX6_ofFigure 57 = .ok (.iload_n 2, 1) := by decide +kernel
theorem dX6_ofFigure_58 : decode cX6_ofFigure 58 = .ok (.invokevirtual 297, 3) := by decide +kernel
theorem dX6_ofFigure_61 : decode cX6_ofFigure 61 = .ok (.ireturn, 1) := by decide +kernel
theorem dX6_ofScene_0 : decode cX6_ofScene 0 = .ok (.aload_n 0, 1) := by decide +kernel
theorem dX6_ofScene_1 : decode cX6_ofScene 1 = .ok (.iload_n 1, 1) := by decide +kernel
theorem dX6_ofScene_2 : decode cX6_ofScene 2 = .ok (.invokevirtual 140, 3) := by decide +kernel
theorem dX6_ofScene_5 : decode cX6_ofScene 5 = .ok (.ifCond .ne 13, 3) := by decide +kernel
theorem dX6_ofScene_8 : decode cX6_ofScene 8 = .ok (.new 91, 3) := by decide +kernel
theorem dX6_ofScene_11 : decode cX6_ofScene 11 = .ok (.dup, 1) := by decide +kernel
theorem dX6_ofScene_12 : decode cX6_ofScene 12 = .ok (.ldc 143, 2) := by decide +kernel
theorem dX6_ofScene_14 : decode cX6_ofScene 14 = .ok (.invokespecial 95, 3) := by decide +kernel
theorem dX6_ofScene_17 : decode cX6_ofScene 17 = .ok (.athrow, 1) := by decide +kernel
theorem dX6_ofScene_18 : decode cX6_ofScene 18 = .ok (.iload_n 2, 1) := by decide +kernel
theorem dX6_ofScene_19 : decode cX6_ofScene 19 = .ok (.iconst 0, 1) := by decide +kernel
theorem dX6_ofScene_20 : decode cX6_ofScene 20 = .ok (.bipush 8, 2) := by decide +kernel
theorem dX6_ofScene_22 : decode cX6_ofScene 22 = .ok (.invokestatic 52, 3) := by decide +kernel
theorem dX6_ofScene_25 : decode cX6_ofScene 25 = .ok (.ifCond .eq 14, 3) := by decide +kernel
theorem dX6_ofScene_28 : decode cX6_ofScene 28 = .ok (.new 56, 3) := by decide +kernel
theorem dX6_ofScene_31 : decode cX6_ofScene 31 = .ok (.dup, 1) := by decide +kernel
theorem dX6_ofScene_32 : decode cX6_ofScene 32 = .ok (.ldc_w 300, 3) := by decide +kernel
theorem dX6_ofScene_35 : decode cX6_ofScene 35 = .ok (.invokespecial 60, 3) := by decide +kernel
theorem dX6_ofScene_38 : decode cX6_ofScene 38 = .ok (.athrow, 1) := by decide +kernel
theorem dX6_ofScene_39 : decode cX6_ofScene 39 = .ok (.aload_n 0, 1) := by decide +kernel
theorem dX6_ofScene_40 : decode cX6_ofScene 40 = .ok (.getfield 10, 3) := by decide +kernel
theorem dX6_ofScene_43 : decode cX6_ofScene 43 = .ok (.getfield 131, 3) := by decide +kernel
theorem dX6_ofScene_46 : decode cX6_ofScene 46 = .ok (.iload_n 1, 1) := by decide +kernel
theorem dX6_ofScene_47 : decode cX6_ofScene 47 = .ok (.invokevirtual 105, 3) := by decide +kernel
theorem dX6_ofScene_50 : decode cX6_ofScene 50 = .ok (.checkcast 147, 3) := by decide +kernel
theorem dX6_ofScene_53 : decode cX6_ofScene 53 = .ok (.iload_n 2, 1) := by decide +kernel
theorem dX6_ofScene_54 : decode cX6_ofScene 54 = .ok (.invokevirtual 302, 3) := by decide +kernel
theorem dX6_ofScene_57 : decode cX6_ofScene 57 = .ok (.ireturn, 1) := by decide +kernel
theorem dX6_at_0 : decode cX6_at 0 = .ok (.iload_n 1, 1) := by decide +kernel
theorem dX6_at_1 : decode cX6_at 1 = .ok (.invokestatic 197, 3) := by decide +kernel
theorem dX6_at_4 : decode cX6_at 4 = .ok (.ifCond .ne 13, 3) := by decide +kernel
theorem dX6_at_7 : decode cX6_at 7 = .ok (.new 91, 3) := by decide +kernel
theorem dX6_at_10 : decode cX6_at 10 = .ok (.dup, 1) := by decide +kernel
theorem dX6_at_11 : decode cX6_at 11 = .ok (.ldc 200, 2) := by decide +kernel
theorem dX6_at_13 : decode cX6_at 13 = .ok (.invokespecial 95, 3) := by decide +kernel
theorem dX6_at_16 : decode cX6_at 16 = .ok (.athrow, 1) := by decide +kernel
theorem dX6_at_17 : decode cX6_at 17 = .ok (.aload_n 0, 1) := by decide +kernel
theorem dX6_at_18 : decode cX6_at 18 = .ok (.getfield 19, 3) := by decide +kernel
theorem dX6_at_21 : decode cX6_at 21 = .ok (.iload_n 1, 1) := by decide +kernel
theorem dX6_at_22 : decode cX6_at 22 = .ok (.invokevirtual 209, 3) := by decide +kernel
theorem dX6_at_25 : decode cX6_at 25 = .ok (.ireturn, 1) := by decide +kernel
theorem dX6_sound_0 : decode cX6_sound 0 = .ok (.iload_n 1, 1) := by decide +kernel
theorem dX6_sound_1 : decode cX6_sound 1 = .ok (.iconst 0, 1) := by decide +kernel
theorem dX6_sound_2 : decode cX6_sound 2 = .ok (.iconst 3, 1) := by decide +kernel
theorem dX6_sound_3 : decode cX6_sound 3 = .ok (.invokestatic 52, 3) := by decide +kernel
theorem dX6_sound_6 : decode cX6_sound 6 = .ok (.ifCond .eq 14, 3) := by decide +kernel
theorem dX6_sound_9 : decode cX6_sound 9 = .ok (.new 56, 3) := by decide +kernel
theorem dX6_sound_12 : decode cX6_sound 12 = .ok (.dup, 1) := by decide +kernel
theorem dX6_sound_13 : decode cX6_sound 13 = .ok (.ldc_w 305, 3) := by decide +kernel
theorem dX6_sound_16 : decode cX6_sound 16 = .ok (.invokespecial 60, 3) := by decide +kernel
theorem dX6_sound_19 : decode cX6_sound 19 = .ok (.athrow, 1) := by decide +kernel
theorem dX6_sound_20 : decode cX6_sound 20 = .ok (.aload_n 0, 1) := by decide +kernel
theorem dX6_sound_21 : decode cX6_sound 21 = .ok (.getfield 26, 3) := by decide +kernel
theorem dX6_sound_24 : decode cX6_sound 24 = .ok (.iload_n 1, 1) := by decide +kernel
theorem dX6_sound_25 : decode cX6_sound 25 = .ok (.invokevirtual 307, 3) := by decide +kernel
theorem dX6_sound_28 : decode cX6_sound 28 = .ok (.ireturn, 1) := by decide +kernel
theorem dX6_many_0 : decode cX6_many 0 = .ok (.iload_n 1, 1) := by decide +kernel
theorem dX6_many_1 : decode cX6_many 1 = .ok (.iconst 0, 1) := by decide +kernel
theorem dX6_many_2 : decode cX6_many 2 = .ok (.bipush 15, 2) := by decide +kernel
theorem dX6_many_4 : decode cX6_many 4 = .ok (.invokestatic 52, 3) := by decide +kernel
theorem dX6_many_7 : decode cX6_many 7 = .ok (.ifCond .eq 14, 3) := by decide +kernel
theorem dX6_many_10 : decode cX6_many 10 = .ok (.new 56, 3) := by decide +kernel
theorem dX6_many_13 : decode cX6_many 13 = .ok (.dup, 1) := by decide +kernel
theorem dX6_many_14 : decode cX6_many 14 = .ok (.ldc_w 308, 3) := by decide +kernel
theorem dX6_many_17 : decode cX6_many 17 = .ok (.invokespecial 60, 3) := by decide +kernel
theorem dX6_many_20 : decode cX6_many 20 = .ok (.athrow, 1) := by decide +kernel
theorem dX6_many_21 : decode cX6_many 21 = .ok (.aload_n 0, 1) := by decide +kernel
theorem dX6_many_22 : decode cX6_many 22 = .ok (.iload_n 1, 1) := by decide +kernel
theorem dX6_many_23 : decode cX6_many 23 = .ok (.invokevirtual 310, 3) := by decide +kernel
theorem dX6_many_26 : decode cX6_many 26 = .ok (.ireturn, 1) := by decide +kernel
theorem dX6_meanShadow_0 : decode cX6_meanShadow 0 = .ok (.aload_n 0, 1) := by decide +kernel
theorem dX6_meanShadow_1 : decode cX6_meanShadow 1 = .ok (.getfield 19, 3) := by decide +kernel
theorem dX6_meanShadow_4 : decode cX6_meanShadow 4 = .ok (.invokevirtual 244, 3) := by decide +kernel
theorem dX6_meanShadow_7 : decode cX6_meanShadow 7 = .ok (.istore_n 1, 1) := by decide +kernel
theorem dX6_meanShadow_8 : decode cX6_meanShadow 8 = .ok (.iload_n 1, 1) := by decide +kernel
theorem dX6_meanShadow_9 : decode cX6_meanShadow 9 = .ok (.ifCond .ne 5, 3) := by decide +kernel
theorem dX6_meanShadow_12 : decode cX6_meanShadow 12 = .ok (.dconst 0, 1) := by decide +kernel
theorem dX6_meanShadow_13 : decode cX6_meanShadow 13 = .ok (.dreturn, 1) := by decide +kernel
theorem dX6_meanShadow_14 : decode cX6_meanShadow 14 = .ok (.aload_n 0, 1) := by decide +kernel
theorem dX6_meanShadow_15 : decode cX6_meanShadow 15 = .ok (.getfield 19, 3) := by decide +kernel
theorem dX6_meanShadow_18 : decode cX6_meanShadow 18 = .ok (.invokevirtual 313, 3) := by decide +kernel
theorem dX6_meanShadow_21 : decode cX6_meanShadow 21 = .ok (.i2d, 1) := by decide +kernel
theorem dX6_meanShadow_22 : decode cX6_meanShadow 22 = .ok (.iload_n 1, 1) := by decide +kernel
theorem dX6_meanShadow_23 : decode cX6_meanShadow 23 = .ok (.i2d, 1) := by decide +kernel
theorem dX6_meanShadow_24 : decode cX6_meanShadow 24 = .ok (.ddiv, 1) := by decide +kernel
theorem dX6_meanShadow_25 : decode cX6_meanShadow 25 = .ok (.dreturn, 1) := by decide +kernel
theorem dX6_nextGong_0 : decode cX6_nextGong 0 = .ok (.aload_n 0, 1) := by decide +kernel
theorem dX6_nextGong_1 : decode cX6_nextGong 1 = .ok (.getfield 26, 3) := by decide +kernel
theorem dX6_nextGong_4 : decode cX6_nextGong 4 = .ok (.invokevirtual 316, 3) := by decide +kernel
theorem dX6_nextGong_7 : decode cX6_nextGong 7 = .ok (.ireturn, 1) := by decide +kernel
theorem dX6_bestSwap_0 : decode cX6_bestSwap 0 = .ok (.aload_n 0, 1) := by decide +kernel
theorem dX6_bestSwap_1 : decode cX6_bestSwap 1 = .ok (.getfield 10, 3) := by decide +kernel
theorem dX6_bestSwap_4 : decode cX6_bestSwap 4 = .ok (.invokevirtual 319, 3) := by decide +kernel
theorem dX6_bestSwap_7 : decode cX6_bestSwap 7 = .ok (.ireturn, 1) := by decide +kernel
theorem dX6_liftFor_0 : decode cX6_liftFor 0 = .ok (.aload_n 0, 1) := by decide +kernel
theorem dX6_liftFor_1 : decode cX6_liftFor 1 = .ok (.iload_n 1, 1) := by decide +kernel
theorem dX6_liftFor_2 : decode cX6_liftFor 2 = .ok (.invokevirtual 175, 3) := by decide +kernel
theorem dX6_liftFor_5 : decode cX6_liftFor 5 = .ok (.ifCond .ne 13, 3) := by decide +kernel
theorem dX6_liftFor_8 : decode cX6_liftFor 8 = .ok (.new 91, 3) := by decide +kernel
theorem dX6_liftFor_11 : decode cX6_liftFor 11 = .ok (.dup, 1) := by decide +kernel
theorem dX6_liftFor_12 : decode cX6_liftFor 12 = .ok (.ldc 178, 2) := by decide +kernel
theorem dX6_liftFor_14 : decode cX6_liftFor 14 = .ok (.invokespecial 95, 3) := by decide +kernel
theorem dX6_liftFor_17 : decode cX6_liftFor 17 = .ok (.athrow, 1) := by decide +kernel
theorem dX6_liftFor_18 : decode cX6_liftFor 18 = .ok (.iload_n 2, 1) := by decide +kernel
theorem dX6_liftFor_19 : decode cX6_liftFor 19 = .ok (.iconst 1, 1) := by decide +kernel
theorem dX6_liftFor_20 : decode cX6_liftFor 20 = .ok (.sipush 400, 3) := by decide +kernel
theorem dX6_liftFor_23 : decode cX6_liftFor 23 = .ok (.invokestatic 52, 3) := by decide +kernel
theorem dX6_liftFor_26 : decode cX6_liftFor 26 = .ok (.ifCond .eq 14, 3) := by decide +kernel
theorem dX6_liftFor_29 : decode cX6_liftFor 29 = .ok (.new 56, 3) := by decide +kernel
theorem dX6_liftFor_32 : decode cX6_liftFor 32 = .ok (.dup, 1) := by decide +kernel
theorem dX6_liftFor_33 : decode cX6_liftFor 33 = .ok (.ldc_w 322, 3) := by decide +kernel
theorem dX6_liftFor_36 : decode cX6_liftFor 36 = .ok (.invokespecial 60, 3) := by decide +kernel
theorem dX6_liftFor_39 : decode cX6_liftFor 39 = .ok (.athrow, 1) := by decide +kernel
theorem dX6_liftFor_40 : decode cX6_liftFor 40 = .ok (.aload_n 0, 1) := by decide +kernel
theorem dX6_liftFor_41 : decode cX6_liftFor 41 = .ok (.getfield 19, 3) := by decide +kernel
theorem dX6_liftFor_44 : decode cX6_liftFor 44 = .ok (.aload_n 0, 1) := by decide +kernel
theorem dX6_liftFor_45 : decode cX6_liftFor 45 = .ok (.getfield 19, 3) := by decide +kernel
theorem dX6_liftFor_48 : decode cX6_liftFor 48 = .ok (.getfield 98, 3) := by decide +kernel
theorem dX6_liftFor_51 : decode cX6_liftFor 51 = .ok (.iload_n 1, 1) := by decide +kernel
theorem dX6_liftFor_52 : decode cX6_liftFor 52 = .ok (.invokevirtual 105, 3) := by decide +kernel
theorem dX6_liftFor_55 : decode cX6_liftFor 55 = .ok (.checkcast 103, 3) := by decide +kernel
theorem dX6_liftFor_58 : decode cX6_liftFor 58 = .ok (.iload_n 2, 1) := by decide +kernel
theorem dX6_liftFor_59 : decode cX6_liftFor 59 = .ok (.invokevirtual 324, 3) := by decide +kernel
theorem dX6_liftFor_62 : decode cX6_liftFor 62 = .ok (.ireturn, 1) := by decide +kernel
theorem dX6_gripable_0 : decode cX6_gripable 0 = .ok (.aload_n 0, 1) := by decide +kernel
theorem dX6_gripable_1 : decode cX6_gripable 1 = .ok (.getfield 19, 3) := by decide +kernel
theorem dX6_gripable_4 : decode cX6_gripable 4 = .ok (.invokevirtual 327, 3) := by decide +kernel
theorem dX6_gripable_7 : decode cX6_gripable 7 = .ok (.ireturn, 1) := by decide +kernel
theorem dX6_digest_0 : decode cX6_digest 0 = .ok (.ldc2_w 330, 3) := by decide +kernel
theorem dX6_digest_3 : decode cX6_digest 3 = .ok (.lstore_n 1, 1) := by decide +kernel
theorem dX6_digest_4 : decode cX6_digest 4 = .ok (.iconst 0, 1) := by decide +kernel
theorem dX6_digest_5 : decode cX6_digest 5 = .ok (.istore_n 3, 1) := by decide +kernel
theorem dX6_digest_6 : decode cX6_digest 6 = .ok (.iload_n 3, 1) := by decide +kernel
theorem dX6_digest_7 : decode cX6_digest 7 = .ok (.bipush 15, 2) := by decide +kernel
theorem dX6_digest_9 : decode cX6_digest 9 = .ok (.if_icmp .gt 20, 3) := by decide +kernel
theorem dX6_digest_12 : decode cX6_digest 12 = .ok (.lload_n 1, 1) := by decide +kernel
theorem dX6_digest_13 : decode cX6_digest 13 = .ok (.aload_n 0, 1) := by decide +kernel
theorem dX6_digest_14 : decode cX6_digest 14 = .ok (.iload_n 3, 1) := by decide +kernel
theorem dX6_digest_15 : decode cX6_digest 15 = .ok (.invokevirtual 310, 3) := by decide +kernel
theorem dX6_digest_18 : decode cX6_digest 18 = .ok (.i2l, 1) := by decide +kernel
theorem dX6_digest_19 : decode cX6_digest 19 = .ok (.invokestatic 332, 3) := by decide +kernel
theorem dX6_digest_22 : decode cX6_digest 22 = .ok (.lstore_n 1, 1) := by decide +kernel
theorem dX6_digest_23 : decode cX6_digest 23 = .ok (.iinc 3 1, 3) := by decide +kernel
theorem dX6_digest_26 : decode cX6_digest 26 = .ok (.goto (-20), 3) := by decide +kernel
theorem dX6_digest_29 : decode cX6_digest 29 = .ok (.aload_n 0, 1) := by decide +kernel
theorem dX6_digest_30 : decode cX6_digest 30 = .ok (.lload_n 1, 1) := by decide +kernel
theorem dX6_digest_31 : decode cX6_digest 31 = .ok (.invokevirtual 336, 3) := by decide +kernel
theorem dX6_digest_34 : decode cX6_digest 34 = .ok (.lstore_n 1, 1) := by decide +kernel
theorem dX6_digest_35 : decode cX6_digest 35 = .ok (.aload_n 0, 1) := by decide +kernel
theorem dX6_digest_36 : decode cX6_digest 36 = .ok (.lload_n 1, 1) := by decide +kernel
theorem dX6_digest_37 : decode cX6_digest 37 = .ok (.invokevirtual 340, 3) := by decide +kernel
theorem dX6_digest_40 : decode cX6_digest 40 = .ok (.lstore_n 1, 1) := by decide +kernel
theorem dX6_digest_41 : decode cX6_digest 41 = .ok (.aload_n 0, 1) := by decide +kernel
theorem dX6_digest_42 : decode cX6_digest 42 = .ok (.lload_n 1, 1) := by decide +kernel
theorem dX6_digest_43 : decode cX6_digest 43 = .ok (.invokevirtual 343, 3) := by decide +kernel
theorem dX6_digest_46 : decode cX6_digest 46 = .ok (.lstore_n 1, 1) := by decide +kernel
theorem dX6_digest_47 : decode cX6_digest 47 = .ok (.iconst 0, 1) := by decide +kernel
theorem dX6_digest_48 : decode cX6_digest 48 = .ok (.istore_n 3, 1) := by decide +kernel
theorem dX6_digest_49 : decode cX6_digest 49 = .ok (.iload_n 3, 1) := by decide +kernel
theorem dX6_digest_50 : decode cX6_digest 50 = .ok (.bipush 9, 2) := by decide +kernel
theorem dX6_digest_52 : decode cX6_digest 52 = .ok (.if_icmp .gt 23, 3) := by decide +kernel
theorem dX6_digest_55 : decode cX6_digest 55 = .ok (.lload_n 1, 1) := by decide +kernel
theorem dX6_digest_56 : decode cX6_digest 56 = .ok (.aload_n 0, 1) := by decide +kernel
theorem dX6_digest_57 : decode cX6_digest 57 = .ok (.getfield 19, 3) := by decide +kernel
theorem dX6_digest_60 : decode cX6_digest 60 = .ok (.iload_n 3, 1) := by decide +kernel
theorem dX6_digest_61 : decode cX6_digest 61 = .ok (.invokevirtual 209, 3) := by decide +kernel
theorem dX6_digest_64 : decode cX6_digest 64 = .ok (.i2l, 1) := by decide +kernel
theorem dX6_digest_65 : decode cX6_digest 65 = .ok (.invokestatic 332, 3) := by decide +kernel
theorem dX6_digest_68 : decode cX6_digest 68 = .ok (.lstore_n 1, 1) := by decide +kernel
theorem dX6_digest_69 : decode cX6_digest 69 = .ok (.iinc 3 1, 3) := by decide +kernel
theorem dX6_digest_72 : decode cX6_digest 72 = .ok (.goto (-23), 3) := by decide +kernel
theorem dX6_digest_75 : decode cX6_digest 75 = .ok (.iconst 0, 1) := by decide +kernel
theorem dX6_digest_76 : decode cX6_digest 76 = .ok (.istore_n 3, 1) := by decide +kernel
theorem dX6_digest_77 : decode cX6_digest 77 = .ok (.iload_n 3, 1) := by decide +kernel
theorem dX6_digest_78 : decode cX6_digest 78 = .ok (.iconst 3, 1) := by decide +kernel
theorem dX6_digest_79 : decode cX6_digest 79 = .ok (.if_icmp .gt 23, 3) := by decide +kernel
theorem dX6_digest_82 : decode cX6_digest 82 = .ok (.lload_n 1, 1) := by decide +kernel
theorem dX6_digest_83 : decode cX6_digest 83 = .ok (.aload_n 0, 1) := by decide +kernel
theorem dX6_digest_84 : decode cX6_digest 84 = .ok (.getfield 26, 3) := by decide +kernel
theorem dX6_digest_87 : decode cX6_digest 87 = .ok (.iload_n 3, 1) := by decide +kernel
theorem dX6_digest_88 : decode cX6_digest 88 = .ok (.invokevirtual 307, 3) := by decide +kernel
theorem dX6_digest_91 : decode cX6_digest 91 = .ok (.i2l, 1) := by decide +kernel
theorem dX6_digest_92 : decode cX6_digest 92 = .ok (.invokestatic 332, 3) := by decide +kernel
theorem dX6_digest_95 : decode cX6_digest 95 = .ok (.lstore_n 1, 1) := by decide +kernel
theorem dX6_digest_96 : decode cX6_digest 96 = .ok (.iinc 3 1, 3) := by decide +kernel
theorem dX6_digest_99 : decode cX6_digest 99 = .ok (.goto (-22), 3) := by decide +kernel
theorem dX6_digest_102 : decode cX6_digest 102 = .ok (.lload_n 1, 1) := by decide +kernel
theorem dX6_digest_103 : decode cX6_digest 103 = .ok (.aload_n 0, 1) := by decide +kernel
theorem dX6_digest_104 : decode cX6_digest 104 = .ok (.getfield 26, 3) := by decide +kernel
theorem dX6_digest_107 : decode cX6_digest 107 = .ok (.invokevirtual 316, 3) := by decide +kernel
theorem dX6_digest_110 : decode cX6_digest 110 = .ok (.i2l, 1) := by decide +kernel
theorem dX6_digest_111 : decode cX6_digest 111 = .ok (.invokestatic 332, 3) := by decide +kernel
theorem dX6_digest_114 : decode cX6_digest 114 = .ok (.lstore_n 1, 1) := by decide +kernel
theorem dX6_digest_115 : decode cX6_digest 115 = .ok (.lload_n 1, 1) := by decide +kernel
theorem dX6_digest_116 : decode cX6_digest 116 = .ok (.aload_n 0, 1) := by decide +kernel
theorem dX6_digest_117 : decode cX6_digest 117 = .ok (.getfield 10, 3) := by decide +kernel
theorem dX6_digest_120 : decode cX6_digest 120 = .ok (.invokevirtual 319, 3) := by decide +kernel
theorem dX6_digest_123 : decode cX6_digest 123 = .ok (.i2l, 1) := by decide +kernel
theorem dX6_digest_124 : decode cX6_digest 124 = .ok (.invokestatic 332, 3) := by decide +kernel
theorem dX6_digest_127 : decode cX6_digest 127 = .ok (.lstore_n 1, 1) := by decide +kernel
theorem dX6_digest_128 : decode cX6_digest 128 = .ok (.lload_n 1, 1) := by decide +kernel
theorem dX6_digest_129 : decode cX6_digest 129 = .ok (.aload_n 0, 1) := by decide +kernel
theorem dX6_digest_130 : decode cX6_digest 130 = .ok (.getfield 19, 3) := by decide +kernel
theorem dX6_digest_133 : decode cX6_digest 133 = .ok (.invokevirtual 327, 3) := by decide +kernel
theorem dX6_digest_136 : decode cX6_digest 136 = .ok (.i2l, 1) := by decide +kernel
end
section
theorem dX6_digest_137 : decode cX6_digest 137 = .ok (.invokestatic 332, 3) := by decide +kernel
theorem dX6_digest_140 : decode cX6_digest 140 = .ok (.lreturn, 1) := by decide +kernel
theorem dX6_mix_0 : decode cX6_mix 0 = .ok (.lload_n 0, 1) := by decide +kernel
theorem dX6_mix_1 : decode cX6_mix 1 = .ok (.ldc2_w 346, 3) := by decide +kernel
theorem dX6_mix_4 : decode cX6_mix 4 = .ok (.lmul, 1) := by decide +kernel
theorem dX6_mix_5 : decode cX6_mix 5 = .ok (.lload_n 2, 1) := by decide +kernel
theorem dX6_mix_6 : decode cX6_mix 6 = .ok (.ladd, 1) := by decide +kernel
theorem dX6_mix_7 : decode cX6_mix 7 = .ok (.lreturn, 1) := by decide +kernel
theorem dX6_mixPersons_0 : decode cX6_mixPersons 0 = .ok (.aload_n 0, 1) := by decide +kernel
theorem dX6_mixPersons_1 : decode cX6_mixPersons 1 = .ok (.getfield 10, 3) := by decide +kernel
theorem dX6_mixPersons_4 : decode cX6_mixPersons 4 = .ok (.aload_n 0, 1) := by decide +kernel
theorem dX6_mixPersons_5 : decode cX6_mixPersons 5 = .ok (.getfield 10, 3) := by decide +kernel
theorem dX6_mixPersons_8 : decode cX6_mixPersons 8 = .ok (.getfield 131, 3) := by decide +kernel
theorem dX6_mixPersons_11 : decode cX6_mixPersons 11 = .ok (.invokevirtual 67, 3) := by decide +kernel
theorem dX6_mixPersons_14 : decode cX6_mixPersons 14 = .ok (.iconst 1, 1) := by decide +kernel
theorem dX6_mixPersons_15 : decode cX6_mixPersons 15 = .ok (.isub, 1) := by decide +kernel
theorem dX6_mixPersons_16 : decode cX6_mixPersons 16 = .ok (.invokevirtual 292, 3) := by decide +kernel
theorem dX6_mixPersons_19 : decode cX6_mixPersons 19 = .ok (.istore_n 3, 1) := by decide +kernel
theorem dX6_mixPersons_20 : decode cX6_mixPersons 20 = .ok (.lload_n 1, 1) := by decide +kernel
theorem dX6_mixPersons_21 : decode cX6_mixPersons 21 = .ok (.lstore 4, 2) := by decide +kernel
theorem dX6_mixPersons_23 : decode cX6_mixPersons 23 = .ok (.iconst 0, 1) := by decide +kernel
theorem dX6_mixPersons_24 : decode cX6_mixPersons 24 = .ok (.istore 6, 2) := by decide +kernel
theorem dX6_mixPersons_26 : decode cX6_mixPersons 26 = .ok (.iload 6, 2) := by decide +kernel
theorem dX6_mixPersons_28 : decode cX6_mixPersons 28 = .ok (.aload_n 0, 1) := by decide +kernel
theorem dX6_mixPersons_29 : decode cX6_mixPersons 29 = .ok (.getfield 10, 3) := by decide +kernel
theorem dX6_mixPersons_32 : decode cX6_mixPersons 32 = .ok (.getfield 63, 3) := by decide +kernel
theorem dX6_mixPersons_35 : decode cX6_mixPersons 35 = .ok (.invokevirtual 67, 3) := by decide +kernel
theorem dX6_mixPersons_38 : decode cX6_mixPersons 38 = .ok (.if_icmp .ge 30, 3) := by decide +kernel
theorem dX6_mixPersons_41 : decode cX6_mixPersons 41 = .ok (.lload 4, 2) := by decide +kernel
theorem dX6_mixPersons_43 : decode cX6_mixPersons 43 = .ok (.iload_n 3, 1) := by decide +kernel
theorem dX6_mixPersons_44 : decode cX6_mixPersons 44 = .ok (.iload 6, 2) := by decide +kernel
theorem dX6_mixPersons_46 : decode cX6_mixPersons 46 = .ok (.invokestatic 260, 3) := by decide +kernel
theorem dX6_mixPersons_49 : decode cX6_mixPersons 49 = .ok (.ifCond .eq 7, 3) := by decide +kernel
theorem dX6_mixPersons_52 : decode cX6_mixPersons 52 = .ok (.lconst 1, 1) := by decide +kernel
theorem dX6_mixPersons_53 : decode cX6_mixPersons 53 = .ok (.goto 4, 3) := by decide +kernel
theorem dX6_mixPersons_56 : decode cX6_mixPersons 56 = .ok (.lconst 0, 1) := by decide +kernel
theorem dX6_mixPersons_57 : decode cX6_mixPersons 57 = .ok (.invokestatic 332, 3) := by decide +kernel
theorem dX6_mixPersons_60 : decode cX6_mixPersons 60 = .ok (.lstore 4, 2) := by decide +kernel
theorem dX6_mixPersons_62 : decode cX6_mixPersons 62 = .ok (.iinc 6 1, 3) := by decide +kernel
theorem dX6_mixPersons_65 : decode cX6_mixPersons 65 = .ok (.goto (-39), 3) := by decide +kernel
theorem dX6_mixPersons_68 : decode cX6_mixPersons 68 = .ok (.lload 4, 2) := by decide +kernel
theorem dX6_mixPersons_70 : decode cX6_mixPersons 70 = .ok (.lreturn, 1) := by decide +kernel
theorem dX6_mixFigures_0 : decode cX6_mixFigures 0 = .ok (.lload_n 1, 1) := by decide +kernel
theorem dX6_mixFigures_1 : decode cX6_mixFigures 1 = .ok (.lstore_n 3, 1) := by decide +kernel
theorem dX6_mixFigures_2 : decode cX6_mixFigures 2 = .ok (.iconst 0, 1) := by decide +kernel
theorem dX6_mixFigures_3 : decode cX6_mixFigures 3 = .ok (.istore 5, 2) := by decide +kernel
theorem dX6_mixFigures_5 : decode cX6_mixFigures 5 = .ok (.iload 5, 2) := by decide +kernel
theorem dX6_mixFigures_7 : decode cX6_mixFigures 7 = .ok (.aload_n 0, 1) := by decide +kernel
theorem dX6_mixFigures_8 : decode cX6_mixFigures 8 = .ok (.getfield 19, 3) := by decide +kernel
theorem dX6_mixFigures_11 : decode cX6_mixFigures 11 = .ok (.getfield 98, 3) := by decide +kernel
theorem dX6_mixFigures_14 : decode cX6_mixFigures 14 = .ok (.invokevirtual 67, 3) := by decide +kernel
theorem dX6_mixFigures_17 : decode cX6_mixFigures 17 = .ok (.if_icmp .ge 76, 3) := by decide +kernel
theorem dX6_mixFigures_20 : decode cX6_mixFigures 20 = .ok (.aload_n 0, 1) := by decide +kernel
theorem dX6_mixFigures_21 : decode cX6_mixFigures 21 = .ok (.getfield 19, 3) := by decide +kernel
theorem dX6_mixFigures_24 : decode cX6_mixFigures 24 = .ok (.getfield 98, 3) := by decide +kernel
theorem dX6_mixFigures_27 : decode cX6_mixFigures 27 = .ok (.iload 5, 2) := by decide +kernel
theorem dX6_mixFigures_29 : decode cX6_mixFigures 29 = .ok (.invokevirtual 105, 3) := by decide +kernel
theorem dX6_mixFigures_32 : decode cX6_mixFigures 32 = .ok (.checkcast 103, 3) := by decide +kernel
theorem dX6_mixFigures_35 : decode cX6_mixFigures 35 = .ok (.astore 6, 2) := by decide +kernel
theorem dX6_mixFigures_37 : decode cX6_mixFigures 37 = .ok (.iconst 0, 1) := by decide +kernel
theorem dX6_mixFigures_38 : decode cX6_mixFigures 38 = .ok (.istore 7, 2) := by decide +kernel
theorem dX6_mixFigures_40 : decode cX6_mixFigures 40 = .ok (.iload 7, 2) := by decide +kernel
theorem dX6_mixFigures_42 : decode cX6_mixFigures 42 = .ok (.bipush 7, 2) := by decide +kernel
theorem dX6_mixFigures_44 : decode cX6_mixFigures 44 = .ok (.if_icmp .gt 26, 3) := by decide +kernel
theorem dX6_mixFigures_47 : decode cX6_mixFigures 47 = .ok (.lload_n 3, 1) := by decide +kernel
theorem dX6_mixFigures_48 : decode cX6_mixFigures 48 = .ok (.aload_n 0, 1) := by decide +kernel
theorem dX6_mixFigures_49 : decode cX6_mixFigures 49 = .ok (.getfield 19, 3) := by decide +kernel
theorem dX6_mixFigures_52 : decode cX6_mixFigures 52 = .ok (.aload 6, 2) := by decide +kernel
theorem dX6_mixFigures_54 : decode cX6_mixFigures 54 = .ok (.iload 7, 2) := by decide +kernel
theorem dX6_mixFigures_56 : decode cX6_mixFigures 56 = .ok (.invokevirtual 297, 3) := by decide +kernel
theorem dX6_mixFigures_59 : decode cX6_mixFigures 59 = .ok (.i2l, 1) := by decide +kernel
theorem dX6_mixFigures_60 : decode cX6_mixFigures 60 = .ok (.invokestatic 332, 3) := by decide +kernel
theorem dX6_mixFigures_63 : decode cX6_mixFigures 63 = .ok (.lstore_n 3, 1) := by decide +kernel
theorem dX6_mixFigures_64 : decode cX6_mixFigures 64 = .ok (.iinc 7 1, 3) := by decide +kernel
theorem dX6_mixFigures_67 : decode cX6_mixFigures 67 = .ok (.goto (-27), 3) := by decide +kernel
theorem dX6_mixFigures_70 : decode cX6_mixFigures 70 = .ok (.lload_n 3, 1) := by decide +kernel
theorem dX6_mixFigures_71 : decode cX6_mixFigures 71 = .ok (.aload_n 0, 1) := by decide +kernel
theorem dX6_mixFigures_72 : decode cX6_mixFigures 72 = .ok (.getfield 19, 3) := by decide +kernel
theorem dX6_mixFigures_75 : decode cX6_mixFigures 75 = .ok (.aload 6, 2) := by decide +kernel
theorem dX6_mixFigures_77 : decode cX6_mixFigures 77 = .ok (.bipush 60, 2) := by decide +kernel
theorem dX6_mixFigures_79 : decode cX6_mixFigures 79 = .ok (.invokevirtual 324, 3) := by decide +kernel
theorem dX6_mixFigures_82 : decode cX6_mixFigures 82 = .ok (.i2l, 1) := by decide +kernel
theorem dX6_mixFigures_83 : decode cX6_mixFigures 83 = .ok (.invokestatic 332, 3) := by decide +kernel
theorem dX6_mixFigures_86 : decode cX6_mixFigures 86 = .ok (.lstore_n 3, 1) := by decide +kernel
theorem dX6_mixFigures_87 : decode cX6_mixFigures 87 = .ok (.iinc 5 1, 3) := by decide +kernel
theorem dX6_mixFigures_90 : decode cX6_mixFigures 90 = .ok (.goto (-85), 3) := by decide +kernel
theorem dX6_mixFigures_93 : decode cX6_mixFigures 93 = .ok (.lload_n 3, 1) := by decide +kernel
theorem dX6_mixFigures_94 : decode cX6_mixFigures 94 = .ok (.lreturn, 1) := by decide +kernel
theorem dX6_mixScenes_0 : decode cX6_mixScenes 0 = .ok (.lload_n 1, 1) := by decide +kernel
theorem dX6_mixScenes_1 : decode cX6_mixScenes 1 = .ok (.lstore_n 3, 1) := by decide +kernel
theorem dX6_mixScenes_2 : decode cX6_mixScenes 2 = .ok (.iconst 0, 1) := by decide +kernel
theorem dX6_mixScenes_3 : decode cX6_mixScenes 3 = .ok (.istore 5, 2) := by decide +kernel
theorem dX6_mixScenes_5 : decode cX6_mixScenes 5 = .ok (.iload 5, 2) := by decide +kernel
theorem dX6_mixScenes_7 : decode cX6_mixScenes 7 = .ok (.aload_n 0, 1) := by decide +kernel
theorem dX6_mixScenes_8 : decode cX6_mixScenes 8 = .ok (.getfield 10, 3) := by decide +kernel
theorem dX6_mixScenes_11 : decode cX6_mixScenes 11 = .ok (.getfield 131, 3) := by decide +kernel
theorem dX6_mixScenes_14 : decode cX6_mixScenes 14 = .ok (.invokevirtual 67, 3) := by decide +kernel
theorem dX6_mixScenes_17 : decode cX6_mixScenes 17 = .ok (.if_icmp .ge 51, 3) := by decide +kernel
theorem dX6_mixScenes_20 : decode cX6_mixScenes 20 = .ok (.iconst 0, 1) := by decide +kernel
theorem dX6_mixScenes_21 : decode cX6_mixScenes 21 = .ok (.istore 6, 2) := by decide +kernel
theorem dX6_mixScenes_23 : decode cX6_mixScenes 23 = .ok (.iload 6, 2) := by decide +kernel
theorem dX6_mixScenes_25 : decode cX6_mixScenes 25 = .ok (.bipush 8, 2) := by decide +kernel
theorem dX6_mixScenes_27 : decode cX6_mixScenes 27 = .ok (.if_icmp .gt 35, 3) := by decide +kernel
theorem dX6_mixScenes_30 : decode cX6_mixScenes 30 = .ok (.lload_n 3, 1) := by decide +kernel
theorem dX6_mixScenes_31 : decode cX6_mixScenes 31 = .ok (.aload_n 0, 1) := by decide +kernel
theorem dX6_mixScenes_32 : decode cX6_mixScenes 32 = .ok (.getfield 10, 3) := by decide +kernel
theorem dX6_mixScenes_35 : decode cX6_mixScenes 35 = .ok (.getfield 131, 3) := by decide +kernel
theorem dX6_mixScenes_38 : decode cX6_mixScenes 38 = .ok (.iload 5, 2) := by decide +kernel
theorem dX6_mixScenes_40 : decode cX6_mixScenes 40 = .ok (.invokevirtual 105, 3) := by decide +kernel
theorem dX6_mixScenes_43 : decode cX6_mixScenes 43 = .ok (.checkcast 147, 3) := by decide +kernel
theorem dX6_mixScenes_46 : decode cX6_mixScenes 46 = .ok (.iload 6, 2) := by decide +kernel
theorem dX6_mixScenes_48 : decode cX6_mixScenes 48 = .ok (.invokevirtual 302, 3) := by decide +kernel
theorem dX6_mixScenes_51 : decode cX6_mixScenes 51 = .ok (.i2l, 1) := by decide +kernel
theorem dX6_mixScenes_52 : decode cX6_mixScenes 52 = .ok (.invokestatic 332, 3) := by decide +kernel
theorem dX6_mixScenes_55 : decode cX6_mixScenes 55 = .ok (.lstore_n 3, 1) := by decide +kernel
theorem dX6_mixScenes_56 : decode cX6_mixScenes 56 = .ok (.iinc 6 1, 3) := by decide +kernel
theorem dX6_mixScenes_59 : decode cX6_mixScenes 59 = .ok (.goto (-36), 3) := by decide +kernel
theorem dX6_mixScenes_62 : decode cX6_mixScenes 62 = .ok (.iinc 5 1, 3) := by decide +kernel
theorem dX6_mixScenes_65 : decode cX6_mixScenes 65 = .ok (.goto (-60), 3) := by decide +kernel
theorem dX6_mixScenes_68 : decode cX6_mixScenes 68 = .ok (.lload_n 3, 1) := by decide +kernel
theorem dX6_mixScenes_69 : decode cX6_mixScenes 69 = .ok (.lreturn, 1) := by decide +kernel
theorem dX6_nightValue_0 : decode cX6_nightValue 0 = .ok (.iload_n 1, 1) := by decide +kernel
theorem dX6_nightValue_1 : decode cX6_nightValue 1 = .ok (.tableswitch 187 0 14 #[75, 80, 91, 102, 113, 121, 129, 141, 149, 154, 159, 164, 169, 174, 179], 75) := by decide +kernel
theorem dX6_nightValue_76 : decode cX6_nightValue 76 = .ok (.aload_n 0, 1) := by decide +kernel
theorem dX6_nightValue_77 : decode cX6_nightValue 77 = .ok (.getfield 30, 3) := by decide +kernel
theorem dX6_nightValue_80 : decode cX6_nightValue 80 = .ok (.ireturn, 1) := by decide +kernel
theorem dX6_nightValue_81 : decode cX6_nightValue 81 = .ok (.aload_n 0, 1) := by decide +kernel
theorem dX6_nightValue_82 : decode cX6_nightValue 82 = .ok (.getfield 10, 3) := by decide +kernel
theorem dX6_nightValue_85 : decode cX6_nightValue 85 = .ok (.getfield 63, 3) := by decide +kernel
theorem dX6_nightValue_88 : decode cX6_nightValue 88 = .ok (.invokevirtual 67, 3) := by decide +kernel
theorem dX6_nightValue_91 : decode cX6_nightValue 91 = .ok (.ireturn, 1) := by decide +kernel
theorem dX6_nightValue_92 : decode cX6_nightValue 92 = .ok (.aload_n 0, 1) := by decide +kernel
theorem dX6_nightValue_93 : decode cX6_nightValue 93 = .ok (.getfield 19, 3) := by decide +kernel
theorem dX6_nightValue_96 : decode cX6_nightValue 96 = .ok (.getfield 98, 3) := by decide +kernel
theorem dX6_nightValue_99 : decode cX6_nightValue 99 = .ok (.invokevirtual 67, 3) := by decide +kernel
theorem dX6_nightValue_102 : decode cX6_nightValue 102 = .ok (.ireturn, 1) := by decide +kernel
theorem dX6_nightValue_103 : decode cX6_nightValue 103 = .ok (.aload_n 0, 1) := by decide +kernel
theorem dX6_nightValue_104 : decode cX6_nightValue 104 = .ok (.getfield 10, 3) := by decide +kernel
theorem dX6_nightValue_107 : decode cX6_nightValue 107 = .ok (.getfield 131, 3) := by decide +kernel
theorem dX6_nightValue_110 : decode cX6_nightValue 110 = .ok (.invokevirtual 67, 3) := by decide +kernel
theorem dX6_nightValue_113 : decode cX6_nightValue 113 = .ok (.ireturn, 1) := by decide +kernel
theorem dX6_nightValue_114 : decode cX6_nightValue 114 = .ok (.aload_n 0, 1) := by decide +kernel
theorem dX6_nightValue_115 : decode cX6_nightValue 115 = .ok (.getfield 10, 3) := by decide +kernel
theorem dX6_nightValue_118 : decode cX6_nightValue 118 = .ok (.getfield 348, 3) := by decide +kernel
theorem dX6_nightValue_121 : decode cX6_nightValue 121 = .ok (.ireturn, 1) := by decide +kernel
theorem dX6_nightValue_122 : decode cX6_nightValue 122 = .ok (.aload_n 0, 1) := by decide +kernel
theorem dX6_nightValue_123 : decode cX6_nightValue 123 = .ok (.getfield 10, 3) := by decide +kernel
theorem dX6_nightValue_126 : decode cX6_nightValue 126 = .ok (.getfield 164, 3) := by decide +kernel
theorem dX6_nightValue_129 : decode cX6_nightValue 129 = .ok (.ireturn, 1) := by decide +kernel
theorem dX6_nightValue_130 : decode cX6_nightValue 130 = .ok (.aload_n 0, 1) := by decide +kernel
theorem dX6_nightValue_131 : decode cX6_nightValue 131 = .ok (.getfield 10, 3) := by decide +kernel
theorem dX6_nightValue_134 : decode cX6_nightValue 134 = .ok (.aload_n 0, 1) := by decide +kernel
theorem dX6_nightValue_135 : decode cX6_nightValue 135 = .ok (.getfield 30, 3) := by decide +kernel
theorem dX6_nightValue_138 : decode cX6_nightValue 138 = .ok (.invokevirtual 350, 3) := by decide +kernel
theorem dX6_nightValue_141 : decode cX6_nightValue 141 = .ok (.ireturn, 1) := by decide +kernel
theorem dX6_nightValue_142 : decode cX6_nightValue 142 = .ok (.aload_n 0, 1) := by decide +kernel
theorem dX6_nightValue_143 : decode cX6_nightValue 143 = .ok (.getfield 19, 3) := by decide +kernel
theorem dX6_nightValue_146 : decode cX6_nightValue 146 = .ok (.invokevirtual 257, 3) := by decide +kernel
theorem dX6_nightValue_149 : decode cX6_nightValue 149 = .ok (.ireturn, 1) := by decide +kernel
theorem dX6_nightValue_150 : decode cX6_nightValue 150 = .ok (.aload_n 0, 1) := by decide +kernel
theorem dX6_nightValue_151 : decode cX6_nightValue 151 = .ok (.invokevirtual 353, 3) := by decide +kernel
theorem dX6_nightValue_154 : decode cX6_nightValue 154 = .ok (.ireturn, 1) := by decide +kernel
theorem dX6_nightValue_155 : decode cX6_nightValue 155 = .ok (.aload_n 0, 1) := by decide +kernel
theorem dX6_nightValue_156 : decode cX6_nightValue 156 = .ok (.getfield 34, 3) := by decide +kernel
theorem dX6_nightValue_159 : decode cX6_nightValue 159 = .ok (.ireturn, 1) := by decide +kernel
theorem dX6_nightValue_160 : decode cX6_nightValue 160 = .ok (.aload_n 0, 1) := by decide +kernel
theorem dX6_nightValue_161 : decode cX6_nightValue 161 = .ok (.getfield 40, 3) := by decide +kernel
theorem dX6_nightValue_164 : decode cX6_nightValue 164 = .ok (.ireturn, 1) := by decide +kernel
theorem dX6_nightValue_165 : decode cX6_nightValue 165 = .ok (.aload_n 0, 1) := by decide +kernel
theorem dX6_nightValue_166 : decode cX6_nightValue 166 = .ok (.getfield 43, 3) := by decide +kernel
theorem dX6_nightValue_169 : decode cX6_nightValue 169 = .ok (.ireturn, 1) := by decide +kernel
theorem dX6_nightValue_170 : decode cX6_nightValue 170 = .ok (.aload_n 0, 1) := by decide +kernel
theorem dX6_nightValue_171 : decode cX6_nightValue 171 = .ok (.getfield 46, 3) := by decide +kernel
theorem dX6_nightValue_174 : decode cX6_nightValue 174 = .ok (.ireturn, 1) := by decide +kernel
theorem dX6_nightValue_175 : decode cX6_nightValue 175 = .ok (.aload_n 0, 1) := by decide +kernel
theorem dX6_nightValue_176 : decode cX6_nightValue 176 = .ok (.getfield 49, 3) := by decide +kernel
theorem dX6_nightValue_179 : decode cX6_nightValue 179 = .ok (.ireturn, 1) := by decide +kernel
theorem dX6_nightValue_180 : decode cX6_nightValue 180 = .ok (.aload_n 0, 1) := by decide +kernel
theorem dX6_nightValue_181 : decode cX6_nightValue 181 = .ok (.getfield 26, 3) := by decide +kernel
theorem dX6_nightValue_184 : decode cX6_nightValue 184 = .ok (.getfield 287, 3) := by decide +kernel
theorem dX6_nightValue_187 : decode cX6_nightValue 187 = .ok (.ireturn, 1) := by decide +kernel
theorem dX6_nightValue_188 : decode cX6_nightValue 188 = .ok (.aload_n 0, 1) := by decide +kernel
theorem dX6_nightValue_189 : decode cX6_nightValue 189 = .ok (.getfield 19, 3) := by decide +kernel
theorem dX6_nightValue_192 : decode cX6_nightValue 192 = .ok (.invokevirtual 244, 3) := by decide +kernel
theorem dX6_nightValue_195 : decode cX6_nightValue 195 = .ok (.ireturn, 1) := by decide +kernel
theorem dX6_strangers_0 : decode cX6_strangers 0 = .ok (.aload_n 0, 1) := by decide +kernel
theorem dX6_strangers_1 : decode cX6_strangers 1 = .ok (.getfield 10, 3) := by decide +kernel
theorem dX6_strangers_4 : decode cX6_strangers 4 = .ok (.aload_n 0, 1) := by decide +kernel
theorem dX6_strangers_5 : decode cX6_strangers 5 = .ok (.getfield 30, 3) := by decide +kernel
theorem dX6_strangers_8 : decode cX6_strangers 8 = .ok (.invokevirtual 350, 3) := by decide +kernel
theorem dX6_strangers_11 : decode cX6_strangers 11 = .ok (.istore_n 1, 1) := by decide +kernel
theorem dX6_strangers_12 : decode cX6_strangers 12 = .ok (.iload_n 1, 1) := by decide +kernel
theorem dX6_strangers_13 : decode cX6_strangers 13 = .ok (.iconst (-1), 1) := by decide +kernel
theorem dX6_strangers_14 : decode cX6_strangers 14 = .ok (.if_icmp .ne 7, 3) := by decide +kernel
theorem dX6_strangers_17 : decode cX6_strangers 17 = .ok (.iconst 0, 1) := by decide +kernel
theorem dX6_strangers_18 : decode cX6_strangers 18 = .ok (.goto 20, 3) := by decide +kernel
theorem dX6_strangers_21 : decode cX6_strangers 21 = .ok (.aload_n 0, 1) := by decide +kernel
theorem dX6_strangers_22 : decode cX6_strangers 22 = .ok (.getfield 10, 3) := by decide +kernel
theorem dX6_strangers_25 : decode cX6_strangers 25 = .ok (.getfield 131, 3) := by decide +kernel
theorem dX6_strangers_28 : decode cX6_strangers 28 = .ok (.iload_n 1, 1) := by decide +kernel
theorem dX6_strangers_29 : decode cX6_strangers 29 = .ok (.invokevirtual 105, 3) := by decide +kernel
theorem dX6_strangers_32 : decode cX6_strangers 32 = .ok (.checkcast 147, 3) := by decide +kernel
theorem dX6_strangers_35 : decode cX6_strangers 35 = .ok (.getfield 356, 3) := by decide +kernel
theorem dX6_strangers_38 : decode cX6_strangers 38 = .ok (.istore_n 2, 1) := by decide +kernel
theorem dX6_strangers_39 : decode cX6_strangers 39 = .ok (.aload_n 0, 1) := by decide +kernel
theorem dX6_strangers_40 : decode cX6_strangers 40 = .ok (.getfield 19, 3) := by decide +kernel
theorem dX6_strangers_43 : decode cX6_strangers 43 = .ok (.invokevirtual 257, 3) := by decide +kernel
theorem dX6_strangers_46 : decode cX6_strangers 46 = .ok (.iload_n 2, 1) := by decide +kernel
theorem dX6_strangers_47 : decode cX6_strangers 47 = .ok (.iconst (-1), 1) := by decide +kernel
theorem dX6_strangers_48 : decode cX6_strangers 48 = .ok (.ixor, 1) := by decide +kernel
theorem dX6_strangers_49 : decode cX6_strangers 49 = .ok (.iand, 1) := by decide +kernel
theorem dX6_strangers_50 : decode cX6_strangers 50 = .ok (.ireturn, 1) := by decide +kernel
theorem dX6_beginPiece_0 : decode cX6_beginPiece 0 = .ok (.aload_n 0, 1) := by decide +kernel
theorem dX6_beginPiece_1 : decode cX6_beginPiece 1 = .ok (.getfield 10, 3) := by decide +kernel
theorem dX6_beginPiece_4 : decode cX6_beginPiece 4 = .ok (.aload_n 0, 1) := by decide +kernel
theorem dX6_beginPiece_5 : decode cX6_beginPiece 5 = .ok (.getfield 30, 3) := by decide +kernel
theorem dX6_beginPiece_8 : decode cX6_beginPiece 8 = .ok (.invokevirtual 350, 3) := by decide +kernel
theorem dX6_beginPiece_11 : decode cX6_beginPiece 11 = .ok (.istore_n 1, 1) := by decide +kernel
theorem dX6_beginPiece_12 : decode cX6_beginPiece 12 = .ok (.iload_n 1, 1) := by decide +kernel
theorem dX6_beginPiece_13 : decode cX6_beginPiece 13 = .ok (.iconst (-1), 1) := by decide +kernel
theorem dX6_beginPiece_14 : decode cX6_beginPiece 14 = .ok (.if_icmp .eq 34, 3) := by decide +kernel
theorem dX6_beginPiece_17 : decode cX6_beginPiece 17 = .ok (.aload_n 0, 1) := by decide +kernel
theorem dX6_beginPiece_18 : decode cX6_beginPiece 18 = .ok (.getfield 26, 3) := by decide +kernel
theorem dX6_beginPiece_21 : decode cX6_beginPiece 21 = .ok (.aload_n 0, 1) := by decide +kernel
theorem dX6_beginPiece_22 : decode cX6_beginPiece 22 = .ok (.getfield 10, 3) := by decide +kernel
theorem dX6_beginPiece_25 : decode cX6_beginPiece 25 = .ok (.getfield 131, 3) := by decide +kernel
theorem dX6_beginPiece_28 : decode cX6_beginPiece 28 = .ok (.iload_n 1, 1) := by decide +kernel
theorem dX6_beginPiece_29 : decode cX6_beginPiece 29 = .ok (.invokevirtual 105, 3) := by decide +kernel
theorem dX6_beginPiece_32 : decode cX6_beginPiece 32 = .ok (.checkcast 147, 3) := by decide +kernel
theorem dX6_beginPiece_35 : decode cX6_beginPiece 35 = .ok (.getfield 359, 3) := by decide +kernel
theorem dX6_beginPiece_38 : decode cX6_beginPiece 38 = .ok (.invokevirtual 362, 3) := by decide +kernel
theorem dX6_beginPiece_41 : decode cX6_beginPiece 41 = .ok (.ifCond .eq 7, 3) := by decide +kernel
theorem dX6_beginPiece_44 : decode cX6_beginPiece 44 = .ok (.iconst 1, 1) := by decide +kernel
theorem dX6_beginPiece_45 : decode cX6_beginPiece 45 = .ok (.goto 4, 3) := by decide +kernel
theorem dX6_beginPiece_48 : decode cX6_beginPiece 48 = .ok (.iconst 0, 1) := by decide +kernel
theorem dX6_beginPiece_49 : decode cX6_beginPiece 49 = .ok (.ireturn, 1) := by decide +kernel
theorem dX6_rightLevel_0 : decode cX6_rightLevel 0 = .ok (.iload_n 1, 1) := by decide +kernel
theorem dX6_rightLevel_1 : decode cX6_rightLevel 1 = .ok (.iload_n 0, 1) := by decide +kernel
theorem dX6_rightLevel_2 : decode cX6_rightLevel 2 = .ok (.if_icmp .le 5, 3) := by decide +kernel
theorem dX6_rightLevel_5 : decode cX6_rightLevel 5 = .ok (.iconst 1, 1) := by decide +kernel
theorem dX6_rightLevel_6 : decode cX6_rightLevel 6 = .ok (.ireturn, 1) := by decide +kernel
theorem dX6_rightLevel_7 : decode cX6_rightLevel 7 = .ok (.iload_n 1, 1) := by decide +kernel
theorem dX6_rightLevel_8 : decode cX6_rightLevel 8 = .ok (.iload_n 0, 1) := by decide +kernel
theorem dX6_rightLevel_9 : decode cX6_rightLevel 9 = .ok (.if_icmp .ge 7, 3) := by decide +kernel
theorem dX6_rightLevel_12 : decode cX6_rightLevel 12 = .ok (.iconst (-1), 1) := by decide +kernel
theorem dX6_rightLevel_13 : decode cX6_rightLevel 13 = .ok (.goto 4, 3) := by decide +kernel
theorem dX6_rightLevel_16 : decode cX6_rightLevel 16 = .ok (.iconst 0, 1) := by decide +kernel
theorem dX6_rightLevel_17 : decode cX6_rightLevel 17 = .ok (.ireturn, 1) := by decide +kernel
theorem dX6_goBy_0 : decode cX6_goBy 0 = .ok (.iconst 0, 1) := by decide +kernel
theorem dX6_goBy_1 : decode cX6_goBy 1 = .ok (.istore_n 3, 1) := by decide +kernel
theorem dX6_goBy_2 : decode cX6_goBy 2 = .ok (.iload_n 3, 1) := by decide +kernel
theorem dX6_goBy_3 : decode cX6_goBy 3 = .ok (.iload_n 1, 1) := by decide +kernel
theorem dX6_goBy_4 : decode cX6_goBy 4 = .ok (.if_icmp .ge 64, 3) := by decide +kernel
theorem dX6_goBy_7 : decode cX6_goBy 7 = .ok (.aload_n 0, 1) := by decide +kernel
theorem dX6_goBy_8 : decode cX6_goBy 8 = .ok (.dup, 1) := by decide +kernel
theorem dX6_goBy_9 : decode cX6_goBy 9 = .ok (.getfield 30, 3) := by decide +kernel
theorem dX6_goBy_12 : decode cX6_goBy 12 = .ok (.iconst 1, 1) := by decide +kernel
theorem dX6_goBy_13 : decode cX6_goBy 13 = .ok (.iadd, 1) := by decide +kernel
theorem dX6_goBy_14 : decode cX6_goBy 14 = .ok (.putfield 30, 3) := by decide +kernel
theorem dX6_goBy_17 : decode cX6_goBy 17 = .ok (.aload_n 0, 1) := by decide +kernel
theorem dX6_goBy_18 : decode cX6_goBy 18 = .ok (.getfield 26, 3) := by decide +kernel
theorem dX6_goBy_21 : decode cX6_goBy 21 = .ok (.invokevirtual 365, 3) := by decide +kernel
theorem dX6_goBy_24 : decode cX6_goBy 24 = .ok (.iload_n 2, 1) := by decide +kernel
theorem dX6_goBy_25 : decode cX6_goBy 25 = .ok (.ifCond .ne 20, 3) := by decide +kernel
theorem dX6_goBy_28 : decode cX6_goBy 28 = .ok (.aload_n 0, 1) := by decide +kernel
theorem dX6_goBy_29 : decode cX6_goBy 29 = .ok (.getfield 34, 3) := by decide +kernel
theorem dX6_goBy_32 : decode cX6_goBy 32 = .ok (.ifCond .le 13, 3) := by decide +kernel
theorem dX6_goBy_35 : decode cX6_goBy 35 = .ok (.aload_n 0, 1) := by decide +kernel
theorem dX6_goBy_36 : decode cX6_goBy 36 = .ok (.dup, 1) := by decide +kernel
theorem dX6_goBy_37 : decode cX6_goBy 37 = .ok (.getfield 34, 3) := by decide +kernel
theorem dX6_goBy_40 : decode cX6_goBy 40 = .ok (.iconst 1, 1) := by decide +kernel
theorem dX6_goBy_41 : decode cX6_goBy 41 = .ok (.isub, 1) := by decide +kernel
theorem dX6_goBy_42 : decode cX6_goBy 42 = .ok (.putfield 34, 3) := by decide +kernel
theorem dX6_goBy_45 : decode cX6_goBy 45 = .ok (.aload_n 0, 1) := by decide +kernel
theorem dX6_goBy_46 : decode cX6_goBy 46 = .ok (.getfield 30, 3) := by decide +kernel
theorem dX6_goBy_49 : decode cX6_goBy 49 = .ok (.bipush 30, 2) := by decide +kernel
theorem dX6_goBy_51 : decode cX6_goBy 51 = .ok (.irem, 1) := by decide +kernel
theorem dX6_goBy_52 : decode cX6_goBy 52 = .ok (.ifCond .ne 10, 3) := by decide +kernel
theorem dX6_goBy_55 : decode cX6_goBy 55 = .ok (.aload_n 0, 1) := by decide +kernel
theorem dX6_goBy_56 : decode cX6_goBy 56 = .ok (.getfield 19, 3) := by decide +kernel
theorem dX6_goBy_59 : decode cX6_goBy 59 = .ok (.invokevirtual 368, 3) := by decide +kernel
theorem dX6_goBy_62 : decode cX6_goBy 62 = .ok (.iinc 3 1, 3) := by decide +kernel
theorem dX6_goBy_65 : decode cX6_goBy 65 = .ok (.goto (-63), 3) := by decide +kernel
theorem dX6_goBy_68 : decode cX6_goBy 68 = .ok (.return_, 1) := by decide +kernel
theorem dX6_isPerson_0 : decode cX6_isPerson 0 = .ok (.iload_n 1, 1) := by decide +kernel
theorem dX6_isPerson_1 : decode cX6_isPerson 1 = .ok (.ifCond .lt 21, 3) := by decide +kernel
theorem dX6_isPerson_4 : decode cX6_isPerson 4 = .ok (.iload_n 1, 1) := by decide +kernel
theorem dX6_isPerson_5 : decode cX6_isPerson 5 = .ok (.aload_n 0, 1) := by decide +kernel
theorem dX6_isPerson_6 : decode cX6_isPerson 6 = .ok (.getfield 10, 3) := by decide +kernel
theorem dX6_isPerson_9 : decode cX6_isPerson 9 = .ok (.getfield 63, 3) := by decide +kernel
theorem dX6_isPerson_12 : decode cX6_isPerson 12 = .ok (.invokevirtual 67, 3) := by decide +kernel
theorem dX6_isPerson_15 : decode cX6_isPerson 15 = .ok (.if_icmp .ge 7, 3) := by decide +kernel
theorem dX6_isPerson_18 : decode cX6_isPerson 18 = .ok (.iconst 1, 1) := by decide +kernel
theorem dX6_isPerson_19 : decode cX6_isPerson 19 = .ok (.goto 4, 3) := by decide +kernel
theorem dX6_isPerson_22 : decode cX6_isPerson 22 = .ok (.iconst 0, 1) := by decide +kernel
theorem dX6_isPerson_23 : decode cX6_isPerson 23 = .ok (.ireturn, 1) := by decide +kernel
theorem dX6_isFigure_0 : decode cX6_isFigure 0 = .ok (.iload_n 1, 1) := by decide +kernel
theorem dX6_isFigure_1 : decode cX6_isFigure 1 = .ok (.ifCond .lt 21, 3) := by decide +kernel
theorem dX6_isFigure_4 : decode cX6_isFigure 4 = .ok (.iload_n 1, 1) := by decide +kernel
theorem dX6_isFigure_5 : decode cX6_isFigure 5 = .ok (.aload_n 0, 1) := by decide +kernel
theorem dX6_isFigure_6 : decode cX6_isFigure 6 = .ok (.getfield 19, 3) := by decide +kernel
theorem dX6_isFigure_9 : decode cX6_isFigure 9 = .ok (.getfield 98, 3) := by decide +kernel
theorem dX6_isFigure_12 : decode cX6_isFigure 12 = .ok (.invokevirtual 67, 3) := by decide +kernel
theorem dX6_isFigure_15 : decode cX6_isFigure 15 = .ok (.if_icmp .ge 7, 3) := by decide +kernel
theorem dX6_isFigure_18 : decode cX6_isFigure 18 = .ok (.iconst 1, 1) := by decide +kernel
theorem dX6_isFigure_19 : decode cX6_isFigure 19 = .ok (.goto 4, 3) := by decide +kernel
theorem dX6_isFigure_22 : decode cX6_isFigure 22 = .ok (.iconst 0, 1) := by decide +kernel
theorem dX6_isFigure_23 : decode cX6_isFigure 23 = .ok (.ireturn, 1) := by decide +kernel
theorem dX6_isScene_0 : decode cX6_isScene 0 = .ok (.iload_n 1, 1) := by decide +kernel
theorem dX6_isScene_1 : decode cX6_isScene 1 = .ok (.ifCond .lt 21, 3) := by decide +kernel
theorem dX6_isScene_4 : decode cX6_isScene 4 = .ok (.iload_n 1, 1) := by decide +kernel
theorem dX6_isScene_5 : decode cX6_isScene 5 = .ok (.aload_n 0, 1) := by decide +kernel
theorem dX6_isScene_6 : decode cX6_isScene 6 = .ok (.getfield 10, 3) := by decide +kernel
theorem dX6_isScene_9 : decode cX6_isScene 9 = .ok (.getfield 131, 3) := by decide +kernel
theorem dX6_isScene_12 : decode cX6_isScene 12 = .ok (.invokevirtual 67, 3) := by decide +kernel
theorem dX6_isScene_15 : decode cX6_isScene 15 = .ok (.if_icmp .ge 7, 3) := by decide +kernel
theorem dX6_isScene_18 : decode cX6_isScene 18 = .ok (.iconst 1, 1) := by decide +kernel
theorem dX6_isScene_19 : decode cX6_isScene 19 = .ok (.goto 4, 3) := by decide +kernel
theorem dX6_isScene_22 : decode cX6_isScene 22 = .ok (.iconst 0, 1) := by decide +kernel
theorem dX6_isScene_23 : decode cX6_isScene 23 = .ok (.ireturn, 1) := by decide +kernel
theorem dX6_isPlace_0 : decode cX6_isPlace 0 = .ok (.iload_n 0, 1) := by decide +kernel
theorem dX6_isPlace_1 : decode cX6_isPlace 1 = .ok (.iconst 0, 1) := by decide +kernel
theorem dX6_isPlace_2 : decode cX6_isPlace 2 = .ok (.bipush 9, 2) := by decide +kernel
theorem dX6_isPlace_4 : decode cX6_isPlace 4 = .ok (.invokestatic 52, 3) := by decide +kernel
theorem dX6_isPlace_7 : decode cX6_isPlace 7 = .ok (.ifCond .ne 7, 3) := by decide +kernel
theorem dX6_isPlace_10 : decode cX6_isPlace 10 = .ok (.iconst 1, 1) := by decide +kernel
theorem dX6_isPlace_11 : decode cX6_isPlace 11 = .ok (.goto 4, 3) := by decide +kernel
theorem dX6_isPlace_14 : decode cX6_isPlace 14 = .ok (.iconst 0, 1) := by decide +kernel
theorem dX6_isPlace_15 : decode cX6_isPlace 15 = .ok (.ireturn, 1) := by decide +kernel
theorem dX6_isLength_0 : decode cX6_isLength 0 = .ok (.iload_n 0, 1) := by decide +kernel
theorem dX6_isLength_1 : decode cX6_isLength 1 = .ok (.iconst 5, 1) := by decide +kernel
theorem dX6_isLength_2 : decode cX6_isLength 2 = .ok (.bipush 90, 2) := by decide +kernel
theorem dX6_isLength_4 : decode cX6_isLength 4 = .ok (.invokestatic 52, 3) := by decide +kernel
theorem dX6_isLength_7 : decode cX6_isLength 7 = .ok (.ifCond .ne 7, 3) := by decide +kernel
theorem dX6_isLength_10 : decode cX6_isLength 10 = .ok (.iconst 1, 1) := by decide +kernel
theorem dX6_isLength_11 : decode cX6_isLength 11 = .ok (.goto 4, 3) := by decide +kernel
theorem dX6_isLength_14 : decode cX6_isLength 14 = .ok (.iconst 0, 1) := by decide +kernel
theorem dX6_isLength_15 : decode cX6_isLength 15 = .ok (.ireturn, 1) := by decide +kernel
theorem dX6_isNoneOrOf_0 : decode cX6_isNoneOrOf 0 = .ok (.iload_n 1, 1) := by decide +kernel
theorem dX6_isNoneOrOf_1 : decode cX6_isNoneOrOf 1 = .ok (.iconst (-1), 1) := by decide +kernel
theorem dX6_isNoneOrOf_2 : decode cX6_isNoneOrOf 2 = .ok (.if_icmp .eq 11, 3) := by decide +kernel
theorem dX6_isNoneOrOf_5 : decode cX6_isNoneOrOf 5 = .ok (.iload_n 0, 1) := by decide +kernel
theorem dX6_isNoneOrOf_6 : decode cX6_isNoneOrOf 6 = .ok (.iload_n 1, 1) := by decide +kernel
theorem dX6_isNoneOrOf_7 : decode cX6_isNoneOrOf 7 = .ok (.invokestatic 260, 3) := by decide +kernel
theorem dX6_isNoneOrOf_10 : decode cX6_isNoneOrOf 10 = .ok (.ifCond .eq 7, 3) := by decide +kernel
theorem dX6_isNoneOrOf_13 : decode cX6_isNoneOrOf 13 = .ok (.iconst 1, 1) := by decide +kernel
theorem dX6_isNoneOrOf_14 : decode cX6_isNoneOrOf 14 = .ok (.goto 4, 3) := by decide +kernel
theorem dX6_isNoneOrOf_17 : decode cX6_isNoneOrOf 17 = .ok (.iconst 0, 1) := by decide +kernel
theorem dX6_isNoneOrOf_18 : decode cX6_isNoneOrOf 18 = .ok (.ireturn, 1) := by decide +kernel
theorem dX6_outside_0 : decode cX6_outside 0 = .ok (.iload_n 0, 1) := by decide +kernel
theorem dX6_outside_1 : decode cX6_outside 1 = .ok (.iload_n 1, 1) := by decide +kernel
theorem dX6_outside_2 : decode cX6_outside 2 = .ok (.if_icmp .lt 8, 3) := by decide +kernel
theorem dX6_outside_5 : decode cX6_outside 5 = .ok (.iload_n 0, 1) := by decide +kernel
theorem dX6_outside_6 : decode cX6_outside 6 = .ok (.iload_n 2, 1) := by decide +kernel
theorem dX6_outside_7 : decode cX6_outside 7 = .ok (.if_icmp .le 7, 3) := by decide +kernel
theorem dX6_outside_10 : decode cX6_outside 10 = .ok (.iconst 1, 1) := by decide +kernel
theorem dX6_outside_11 : decode cX6_outside 11 = .ok (.goto 4, 3) := by decide +kernel
theorem dX6_outside_14 : decode cX6_outside 14 = .ok (.iconst 0, 1) := by decide +kernel
theorem dX6_outside_15 : decode cX6_outside 15 = .ok (.ireturn, 1) := by decide +kernel
theorem dX6_holds_0 : decode cX6_holds 0 = .ok (.iload_n 1, 1) := by decide +kernel
theorem dX6_holds_1 : decode cX6_holds 1 = .ok (.ifCond .lt 22, 3) := by decide +kernel
theorem dX6_holds_4 : decode cX6_holds 4 = .ok (.iload_n 1, 1) := by decide +kernel
theorem dX6_holds_5 : decode cX6_holds 5 = .ok (.bipush 31, 2) := by decide +kernel
theorem dX6_holds_7 : decode cX6_holds 7 = .ok (.if_icmp .ge 16, 3) := by decide +kernel
theorem dX6_holds_10 : decode cX6_holds 10 = .ok (.iload_n 0, 1) := by decide +kernel
theorem dX6_holds_11 : decode cX6_holds 11 = .ok (.iload_n 1, 1) := by decide +kernel
theorem dX6_holds_12 : decode cX6_holds 12 = .ok (.ishr, 1) := by decide +kernel
theorem dX6_holds_13 : decode cX6_holds 13 = .ok (.iconst 1, 1) := by decide +kernel
theorem dX6_holds_14 : decode cX6_holds 14 = .ok (.iand, 1) := by decide +kernel
theorem dX6_holds_15 : decode cX6_holds 15 = .ok (.iconst 1, 1) := by decide +kernel
theorem dX6_holds_16 : decode cX6_holds 16 = .ok (.if_icmp .ne 7, 3) := by decide +kernel
theorem dX6_holds_19 : decode cX6_holds 19 = .ok (.iconst 1, 1) := by decide +kernel
theorem dX6_holds_20 : decode cX6_holds 20 = .ok (.goto 4, 3) := by decide +kernel
theorem dX6_holds_23 : decode cX6_holds 23 = .ok (.iconst 0, 1) := by decide +kernel
theorem dX6_holds_24 : decode cX6_holds 24 = .ok (.ireturn, 1) := by decide +kernel
theorem dX6_edge_0 : decode cX6_edge 0 = .ok (.iload_n 0, 1) := by decide +kernel
theorem dX6_edge_1 : decode cX6_edge 1 = .ok (.ifCond .ne 7, 3) := by decide +kernel
theorem dX6_edge_4 : decode cX6_edge 4 = .ok (.iconst 0, 1) := by decide +kernel
theorem dX6_edge_5 : decode cX6_edge 5 = .ok (.goto 5, 3) := by decide +kernel
theorem dX6_edge_8 : decode cX6_edge 8 = .ok (.bipush 9, 2) := by decide +kernel
theorem dX6_edge_10 : decode cX6_edge 10 = .ok (.ireturn, 1) := by decide +kernel
theorem dX6_reaches_0 : decode cX6_reaches 0 = .ok (.iload_n 0, 1) := by decide +kernel
theorem dX6_reaches_1 : decode cX6_reaches 1 = .ok (.iconst 2, 1) := by decide +kernel
theorem dX6_reaches_2 : decode cX6_reaches 2 = .ok (.if_icmp .ne 16, 3) := by decide +kernel
theorem dX6_reaches_5 : decode cX6_reaches 5 = .ok (.iload_n 1, 1) := by decide +kernel
theorem dX6_reaches_6 : decode cX6_reaches 6 = .ok (.iconst 5, 1) := by decide +kernel
theorem dX6_reaches_7 : decode cX6_reaches 7 = .ok (.if_icmp .gt 7, 3) := by decide +kernel
theorem dX6_reaches_10 : decode cX6_reaches 10 = .ok (.iconst 1, 1) := by decide +kernel
theorem dX6_reaches_11 : decode cX6_reaches 11 = .ok (.goto 17, 3) := by decide +kernel
theorem dX6_reaches_14 : decode cX6_reaches 14 = .ok (.iconst 0, 1) := by decide +kernel
theorem dX6_reaches_15 : decode cX6_reaches 15 = .ok (.goto 13, 3) := by decide +kernel
theorem dX6_reaches_18 : decode cX6_reaches 18 = .ok (.iload_n 1, 1) := by decide +kernel
theorem dX6_reaches_19 : decode cX6_reaches 19 = .ok (.iconst 4, 1) := by decide +kernel
theorem dX6_reaches_20 : decode cX6_reaches 20 = .ok (.if_icmp .lt 7, 3) := by decide +kernel
theorem dX6_reaches_23 : decode cX6_reaches 23 = .ok (.iconst 1, 1) := by decide +kernel
theorem dX6_reaches_24 : decode cX6_reaches 24 = .ok (.goto 4, 3) := by decide +kernel
theorem dX6_reaches_27 : decode cX6_reaches 27 = .ok (.iconst 0, 1) := by decide +kernel
theorem dX6_reaches_28 : decode cX6_reaches 28 = .ok (.ireturn, 1) := by decide +kernel
theorem dX7_init_0 : decode cX7_init 0 = .ok (.aload_n 0, 1) := by decide +kernel
theorem dX7_init_1 : decode cX7_init 1 = .ok (.invokespecial 1, 3) := by decide +kernel
theorem dX7_init_4 : decode cX7_init 4 = .ok (.aload_n 0, 1) := by decide +kernel
theorem dX7_init_5 : decode cX7_init 5 = .ok (.new 7, 3) := by decide +kernel
theorem dX7_init_8 : decode cX7_init 8 = .ok (.dup, 1) := by decide +kernel
theorem dX7_init_9 : decode cX7_init 9 = .ok (.invokespecial 9, 3) := by decide +kernel
theorem dX7_init_12 : decode cX7_init 12 = .ok (.putfield 10, 3) := by decide +kernel
theorem dX7_init_15 : decode cX7_init 15 = .ok (.aload_n 0, 1) := by decide +kernel
theorem dX7_init_16 : decode cX7_init 16 = .ok (.new 7, 3) := by decide +kernel
theorem dX7_init_19 : decode cX7_init 19 = .ok (.dup, 1) := by decide +kernel
theorem dX7_init_20 : decode cX7_init 20 = .ok (.invokespecial 9, 3) := by decide +kernel
theorem dX7_init_23 : decode cX7_init 23 = .ok (.putfield 16, 3) := by decide +kernel
theorem dX7_init_26 : decode cX7_init 26 = .ok (.aload_n 0, 1) := by decide +kernel
theorem dX7_init_27 : decode cX7_init 27 = .ok (.new 7, 3) := by decide +kernel
theorem dX7_init_30 : decode cX7_init 30 = .ok (.dup, 1) := by decide +kernel
theorem dX7_init_31 : decode cX7_init 31 = .ok (.invokespecial 9, 3) := by decide +kernel
theorem dX7_init_34 : decode cX7_init 34 = .ok (.putfield 19, 3) := by decide +kernel
theorem dX7_init_37 : decode cX7_init 37 = .ok (.aload_n 0, 1) := by decide +kernel
theorem dX7_init_38 : decode cX7_init 38 = .ok (.bipush 50, 2) := by decide +kernel
theorem dX7_init_40 : decode cX7_init 40 = .ok (.putfield 22, 3) := by decide +kernel
theorem dX7_init_43 : decode cX7_init 43 = .ok (.aload_n 0, 1) := by decide +kernel
theorem dX7_init_44 : decode cX7_init 44 = .ok (.iconst (-1), 1) := by decide +kernel
theorem dX7_init_45 : decode cX7_init 45 = .ok (.putfield 26, 3) := by decide +kernel
theorem dX7_init_48 : decode cX7_init 48 = .ok (.aload_n 0, 1) := by decide +kernel
theorem dX7_init_49 : decode cX7_init 49 = .ok (.iconst 5, 1) := by decide +kernel
theorem dX7_init_50 : decode cX7_init 50 = .ok (.putfield 29, 3) := by decide +kernel
theorem dX7_init_53 : decode cX7_init 53 = .ok (.aload_n 0, 1) := by decide +kernel
theorem dX7_init_54 : decode cX7_init 54 = .ok (.bipush 20, 2) := by decide +kernel
theorem dX7_init_56 : decode cX7_init 56 = .ok (.putfield 32, 3) := by decide +kernel
theorem dX7_init_59 : decode cX7_init 59 = .ok (.return_, 1) := by decide +kernel
theorem dX7_thrown_0 : decode cX7_thrown 0 = .ok (.aload_n 0, 1) := by decide +kernel
theorem dX7_thrown_1 : decode cX7_thrown 1 = .ok (.getfield 35, 3) := by decide +kernel
theorem dX7_thrown_4 : decode cX7_thrown 4 = .ok (.ireturn, 1) := by decide +kernel
theorem dX7_refuse_0 : decode cX7_refuse 0 = .ok (.aload_n 0, 1) := by decide +kernel
theorem dX7_refuse_1 : decode cX7_refuse 1 = .ok (.iload_n 1, 1) := by decide +kernel
theorem dX7_refuse_2 : decode cX7_refuse 2 = .ok (.putfield 35, 3) := by decide +kernel
theorem dX7_refuse_5 : decode cX7_refuse 5 = .ok (.iconst 0, 1) := by decide +kernel
theorem dX7_refuse_6 : decode cX7_refuse 6 = .ok (.ireturn, 1) := by decide +kernel
theorem dX7_is_0 : decode cX7_is 0 = .ok (.iload_n 0, 1) := by decide +kernel
theorem dX7_is_1 : decode cX7_is 1 = .ok (.iload_n 1, 1) := by decide +kernel
theorem dX7_is_2 : decode cX7_is 2 = .ok (.if_icmp .lt 12, 3) := by decide +kernel
theorem dX7_is_5 : decode cX7_is 5 = .ok (.iload_n 0, 1) := by decide +kernel
theorem dX7_is_6 : decode cX7_is 6 = .ok (.iload_n 2, 1) := by decide +kernel
theorem dX7_is_7 : decode cX7_is 7 = .ok (.if_icmp .gt 7, 3) := by decide +kernel
theorem dX7_is_10 : decode cX7_is 10 = .ok (.iconst 1, 1) := by decide +kernel
theorem dX7_is_11 : decode cX7_is 11 = .ok (.goto 4, 3) := by decide +kernel
theorem dX7_is_14 : decode cX7_is 14 = .ok (.iconst 0, 1) := by decide +kernel
theorem dX7_is_15 : decode cX7_is 15 = .ok (.ireturn, 1) := by decide +kernel
theorem dX7_isPerson_0 : decode cX7_isPerson 0 = .ok (.iload_n 1, 1) := by decide +kernel
theorem dX7_isPerson_1 : decode cX7_isPerson 1 = .ok (.iconst 0, 1) := by decide +kernel
theorem dX7_isPerson_2 : decode cX7_isPerson 2 = .ok (.aload_n 0, 1) := by decide +kernel
theorem dX7_isPerson_3 : decode cX7_isPerson 3 = .ok (.getfield 10, 3) := by decide +kernel
theorem dX7_isPerson_6 : decode cX7_isPerson 6 = .ok (.invokevirtual 38, 3) := by decide +kernel
theorem dX7_isPerson_9 : decode cX7_isPerson 9 = .ok (.iconst 1, 1) := by decide +kernel
theorem dX7_isPerson_10 : decode cX7_isPerson 10 = .ok (.isub, 1) := by decide +kernel
theorem dX7_isPerson_11 : decode cX7_isPerson 11 = .ok (.invokestatic 42, 3) := by decide +kernel
theorem dX7_isPerson_14 : decode cX7_isPerson 14 = .ok (.ireturn, 1) := by decide +kernel
theorem dX7_isFigure_0 : decode cX7_isFigure 0 = .ok (.iload_n 1, 1) := by decide +kernel
theorem dX7_isFigure_1 : decode cX7_isFigure 1 = .ok (.iconst 0, 1) := by decide +kernel
theorem dX7_isFigure_2 : decode cX7_isFigure 2 = .ok (.aload_n 0, 1) := by decide +kernel
theorem dX7_isFigure_3 : decode cX7_isFigure 3 = .ok (.getfield 16, 3) := by decide +kernel
theorem dX7_isFigure_6 : decode cX7_isFigure 6 = .ok (.invokevirtual 38, 3) := by decide +kernel
theorem dX7_isFigure_9 : decode cX7_isFigure 9 = .ok (.iconst 1, 1) := by decide +kernel
theorem dX7_isFigure_10 : decode cX7_isFigure 10 = .ok (.isub, 1) := by decide +kernel
theorem dX7_isFigure_11 : decode cX7_isFigure 11 = .ok (.invokestatic 42, 3) := by decide +kernel
theorem dX7_isFigure_14 : decode cX7_isFigure 14 = .ok (.ireturn, 1) := by decide +kernel
theorem dX7_isScene_0 : decode cX7_isScene 0 = .ok (.iload_n 1, 1) := by decide +kernel
theorem dX7_isScene_1 : decode cX7_isScene 1 = .ok (.iconst 0, 1) := by decide +kernel
theorem dX7_isScene_2 : decode cX7_isScene 2 = .ok (.aload_n 0, 1) := by decide +kernel
theorem dX7_isScene_3 : decode cX7_isScene 3 = .ok (.getfield 19, 3) := by decide +kernel
theorem dX7_isScene_6 : decode cX7_isScene 6 = .ok (.invokevirtual 38, 3) := by decide +kernel
theorem dX7_isScene_9 : decode cX7_isScene 9 = .ok (.iconst 1, 1) := by decide +kernel
theorem dX7_isScene_10 : decode cX7_isScene 10 = .ok (.isub, 1) := by decide +kernel
theorem dX7_isScene_11 : decode cX7_isScene 11 = .ok (.invokestatic 42, 3) := by decide +kernel
theorem dX7_isScene_14 : decode cX7_isScene 14 = .ok (.ireturn, 1) := by decide +kernel
theorem dX7_plot_0 : decode cX7_plot 0 = .ok (.aload_n 1, 1) := by decide +kernel
theorem dX7_plot_1 : decode cX7_plot 1 = .ok (.invokevirtual 38, 3) := by decide +kernel
theorem dX7_plot_4 : decode cX7_plot 4 = .ok (.iconst 3, 1) := by decide +kernel
theorem dX7_plot_5 : decode cX7_plot 5 = .ok (.multianewarray 46 2, 4) := by decide +kernel
theorem dX7_plot_9 : decode cX7_plot 9 = .ok (.astore_n 2, 1) := by decide +kernel
theorem dX7_plot_10 : decode cX7_plot 10 = .ok (.iconst 0, 1) := by decide +kernel
theorem dX7_plot_11 : decode cX7_plot 11 = .ok (.istore_n 3, 1) := by decide +kernel
theorem dX7_plot_12 : decode cX7_plot 12 = .ok (.iconst 0, 1) := by decide +kernel
theorem dX7_plot_13 : decode cX7_plot 13 = .ok (.istore 4, 2) := by decide +kernel
theorem dX7_plot_15 : decode cX7_plot 15 = .ok (.iconst 0, 1) := by decide +kernel
theorem dX7_plot_16 : decode cX7_plot 16 = .ok (.istore 5, 2) := by decide +kernel
theorem dX7_plot_18 : decode cX7_plot 18 = .ok (.iload 5, 2) := by decide +kernel
theorem dX7_plot_20 : decode cX7_plot 20 = .ok (.aload_n 0, 1) := by decide +kernel
theorem dX7_plot_21 : decode cX7_plot 21 = .ok (.getfield 10, 3) := by decide +kernel
theorem dX7_plot_24 : decode cX7_plot 24 = .ok (.invokevirtual 38, 3) := by decide +kernel
theorem dX7_plot_27 : decode cX7_plot 27 = .ok (.if_icmp .ge 31, 3) := by decide +kernel
theorem dX7_plot_30 : decode cX7_plot 30 = .ok (.iload 4, 2) := by decide +kernel
theorem dX7_plot_32 : decode cX7_plot 32 = .ok (.aload_n 0, 1) := by decide +kernel
theorem dX7_plot_33 : decode cX7_plot 33 = .ok (.getfield 10, 3) := by decide +kernel
theorem dX7_plot_36 : decode cX7_plot 36 = .ok (.iload 5, 2) := by decide +kernel
theorem dX7_plot_38 : decode cX7_plot 38 = .ok (.invokevirtual 48, 3) := by decide +kernel
theorem dX7_plot_41 : decode cX7_plot 41 = .ok (.checkcast 52, 3) := by decide +kernel
theorem dX7_plot_44 : decode cX7_plot 44 = .ok (.iconst 5, 1) := by decide +kernel
theorem dX7_plot_45 : decode cX7_plot 45 = .ok (.iaload, 1) := by decide +kernel
theorem dX7_plot_46 : decode cX7_plot 46 = .ok (.iload 5, 2) := by decide +kernel
theorem dX7_plot_48 : decode cX7_plot 48 = .ok (.ishl, 1) := by decide +kernel
theorem dX7_plot_49 : decode cX7_plot 49 = .ok (.ior, 1) := by decide +kernel
theorem dX7_plot_50 : decode cX7_plot 50 = .ok (.istore 4, 2) := by decide +kernel
theorem dX7_plot_52 : decode cX7_plot 52 = .ok (.iinc 5 1, 3) := by decide +kernel
theorem dX7_plot_55 : decode cX7_plot 55 = .ok (.goto (-37), 3) := by decide +kernel
theorem dX7_plot_58 : decode cX7_plot 58 = .ok (.iconst 0, 1) := by decide +kernel
theorem dX7_plot_59 : decode cX7_plot 59 = .ok (.istore 5, 2) := by decide +kernel
theorem dX7_plot_61 : decode cX7_plot 61 = .ok (.iload 5, 2) := by decide +kernel
theorem dX7_plot_63 : decode cX7_plot 63 = .ok (.aload_n 1, 1) := by decide +kernel
theorem dX7_plot_64 : decode cX7_plot 64 = .ok (.invokevirtual 38, 3) := by decide +kernel
theorem dX7_plot_67 : decode cX7_plot 67 = .ok (.if_icmp .ge 88, 3) := by decide +kernel
theorem dX7_plot_70 : decode cX7_plot 70 = .ok (.aload_n 1, 1) := by decide +kernel
theorem dX7_plot_71 : decode cX7_plot 71 = .ok (.iload 5, 2) := by decide +kernel
theorem dX7_plot_73 : decode cX7_plot 73 = .ok (.invokevirtual 48, 3) := by decide +kernel
theorem dX7_plot_76 : decode cX7_plot 76 = .ok (.checkcast 52, 3) := by decide +kernel
theorem dX7_plot_79 : decode cX7_plot 79 = .ok (.astore 6, 2) := by decide +kernel
theorem dX7_plot_81 : decode cX7_plot 81 = .ok (.aload_n 2, 1) := by decide +kernel
theorem dX7_plot_82 : decode cX7_plot 82 = .ok (.iload 5, 2) := by decide +kernel
theorem dX7_plot_84 : decode cX7_plot 84 = .ok (.aaload, 1) := by decide +kernel
theorem dX7_plot_85 : decode cX7_plot 85 = .ok (.iconst 0, 1) := by decide +kernel
theorem dX7_plot_86 : decode cX7_plot 86 = .ok (.iload_n 3, 1) := by decide +kernel
theorem dX7_plot_87 : decode cX7_plot 87 = .ok (.iastore, 1) := by decide +kernel
theorem dX7_plot_88 : decode cX7_plot 88 = .ok (.aload_n 2, 1) := by decide +kernel
theorem dX7_plot_89 : decode cX7_plot 89 = .ok (.iload 5, 2) := by decide +kernel
theorem dX7_plot_91 : decode cX7_plot 91 = .ok (.aaload, 1) := by decide +kernel
theorem dX7_plot_92 : decode cX7_plot 92 = .ok (.iconst 1, 1) := by decide +kernel
theorem dX7_plot_93 : decode cX7_plot 93 = .ok (.aload_n 0, 1) := by decide +kernel
theorem dX7_plot_94 : decode cX7_plot 94 = .ok (.aload_n 1, 1) := by decide +kernel
theorem dX7_plot_95 : decode cX7_plot 95 = .ok (.iload 5, 2) := by decide +kernel
theorem dX7_plot_97 : decode cX7_plot 97 = .ok (.iload_n 3, 1) := by decide +kernel
theorem dX7_plot_98 : decode cX7_plot 98 = .ok (.iload 4, 2) := by decide +kernel
theorem dX7_plot_100 : decode cX7_plot 100 = .ok (.invokevirtual 54, 3) := by decide +kernel
theorem dX7_plot_103 : decode cX7_plot 103 = .ok (.iastore, 1) := by decide +kernel
theorem dX7_plot_104 : decode cX7_plot 104 = .ok (.iload_n 3, 1) := by decide +kernel
theorem dX7_plot_105 : decode cX7_plot 105 = .ok (.aload 6, 2) := by decide +kernel
theorem dX7_plot_107 : decode cX7_plot 107 = .ok (.iconst 3, 1) := by decide +kernel
theorem dX7_plot_108 : decode cX7_plot 108 = .ok (.iaload, 1) := by decide +kernel
theorem dX7_plot_109 : decode cX7_plot 109 = .ok (.iadd, 1) := by decide +kernel
theorem dX7_plot_110 : decode cX7_plot 110 = .ok (.istore_n 3, 1) := by decide +kernel
theorem dX7_plot_111 : decode cX7_plot 111 = .ok (.aload 6, 2) := by decide +kernel
theorem dX7_plot_113 : decode cX7_plot 113 = .ok (.iconst 5, 1) := by decide +kernel
theorem dX7_plot_114 : decode cX7_plot 114 = .ok (.iaload, 1) := by decide +kernel
theorem dX7_plot_115 : decode cX7_plot 115 = .ok (.iconst (-1), 1) := by decide +kernel
theorem dX7_plot_116 : decode cX7_plot 116 = .ok (.if_icmp .eq 25, 3) := by decide +kernel
theorem dX7_plot_119 : decode cX7_plot 119 = .ok (.iload 4, 2) := by decide +kernel
theorem dX7_plot_121 : decode cX7_plot 121 = .ok (.aload 6, 2) := by decide +kernel
theorem dX7_plot_123 : decode cX7_plot 123 = .ok (.iconst 5, 1) := by decide +kernel
theorem dX7_plot_124 : decode cX7_plot 124 = .ok (.iaload, 1) := by decide +kernel
theorem dX7_plot_125 : decode cX7_plot 125 = .ok (.ishr, 1) := by decide +kernel
theorem dX7_plot_126 : decode cX7_plot 126 = .ok (.iconst 1, 1) := by decide +kernel
theorem dX7_plot_127 : decode cX7_plot 127 = .ok (.iand, 1) := by decide +kernel
theorem dX7_plot_128 : decode cX7_plot 128 = .ok (.iconst 1, 1) := by decide +kernel
theorem dX7_plot_129 : decode cX7_plot 129 = .ok (.if_icmp .ne 12, 3) := by decide +kernel
theorem dX7_plot_132 : decode cX7_plot 132 = .ok (.iload 4, 2) := by decide +kernel
theorem dX7_plot_134 : decode cX7_plot 134 = .ok (.aload 6, 2) := by decide +kernel
theorem dX7_plot_136 : decode cX7_plot 136 = .ok (.iconst 2, 1) := by decide +kernel
theorem dX7_plot_137 : decode cX7_plot 137 = .ok (.iaload, 1) := by decide +kernel
theorem dX7_plot_138 : decode cX7_plot 138 = .ok (.ior, 1) := by decide +kernel
theorem dX7_plot_139 : decode cX7_plot 139 = .ok (.istore 4, 2) := by decide +kernel
theorem dX7_plot_141 : decode cX7_plot 141 = .ok (.aload_n 2, 1) := by decide +kernel
theorem dX7_plot_142 : decode cX7_plot 142 = .ok (.iload 5, 2) := by decide +kernel
theorem dX7_plot_144 : decode cX7_plot 144 = .ok (.aaload, 1) := by decide +kernel
theorem dX7_plot_145 : decode cX7_plot 145 = .ok (.iconst 2, 1) := by decide +kernel
theorem dX7_plot_146 : decode cX7_plot 146 = .ok (.iload 4, 2) := by decide +kernel
theorem dX7_plot_148 : decode cX7_plot 148 = .ok (.iastore, 1) := by decide +kernel
theorem dX7_plot_149 : decode cX7_plot 149 = .ok (.iinc 5 1, 3) := by decide +kernel
theorem dX7_plot_152 : decode cX7_plot 152 = .ok (.goto (-91), 3) := by decide +kernel
theorem dX7_plot_155 : decode cX7_plot 155 = .ok (.aload_n 2, 1) := by decide +kernel
theorem dX7_plot_156 : decode cX7_plot 156 = .ok (.areturn, 1) := by decide +kernel
theorem dX7_breach_0 : decode cX7_breach 0 = .ok (.aload_n 1, 1) := by decide +kernel
theorem dX7_breach_1 : decode cX7_breach 1 = .ok (.iload_n 2, 1) := by decide +kernel
theorem dX7_breach_2 : decode cX7_breach 2 = .ok (.invokevirtual 48, 3) := by decide +kernel
theorem dX7_breach_5 : decode cX7_breach 5 = .ok (.checkcast 52, 3) := by decide +kernel
theorem dX7_breach_8 : decode cX7_breach 8 = .ok (.astore 5, 2) := by decide +kernel
theorem dX7_breach_10 : decode cX7_breach 10 = .ok (.iconst 0, 1) := by decide +kernel
theorem dX7_breach_11 : decode cX7_breach 11 = .ok (.istore 6, 2) := by decide +kernel
theorem dX7_breach_13 : decode cX7_breach 13 = .ok (.iload 6, 2) := by decide +kernel
theorem dX7_breach_15 : decode cX7_breach 15 = .ok (.aload_n 0, 1) := by decide +kernel
theorem dX7_breach_16 : decode cX7_breach 16 = .ok (.getfield 10, 3) := by decide +kernel
theorem dX7_breach_19 : decode cX7_breach 19 = .ok (.invokevirtual 38, 3) := by decide +kernel
theorem dX7_breach_22 : decode cX7_breach 22 = .ok (.if_icmp .ge 70, 3) := by decide +kernel
theorem dX7_breach_25 : decode cX7_breach 25 = .ok (.aload_n 0, 1) := by decide +kernel
theorem dX7_breach_26 : decode cX7_breach 26 = .ok (.getfield 10, 3) := by decide +kernel
theorem dX7_breach_29 : decode cX7_breach 29 = .ok (.iload 6, 2) := by decide +kernel
theorem dX7_breach_31 : decode cX7_breach 31 = .ok (.invokevirtual 48, 3) := by decide +kernel
theorem dX7_breach_34 : decode cX7_breach 34 = .ok (.checkcast 52, 3) := by decide +kernel
theorem dX7_breach_37 : decode cX7_breach 37 = .ok (.astore 7, 2) := by decide +kernel
theorem dX7_breach_39 : decode cX7_breach 39 = .ok (.aload 5, 2) := by decide +kernel
theorem dX7_breach_41 : decode cX7_breach 41 = .ok (.iconst 2, 1) := by decide +kernel
theorem dX7_breach_42 : decode cX7_breach 42 = .ok (.iaload, 1) := by decide +kernel
theorem dX7_breach_43 : decode cX7_breach 43 = .ok (.iload 6, 2) := by decide +kernel
theorem dX7_breach_45 : decode cX7_breach 45 = .ok (.ishr, 1) := by decide +kernel
theorem dX7_breach_46 : decode cX7_breach 46 = .ok (.iconst 1, 1) := by decide +kernel
theorem dX7_breach_47 : decode cX7_breach 47 = .ok (.iand, 1) := by decide +kernel
theorem dX7_breach_48 : decode cX7_breach 48 = .ok (.iconst 1, 1) := by decide +kernel
theorem dX7_breach_49 : decode cX7_breach 49 = .ok (.if_icmp .ne 37, 3) := by decide +kernel
theorem dX7_breach_52 : decode cX7_breach 52 = .ok (.aload 5, 2) := by decide +kernel
theorem dX7_breach_54 : decode cX7_breach 54 = .ok (.iconst 0, 1) := by decide +kernel
theorem dX7_breach_55 : decode cX7_breach 55 = .ok (.iaload, 1) := by decide +kernel
theorem dX7_breach_56 : decode cX7_breach 56 = .ok (.aload 7, 2) := by decide +kernel
theorem dX7_breach_58 : decode cX7_breach 58 = .ok (.iconst 3, 1) := by decide +kernel
theorem dX7_breach_59 : decode cX7_breach 59 = .ok (.iaload, 1) := by decide +kernel
theorem dX7_breach_60 : decode cX7_breach 60 = .ok (.if_icmp .lt 24, 3) := by decide +kernel
theorem dX7_breach_63 : decode cX7_breach 63 = .ok (.aload 5, 2) := by decide +kernel
theorem dX7_breach_65 : decode cX7_breach 65 = .ok (.iconst 0, 1) := by decide +kernel
theorem dX7_breach_66 : decode cX7_breach 66 = .ok (.iaload, 1) := by decide +kernel
theorem dX7_breach_67 : decode cX7_breach 67 = .ok (.aload 7, 2) := by decide +kernel
theorem dX7_breach_69 : decode cX7_breach 69 = .ok (.iconst 4, 1) := by decide +kernel
theorem dX7_breach_70 : decode cX7_breach 70 = .ok (.iaload, 1) := by decide +kernel
theorem dX7_breach_71 : decode cX7_breach 71 = .ok (.if_icmp .gt 13, 3) := by decide +kernel
theorem dX7_breach_74 : decode cX7_breach 74 = .ok (.aload_n 1, 1) := by decide +kernel
theorem dX7_breach_75 : decode cX7_breach 75 = .ok (.iload_n 2, 1) := by decide +kernel
theorem dX7_breach_76 : decode cX7_breach 76 = .ok (.iload 6, 2) := by decide +kernel
theorem dX7_breach_78 : decode cX7_breach 78 = .ok (.invokestatic 58, 3) := by decide +kernel
theorem dX7_breach_81 : decode cX7_breach 81 = .ok (.ifCond .eq 5, 3) := by decide +kernel
theorem dX7_breach_84 : decode cX7_breach 84 = .ok (.iconst 1, 1) := by decide +kernel
theorem dX7_breach_85 : decode cX7_breach 85 = .ok (.ireturn, 1) := by decide +kernel
theorem dX7_breach_86 : decode cX7_breach 86 = .ok (.iinc 6 1, 3) := by decide +kernel
theorem dX7_breach_89 : decode cX7_breach 89 = .ok (.goto (-76), 3) := by decide +kernel
theorem dX7_breach_92 : decode cX7_breach 92 = .ok (.aload 5, 2) := by decide +kernel
theorem dX7_breach_94 : decode cX7_breach 94 = .ok (.iconst 4, 1) := by decide +kernel
theorem dX7_breach_95 : decode cX7_breach 95 = .ok (.iaload, 1) := by decide +kernel
theorem dX7_breach_96 : decode cX7_breach 96 = .ok (.iconst (-1), 1) := by decide +kernel
theorem dX7_breach_97 : decode cX7_breach 97 = .ok (.if_icmp .eq 28, 3) := by decide +kernel
theorem dX7_breach_100 : decode cX7_breach 100 = .ok (.aload_n 0, 1) := by decide +kernel
theorem dX7_breach_101 : decode cX7_breach 101 = .ok (.getfield 10, 3) := by decide +kernel
theorem dX7_breach_104 : decode cX7_breach 104 = .ok (.aload 5, 2) := by decide +kernel
theorem dX7_breach_106 : decode cX7_breach 106 = .ok (.iconst 4, 1) := by decide +kernel
theorem dX7_breach_107 : decode cX7_breach 107 = .ok (.iaload, 1) := by decide +kernel
theorem dX7_breach_108 : decode cX7_breach 108 = .ok (.invokevirtual 48, 3) := by decide +kernel
theorem dX7_breach_111 : decode cX7_breach 111 = .ok (.checkcast 52, 3) := by decide +kernel
theorem dX7_breach_114 : decode cX7_breach 114 = .ok (.iconst 4, 1) := by decide +kernel
theorem dX7_breach_115 : decode cX7_breach 115 = .ok (.iaload, 1) := by decide +kernel
theorem dX7_breach_116 : decode cX7_breach 116 = .ok (.aload 5, 2) := by decide +kernel
theorem dX7_breach_118 : decode cX7_breach 118 = .ok (.iconst 0, 1) := by decide +kernel
theorem dX7_breach_119 : decode cX7_breach 119 = .ok (.iaload, 1) := by decide +kernel
theorem dX7_breach_120 : decode cX7_breach 120 = .ok (.if_icmp .eq 5, 3) := by decide +kernel
theorem dX7_breach_123 : decode cX7_breach 123 = .ok (.iconst 2, 1) := by decide +kernel
theorem dX7_breach_124 : decode cX7_breach 124 = .ok (.ireturn, 1) := by decide +kernel
theorem dX7_breach_125 : decode cX7_breach 125 = .ok (.aload 5, 2) := by decide +kernel
theorem dX7_breach_127 : decode cX7_breach 127 = .ok (.iconst 5, 1) := by decide +kernel
theorem dX7_breach_128 : decode cX7_breach 128 = .ok (.iaload, 1) := by decide +kernel
theorem dX7_breach_129 : decode cX7_breach 129 = .ok (.iconst (-1), 1) := by decide +kernel
theorem dX7_breach_130 : decode cX7_breach 130 = .ok (.if_icmp .eq 17, 3) := by decide +kernel
theorem dX7_breach_133 : decode cX7_breach 133 = .ok (.iload 4, 2) := by decide +kernel
theorem dX7_breach_135 : decode cX7_breach 135 = .ok (.aload 5, 2) := by decide +kernel
theorem dX7_breach_137 : decode cX7_breach 137 = .ok (.iconst 5, 1) := by decide +kernel
theorem dX7_breach_138 : decode cX7_breach 138 = .ok (.iaload, 1) := by decide +kernel
theorem dX7_breach_139 : decode cX7_breach 139 = .ok (.ishr, 1) := by decide +kernel
theorem dX7_breach_140 : decode cX7_breach 140 = .ok (.iconst 1, 1) := by decide +kernel
theorem dX7_breach_141 : decode cX7_breach 141 = .ok (.iand, 1) := by decide +kernel
theorem dX7_breach_142 : decode cX7_breach 142 = .ok (.ifCond .ne 5, 3) := by decide +kernel
theorem dX7_breach_145 : decode cX7_breach 145 = .ok (.iconst 3, 1) := by decide +kernel
theorem dX7_breach_146 : decode cX7_breach 146 = .ok (.ireturn, 1) := by decide +kernel
theorem dX7_breach_147 : decode cX7_breach 147 = .ok (.aload 5, 2) := by decide +kernel
theorem dX7_breach_149 : decode cX7_breach 149 = .ok (.iconst 1, 1) := by decide +kernel
theorem dX7_breach_150 : decode cX7_breach 150 = .ok (.iaload, 1) := by decide +kernel
theorem dX7_breach_151 : decode cX7_breach 151 = .ok (.iconst 2, 1) := by decide +kernel
theorem dX7_breach_152 : decode cX7_breach 152 = .ok (.iload_n 3, 1) := by decide +kernel
theorem dX7_breach_153 : decode cX7_breach 153 = .ok (.sipush 180, 3) := by decide +kernel
theorem dX7_breach_156 : decode cX7_breach 156 = .ok (.idiv, 1) := by decide +kernel
theorem dX7_breach_157 : decode cX7_breach 157 = .ok (.invokestatic 62, 3) := by decide +kernel
theorem dX7_breach_160 : decode cX7_breach 160 = .ok (.iconst 1, 1) := by decide +kernel
theorem dX7_breach_161 : decode cX7_breach 161 = .ok (.iadd, 1) := by decide +kernel
theorem dX7_breach_162 : decode cX7_breach 162 = .ok (.if_icmp .le 5, 3) := by decide +kernel
theorem dX7_breach_165 : decode cX7_breach 165 = .ok (.iconst 4, 1) := by decide +kernel
theorem dX7_breach_166 : decode cX7_breach 166 = .ok (.ireturn, 1) := by decide +kernel
theorem dX7_breach_167 : decode cX7_breach 167 = .ok (.iload_n 3, 1) := by decide +kernel
theorem dX7_breach_168 : decode cX7_breach 168 = .ok (.aload 5, 2) := by decide +kernel
theorem dX7_breach_170 : decode cX7_breach 170 = .ok (.iconst 3, 1) := by decide +kernel
theorem dX7_breach_171 : decode cX7_breach 171 = .ok (.iaload, 1) := by decide +kernel
theorem dX7_breach_172 : decode cX7_breach 172 = .ok (.iadd, 1) := by decide +kernel
theorem dX7_breach_173 : decode cX7_breach 173 = .ok (.sipush 540, 3) := by decide +kernel
theorem dX7_breach_176 : decode cX7_breach 176 = .ok (.if_icmp .le 7, 3) := by decide +kernel
theorem dX7_breach_179 : decode cX7_breach 179 = .ok (.iconst 5, 1) := by decide +kernel
theorem dX7_breach_180 : decode cX7_breach 180 = .ok (.goto 4, 3) := by decide +kernel
theorem dX7_breach_183 : decode cX7_breach 183 = .ok (.iconst 0, 1) := by decide +kernel
theorem dX7_breach_184 : decode cX7_breach 184 = .ok (.ireturn, 1) := by decide +kernel
theorem dX7_isDead_0 : decode cX7_isDead 0 = .ok (.iconst 0, 1) := by decide +kernel
theorem dX7_isDead_1 : decode cX7_isDead 1 = .ok (.istore_n 3, 1) := by decide +kernel
theorem dX7_isDead_2 : decode cX7_isDead 2 = .ok (.iload_n 3, 1) := by decide +kernel
theorem dX7_isDead_3 : decode cX7_isDead 3 = .ok (.iload_n 1, 1) := by decide +kernel
theorem dX7_isDead_4 : decode cX7_isDead 4 = .ok (.if_icmp .ge 48, 3) := by decide +kernel
theorem dX7_isDead_7 : decode cX7_isDead 7 = .ok (.aload_n 0, 1) := by decide +kernel
theorem dX7_isDead_8 : decode cX7_isDead 8 = .ok (.iload_n 3, 1) := by decide +kernel
theorem dX7_isDead_9 : decode cX7_isDead 9 = .ok (.invokevirtual 48, 3) := by decide +kernel
theorem dX7_isDead_12 : decode cX7_isDead 12 = .ok (.checkcast 52, 3) := by decide +kernel
theorem dX7_isDead_15 : decode cX7_isDead 15 = .ok (.iconst 4, 1) := by decide +kernel
theorem dX7_isDead_16 : decode cX7_isDead 16 = .ok (.iaload, 1) := by decide +kernel
theorem dX7_isDead_17 : decode cX7_isDead 17 = .ok (.iload_n 2, 1) := by decide +kernel
theorem dX7_isDead_18 : decode cX7_isDead 18 = .ok (.if_icmp .ne 28, 3) := by decide +kernel
theorem dX7_isDead_21 : decode cX7_isDead 21 = .ok (.aload_n 0, 1) := by decide +kernel
theorem dX7_isDead_22 : decode cX7_isDead 22 = .ok (.iload_n 3, 1) := by decide +kernel
theorem dX7_isDead_23 : decode cX7_isDead 23 = .ok (.invokevirtual 48, 3) := by decide +kernel
theorem dX7_isDead_26 : decode cX7_isDead 26 = .ok (.checkcast 52, 3) := by decide +kernel
theorem dX7_isDead_29 : decode cX7_isDead 29 = .ok (.iconst 0, 1) := by decide +kernel
theorem dX7_isDead_30 : decode cX7_isDead 30 = .ok (.iaload, 1) := by decide +kernel
theorem dX7_isDead_31 : decode cX7_isDead 31 = .ok (.aload_n 0, 1) := by decide +kernel
theorem dX7_isDead_32 : decode cX7_isDead 32 = .ok (.iload_n 1, 1) := by decide +kernel
theorem dX7_isDead_33 : decode cX7_isDead 33 = .ok (.invokevirtual 48, 3) := by decide +kernel
theorem dX7_isDead_36 : decode cX7_isDead 36 = .ok (.checkcast 52, 3) := by decide +kernel
theorem dX7_isDead_39 : decode cX7_isDead 39 = .ok (.iconst 0, 1) := by decide +kernel
theorem dX7_isDead_40 : decode cX7_isDead 40 = .ok (.iaload, 1) := by decide +kernel
theorem dX7_isDead_41 : decode cX7_isDead 41 = .ok (.if_icmp .gt 5, 3) := by decide +kernel
theorem dX7_isDead_44 : decode cX7_isDead 44 = .ok (.iconst 1, 1) := by decide +kernel
theorem dX7_isDead_45 : decode cX7_isDead 45 = .ok (.ireturn, 1) := by decide +kernel
theorem dX7_isDead_46 : decode cX7_isDead 46 = .ok (.iinc 3 1, 3) := by decide +kernel
theorem dX7_isDead_49 : decode cX7_isDead 49 = .ok (.goto (-47), 3) := by decide +kernel
theorem dX7_isDead_52 : decode cX7_isDead 52 = .ok (.iconst 0, 1) := by decide +kernel
theorem dX7_isDead_53 : decode cX7_isDead 53 = .ok (.ireturn, 1) := by decide +kernel
theorem dX7_breaches_0 : decode cX7_breaches 0 = .ok (.iconst 0, 1) := by decide +kernel
theorem dX7_breaches_1 : decode cX7_breaches 1 = .ok (.istore_n 2, 1) := by decide +kernel
theorem dX7_breaches_2 : decode cX7_breaches 2 = .ok (.aload_n 0, 1) := by decide +kernel
theorem dX7_breaches_3 : decode cX7_breaches 3 = .ok (.aload_n 1, 1) := by decide +kernel
theorem dX7_breaches_4 : decode cX7_breaches 4 = .ok (.invokevirtual 68, 3) := by decide +kernel
theorem dX7_breaches_7 : decode cX7_breaches 7 = .ok (.astore_n 3, 1) := by decide +kernel
theorem dX7_breaches_8 : decode cX7_breaches 8 = .ok (.aload_n 3, 1) := by decide +kernel
theorem dX7_breaches_9 : decode cX7_breaches 9 = .ok (.arraylength, 1) := by decide +kernel
theorem dX7_breaches_10 : decode cX7_breaches 10 = .ok (.istore 4, 2) := by decide +kernel
theorem dX7_breaches_12 : decode cX7_breaches 12 = .ok (.iconst 0, 1) := by decide +kernel
theorem dX7_breaches_13 : decode cX7_breaches 13 = .ok (.istore 5, 2) := by decide +kernel
theorem dX7_breaches_15 : decode cX7_breaches 15 = .ok (.iload 5, 2) := by decide +kernel
theorem dX7_breaches_17 : decode cX7_breaches 17 = .ok (.iload 4, 2) := by decide +kernel
theorem dX7_breaches_19 : decode cX7_breaches 19 = .ok (.if_icmp .ge 30, 3) := by decide +kernel
theorem dX7_breaches_22 : decode cX7_breaches 22 = .ok (.aload_n 3, 1) := by decide +kernel
theorem dX7_breaches_23 : decode cX7_breaches 23 = .ok (.iload 5, 2) := by decide +kernel
theorem dX7_breaches_25 : decode cX7_breaches 25 = .ok (.aaload, 1) := by decide +kernel
theorem dX7_breaches_26 : decode cX7_breaches 26 = .ok (.astore 6, 2) := by decide +kernel
theorem dX7_breaches_28 : decode cX7_breaches 28 = .ok (.iload_n 2, 1) := by decide +kernel
theorem dX7_breaches_29 : decode cX7_breaches 29 = .ok (.aload 6, 2) := by decide +kernel
theorem dX7_breaches_31 : decode cX7_breaches 31 = .ok (.iconst 1, 1) := by decide +kernel
theorem dX7_breaches_32 : decode cX7_breaches 32 = .ok (.iaload, 1) := by decide +kernel
theorem dX7_breaches_33 : decode cX7_breaches 33 = .ok (.ifCond .le 7, 3) := by decide +kernel
theorem dX7_breaches_36 : decode cX7_breaches 36 = .ok (.iconst 1, 1) := by decide +kernel
theorem dX7_breaches_37 : decode cX7_breaches 37 = .ok (.goto 4, 3) := by decide +kernel
theorem dX7_breaches_40 : decode cX7_breaches 40 = .ok (.iconst 0, 1) := by decide +kernel
theorem dX7_breaches_41 : decode cX7_breaches 41 = .ok (.iadd, 1) := by decide +kernel
theorem dX7_breaches_42 : decode cX7_breaches 42 = .ok (.istore_n 2, 1) := by decide +kernel
theorem dX7_breaches_43 : decode cX7_breaches 43 = .ok (.iinc 5 1, 3) := by decide +kernel
theorem dX7_breaches_46 : decode cX7_breaches 46 = .ok (.goto (-31), 3) := by decide +kernel
theorem dX7_breaches_49 : decode cX7_breaches 49 = .ok (.iload_n 2, 1) := by decide +kernel
theorem dX7_breaches_50 : decode cX7_breaches 50 = .ok (.ireturn, 1) := by decide +kernel
theorem dX7_over_0 : decode cX7_over 0 = .ok (.iconst 0, 1) := by decide +kernel
theorem dX7_over_1 : decode cX7_over 1 = .ok (.istore_n 1, 1) := by decide +kernel
theorem dX7_over_2 : decode cX7_over 2 = .ok (.aload_n 0, 1) := by decide +kernel
theorem dX7_over_3 : decode cX7_over 3 = .ok (.getfield 19, 3) := by decide +kernel
theorem dX7_over_6 : decode cX7_over 6 = .ok (.invokevirtual 72, 3) := by decide +kernel
theorem dX7_over_9 : decode cX7_over 9 = .ok (.astore_n 2, 1) := by decide +kernel
theorem dX7_over_10 : decode cX7_over 10 = .ok (.aload_n 2, 1) := by decide +kernel
theorem dX7_over_11 : decode cX7_over 11 = .ok (.invokeinterface 76 1, 5) := by decide +kernel
theorem dX7_over_16 : decode cX7_over 16 = .ok (.ifCond .eq 22, 3) := by decide +kernel
theorem dX7_over_19 : decode cX7_over 19 = .ok (.aload_n 2, 1) := by decide +kernel
theorem dX7_over_20 : decode cX7_over 20 = .ok (.invokeinterface 82 1, 5) := by decide +kernel
theorem dX7_over_25 : decode cX7_over 25 = .ok (.checkcast 52, 3) := by decide +kernel
theorem dX7_over_28 : decode cX7_over 28 = .ok (.astore_n 3, 1) := by decide +kernel
theorem dX7_over_29 : decode cX7_over 29 = .ok (.iload_n 1, 1) := by decide +kernel
theorem dX7_over_30 : decode cX7_over 30 = .ok (.aload_n 3, 1) := by decide +kernel
theorem dX7_over_31 : decode cX7_over 31 = .ok (.iconst 3, 1) := by decide +kernel
theorem dX7_over_32 : decode cX7_over 32 = .ok (.iaload, 1) := by decide +kernel
theorem dX7_over_33 : decode cX7_over 33 = .ok (.iadd, 1) := by decide +kernel
theorem dX7_over_34 : decode cX7_over 34 = .ok (.istore_n 1, 1) := by decide +kernel
theorem dX7_over_35 : decode cX7_over 35 = .ok (.goto (-25), 3) := by decide +kernel
theorem dX7_over_38 : decode cX7_over 38 = .ok (.iload_n 1, 1) := by decide +kernel
theorem dX7_over_39 : decode cX7_over 39 = .ok (.ireturn, 1) := by decide +kernel
theorem dX7_on_0 : decode cX7_on 0 = .ok (.iconst 0, 1) := by decide +kernel
theorem dX7_on_1 : decode cX7_on 1 = .ok (.istore_n 1, 1) := by decide +kernel
theorem dX7_on_2 : decode cX7_on 2 = .ok (.iconst 0, 1) := by decide +kernel
theorem dX7_on_3 : decode cX7_on 3 = .ok (.istore_n 2, 1) := by decide +kernel
theorem dX7_on_4 : decode cX7_on 4 = .ok (.iload_n 2, 1) := by decide +kernel
theorem dX7_on_5 : decode cX7_on 5 = .ok (.aload_n 0, 1) := by decide +kernel
theorem dX7_on_6 : decode cX7_on 6 = .ok (.getfield 19, 3) := by decide +kernel
theorem dX7_on_9 : decode cX7_on 9 = .ok (.invokevirtual 38, 3) := by decide +kernel
theorem dX7_on_12 : decode cX7_on 12 = .ok (.if_icmp .ge 35, 3) := by decide +kernel
theorem dX7_on_15 : decode cX7_on 15 = .ok (.iload_n 1, 1) := by decide +kernel
theorem dX7_on_16 : decode cX7_on 16 = .ok (.aload_n 0, 1) := by decide +kernel
theorem dX7_on_17 : decode cX7_on 17 = .ok (.getfield 19, 3) := by decide +kernel
theorem dX7_on_20 : decode cX7_on 20 = .ok (.iload_n 2, 1) := by decide +kernel
theorem dX7_on_21 : decode cX7_on 21 = .ok (.invokevirtual 48, 3) := by decide +kernel
theorem dX7_on_24 : decode cX7_on 24 = .ok (.checkcast 52, 3) := by decide +kernel
theorem dX7_on_27 : decode cX7_on 27 = .ok (.iconst 3, 1) := by decide +kernel
theorem dX7_on_28 : decode cX7_on 28 = .ok (.iaload, 1) := by decide +kernel
theorem dX7_on_29 : decode cX7_on 29 = .ok (.iadd, 1) := by decide +kernel
theorem dX7_on_30 : decode cX7_on 30 = .ok (.istore_n 1, 1) := by decide +kernel
theorem dX7_on_31 : decode cX7_on 31 = .ok (.aload_n 0, 1) := by decide +kernel
theorem dX7_on_32 : decode cX7_on 32 = .ok (.getfield 86, 3) := by decide +kernel
theorem dX7_on_35 : decode cX7_on 35 = .ok (.iload_n 1, 1) := by decide +kernel
theorem dX7_on_36 : decode cX7_on 36 = .ok (.if_icmp .ge 5, 3) := by decide +kernel
theorem dX7_on_39 : decode cX7_on 39 = .ok (.iload_n 2, 1) := by decide +kernel
theorem dX7_on_40 : decode cX7_on 40 = .ok (.ireturn, 1) := by decide +kernel
theorem dX7_on_41 : decode cX7_on 41 = .ok (.iinc 2 1, 3) := by decide +kernel
theorem dX7_on_44 : decode cX7_on 44 = .ok (.goto (-40), 3) := by decide +kernel
theorem dX7_on_47 : decode cX7_on 47 = .ok (.iconst (-1), 1) := by decide +kernel
theorem dX7_on_48 : decode cX7_on 48 = .ok (.ireturn, 1) := by decide +kernel
theorem dX7_exchange_0 : decode cX7_exchange 0 = .ok (.aload_n 0, 1) := by decide +kernel
theorem dX7_exchange_1 : decode cX7_exchange 1 = .ok (.iload_n 1, 1) := by decide +kernel
theorem dX7_exchange_2 : decode cX7_exchange 2 = .ok (.invokevirtual 48, 3) := by decide +kernel
theorem dX7_exchange_5 : decode cX7_exchange 5 = .ok (.checkcast 52, 3) := by decide +kernel
theorem dX7_exchange_8 : decode cX7_exchange 8 = .ok (.astore_n 3, 1) := by decide +kernel
theorem dX7_exchange_9 : decode cX7_exchange 9 = .ok (.aload_n 0, 1) := by decide +kernel
theorem dX7_exchange_10 : decode cX7_exchange 10 = .ok (.iload_n 1, 1) := by decide +kernel
theorem dX7_exchange_11 : decode cX7_exchange 11 = .ok (.aload_n 0, 1) := by decide +kernel
theorem dX7_exchange_12 : decode cX7_exchange 12 = .ok (.iload_n 2, 1) := by decide +kernel
theorem dX7_exchange_13 : decode cX7_exchange 13 = .ok (.invokevirtual 48, 3) := by decide +kernel
theorem dX7_exchange_16 : decode cX7_exchange 16 = .ok (.checkcast 52, 3) := by decide +kernel
theorem dX7_exchange_19 : decode cX7_exchange 19 = .ok (.invokevirtual 89, 3) := by decide +kernel
theorem dX7_exchange_22 : decode cX7_exchange 22 = .ok (.pop, 1) := by decide +kernel
theorem dX7_exchange_23 : decode cX7_exchange 23 = .ok (.aload_n 0, 1) := by decide +kernel
theorem dX7_exchange_24 : decode cX7_exchange 24 = .ok (.iload_n 2, 1) := by decide +kernel
theorem dX7_exchange_25 : decode cX7_exchange 25 = .ok (.aload_n 3, 1) := by decide +kernel
theorem dX7_exchange_26 : decode cX7_exchange 26 = .ok (.invokevirtual 89, 3) := by decide +kernel
theorem dX7_exchange_29 : decode cX7_exchange 29 = .ok (.pop, 1) := by decide +kernel
theorem dX7_exchange_30 : decode cX7_exchange 30 = .ok (.return_, 1) := by decide +kernel
theorem dX7_person_0 : decode cX7_person 0 = .ok (.aload_n 0, 1) := by decide +kernel
theorem dX7_person_1 : decode cX7_person 1 = .ok (.iconst 0, 1) := by decide +kernel
theorem dX7_person_2 : decode cX7_person 2 = .ok (.putfield 35, 3) := by decide +kernel
theorem dX7_person_5 : decode cX7_person 5 = .ok (.iload_n 1, 1) := by decide +kernel
theorem dX7_person_6 : decode cX7_person 6 = .ok (.iconst 0, 1) := by decide +kernel
theorem dX7_person_7 : decode cX7_person 7 = .ok (.iconst 1, 1) := by decide +kernel
theorem dX7_person_8 : decode cX7_person 8 = .ok (.invokestatic 42, 3) := by decide +kernel
theorem dX7_person_11 : decode cX7_person 11 = .ok (.ifCond .eq 47, 3) := by decide +kernel
theorem dX7_person_14 : decode cX7_person 14 = .ok (.iload_n 2, 1) := by decide +kernel
theorem dX7_person_15 : decode cX7_person 15 = .ok (.iconst 0, 1) := by decide +kernel
theorem dX7_person_16 : decode cX7_person 16 = .ok (.iconst 3, 1) := by decide +kernel
theorem dX7_person_17 : decode cX7_person 17 = .ok (.invokestatic 42, 3) := by decide +kernel
theorem dX7_person_20 : decode cX7_person 20 = .ok (.ifCond .eq 38, 3) := by decide +kernel
theorem dX7_person_23 : decode cX7_person 23 = .ok (.iload_n 3, 1) := by decide +kernel
theorem dX7_person_24 : decode cX7_person 24 = .ok (.iconst 0, 1) := by decide +kernel
theorem dX7_person_25 : decode cX7_person 25 = .ok (.bipush 9, 2) := by decide +kernel
theorem dX7_person_27 : decode cX7_person 27 = .ok (.invokestatic 42, 3) := by decide +kernel
theorem dX7_person_30 : decode cX7_person 30 = .ok (.ifCond .eq 28, 3) := by decide +kernel
theorem dX7_person_33 : decode cX7_person 33 = .ok (.iload 4, 2) := by decide +kernel
theorem dX7_person_35 : decode cX7_person 35 = .ok (.iconst 0, 1) := by decide +kernel
theorem dX7_person_36 : decode cX7_person 36 = .ok (.bipush 99, 2) := by decide +kernel
theorem dX7_person_38 : decode cX7_person 38 = .ok (.invokestatic 42, 3) := by decide +kernel
theorem dX7_person_41 : decode cX7_person 41 = .ok (.ifCond .eq 17, 3) := by decide +kernel
theorem dX7_person_44 : decode cX7_person 44 = .ok (.iload 5, 2) := by decide +kernel
theorem dX7_person_46 : decode cX7_person 46 = .ok (.iload 4, 2) := by decide +kernel
theorem dX7_person_48 : decode cX7_person 48 = .ok (.iconst 1, 1) := by decide +kernel
theorem dX7_person_49 : decode cX7_person 49 = .ok (.iadd, 1) := by decide +kernel
theorem dX7_person_50 : decode cX7_person 50 = .ok (.bipush 100, 2) := by decide +kernel
theorem dX7_person_52 : decode cX7_person 52 = .ok (.invokestatic 42, 3) := by decide +kernel
theorem dX7_person_55 : decode cX7_person 55 = .ok (.ifCond .ne 9, 3) := by decide +kernel
theorem dX7_person_58 : decode cX7_person 58 = .ok (.aload_n 0, 1) := by decide +kernel
theorem dX7_person_59 : decode cX7_person 59 = .ok (.iconst 1, 1) := by decide +kernel
theorem dX7_person_60 : decode cX7_person 60 = .ok (.invokevirtual 93, 3) := by decide +kernel
theorem dX7_person_63 : decode cX7_person 63 = .ok (.ireturn, 1) := by decide +kernel
theorem dX7_person_64 : decode cX7_person 64 = .ok (.aload_n 0, 1) := by decide +kernel
theorem dX7_person_65 : decode cX7_person 65 = .ok (.getfield 10, 3) := by decide +kernel
theorem dX7_person_68 : decode cX7_person 68 = .ok (.invokevirtual 38, 3) := by decide +kernel
theorem dX7_person_71 : decode cX7_person 71 = .ok (.bipush 8, 2) := by decide +kernel
theorem dX7_person_73 : decode cX7_person 73 = .ok (.if_icmp .ne 9, 3) := by decide +kernel
theorem dX7_person_76 : decode cX7_person 76 = .ok (.aload_n 0, 1) := by decide +kernel
theorem dX7_person_77 : decode cX7_person 77 = .ok (.iconst 2, 1) := by decide +kernel
theorem dX7_person_78 : decode cX7_person 78 = .ok (.invokevirtual 93, 3) := by decide +kernel
theorem dX7_person_81 : decode cX7_person 81 = .ok (.ireturn, 1) := by decide +kernel
theorem dX7_person_82 : decode cX7_person 82 = .ok (.bipush 6, 2) := by decide +kernel
theorem dX7_person_84 : decode cX7_person 84 = .ok (.newarray .int, 2) := by decide +kernel
theorem dX7_person_86 : decode cX7_person 86 = .ok (.dup, 1) := by decide +kernel
theorem dX7_person_87 : decode cX7_person 87 = .ok (.iconst 0, 1) := by decide +kernel
theorem dX7_person_88 : decode cX7_person 88 = .ok (.iload_n 1, 1) := by decide +kernel
theorem dX7_person_89 : decode cX7_person 89 = .ok (.iastore, 1) := by decide +kernel
theorem dX7_person_90 : decode cX7_person 90 = .ok (.dup, 1) := by decide +kernel
theorem dX7_person_91 : decode cX7_person 91 = .ok (.iconst 1, 1) := by decide +kernel
theorem dX7_person_92 : decode cX7_person 92 = .ok (.iload_n 2, 1) := by decide +kernel
theorem dX7_person_93 : decode cX7_person 93 = .ok (.iastore, 1) := by decide +kernel
theorem dX7_person_94 : decode cX7_person 94 = .ok (.dup, 1) := by decide +kernel
theorem dX7_person_95 : decode cX7_person 95 = .ok (.iconst 2, 1) := by decide +kernel
theorem dX7_person_96 : decode cX7_person 96 = .ok (.iload_n 3, 1) := by decide +kernel
theorem dX7_person_97 : decode cX7_person 97 = .ok (.iastore, 1) := by decide +kernel
theorem dX7_person_98 : decode cX7_person 98 = .ok (.dup, 1) := by decide +kernel
theorem dX7_person_99 : decode cX7_person 99 = .ok (.iconst 3, 1) := by decide +kernel
theorem dX7_person_100 : decode cX7_person 100 = .ok (.iload 4, 2) := by decide +kernel
theorem dX7_person_102 : decode cX7_person 102 = .ok (.iastore, 1) := by decide +kernel
theorem dX7_person_103 : decode cX7_person 103 = .ok (.dup, 1) := by decide +kernel
theorem dX7_person_104 : decode cX7_person 104 = .ok (.iconst 4, 1) := by decide +kernel
theorem dX7_person_105 : decode cX7_person 105 = .ok (.iload 5, 2) := by decide +kernel
theorem dX7_person_107 : decode cX7_person 107 = .ok (.iastore, 1) := by decide +kernel
theorem dX7_person_108 : decode cX7_person 108 = .ok (.dup, 1) := by decide +kernel
theorem dX7_person_109 : decode cX7_person 109 = .ok (.iconst 5, 1) := by decide +kernel
theorem dX7_person_110 : decode cX7_person 110 = .ok (.iload 6, 2) := by decide +kernel
theorem dX7_person_112 : decode cX7_person 112 = .ok (.ifCond .eq 7, 3) := by decide +kernel
theorem dX7_person_115 : decode cX7_person 115 = .ok (.iconst 1, 1) := by decide +kernel
theorem dX7_person_116 : decode cX7_person 116 = .ok (.goto 4, 3) := by decide +kernel
theorem dX7_person_119 : decode cX7_person 119 = .ok (.iconst 0, 1) := by decide +kernel
theorem dX7_person_120 : decode cX7_person 120 = .ok (.iastore, 1) := by decide +kernel
theorem dX7_person_121 : decode cX7_person 121 = .ok (.astore 7, 2) := by decide +kernel
theorem dX7_person_123 : decode cX7_person 123 = .ok (.aload_n 0, 1) := by decide +kernel
theorem dX7_person_124 : decode cX7_person 124 = .ok (.getfield 10, 3) := by decide +kernel
theorem dX7_person_127 : decode cX7_person 127 = .ok (.aload 7, 2) := by decide +kernel
theorem dX7_person_129 : decode cX7_person 129 = .ok (.invokevirtual 97, 3) := by decide +kernel
theorem dX7_person_132 : decode cX7_person 132 = .ok (.pop, 1) := by decide +kernel
theorem dX7_person_133 : decode cX7_person 133 = .ok (.aload_n 0, 1) := by decide +kernel
theorem dX7_person_134 : decode cX7_person 134 = .ok (.getfield 10, 3) := by decide +kernel
theorem dX7_person_137 : decode cX7_person 137 = .ok (.invokevirtual 38, 3) := by decide +kernel
theorem dX7_person_140 : decode cX7_person 140 = .ok (.iconst 1, 1) := by decide +kernel
theorem dX7_person_141 : decode cX7_person 141 = .ok (.isub, 1) := by decide +kernel
theorem dX7_person_142 : decode cX7_person 142 = .ok (.ireturn, 1) := by decide +kernel
theorem dX7_figure_0 : decode cX7_figure 0 = .ok (.aload_n 0, 1) := by decide +kernel
theorem dX7_figure_1 : decode cX7_figure 1 = .ok (.iconst 0, 1) := by decide +kernel
theorem dX7_figure_2 : decode cX7_figure 2 = .ok (.putfield 35, 3) := by decide +kernel
theorem dX7_figure_5 : decode cX7_figure 5 = .ok (.aload_n 0, 1) := by decide +kernel
theorem dX7_figure_6 : decode cX7_figure 6 = .ok (.iload_n 1, 1) := by decide +kernel
theorem dX7_figure_7 : decode cX7_figure 7 = .ok (.invokevirtual 101, 3) := by decide +kernel
theorem dX7_figure_10 : decode cX7_figure 10 = .ok (.ifCond .ne 9, 3) := by decide +kernel
theorem dX7_figure_13 : decode cX7_figure 13 = .ok (.aload_n 0, 1) := by decide +kernel
theorem dX7_figure_14 : decode cX7_figure 14 = .ok (.iconst 1, 1) := by decide +kernel
theorem dX7_figure_15 : decode cX7_figure 15 = .ok (.invokevirtual 93, 3) := by decide +kernel
theorem dX7_figure_18 : decode cX7_figure 18 = .ok (.ireturn, 1) := by decide +kernel
theorem dX7_figure_19 : decode cX7_figure 19 = .ok (.iload_n 2, 1) := by decide +kernel
theorem dX7_figure_20 : decode cX7_figure 20 = .ok (.bipush 10, 2) := by decide +kernel
theorem dX7_figure_22 : decode cX7_figure 22 = .ok (.bipush 90, 2) := by decide +kernel
theorem dX7_figure_24 : decode cX7_figure 24 = .ok (.invokestatic 42, 3) := by decide +kernel
theorem dX7_figure_27 : decode cX7_figure 27 = .ok (.ifCond .ne 9, 3) := by decide +kernel
theorem dX7_figure_30 : decode cX7_figure 30 = .ok (.aload_n 0, 1) := by decide +kernel
theorem dX7_figure_31 : decode cX7_figure 31 = .ok (.iconst 2, 1) := by decide +kernel
theorem dX7_figure_32 : decode cX7_figure 32 = .ok (.invokevirtual 93, 3) := by decide +kernel
theorem dX7_figure_35 : decode cX7_figure 35 = .ok (.ireturn, 1) := by decide +kernel
theorem dX7_figure_36 : decode cX7_figure 36 = .ok (.aload_n 0, 1) := by decide +kernel
theorem dX7_figure_37 : decode cX7_figure 37 = .ok (.getfield 16, 3) := by decide +kernel
theorem dX7_figure_40 : decode cX7_figure 40 = .ok (.invokevirtual 38, 3) := by decide +kernel
theorem dX7_figure_43 : decode cX7_figure 43 = .ok (.bipush 12, 2) := by decide +kernel
theorem dX7_figure_45 : decode cX7_figure 45 = .ok (.if_icmp .ne 9, 3) := by decide +kernel
theorem dX7_figure_48 : decode cX7_figure 48 = .ok (.aload_n 0, 1) := by decide +kernel
theorem dX7_figure_49 : decode cX7_figure 49 = .ok (.iconst 3, 1) := by decide +kernel
theorem dX7_figure_50 : decode cX7_figure 50 = .ok (.invokevirtual 93, 3) := by decide +kernel
theorem dX7_figure_53 : decode cX7_figure 53 = .ok (.ireturn, 1) := by decide +kernel
theorem dX7_figure_54 : decode cX7_figure 54 = .ok (.bipush 6, 2) := by decide +kernel
theorem dX7_figure_56 : decode cX7_figure 56 = .ok (.newarray .int, 2) := by decide +kernel
theorem dX7_figure_58 : decode cX7_figure 58 = .ok (.dup, 1) := by decide +kernel
theorem dX7_figure_59 : decode cX7_figure 59 = .ok (.iconst 0, 1) := by decide +kernel
theorem dX7_figure_60 : decode cX7_figure 60 = .ok (.iload_n 1, 1) := by decide +kernel
theorem dX7_figure_61 : decode cX7_figure 61 = .ok (.iastore, 1) := by decide +kernel
theorem dX7_figure_62 : decode cX7_figure 62 = .ok (.dup, 1) := by decide +kernel
theorem dX7_figure_63 : decode cX7_figure 63 = .ok (.iconst 1, 1) := by decide +kernel
theorem dX7_figure_64 : decode cX7_figure 64 = .ok (.iload_n 2, 1) := by decide +kernel
theorem dX7_figure_65 : decode cX7_figure 65 = .ok (.iastore, 1) := by decide +kernel
theorem dX7_figure_66 : decode cX7_figure 66 = .ok (.dup, 1) := by decide +kernel
theorem dX7_figure_67 : decode cX7_figure 67 = .ok (.iconst 2, 1) := by decide +kernel
theorem dX7_figure_68 : decode cX7_figure 68 = .ok (.iconst 0, 1) := by decide +kernel
theorem dX7_figure_69 : decode cX7_figure 69 = .ok (.iastore, 1) := by decide +kernel
theorem dX7_figure_70 : decode cX7_figure 70 = .ok (.dup, 1) := by decide +kernel
theorem dX7_figure_71 : decode cX7_figure 71 = .ok (.iconst 3, 1) := by decide +kernel
theorem dX7_figure_72 : decode cX7_figure 72 = .ok (.iconst 0, 1) := by decide +kernel
theorem dX7_figure_73 : decode cX7_figure 73 = .ok (.iastore, 1) := by decide +kernel
theorem dX7_figure_74 : decode cX7_figure 74 = .ok (.dup, 1) := by decide +kernel
theorem dX7_figure_75 : decode cX7_figure 75 = .ok (.iconst 4, 1) := by decide +kernel
theorem dX7_figure_76 : decode cX7_figure 76 = .ok (.iconst (-1), 1) := by decide +kernel
theorem dX7_figure_77 : decode cX7_figure 77 = .ok (.iastore, 1) := by decide +kernel
theorem dX7_figure_78 : decode cX7_figure 78 = .ok (.dup, 1) := by decide +kernel
theorem dX7_figure_79 : decode cX7_figure 79 = .ok (.iconst 5, 1) := by decide +kernel
theorem dX7_figure_80 : decode cX7_figure 80 = .ok (.iconst 0, 1) := by decide +kernel
theorem dX7_figure_81 : decode cX7_figure 81 = .ok (.iastore, 1) := by decide +kernel
theorem dX7_figure_82 : decode cX7_figure 82 = .ok (.astore_n 3, 1) := by decide +kernel
theorem dX7_figure_83 : decode cX7_figure 83 = .ok (.aload_n 0, 1) := by decide +kernel
theorem dX7_figure_84 : decode cX7_figure 84 = .ok (.getfield 16, 3) := by decide +kernel
theorem dX7_figure_87 : decode cX7_figure 87 = .ok (.aload_n 3, 1) := by decide +kernel
theorem dX7_figure_88 : decode cX7_figure 88 = .ok (.invokevirtual 97, 3) := by decide +kernel
theorem dX7_figure_91 : decode cX7_figure 91 = .ok (.pop, 1) := by decide +kernel
theorem dX7_figure_92 : decode cX7_figure 92 = .ok (.aload_n 0, 1) := by decide +kernel
theorem dX7_figure_93 : decode cX7_figure 93 = .ok (.getfield 16, 3) := by decide +kernel
theorem dX7_figure_96 : decode cX7_figure 96 = .ok (.invokevirtual 38, 3) := by decide +kernel
theorem dX7_figure_99 : decode cX7_figure 99 = .ok (.iconst 1, 1) := by decide +kernel
theorem dX7_figure_100 : decode cX7_figure 100 = .ok (.isub, 1) := by decide +kernel
theorem dX7_figure_101 : decode cX7_figure 101 = .ok (.ireturn, 1) := by decide +kernel
theorem dX7_isOf_0 : decode cX7_isOf 0 = .ok (.iload_n 1, 1) := by decide +kernel
theorem dX7_isOf_1 : decode cX7_isOf 1 = .ok (.iconst (-1), 1) := by decide +kernel
theorem dX7_isOf_2 : decode cX7_isOf 2 = .ok (.if_icmp .eq 20, 3) := by decide +kernel
theorem dX7_isOf_5 : decode cX7_isOf 5 = .ok (.aload_n 0, 1) := by decide +kernel
theorem dX7_isOf_6 : decode cX7_isOf 6 = .ok (.iload_n 1, 1) := by decide +kernel
theorem dX7_isOf_7 : decode cX7_isOf 7 = .ok (.invokevirtual 101, 3) := by decide +kernel
theorem dX7_isOf_10 : decode cX7_isOf 10 = .ok (.ifCond .eq 16, 3) := by decide +kernel
theorem dX7_isOf_13 : decode cX7_isOf 13 = .ok (.iload_n 2, 1) := by decide +kernel
theorem dX7_isOf_14 : decode cX7_isOf 14 = .ok (.iload_n 1, 1) := by decide +kernel
theorem dX7_isOf_15 : decode cX7_isOf 15 = .ok (.ishr, 1) := by decide +kernel
theorem dX7_isOf_16 : decode cX7_isOf 16 = .ok (.iconst 1, 1) := by decide +kernel
theorem dX7_isOf_17 : decode cX7_isOf 17 = .ok (.iand, 1) := by decide +kernel
theorem dX7_isOf_18 : decode cX7_isOf 18 = .ok (.iconst 1, 1) := by decide +kernel
theorem dX7_isOf_19 : decode cX7_isOf 19 = .ok (.if_icmp .ne 7, 3) := by decide +kernel
theorem dX7_isOf_22 : decode cX7_isOf 22 = .ok (.iconst 1, 1) := by decide +kernel
theorem dX7_isOf_23 : decode cX7_isOf 23 = .ok (.goto 4, 3) := by decide +kernel
theorem dX7_isOf_26 : decode cX7_isOf 26 = .ok (.iconst 0, 1) := by decide +kernel
theorem dX7_isOf_27 : decode cX7_isOf 27 = .ok (.ireturn, 1) := by decide +kernel
theorem dX7_scene_0 : decode cX7_scene 0 = .ok (.aload_n 0, 1) := by decide +kernel
theorem dX7_scene_1 : decode cX7_scene 1 = .ok (.iconst 0, 1) := by decide +kernel
theorem dX7_scene_2 : decode cX7_scene 2 = .ok (.putfield 35, 3) := by decide +kernel
theorem dX7_scene_5 : decode cX7_scene 5 = .ok (.iload_n 1, 1) := by decide +kernel
theorem dX7_scene_6 : decode cX7_scene 6 = .ok (.iconst 0, 1) := by decide +kernel
theorem dX7_scene_7 : decode cX7_scene 7 = .ok (.bipush 100, 2) := by decide +kernel
theorem dX7_scene_9 : decode cX7_scene 9 = .ok (.invokestatic 42, 3) := by decide +kernel
theorem dX7_scene_12 : decode cX7_scene 12 = .ok (.ifCond .eq 62, 3) := by decide +kernel
theorem dX7_scene_15 : decode cX7_scene 15 = .ok (.iload_n 2, 1) := by decide +kernel
theorem dX7_scene_16 : decode cX7_scene 16 = .ok (.iconst 0, 1) := by decide +kernel
theorem dX7_scene_17 : decode cX7_scene 17 = .ok (.iconst 3, 1) := by decide +kernel
theorem dX7_scene_18 : decode cX7_scene 18 = .ok (.invokestatic 42, 3) := by decide +kernel
theorem dX7_scene_21 : decode cX7_scene 21 = .ok (.ifCond .eq 53, 3) := by decide +kernel
theorem dX7_scene_24 : decode cX7_scene 24 = .ok (.iload_n 3, 1) := by decide +kernel
theorem dX7_scene_25 : decode cX7_scene 25 = .ok (.iconst 1, 1) := by decide +kernel
theorem dX7_scene_26 : decode cX7_scene 26 = .ok (.iconst 1, 1) := by decide +kernel
theorem dX7_scene_27 : decode cX7_scene 27 = .ok (.aload_n 0, 1) := by decide +kernel
theorem dX7_scene_28 : decode cX7_scene 28 = .ok (.getfield 10, 3) := by decide +kernel
theorem dX7_scene_31 : decode cX7_scene 31 = .ok (.invokevirtual 38, 3) := by decide +kernel
theorem dX7_scene_34 : decode cX7_scene 34 = .ok (.ishl, 1) := by decide +kernel
theorem dX7_scene_35 : decode cX7_scene 35 = .ok (.iconst 1, 1) := by decide +kernel
theorem dX7_scene_36 : decode cX7_scene 36 = .ok (.isub, 1) := by decide +kernel
theorem dX7_scene_37 : decode cX7_scene 37 = .ok (.invokestatic 42, 3) := by decide +kernel
theorem dX7_scene_40 : decode cX7_scene 40 = .ok (.ifCond .eq 34, 3) := by decide +kernel
theorem dX7_scene_43 : decode cX7_scene 43 = .ok (.iload 4, 2) := by decide +kernel
theorem dX7_scene_45 : decode cX7_scene 45 = .ok (.iconst 5, 1) := by decide +kernel
theorem dX7_scene_46 : decode cX7_scene 46 = .ok (.bipush 90, 2) := by decide +kernel
theorem dX7_scene_48 : decode cX7_scene 48 = .ok (.invokestatic 42, 3) := by decide +kernel
theorem dX7_scene_51 : decode cX7_scene 51 = .ok (.ifCond .eq 23, 3) := by decide +kernel
theorem dX7_scene_54 : decode cX7_scene 54 = .ok (.aload_n 0, 1) := by decide +kernel
theorem dX7_scene_55 : decode cX7_scene 55 = .ok (.iload 5, 2) := by decide +kernel
theorem dX7_scene_57 : decode cX7_scene 57 = .ok (.iload_n 3, 1) := by decide +kernel
theorem dX7_scene_58 : decode cX7_scene 58 = .ok (.invokevirtual 105, 3) := by decide +kernel
theorem dX7_scene_61 : decode cX7_scene 61 = .ok (.ifCond .eq 13, 3) := by decide +kernel
theorem dX7_scene_64 : decode cX7_scene 64 = .ok (.aload_n 0, 1) := by decide +kernel
theorem dX7_scene_65 : decode cX7_scene 65 = .ok (.iload 6, 2) := by decide +kernel
theorem dX7_scene_67 : decode cX7_scene 67 = .ok (.iload_n 3, 1) := by decide +kernel
theorem dX7_scene_68 : decode cX7_scene 68 = .ok (.invokevirtual 105, 3) := by decide +kernel
theorem dX7_scene_71 : decode cX7_scene 71 = .ok (.ifCond .ne 9, 3) := by decide +kernel
theorem dX7_scene_74 : decode cX7_scene 74 = .ok (.aload_n 0, 1) := by decide +kernel
theorem dX7_scene_75 : decode cX7_scene 75 = .ok (.iconst 1, 1) := by decide +kernel
theorem dX7_scene_76 : decode cX7_scene 76 = .ok (.invokevirtual 93, 3) := by decide +kernel
theorem dX7_scene_79 : decode cX7_scene 79 = .ok (.ireturn, 1) := by decide +kernel
theorem dX7_scene_80 : decode cX7_scene 80 = .ok (.aload_n 0, 1) := by decide +kernel
theorem dX7_scene_81 : decode cX7_scene 81 = .ok (.getfield 19, 3) := by decide +kernel
theorem dX7_scene_84 : decode cX7_scene 84 = .ok (.invokevirtual 38, 3) := by decide +kernel
theorem dX7_scene_87 : decode cX7_scene 87 = .ok (.bipush 10, 2) := by decide +kernel
theorem dX7_scene_89 : decode cX7_scene 89 = .ok (.if_icmp .ne 9, 3) := by decide +kernel
theorem dX7_scene_92 : decode cX7_scene 92 = .ok (.aload_n 0, 1) := by decide +kernel
theorem dX7_scene_93 : decode cX7_scene 93 = .ok (.iconst 2, 1) := by decide +kernel
theorem dX7_scene_94 : decode cX7_scene 94 = .ok (.invokevirtual 93, 3) := by decide +kernel
theorem dX7_scene_97 : decode cX7_scene 97 = .ok (.ireturn, 1) := by decide +kernel
theorem dX7_scene_98 : decode cX7_scene 98 = .ok (.bipush 6, 2) := by decide +kernel
theorem dX7_scene_100 : decode cX7_scene 100 = .ok (.newarray .int, 2) := by decide +kernel
theorem dX7_scene_102 : decode cX7_scene 102 = .ok (.dup, 1) := by decide +kernel
theorem dX7_scene_103 : decode cX7_scene 103 = .ok (.iconst 0, 1) := by decide +kernel
theorem dX7_scene_104 : decode cX7_scene 104 = .ok (.iload_n 1, 1) := by decide +kernel
theorem dX7_scene_105 : decode cX7_scene 105 = .ok (.iastore, 1) := by decide +kernel
theorem dX7_scene_106 : decode cX7_scene 106 = .ok (.dup, 1) := by decide +kernel
theorem dX7_scene_107 : decode cX7_scene 107 = .ok (.iconst 1, 1) := by decide +kernel
theorem dX7_scene_108 : decode cX7_scene 108 = .ok (.iload_n 2, 1) := by decide +kernel
theorem dX7_scene_109 : decode cX7_scene 109 = .ok (.iastore, 1) := by decide +kernel
theorem dX7_scene_110 : decode cX7_scene 110 = .ok (.dup, 1) := by decide +kernel
theorem dX7_scene_111 : decode cX7_scene 111 = .ok (.iconst 2, 1) := by decide +kernel
theorem dX7_scene_112 : decode cX7_scene 112 = .ok (.iload_n 3, 1) := by decide +kernel
theorem dX7_scene_113 : decode cX7_scene 113 = .ok (.iastore, 1) := by decide +kernel
theorem dX7_scene_114 : decode cX7_scene 114 = .ok (.dup, 1) := by decide +kernel
theorem dX7_scene_115 : decode cX7_scene 115 = .ok (.iconst 3, 1) := by decide +kernel
theorem dX7_scene_116 : decode cX7_scene 116 = .ok (.iload 4, 2) := by decide +kernel
theorem dX7_scene_118 : decode cX7_scene 118 = .ok (.iastore, 1) := by decide +kernel
theorem dX7_scene_119 : decode cX7_scene 119 = .ok (.dup, 1) := by decide +kernel
theorem dX7_scene_120 : decode cX7_scene 120 = .ok (.iconst 4, 1) := by decide +kernel
theorem dX7_scene_121 : decode cX7_scene 121 = .ok (.iload 5, 2) := by decide +kernel
theorem dX7_scene_123 : decode cX7_scene 123 = .ok (.iastore, 1) := by decide +kernel
theorem dX7_scene_124 : decode cX7_scene 124 = .ok (.dup, 1) := by decide +kernel
theorem dX7_scene_125 : decode cX7_scene 125 = .ok (.iconst 5, 1) := by decide +kernel
theorem dX7_scene_126 : decode cX7_scene 126 = .ok (.iload 6, 2) := by decide +kernel
theorem dX7_scene_128 : decode cX7_scene 128 = .ok (.iastore, 1) := by decide +kernel
theorem dX7_scene_129 : decode cX7_scene 129 = .ok (.astore 7, 2) := by decide +kernel
theorem dX7_scene_131 : decode cX7_scene 131 = .ok (.aload_n 0, 1) := by decide +kernel
theorem dX7_scene_132 : decode cX7_scene 132 = .ok (.getfield 19, 3) := by decide +kernel
theorem dX7_scene_135 : decode cX7_scene 135 = .ok (.aload 7, 2) := by decide +kernel
theorem dX7_scene_137 : decode cX7_scene 137 = .ok (.invokevirtual 97, 3) := by decide +kernel
theorem dX7_scene_140 : decode cX7_scene 140 = .ok (.pop, 1) := by decide +kernel
theorem dX7_scene_141 : decode cX7_scene 141 = .ok (.aload_n 0, 1) := by decide +kernel
theorem dX7_scene_142 : decode cX7_scene 142 = .ok (.getfield 19, 3) := by decide +kernel
theorem dX7_scene_145 : decode cX7_scene 145 = .ok (.invokevirtual 38, 3) := by decide +kernel
theorem dX7_scene_148 : decode cX7_scene 148 = .ok (.iconst 1, 1) := by decide +kernel
theorem dX7_scene_149 : decode cX7_scene 149 = .ok (.isub, 1) := by decide +kernel
theorem dX7_scene_150 : decode cX7_scene 150 = .ok (.ireturn, 1) := by decide +kernel
theorem dX7_length_0 : decode cX7_length 0 = .ok (.aload_n 0, 1) := by decide +kernel
theorem dX7_length_1 : decode cX7_length 1 = .ok (.iconst 0, 1) := by decide +kernel
theorem dX7_length_2 : decode cX7_length 2 = .ok (.putfield 35, 3) := by decide +kernel
theorem dX7_length_5 : decode cX7_length 5 = .ok (.aload_n 0, 1) := by decide +kernel
theorem dX7_length_6 : decode cX7_length 6 = .ok (.iload_n 1, 1) := by decide +kernel
theorem dX7_length_7 : decode cX7_length 7 = .ok (.invokevirtual 109, 3) := by decide +kernel
theorem dX7_length_10 : decode cX7_length 10 = .ok (.ifCond .ne 9, 3) := by decide +kernel
theorem dX7_length_13 : decode cX7_length 13 = .ok (.aload_n 0, 1) := by decide +kernel
theorem dX7_length_14 : decode cX7_length 14 = .ok (.iconst 1, 1) := by decide +kernel
theorem dX7_length_15 : decode cX7_length 15 = .ok (.invokevirtual 93, 3) := by decide +kernel
theorem dX7_length_18 : decode cX7_length 18 = .ok (.ireturn, 1) := by decide +kernel
theorem dX7_length_19 : decode cX7_length 19 = .ok (.iload_n 2, 1) := by decide +kernel
theorem dX7_length_20 : decode cX7_length 20 = .ok (.iconst 5, 1) := by decide +kernel
theorem dX7_length_21 : decode cX7_length 21 = .ok (.bipush 90, 2) := by decide +kernel
theorem dX7_length_23 : decode cX7_length 23 = .ok (.invokestatic 42, 3) := by decide +kernel
theorem dX7_length_26 : decode cX7_length 26 = .ok (.ifCond .ne 9, 3) := by decide +kernel
theorem dX7_length_29 : decode cX7_length 29 = .ok (.aload_n 0, 1) := by decide +kernel
theorem dX7_length_30 : decode cX7_length 30 = .ok (.iconst 2, 1) := by decide +kernel
theorem dX7_length_31 : decode cX7_length 31 = .ok (.invokevirtual 93, 3) := by decide +kernel
theorem dX7_length_34 : decode cX7_length 34 = .ok (.ireturn, 1) := by decide +kernel
theorem dX7_length_35 : decode cX7_length 35 = .ok (.aload_n 0, 1) := by decide +kernel
theorem dX7_length_36 : decode cX7_length 36 = .ok (.getfield 19, 3) := by decide +kernel
theorem dX7_length_39 : decode cX7_length 39 = .ok (.iload_n 1, 1) := by decide +kernel
theorem dX7_length_40 : decode cX7_length 40 = .ok (.invokevirtual 48, 3) := by decide +kernel
theorem dX7_length_43 : decode cX7_length 43 = .ok (.checkcast 52, 3) := by decide +kernel
theorem dX7_length_46 : decode cX7_length 46 = .ok (.astore_n 3, 1) := by decide +kernel
theorem dX7_length_47 : decode cX7_length 47 = .ok (.aload_n 0, 1) := by decide +kernel
theorem dX7_length_48 : decode cX7_length 48 = .ok (.aload_n 0, 1) := by decide +kernel
theorem dX7_length_49 : decode cX7_length 49 = .ok (.getfield 19, 3) := by decide +kernel
theorem dX7_length_52 : decode cX7_length 52 = .ok (.invokevirtual 68, 3) := by decide +kernel
theorem dX7_length_55 : decode cX7_length 55 = .ok (.iload_n 1, 1) := by decide +kernel
theorem dX7_length_56 : decode cX7_length 56 = .ok (.aaload, 1) := by decide +kernel
theorem dX7_length_57 : decode cX7_length 57 = .ok (.iconst 0, 1) := by decide +kernel
theorem dX7_length_58 : decode cX7_length 58 = .ok (.iaload, 1) := by decide +kernel
theorem dX7_length_59 : decode cX7_length 59 = .ok (.aload_n 3, 1) := by decide +kernel
theorem dX7_length_60 : decode cX7_length 60 = .ok (.iconst 3, 1) := by decide +kernel
theorem dX7_length_61 : decode cX7_length 61 = .ok (.iaload, 1) := by decide +kernel
theorem dX7_length_62 : decode cX7_length 62 = .ok (.iadd, 1) := by decide +kernel
theorem dX7_length_63 : decode cX7_length 63 = .ok (.aload_n 0, 1) := by decide +kernel
theorem dX7_length_64 : decode cX7_length 64 = .ok (.getfield 86, 3) := by decide +kernel
theorem dX7_length_67 : decode cX7_length 67 = .ok (.if_icmp .gt 9, 3) := by decide +kernel
theorem dX7_length_70 : decode cX7_length 70 = .ok (.aload_n 0, 1) := by decide +kernel
theorem dX7_length_71 : decode cX7_length 71 = .ok (.iconst 3, 1) := by decide +kernel
theorem dX7_length_72 : decode cX7_length 72 = .ok (.invokevirtual 93, 3) := by decide +kernel
theorem dX7_length_75 : decode cX7_length 75 = .ok (.ireturn, 1) := by decide +kernel
theorem dX7_length_76 : decode cX7_length 76 = .ok (.aload_n 3, 1) := by decide +kernel
theorem dX7_length_77 : decode cX7_length 77 = .ok (.iconst 3, 1) := by decide +kernel
theorem dX7_length_78 : decode cX7_length 78 = .ok (.iaload, 1) := by decide +kernel
theorem dX7_length_79 : decode cX7_length 79 = .ok (.istore 4, 2) := by decide +kernel
theorem dX7_length_81 : decode cX7_length 81 = .ok (.aload_n 3, 1) := by decide +kernel
theorem dX7_length_82 : decode cX7_length 82 = .ok (.iconst 3, 1) := by decide +kernel
theorem dX7_length_83 : decode cX7_length 83 = .ok (.iload_n 2, 1) := by decide +kernel
theorem dX7_length_84 : decode cX7_length 84 = .ok (.iastore, 1) := by decide +kernel
theorem dX7_length_85 : decode cX7_length 85 = .ok (.iload 4, 2) := by decide +kernel
theorem dX7_length_87 : decode cX7_length 87 = .ok (.ireturn, 1) := by decide +kernel
theorem dX7_swap_0 : decode cX7_swap 0 = .ok (.aload_n 0, 1) := by decide +kernel
theorem dX7_swap_1 : decode cX7_swap 1 = .ok (.iconst 0, 1) := by decide +kernel
theorem dX7_swap_2 : decode cX7_swap 2 = .ok (.putfield 35, 3) := by decide +kernel
theorem dX7_swap_5 : decode cX7_swap 5 = .ok (.aload_n 0, 1) := by decide +kernel
theorem dX7_swap_6 : decode cX7_swap 6 = .ok (.iload_n 1, 1) := by decide +kernel
theorem dX7_swap_7 : decode cX7_swap 7 = .ok (.invokevirtual 109, 3) := by decide +kernel
theorem dX7_swap_10 : decode cX7_swap 10 = .ok (.ifCond .eq 11, 3) := by decide +kernel
theorem dX7_swap_13 : decode cX7_swap 13 = .ok (.aload_n 0, 1) := by decide +kernel
theorem dX7_swap_14 : decode cX7_swap 14 = .ok (.iload_n 2, 1) := by decide +kernel
theorem dX7_swap_15 : decode cX7_swap 15 = .ok (.invokevirtual 109, 3) := by decide +kernel
theorem dX7_swap_18 : decode cX7_swap 18 = .ok (.ifCond .ne 9, 3) := by decide +kernel
theorem dX7_swap_21 : decode cX7_swap 21 = .ok (.aload_n 0, 1) := by decide +kernel
theorem dX7_swap_22 : decode cX7_swap 22 = .ok (.iconst 1, 1) := by decide +kernel
theorem dX7_swap_23 : decode cX7_swap 23 = .ok (.invokevirtual 93, 3) := by decide +kernel
theorem dX7_swap_26 : decode cX7_swap 26 = .ok (.ireturn, 1) := by decide +kernel
theorem dX7_swap_27 : decode cX7_swap 27 = .ok (.aload_n 0, 1) := by decide +kernel
theorem dX7_swap_28 : decode cX7_swap 28 = .ok (.getfield 86, 3) := by decide +kernel
theorem dX7_swap_31 : decode cX7_swap 31 = .ok (.ifCond .le 9, 3) := by decide +kernel
theorem dX7_swap_34 : decode cX7_swap 34 = .ok (.aload_n 0, 1) := by decide +kernel
theorem dX7_swap_35 : decode cX7_swap 35 = .ok (.iconst 2, 1) := by decide +kernel
theorem dX7_swap_36 : decode cX7_swap 36 = .ok (.invokevirtual 93, 3) := by decide +kernel
theorem dX7_swap_39 : decode cX7_swap 39 = .ok (.ireturn, 1) := by decide +kernel
theorem dX7_swap_40 : decode cX7_swap 40 = .ok (.aload_n 0, 1) := by decide +kernel
theorem dX7_swap_41 : decode cX7_swap 41 = .ok (.getfield 19, 3) := by decide +kernel
theorem dX7_swap_44 : decode cX7_swap 44 = .ok (.iload_n 1, 1) := by decide +kernel
theorem dX7_swap_45 : decode cX7_swap 45 = .ok (.iload_n 2, 1) := by decide +kernel
theorem dX7_swap_46 : decode cX7_swap 46 = .ok (.invokestatic 112, 3) := by decide +kernel
theorem dX7_swap_49 : decode cX7_swap 49 = .ok (.aload_n 0, 1) := by decide +kernel
theorem dX7_swap_50 : decode cX7_swap 50 = .ok (.aload_n 0, 1) := by decide +kernel
theorem dX7_swap_51 : decode cX7_swap 51 = .ok (.getfield 19, 3) := by decide +kernel
theorem dX7_swap_54 : decode cX7_swap 54 = .ok (.invokevirtual 116, 3) := by decide +kernel
theorem dX7_swap_57 : decode cX7_swap 57 = .ok (.ireturn, 1) := by decide +kernel
theorem dX7_lamp_0 : decode cX7_lamp 0 = .ok (.aload_n 0, 1) := by decide +kernel
theorem dX7_lamp_1 : decode cX7_lamp 1 = .ok (.iconst 0, 1) := by decide +kernel
theorem dX7_lamp_2 : decode cX7_lamp 2 = .ok (.putfield 35, 3) := by decide +kernel
theorem dX7_lamp_5 : decode cX7_lamp 5 = .ok (.iload_n 1, 1) := by decide +kernel
theorem dX7_lamp_6 : decode cX7_lamp 6 = .ok (.bipush 20, 2) := by decide +kernel
theorem dX7_lamp_8 : decode cX7_lamp 8 = .ok (.bipush 80, 2) := by decide +kernel
theorem dX7_lamp_10 : decode cX7_lamp 10 = .ok (.invokestatic 42, 3) := by decide +kernel
theorem dX7_lamp_13 : decode cX7_lamp 13 = .ok (.ifCond .eq 13, 3) := by decide +kernel
theorem dX7_lamp_16 : decode cX7_lamp 16 = .ok (.iload_n 2, 1) := by decide +kernel
theorem dX7_lamp_17 : decode cX7_lamp 17 = .ok (.iconst 0, 1) := by decide +kernel
theorem dX7_lamp_18 : decode cX7_lamp 18 = .ok (.bipush 9, 2) := by decide +kernel
theorem dX7_lamp_20 : decode cX7_lamp 20 = .ok (.invokestatic 42, 3) := by decide +kernel
theorem dX7_lamp_23 : decode cX7_lamp 23 = .ok (.ifCond .ne 9, 3) := by decide +kernel
theorem dX7_lamp_26 : decode cX7_lamp 26 = .ok (.aload_n 0, 1) := by decide +kernel
theorem dX7_lamp_27 : decode cX7_lamp 27 = .ok (.iconst 1, 1) := by decide +kernel
theorem dX7_lamp_28 : decode cX7_lamp 28 = .ok (.invokevirtual 93, 3) := by decide +kernel
theorem dX7_lamp_31 : decode cX7_lamp 31 = .ok (.ireturn, 1) := by decide +kernel
theorem dX7_lamp_32 : decode cX7_lamp 32 = .ok (.aload_n 0, 1) := by decide +kernel
theorem dX7_lamp_33 : decode cX7_lamp 33 = .ok (.getfield 22, 3) := by decide +kernel
theorem dX7_lamp_36 : decode cX7_lamp 36 = .ok (.istore_n 3, 1) := by decide +kernel
theorem dX7_lamp_37 : decode cX7_lamp 37 = .ok (.aload_n 0, 1) := by decide +kernel
theorem dX7_lamp_38 : decode cX7_lamp 38 = .ok (.iload_n 1, 1) := by decide +kernel
theorem dX7_lamp_39 : decode cX7_lamp 39 = .ok (.putfield 22, 3) := by decide +kernel
theorem dX7_lamp_42 : decode cX7_lamp 42 = .ok (.aload_n 0, 1) := by decide +kernel
theorem dX7_lamp_43 : decode cX7_lamp 43 = .ok (.iload_n 2, 1) := by decide +kernel
theorem dX7_lamp_44 : decode cX7_lamp 44 = .ok (.putfield 120, 3) := by decide +kernel
theorem dX7_lamp_47 : decode cX7_lamp 47 = .ok (.iload_n 3, 1) := by decide +kernel
theorem dX7_lamp_48 : decode cX7_lamp 48 = .ok (.ireturn, 1) := by decide +kernel
theorem dX7_at_0 : decode cX7_at 0 = .ok (.iconst 0, 1) := by decide +kernel
theorem dX7_at_1 : decode cX7_at 1 = .ok (.istore_n 3, 1) := by decide +kernel
theorem dX7_at_2 : decode cX7_at 2 = .ok (.iload_n 3, 1) := by decide +kernel
theorem dX7_at_3 : decode cX7_at 3 = .ok (.aload_n 0, 1) := by decide +kernel
theorem dX7_at_4 : decode cX7_at 4 = .ok (.getfield 16, 3) := by decide +kernel
theorem dX7_at_7 : decode cX7_at 7 = .ok (.invokevirtual 38, 3) := by decide +kernel
theorem dX7_at_10 : decode cX7_at 10 = .ok (.if_icmp .ge 28, 3) := by decide +kernel
theorem dX7_at_13 : decode cX7_at 13 = .ok (.aload_n 0, 1) := by decide +kernel
theorem dX7_at_14 : decode cX7_at 14 = .ok (.getfield 16, 3) := by decide +kernel
theorem dX7_at_17 : decode cX7_at 17 = .ok (.iload_n 3, 1) := by decide +kernel
theorem dX7_at_18 : decode cX7_at 18 = .ok (.invokevirtual 48, 3) := by decide +kernel
theorem dX7_at_21 : decode cX7_at 21 = .ok (.checkcast 52, 3) := by decide +kernel
theorem dX7_at_24 : decode cX7_at 24 = .ok (.iconst 4, 1) := by decide +kernel
theorem dX7_at_25 : decode cX7_at 25 = .ok (.iaload, 1) := by decide +kernel
theorem dX7_at_26 : decode cX7_at 26 = .ok (.iload_n 1, 1) := by decide +kernel
theorem dX7_at_27 : decode cX7_at 27 = .ok (.if_icmp .ne 5, 3) := by decide +kernel
theorem dX7_at_30 : decode cX7_at 30 = .ok (.iload_n 3, 1) := by decide +kernel
theorem dX7_at_31 : decode cX7_at 31 = .ok (.ireturn, 1) := by decide +kernel
theorem dX7_at_32 : decode cX7_at 32 = .ok (.iinc 3 1, 3) := by decide +kernel
theorem dX7_at_35 : decode cX7_at 35 = .ok (.goto (-33), 3) := by decide +kernel
theorem dX7_at_38 : decode cX7_at 38 = .ok (.iload_n 2, 1) := by decide +kernel
theorem dX7_at_39 : decode cX7_at 39 = .ok (.ireturn, 1) := by decide +kernel
theorem dX7_isFree_0 : decode cX7_isFree 0 = .ok (.aload_n 0, 1) := by decide +kernel
theorem dX7_isFree_1 : decode cX7_isFree 1 = .ok (.getfield 16, 3) := by decide +kernel
theorem dX7_isFree_4 : decode cX7_isFree 4 = .ok (.invokevirtual 72, 3) := by decide +kernel
theorem dX7_isFree_7 : decode cX7_isFree 7 = .ok (.astore_n 2, 1) := by decide +kernel
theorem dX7_isFree_8 : decode cX7_isFree 8 = .ok (.aload_n 2, 1) := by decide +kernel
theorem dX7_isFree_9 : decode cX7_isFree 9 = .ok (.invokeinterface 76 1, 5) := by decide +kernel
theorem dX7_isFree_14 : decode cX7_isFree 14 = .ok (.ifCond .eq 25, 3) := by decide +kernel
theorem dX7_isFree_17 : decode cX7_isFree 17 = .ok (.aload_n 2, 1) := by decide +kernel
theorem dX7_isFree_18 : decode cX7_isFree 18 = .ok (.invokeinterface 82 1, 5) := by decide +kernel
theorem dX7_isFree_23 : decode cX7_isFree 23 = .ok (.checkcast 52, 3) := by decide +kernel
theorem dX7_isFree_26 : decode cX7_isFree 26 = .ok (.astore_n 3, 1) := by decide +kernel
theorem dX7_isFree_27 : decode cX7_isFree 27 = .ok (.aload_n 3, 1) := by decide +kernel
theorem dX7_isFree_28 : decode cX7_isFree 28 = .ok (.iconst 3, 1) := by decide +kernel
theorem dX7_isFree_29 : decode cX7_isFree 29 = .ok (.iaload, 1) := by decide +kernel
theorem dX7_isFree_30 : decode cX7_isFree 30 = .ok (.iload_n 1, 1) := by decide +kernel
theorem dX7_isFree_31 : decode cX7_isFree 31 = .ok (.if_icmp .ne 5, 3) := by decide +kernel
theorem dX7_isFree_34 : decode cX7_isFree 34 = .ok (.iconst 0, 1) := by decide +kernel
theorem dX7_isFree_35 : decode cX7_isFree 35 = .ok (.ireturn, 1) := by decide +kernel
theorem dX7_isFree_36 : decode cX7_isFree 36 = .ok (.goto (-28), 3) := by decide +kernel
theorem dX7_isFree_39 : decode cX7_isFree 39 = .ok (.iconst 1, 1) := by decide +kernel
theorem dX7_isFree_40 : decode cX7_isFree 40 = .ok (.ireturn, 1) := by decide +kernel
theorem dX7_reaches_0 : decode cX7_reaches 0 = .ok (.iload_n 0, 1) := by decide +kernel
theorem dX7_reaches_1 : decode cX7_reaches 1 = .ok (.iconst 2, 1) := by decide +kernel
theorem dX7_reaches_2 : decode cX7_reaches 2 = .ok (.if_icmp .ne 12, 3) := by decide +kernel
theorem dX7_reaches_5 : decode cX7_reaches 5 = .ok (.iload_n 1, 1) := by decide +kernel
theorem dX7_reaches_6 : decode cX7_reaches 6 = .ok (.iconst 0, 1) := by decide +kernel
theorem dX7_reaches_7 : decode cX7_reaches 7 = .ok (.iconst 5, 1) := by decide +kernel
theorem dX7_reaches_8 : decode cX7_reaches 8 = .ok (.invokestatic 42, 3) := by decide +kernel
theorem dX7_reaches_11 : decode cX7_reaches 11 = .ok (.goto 10, 3) := by decide +kernel
theorem dX7_reaches_14 : decode cX7_reaches 14 = .ok (.iload_n 1, 1) := by decide +kernel
theorem dX7_reaches_15 : decode cX7_reaches 15 = .ok (.iconst 4, 1) := by decide +kernel
theorem dX7_reaches_16 : decode cX7_reaches 16 = .ok (.bipush 9, 2) := by decide +kernel
theorem dX7_reaches_18 : decode cX7_reaches 18 = .ok (.invokestatic 42, 3) := by decide +kernel
theorem dX7_reaches_21 : decode cX7_reaches 21 = .ok (.ireturn, 1) := by decide +kernel
theorem dX7_gripper_0 : decode cX7_gripper 0 = .ok (.aload_n 0, 1) := by decide +kernel
theorem dX7_gripper_1 : decode cX7_gripper 1 = .ok (.getfield 16, 3) := by decide +kernel
theorem dX7_gripper_4 : decode cX7_gripper 4 = .ok (.iload_n 1, 1) := by decide +kernel
theorem dX7_gripper_5 : decode cX7_gripper 5 = .ok (.invokevirtual 48, 3) := by decide +kernel
theorem dX7_gripper_8 : decode cX7_gripper 8 = .ok (.checkcast 52, 3) := by decide +kernel
theorem dX7_gripper_11 : decode cX7_gripper 11 = .ok (.astore_n 2, 1) := by decide +kernel
theorem dX7_gripper_12 : decode cX7_gripper 12 = .ok (.aload_n 2, 1) := by decide +kernel
theorem dX7_gripper_13 : decode cX7_gripper 13 = .ok (.iconst 3, 1) := by decide +kernel
theorem dX7_gripper_14 : decode cX7_gripper 14 = .ok (.iaload, 1) := by decide +kernel
theorem dX7_gripper_15 : decode cX7_gripper 15 = .ok (.iconst 2, 1) := by decide +kernel
theorem dX7_gripper_16 : decode cX7_gripper 16 = .ok (.if_icmp .lt 5, 3) := by decide +kernel
theorem dX7_gripper_19 : decode cX7_gripper 19 = .ok (.iconst (-1), 1) := by decide +kernel
theorem dX7_gripper_20 : decode cX7_gripper 20 = .ok (.ireturn, 1) := by decide +kernel
theorem dX7_gripper_21 : decode cX7_gripper 21 = .ok (.aload_n 2, 1) := by decide +kernel
theorem dX7_gripper_22 : decode cX7_gripper 22 = .ok (.iconst 3, 1) := by decide +kernel
theorem dX7_gripper_23 : decode cX7_gripper 23 = .ok (.iaload, 1) := by decide +kernel
theorem dX7_gripper_24 : decode cX7_gripper 24 = .ok (.ifCond .ne 55, 3) := by decide +kernel
theorem dX7_gripper_27 : decode cX7_gripper 27 = .ok (.iconst 2, 1) := by decide +kernel
theorem dX7_gripper_28 : decode cX7_gripper 28 = .ok (.aload_n 0, 1) := by decide +kernel
theorem dX7_gripper_29 : decode cX7_gripper 29 = .ok (.getfield 10, 3) := by decide +kernel
theorem dX7_gripper_32 : decode cX7_gripper 32 = .ok (.aload_n 2, 1) := by decide +kernel
theorem dX7_gripper_33 : decode cX7_gripper 33 = .ok (.iconst 0, 1) := by decide +kernel
theorem dX7_gripper_34 : decode cX7_gripper 34 = .ok (.iaload, 1) := by decide +kernel
theorem dX7_gripper_35 : decode cX7_gripper 35 = .ok (.invokevirtual 48, 3) := by decide +kernel
theorem dX7_gripper_38 : decode cX7_gripper 38 = .ok (.checkcast 52, 3) := by decide +kernel
theorem dX7_gripper_41 : decode cX7_gripper 41 = .ok (.iconst 0, 1) := by decide +kernel
theorem dX7_gripper_42 : decode cX7_gripper 42 = .ok (.iaload, 1) := by decide +kernel
theorem dX7_gripper_43 : decode cX7_gripper 43 = .ok (.iadd, 1) := by decide +kernel
theorem dX7_gripper_44 : decode cX7_gripper 44 = .ok (.istore_n 3, 1) := by decide +kernel
theorem dX7_gripper_45 : decode cX7_gripper 45 = .ok (.aload_n 0, 1) := by decide +kernel
theorem dX7_gripper_46 : decode cX7_gripper 46 = .ok (.iload_n 3, 1) := by decide +kernel
theorem dX7_gripper_47 : decode cX7_gripper 47 = .ok (.invokevirtual 123, 3) := by decide +kernel
theorem dX7_gripper_50 : decode cX7_gripper 50 = .ok (.ifCond .eq 27, 3) := by decide +kernel
theorem dX7_gripper_53 : decode cX7_gripper 53 = .ok (.aload_n 0, 1) := by decide +kernel
theorem dX7_gripper_54 : decode cX7_gripper 54 = .ok (.iload_n 3, 1) := by decide +kernel
theorem dX7_gripper_55 : decode cX7_gripper 55 = .ok (.iconst 2, 1) := by decide +kernel
theorem dX7_gripper_56 : decode cX7_gripper 56 = .ok (.if_icmp .ne 7, 3) := by decide +kernel
theorem dX7_gripper_59 : decode cX7_gripper 59 = .ok (.iconst 0, 1) := by decide +kernel
theorem dX7_gripper_60 : decode cX7_gripper 60 = .ok (.goto 5, 3) := by decide +kernel
theorem dX7_gripper_63 : decode cX7_gripper 63 = .ok (.bipush 9, 2) := by decide +kernel
theorem dX7_gripper_65 : decode cX7_gripper 65 = .ok (.iconst (-1), 1) := by decide +kernel
theorem dX7_gripper_66 : decode cX7_gripper 66 = .ok (.invokevirtual 126, 3) := by decide +kernel
theorem dX7_gripper_69 : decode cX7_gripper 69 = .ok (.iconst (-1), 1) := by decide +kernel
theorem dX7_gripper_70 : decode cX7_gripper 70 = .ok (.if_icmp .ne 7, 3) := by decide +kernel
theorem dX7_gripper_73 : decode cX7_gripper 73 = .ok (.iload_n 3, 1) := by decide +kernel
theorem dX7_gripper_74 : decode cX7_gripper 74 = .ok (.goto 4, 3) := by decide +kernel
theorem dX7_gripper_77 : decode cX7_gripper 77 = .ok (.iconst (-1), 1) := by decide +kernel
theorem dX7_gripper_78 : decode cX7_gripper 78 = .ok (.ireturn, 1) := by decide +kernel
theorem dX7_gripper_79 : decode cX7_gripper 79 = .ok (.iconst 2, 1) := by decide +kernel
theorem dX7_gripper_80 : decode cX7_gripper 80 = .ok (.istore_n 3, 1) := by decide +kernel
theorem dX7_gripper_81 : decode cX7_gripper 81 = .ok (.iload_n 3, 1) := by decide +kernel
theorem dX7_gripper_82 : decode cX7_gripper 82 = .ok (.iconst 3, 1) := by decide +kernel
theorem dX7_gripper_83 : decode cX7_gripper 83 = .ok (.if_icmp .gt 29, 3) := by decide +kernel
theorem dX7_gripper_86 : decode cX7_gripper 86 = .ok (.aload_n 0, 1) := by decide +kernel
theorem dX7_gripper_87 : decode cX7_gripper 87 = .ok (.iload_n 3, 1) := by decide +kernel
theorem dX7_gripper_88 : decode cX7_gripper 88 = .ok (.invokevirtual 123, 3) := by decide +kernel
theorem dX7_gripper_91 : decode cX7_gripper 91 = .ok (.ifCond .eq 15, 3) := by decide +kernel
theorem dX7_gripper_94 : decode cX7_gripper 94 = .ok (.iload_n 3, 1) := by decide +kernel
theorem dX7_gripper_95 : decode cX7_gripper 95 = .ok (.aload_n 2, 1) := by decide +kernel
theorem dX7_gripper_96 : decode cX7_gripper 96 = .ok (.iconst 4, 1) := by decide +kernel
theorem dX7_gripper_97 : decode cX7_gripper 97 = .ok (.iaload, 1) := by decide +kernel
theorem dX7_gripper_98 : decode cX7_gripper 98 = .ok (.invokestatic 129, 3) := by decide +kernel
theorem dX7_gripper_101 : decode cX7_gripper 101 = .ok (.ifCond .eq 5, 3) := by decide +kernel
theorem dX7_gripper_104 : decode cX7_gripper 104 = .ok (.iload_n 3, 1) := by decide +kernel
theorem dX7_gripper_105 : decode cX7_gripper 105 = .ok (.ireturn, 1) := by decide +kernel
theorem dX7_gripper_106 : decode cX7_gripper 106 = .ok (.iinc 3 1, 3) := by decide +kernel
theorem dX7_gripper_109 : decode cX7_gripper 109 = .ok (.goto (-28), 3) := by decide +kernel
theorem dX7_gripper_112 : decode cX7_gripper 112 = .ok (.iconst (-1), 1) := by decide +kernel
theorem dX7_gripper_113 : decode cX7_gripper 113 = .ok (.ireturn, 1) := by decide +kernel
theorem dX7_grip_0 : decode cX7_grip 0 = .ok (.aload_n 0, 1) := by decide +kernel
theorem dX7_grip_1 : decode cX7_grip 1 = .ok (.iconst 0, 1) := by decide +kernel
theorem dX7_grip_2 : decode cX7_grip 2 = .ok (.putfield 35, 3) := by decide +kernel
theorem dX7_grip_5 : decode cX7_grip 5 = .ok (.aload_n 0, 1) := by decide +kernel
theorem dX7_grip_6 : decode cX7_grip 6 = .ok (.iload_n 1, 1) := by decide +kernel
theorem dX7_grip_7 : decode cX7_grip 7 = .ok (.invokevirtual 132, 3) := by decide +kernel
theorem dX7_grip_10 : decode cX7_grip 10 = .ok (.ifCond .ne 9, 3) := by decide +kernel
theorem dX7_grip_13 : decode cX7_grip 13 = .ok (.aload_n 0, 1) := by decide +kernel
theorem dX7_grip_14 : decode cX7_grip 14 = .ok (.iconst 1, 1) := by decide +kernel
theorem dX7_grip_15 : decode cX7_grip 15 = .ok (.invokevirtual 93, 3) := by decide +kernel
theorem dX7_grip_18 : decode cX7_grip 18 = .ok (.ireturn, 1) := by decide +kernel
theorem dX7_grip_19 : decode cX7_grip 19 = .ok (.aload_n 0, 1) := by decide +kernel
theorem dX7_grip_20 : decode cX7_grip 20 = .ok (.iload_n 1, 1) := by decide +kernel
theorem dX7_grip_21 : decode cX7_grip 21 = .ok (.invokevirtual 135, 3) := by decide +kernel
theorem dX7_grip_24 : decode cX7_grip 24 = .ok (.istore_n 2, 1) := by decide +kernel
theorem dX7_grip_25 : decode cX7_grip 25 = .ok (.iload_n 2, 1) := by decide +kernel
theorem dX7_grip_26 : decode cX7_grip 26 = .ok (.iconst (-1), 1) := by decide +kernel
theorem dX7_grip_27 : decode cX7_grip 27 = .ok (.if_icmp .ne 9, 3) := by decide +kernel
theorem dX7_grip_30 : decode cX7_grip 30 = .ok (.aload_n 0, 1) := by decide +kernel
theorem dX7_grip_31 : decode cX7_grip 31 = .ok (.iconst 2, 1) := by decide +kernel
theorem dX7_grip_32 : decode cX7_grip 32 = .ok (.invokevirtual 93, 3) := by decide +kernel
theorem dX7_grip_35 : decode cX7_grip 35 = .ok (.ireturn, 1) := by decide +kernel
theorem dX7_grip_36 : decode cX7_grip 36 = .ok (.aload_n 0, 1) := by decide +kernel
theorem dX7_grip_37 : decode cX7_grip 37 = .ok (.getfield 16, 3) := by decide +kernel
theorem dX7_grip_40 : decode cX7_grip 40 = .ok (.iload_n 1, 1) := by decide +kernel
theorem dX7_grip_41 : decode cX7_grip 41 = .ok (.invokevirtual 48, 3) := by decide +kernel
theorem dX7_grip_44 : decode cX7_grip 44 = .ok (.checkcast 52, 3) := by decide +kernel
theorem dX7_grip_47 : decode cX7_grip 47 = .ok (.astore_n 3, 1) := by decide +kernel
theorem dX7_grip_48 : decode cX7_grip 48 = .ok (.aload_n 3, 1) := by decide +kernel
theorem dX7_grip_49 : decode cX7_grip 49 = .ok (.iconst 3, 1) := by decide +kernel
theorem dX7_grip_50 : decode cX7_grip 50 = .ok (.iaload, 1) := by decide +kernel
theorem dX7_grip_51 : decode cX7_grip 51 = .ok (.ifCond .ne 17, 3) := by decide +kernel
theorem dX7_grip_54 : decode cX7_grip 54 = .ok (.aload_n 3, 1) := by decide +kernel
theorem dX7_grip_55 : decode cX7_grip 55 = .ok (.iconst 4, 1) := by decide +kernel
theorem dX7_grip_56 : decode cX7_grip 56 = .ok (.iload_n 2, 1) := by decide +kernel
theorem dX7_grip_57 : decode cX7_grip 57 = .ok (.iconst 2, 1) := by decide +kernel
theorem dX7_grip_58 : decode cX7_grip 58 = .ok (.if_icmp .ne 7, 3) := by decide +kernel
theorem dX7_grip_61 : decode cX7_grip 61 = .ok (.iconst 0, 1) := by decide +kernel
theorem dX7_grip_62 : decode cX7_grip 62 = .ok (.goto 5, 3) := by decide +kernel
theorem dX7_grip_65 : decode cX7_grip 65 = .ok (.bipush 9, 2) := by decide +kernel
theorem dX7_grip_67 : decode cX7_grip 67 = .ok (.iastore, 1) := by decide +kernel
theorem dX7_grip_68 : decode cX7_grip 68 = .ok (.aload_n 3, 1) := by decide +kernel
theorem dX7_grip_69 : decode cX7_grip 69 = .ok (.iconst 3, 1) := by decide +kernel
theorem dX7_grip_70 : decode cX7_grip 70 = .ok (.iload_n 2, 1) := by decide +kernel
theorem dX7_grip_71 : decode cX7_grip 71 = .ok (.iastore, 1) := by decide +kernel
theorem dX7_grip_72 : decode cX7_grip 72 = .ok (.aload_n 3, 1) := by decide +kernel
theorem dX7_grip_73 : decode cX7_grip 73 = .ok (.iconst 5, 1) := by decide +kernel
theorem dX7_grip_74 : decode cX7_grip 74 = .ok (.iconst 0, 1) := by decide +kernel
theorem dX7_grip_75 : decode cX7_grip 75 = .ok (.iastore, 1) := by decide +kernel
theorem dX7_grip_76 : decode cX7_grip 76 = .ok (.iload_n 2, 1) := by decide +kernel
theorem dX7_grip_77 : decode cX7_grip 77 = .ok (.ireturn, 1) := by decide +kernel
theorem dX7_isHeld_0 : decode cX7_isHeld 0 = .ok (.aload_n 0, 1) := by decide +kernel
theorem dX7_isHeld_1 : decode cX7_isHeld 1 = .ok (.getfield 16, 3) := by decide +kernel
theorem dX7_isHeld_4 : decode cX7_isHeld 4 = .ok (.iload_n 1, 1) := by decide +kernel
theorem dX7_isHeld_5 : decode cX7_isHeld 5 = .ok (.invokevirtual 48, 3) := by decide +kernel
theorem dX7_isHeld_8 : decode cX7_isHeld 8 = .ok (.checkcast 52, 3) := by decide +kernel
theorem dX7_isHeld_11 : decode cX7_isHeld 11 = .ok (.iconst 3, 1) := by decide +kernel
theorem dX7_isHeld_12 : decode cX7_isHeld 12 = .ok (.iaload, 1) := by decide +kernel
theorem dX7_isHeld_13 : decode cX7_isHeld 13 = .ok (.iconst 2, 1) := by decide +kernel
theorem dX7_isHeld_14 : decode cX7_isHeld 14 = .ok (.if_icmp .lt 7, 3) := by decide +kernel
theorem dX7_isHeld_17 : decode cX7_isHeld 17 = .ok (.iconst 1, 1) := by decide +kernel
theorem dX7_isHeld_18 : decode cX7_isHeld 18 = .ok (.goto 4, 3) := by decide +kernel
theorem dX7_isHeld_21 : decode cX7_isHeld 21 = .ok (.iconst 0, 1) := by decide +kernel
theorem dX7_isHeld_22 : decode cX7_isHeld 22 = .ok (.ireturn, 1) := by decide +kernel
theorem dX7_wear_0 : decode cX7_wear 0 = .ok (.aload_n 0, 1) := by decide +kernel
theorem dX7_wear_1 : decode cX7_wear 1 = .ok (.iconst 2, 1) := by decide +kernel
theorem dX7_wear_2 : decode cX7_wear 2 = .ok (.bipush 100, 2) := by decide +kernel
theorem dX7_wear_4 : decode cX7_wear 4 = .ok (.aload_n 0, 1) := by decide +kernel
theorem dX7_wear_5 : decode cX7_wear 5 = .ok (.iconst 2, 1) := by decide +kernel
theorem dX7_wear_6 : decode cX7_wear 6 = .ok (.iaload, 1) := by decide +kernel
theorem dX7_wear_7 : decode cX7_wear 7 = .ok (.iload_n 1, 1) := by decide +kernel
theorem dX7_wear_8 : decode cX7_wear 8 = .ok (.iadd, 1) := by decide +kernel
theorem dX7_wear_9 : decode cX7_wear 9 = .ok (.invokestatic 62, 3) := by decide +kernel
theorem dX7_wear_12 : decode cX7_wear 12 = .ok (.iastore, 1) := by decide +kernel
theorem dX7_wear_13 : decode cX7_wear 13 = .ok (.return_, 1) := by decide +kernel
theorem dX7_move_0 : decode cX7_move 0 = .ok (.aload_n 0, 1) := by decide +kernel
theorem dX7_move_1 : decode cX7_move 1 = .ok (.iconst 0, 1) := by decide +kernel
theorem dX7_move_2 : decode cX7_move 2 = .ok (.putfield 35, 3) := by decide +kernel
theorem dX7_move_5 : decode cX7_move 5 = .ok (.aload_n 0, 1) := by decide +kernel
theorem dX7_move_6 : decode cX7_move 6 = .ok (.iload_n 1, 1) := by decide +kernel
theorem dX7_move_7 : decode cX7_move 7 = .ok (.invokevirtual 132, 3) := by decide +kernel
theorem dX7_move_10 : decode cX7_move 10 = .ok (.ifCond .ne 9, 3) := by decide +kernel
theorem dX7_move_13 : decode cX7_move 13 = .ok (.aload_n 0, 1) := by decide +kernel
theorem dX7_move_14 : decode cX7_move 14 = .ok (.iconst 1, 1) := by decide +kernel
theorem dX7_move_15 : decode cX7_move 15 = .ok (.invokevirtual 93, 3) := by decide +kernel
theorem dX7_move_18 : decode cX7_move 18 = .ok (.ireturn, 1) := by decide +kernel
theorem dX7_move_19 : decode cX7_move 19 = .ok (.iload_n 2, 1) := by decide +kernel
theorem dX7_move_20 : decode cX7_move 20 = .ok (.iconst 0, 1) := by decide +kernel
theorem dX7_move_21 : decode cX7_move 21 = .ok (.bipush 9, 2) := by decide +kernel
theorem dX7_move_23 : decode cX7_move 23 = .ok (.invokestatic 42, 3) := by decide +kernel
theorem dX7_move_26 : decode cX7_move 26 = .ok (.ifCond .ne 9, 3) := by decide +kernel
theorem dX7_move_29 : decode cX7_move 29 = .ok (.aload_n 0, 1) := by decide +kernel
theorem dX7_move_30 : decode cX7_move 30 = .ok (.iconst 2, 1) := by decide +kernel
theorem dX7_move_31 : decode cX7_move 31 = .ok (.invokevirtual 93, 3) := by decide +kernel
theorem dX7_move_34 : decode cX7_move 34 = .ok (.ireturn, 1) := by decide +kernel
theorem dX7_move_35 : decode cX7_move 35 = .ok (.aload_n 0, 1) := by decide +kernel
theorem dX7_move_36 : decode cX7_move 36 = .ok (.getfield 16, 3) := by decide +kernel
theorem dX7_move_39 : decode cX7_move 39 = .ok (.iload_n 1, 1) := by decide +kernel
theorem dX7_move_40 : decode cX7_move 40 = .ok (.invokevirtual 48, 3) := by decide +kernel
theorem dX7_move_43 : decode cX7_move 43 = .ok (.checkcast 52, 3) := by decide +kernel
theorem dX7_move_46 : decode cX7_move 46 = .ok (.astore_n 3, 1) := by decide +kernel
theorem dX7_move_47 : decode cX7_move 47 = .ok (.aload_n 0, 1) := by decide +kernel
theorem dX7_move_48 : decode cX7_move 48 = .ok (.iload_n 1, 1) := by decide +kernel
theorem dX7_move_49 : decode cX7_move 49 = .ok (.invokevirtual 138, 3) := by decide +kernel
theorem dX7_move_52 : decode cX7_move 52 = .ok (.ifCond .eq 23, 3) := by decide +kernel
theorem dX7_move_55 : decode cX7_move 55 = .ok (.aload_n 0, 1) := by decide +kernel
theorem dX7_move_56 : decode cX7_move 56 = .ok (.iload_n 2, 1) := by decide +kernel
theorem dX7_move_57 : decode cX7_move 57 = .ok (.iconst (-1), 1) := by decide +kernel
theorem dX7_move_58 : decode cX7_move 58 = .ok (.invokevirtual 126, 3) := by decide +kernel
theorem dX7_move_61 : decode cX7_move 61 = .ok (.iconst (-1), 1) := by decide +kernel
theorem dX7_move_62 : decode cX7_move 62 = .ok (.if_icmp .ne 13, 3) := by decide +kernel
theorem dX7_move_65 : decode cX7_move 65 = .ok (.aload_n 3, 1) := by decide +kernel
theorem dX7_move_66 : decode cX7_move 66 = .ok (.iconst 3, 1) := by decide +kernel
theorem dX7_move_67 : decode cX7_move 67 = .ok (.iaload, 1) := by decide +kernel
theorem dX7_move_68 : decode cX7_move 68 = .ok (.iload_n 2, 1) := by decide +kernel
theorem dX7_move_69 : decode cX7_move 69 = .ok (.invokestatic 129, 3) := by decide +kernel
theorem dX7_move_72 : decode cX7_move 72 = .ok (.ifCond .ne 9, 3) := by decide +kernel
theorem dX7_move_75 : decode cX7_move 75 = .ok (.aload_n 0, 1) := by decide +kernel
theorem dX7_move_76 : decode cX7_move 76 = .ok (.iconst 3, 1) := by decide +kernel
theorem dX7_move_77 : decode cX7_move 77 = .ok (.invokevirtual 93, 3) := by decide +kernel
theorem dX7_move_80 : decode cX7_move 80 = .ok (.ireturn, 1) := by decide +kernel
theorem dX7_move_81 : decode cX7_move 81 = .ok (.aload_n 3, 1) := by decide +kernel
theorem dX7_move_82 : decode cX7_move 82 = .ok (.iload_n 2, 1) := by decide +kernel
theorem dX7_move_83 : decode cX7_move 83 = .ok (.aload_n 3, 1) := by decide +kernel
theorem dX7_move_84 : decode cX7_move 84 = .ok (.iconst 4, 1) := by decide +kernel
theorem dX7_move_85 : decode cX7_move 85 = .ok (.iaload, 1) := by decide +kernel
theorem dX7_move_86 : decode cX7_move 86 = .ok (.isub, 1) := by decide +kernel
theorem dX7_move_87 : decode cX7_move 87 = .ok (.invokestatic 141, 3) := by decide +kernel
theorem dX7_move_90 : decode cX7_move 90 = .ok (.invokestatic 144, 3) := by decide +kernel
theorem dX7_move_93 : decode cX7_move 93 = .ok (.aload_n 3, 1) := by decide +kernel
theorem dX7_move_94 : decode cX7_move 94 = .ok (.iconst 4, 1) := by decide +kernel
theorem dX7_move_95 : decode cX7_move 95 = .ok (.iload_n 2, 1) := by decide +kernel
theorem dX7_move_96 : decode cX7_move 96 = .ok (.iastore, 1) := by decide +kernel
theorem dX7_move_97 : decode cX7_move 97 = .ok (.aload_n 3, 1) := by decide +kernel
theorem dX7_move_98 : decode cX7_move 98 = .ok (.iconst 2, 1) := by decide +kernel
theorem dX7_move_99 : decode cX7_move 99 = .ok (.iaload, 1) := by decide +kernel
theorem dX7_move_100 : decode cX7_move 100 = .ok (.ireturn, 1) := by decide +kernel
theorem dX7_shadow_0 : decode cX7_shadow 0 = .ok (.aload_n 1, 1) := by decide +kernel
theorem dX7_shadow_1 : decode cX7_shadow 1 = .ok (.iconst 1, 1) := by decide +kernel
theorem dX7_shadow_2 : decode cX7_shadow 2 = .ok (.iaload, 1) := by decide +kernel
theorem dX7_shadow_3 : decode cX7_shadow 3 = .ok (.aload_n 0, 1) := by decide +kernel
theorem dX7_shadow_4 : decode cX7_shadow 4 = .ok (.getfield 22, 3) := by decide +kernel
theorem dX7_shadow_7 : decode cX7_shadow 7 = .ok (.imul, 1) := by decide +kernel
theorem dX7_shadow_8 : decode cX7_shadow 8 = .ok (.aload_n 0, 1) := by decide +kernel
theorem dX7_shadow_9 : decode cX7_shadow 9 = .ok (.getfield 22, 3) := by decide +kernel
theorem dX7_shadow_12 : decode cX7_shadow 12 = .ok (.iload_n 2, 1) := by decide +kernel
theorem dX7_shadow_13 : decode cX7_shadow 13 = .ok (.isub, 1) := by decide +kernel
theorem dX7_shadow_14 : decode cX7_shadow 14 = .ok (.idiv, 1) := by decide +kernel
theorem dX7_shadow_15 : decode cX7_shadow 15 = .ok (.ireturn, 1) := by decide +kernel
theorem dX7_lift_0 : decode cX7_lift 0 = .ok (.aload_n 0, 1) := by decide +kernel
theorem dX7_lift_1 : decode cX7_lift 1 = .ok (.iconst 0, 1) := by decide +kernel
theorem dX7_lift_2 : decode cX7_lift 2 = .ok (.putfield 35, 3) := by decide +kernel
theorem dX7_lift_5 : decode cX7_lift 5 = .ok (.aload_n 0, 1) := by decide +kernel
theorem dX7_lift_6 : decode cX7_lift 6 = .ok (.iload_n 1, 1) := by decide +kernel
theorem dX7_lift_7 : decode cX7_lift 7 = .ok (.invokevirtual 132, 3) := by decide +kernel
theorem dX7_lift_10 : decode cX7_lift 10 = .ok (.ifCond .ne 9, 3) := by decide +kernel
theorem dX7_lift_13 : decode cX7_lift 13 = .ok (.aload_n 0, 1) := by decide +kernel
theorem dX7_lift_14 : decode cX7_lift 14 = .ok (.iconst 1, 1) := by decide +kernel
theorem dX7_lift_15 : decode cX7_lift 15 = .ok (.invokevirtual 93, 3) := by decide +kernel
theorem dX7_lift_18 : decode cX7_lift 18 = .ok (.ireturn, 1) := by decide +kernel
theorem dX7_lift_19 : decode cX7_lift 19 = .ok (.iload_n 2, 1) := by decide +kernel
theorem dX7_lift_20 : decode cX7_lift 20 = .ok (.iconst 0, 1) := by decide +kernel
theorem dX7_lift_21 : decode cX7_lift 21 = .ok (.bipush 15, 2) := by decide +kernel
theorem dX7_lift_23 : decode cX7_lift 23 = .ok (.invokestatic 42, 3) := by decide +kernel
theorem dX7_lift_26 : decode cX7_lift 26 = .ok (.ifCond .ne 9, 3) := by decide +kernel
theorem dX7_lift_29 : decode cX7_lift 29 = .ok (.aload_n 0, 1) := by decide +kernel
theorem dX7_lift_30 : decode cX7_lift 30 = .ok (.iconst 2, 1) := by decide +kernel
theorem dX7_lift_31 : decode cX7_lift 31 = .ok (.invokevirtual 93, 3) := by decide +kernel
theorem dX7_lift_34 : decode cX7_lift 34 = .ok (.ireturn, 1) := by decide +kernel
theorem dX7_lift_35 : decode cX7_lift 35 = .ok (.aload_n 0, 1) := by decide +kernel
theorem dX7_lift_36 : decode cX7_lift 36 = .ok (.iload_n 1, 1) := by decide +kernel
theorem dX7_lift_37 : decode cX7_lift 37 = .ok (.invokevirtual 138, 3) := by decide +kernel
theorem dX7_lift_40 : decode cX7_lift 40 = .ok (.ifCond .ne 9, 3) := by decide +kernel
theorem dX7_lift_43 : decode cX7_lift 43 = .ok (.aload_n 0, 1) := by decide +kernel
theorem dX7_lift_44 : decode cX7_lift 44 = .ok (.iconst 3, 1) := by decide +kernel
theorem dX7_lift_45 : decode cX7_lift 45 = .ok (.invokevirtual 93, 3) := by decide +kernel
theorem dX7_lift_48 : decode cX7_lift 48 = .ok (.ireturn, 1) := by decide +kernel
theorem dX7_lift_49 : decode cX7_lift 49 = .ok (.aload_n 0, 1) := by decide +kernel
theorem dX7_lift_50 : decode cX7_lift 50 = .ok (.getfield 16, 3) := by decide +kernel
theorem dX7_lift_53 : decode cX7_lift 53 = .ok (.iload_n 1, 1) := by decide +kernel
theorem dX7_lift_54 : decode cX7_lift 54 = .ok (.invokevirtual 48, 3) := by decide +kernel
theorem dX7_lift_57 : decode cX7_lift 57 = .ok (.checkcast 52, 3) := by decide +kernel
theorem dX7_lift_60 : decode cX7_lift 60 = .ok (.iconst 5, 1) := by decide +kernel
theorem dX7_lift_61 : decode cX7_lift 61 = .ok (.iload_n 2, 1) := by decide +kernel
theorem dX7_lift_62 : decode cX7_lift 62 = .ok (.iastore, 1) := by decide +kernel
theorem dX7_lift_63 : decode cX7_lift 63 = .ok (.aload_n 0, 1) := by decide +kernel
theorem dX7_lift_64 : decode cX7_lift 64 = .ok (.aload_n 0, 1) := by decide +kernel
theorem dX7_lift_65 : decode cX7_lift 65 = .ok (.getfield 16, 3) := by decide +kernel
theorem dX7_lift_68 : decode cX7_lift 68 = .ok (.iload_n 1, 1) := by decide +kernel
theorem dX7_lift_69 : decode cX7_lift 69 = .ok (.invokevirtual 48, 3) := by decide +kernel
theorem dX7_lift_72 : decode cX7_lift 72 = .ok (.checkcast 52, 3) := by decide +kernel
theorem dX7_lift_75 : decode cX7_lift 75 = .ok (.iload_n 2, 1) := by decide +kernel
theorem dX7_lift_76 : decode cX7_lift 76 = .ok (.invokevirtual 148, 3) := by decide +kernel
theorem dX7_lift_79 : decode cX7_lift 79 = .ok (.ireturn, 1) := by decide +kernel
theorem dX7_plant_0 : decode cX7_plant 0 = .ok (.aload_n 0, 1) := by decide +kernel
theorem dX7_plant_1 : decode cX7_plant 1 = .ok (.iconst 0, 1) := by decide +kernel
theorem dX7_plant_2 : decode cX7_plant 2 = .ok (.putfield 35, 3) := by decide +kernel
theorem dX7_plant_5 : decode cX7_plant 5 = .ok (.aload_n 0, 1) := by decide +kernel
theorem dX7_plant_6 : decode cX7_plant 6 = .ok (.iload_n 1, 1) := by decide +kernel
theorem dX7_plant_7 : decode cX7_plant 7 = .ok (.invokevirtual 132, 3) := by decide +kernel
theorem dX7_plant_10 : decode cX7_plant 10 = .ok (.ifCond .ne 9, 3) := by decide +kernel
theorem dX7_plant_13 : decode cX7_plant 13 = .ok (.aload_n 0, 1) := by decide +kernel
theorem dX7_plant_14 : decode cX7_plant 14 = .ok (.iconst 1, 1) := by decide +kernel
theorem dX7_plant_15 : decode cX7_plant 15 = .ok (.invokevirtual 93, 3) := by decide +kernel
theorem dX7_plant_18 : decode cX7_plant 18 = .ok (.ireturn, 1) := by decide +kernel
theorem dX7_plant_19 : decode cX7_plant 19 = .ok (.aload_n 0, 1) := by decide +kernel
theorem dX7_plant_20 : decode cX7_plant 20 = .ok (.iload_n 1, 1) := by decide +kernel
theorem dX7_plant_21 : decode cX7_plant 21 = .ok (.invokevirtual 138, 3) := by decide +kernel
theorem dX7_plant_24 : decode cX7_plant 24 = .ok (.ifCond .ne 9, 3) := by decide +kernel
theorem dX7_plant_27 : decode cX7_plant 27 = .ok (.aload_n 0, 1) := by decide +kernel
theorem dX7_plant_28 : decode cX7_plant 28 = .ok (.iconst 2, 1) := by decide +kernel
theorem dX7_plant_29 : decode cX7_plant 29 = .ok (.invokevirtual 93, 3) := by decide +kernel
theorem dX7_plant_32 : decode cX7_plant 32 = .ok (.ireturn, 1) := by decide +kernel
theorem dX7_plant_33 : decode cX7_plant 33 = .ok (.aload_n 0, 1) := by decide +kernel
theorem dX7_plant_34 : decode cX7_plant 34 = .ok (.getfield 16, 3) := by decide +kernel
theorem dX7_plant_37 : decode cX7_plant 37 = .ok (.iload_n 1, 1) := by decide +kernel
theorem dX7_plant_38 : decode cX7_plant 38 = .ok (.invokevirtual 48, 3) := by decide +kernel
theorem dX7_plant_41 : decode cX7_plant 41 = .ok (.checkcast 52, 3) := by decide +kernel
theorem dX7_plant_44 : decode cX7_plant 44 = .ok (.astore_n 2, 1) := by decide +kernel
theorem dX7_plant_45 : decode cX7_plant 45 = .ok (.aload_n 2, 1) := by decide +kernel
theorem dX7_plant_46 : decode cX7_plant 46 = .ok (.iconst 3, 1) := by decide +kernel
theorem dX7_plant_47 : decode cX7_plant 47 = .ok (.iconst 1, 1) := by decide +kernel
theorem dX7_plant_48 : decode cX7_plant 48 = .ok (.iastore, 1) := by decide +kernel
theorem dX7_plant_49 : decode cX7_plant 49 = .ok (.aload_n 2, 1) := by decide +kernel
theorem dX7_plant_50 : decode cX7_plant 50 = .ok (.iconst 5, 1) := by decide +kernel
theorem dX7_plant_51 : decode cX7_plant 51 = .ok (.iconst 0, 1) := by decide +kernel
theorem dX7_plant_52 : decode cX7_plant 52 = .ok (.iastore, 1) := by decide +kernel
theorem dX7_plant_53 : decode cX7_plant 53 = .ok (.aload_n 2, 1) := by decide +kernel
theorem dX7_plant_54 : decode cX7_plant 54 = .ok (.iconst 4, 1) := by decide +kernel
theorem dX7_plant_55 : decode cX7_plant 55 = .ok (.iaload, 1) := by decide +kernel
theorem dX7_plant_56 : decode cX7_plant 56 = .ok (.ireturn, 1) := by decide +kernel
theorem dX7_hand_0 : decode cX7_hand 0 = .ok (.aload_n 0, 1) := by decide +kernel
theorem dX7_hand_1 : decode cX7_hand 1 = .ok (.iconst 0, 1) := by decide +kernel
theorem dX7_hand_2 : decode cX7_hand 2 = .ok (.putfield 35, 3) := by decide +kernel
theorem dX7_hand_5 : decode cX7_hand 5 = .ok (.aload_n 0, 1) := by decide +kernel
theorem dX7_hand_6 : decode cX7_hand 6 = .ok (.iload_n 1, 1) := by decide +kernel
theorem dX7_hand_7 : decode cX7_hand 7 = .ok (.invokevirtual 132, 3) := by decide +kernel
theorem dX7_hand_10 : decode cX7_hand 10 = .ok (.ifCond .ne 9, 3) := by decide +kernel
theorem dX7_hand_13 : decode cX7_hand 13 = .ok (.aload_n 0, 1) := by decide +kernel
theorem dX7_hand_14 : decode cX7_hand 14 = .ok (.iconst 1, 1) := by decide +kernel
theorem dX7_hand_15 : decode cX7_hand 15 = .ok (.invokevirtual 93, 3) := by decide +kernel
theorem dX7_hand_18 : decode cX7_hand 18 = .ok (.ireturn, 1) := by decide +kernel
theorem dX7_hand_19 : decode cX7_hand 19 = .ok (.aload_n 0, 1) := by decide +kernel
theorem dX7_hand_20 : decode cX7_hand 20 = .ok (.getfield 16, 3) := by decide +kernel
theorem dX7_hand_23 : decode cX7_hand 23 = .ok (.iload_n 1, 1) := by decide +kernel
theorem dX7_hand_24 : decode cX7_hand 24 = .ok (.invokevirtual 48, 3) := by decide +kernel
theorem dX7_hand_27 : decode cX7_hand 27 = .ok (.checkcast 52, 3) := by decide +kernel
theorem dX7_hand_30 : decode cX7_hand 30 = .ok (.astore_n 2, 1) := by decide +kernel
theorem dX7_hand_31 : decode cX7_hand 31 = .ok (.iconst 5, 1) := by decide +kernel
theorem dX7_hand_32 : decode cX7_hand 32 = .ok (.aload_n 2, 1) := by decide +kernel
theorem dX7_hand_33 : decode cX7_hand 33 = .ok (.iconst 3, 1) := by decide +kernel
theorem dX7_hand_34 : decode cX7_hand 34 = .ok (.iaload, 1) := by decide +kernel
theorem dX7_hand_35 : decode cX7_hand 35 = .ok (.isub, 1) := by decide +kernel
theorem dX7_hand_36 : decode cX7_hand 36 = .ok (.istore_n 3, 1) := by decide +kernel
theorem dX7_hand_37 : decode cX7_hand 37 = .ok (.aload_n 0, 1) := by decide +kernel
theorem dX7_hand_38 : decode cX7_hand 38 = .ok (.iload_n 1, 1) := by decide +kernel
theorem dX7_hand_39 : decode cX7_hand 39 = .ok (.invokevirtual 138, 3) := by decide +kernel
theorem dX7_hand_42 : decode cX7_hand 42 = .ok (.ifCond .eq 21, 3) := by decide +kernel
theorem dX7_hand_45 : decode cX7_hand 45 = .ok (.aload_n 0, 1) := by decide +kernel
theorem dX7_hand_46 : decode cX7_hand 46 = .ok (.iload_n 3, 1) := by decide +kernel
theorem dX7_hand_47 : decode cX7_hand 47 = .ok (.invokevirtual 123, 3) := by decide +kernel
theorem dX7_hand_50 : decode cX7_hand 50 = .ok (.ifCond .eq 13, 3) := by decide +kernel
theorem dX7_hand_53 : decode cX7_hand 53 = .ok (.iload_n 3, 1) := by decide +kernel
theorem dX7_hand_54 : decode cX7_hand 54 = .ok (.aload_n 2, 1) := by decide +kernel
theorem dX7_hand_55 : decode cX7_hand 55 = .ok (.iconst 4, 1) := by decide +kernel
theorem dX7_hand_56 : decode cX7_hand 56 = .ok (.iaload, 1) := by decide +kernel
theorem dX7_hand_57 : decode cX7_hand 57 = .ok (.invokestatic 129, 3) := by decide +kernel
theorem dX7_hand_60 : decode cX7_hand 60 = .ok (.ifCond .ne 9, 3) := by decide +kernel
theorem dX7_hand_63 : decode cX7_hand 63 = .ok (.aload_n 0, 1) := by decide +kernel
theorem dX7_hand_64 : decode cX7_hand 64 = .ok (.iconst 2, 1) := by decide +kernel
theorem dX7_hand_65 : decode cX7_hand 65 = .ok (.invokevirtual 93, 3) := by decide +kernel
theorem dX7_hand_68 : decode cX7_hand 68 = .ok (.ireturn, 1) := by decide +kernel
theorem dX7_hand_69 : decode cX7_hand 69 = .ok (.aload_n 2, 1) := by decide +kernel
theorem dX7_hand_70 : decode cX7_hand 70 = .ok (.iconst 3, 1) := by decide +kernel
theorem dX7_hand_71 : decode cX7_hand 71 = .ok (.iload_n 3, 1) := by decide +kernel
theorem dX7_hand_72 : decode cX7_hand 72 = .ok (.iastore, 1) := by decide +kernel
theorem dX7_hand_73 : decode cX7_hand 73 = .ok (.iload_n 3, 1) := by decide +kernel
theorem dX7_hand_74 : decode cX7_hand 74 = .ok (.ireturn, 1) := by decide +kernel
theorem dX7_onScreen_0 : decode cX7_onScreen 0 = .ok (.iconst 0, 1) := by decide +kernel
theorem dX7_onScreen_1 : decode cX7_onScreen 1 = .ok (.istore_n 1, 1) := by decide +kernel
theorem dX7_onScreen_2 : decode cX7_onScreen 2 = .ok (.aload_n 0, 1) := by decide +kernel
theorem dX7_onScreen_3 : decode cX7_onScreen 3 = .ok (.getfield 16, 3) := by decide +kernel
theorem dX7_onScreen_6 : decode cX7_onScreen 6 = .ok (.invokevirtual 72, 3) := by decide +kernel
theorem dX7_onScreen_9 : decode cX7_onScreen 9 = .ok (.astore_n 2, 1) := by decide +kernel
theorem dX7_onScreen_10 : decode cX7_onScreen 10 = .ok (.aload_n 2, 1) := by decide +kernel
theorem dX7_onScreen_11 : decode cX7_onScreen 11 = .ok (.invokeinterface 76 1, 5) := by decide +kernel
theorem dX7_onScreen_16 : decode cX7_onScreen 16 = .ok (.ifCond .eq 30, 3) := by decide +kernel
theorem dX7_onScreen_19 : decode cX7_onScreen 19 = .ok (.aload_n 2, 1) := by decide +kernel
theorem dX7_onScreen_20 : decode cX7_onScreen 20 = .ok (.invokeinterface 82 1, 5) := by decide +kernel
theorem dX7_onScreen_25 : decode cX7_onScreen 25 = .ok (.checkcast 52, 3) := by decide +kernel
theorem dX7_onScreen_28 : decode cX7_onScreen 28 = .ok (.astore_n 3, 1) := by decide +kernel
theorem dX7_onScreen_29 : decode cX7_onScreen 29 = .ok (.iload_n 1, 1) := by decide +kernel
theorem dX7_onScreen_30 : decode cX7_onScreen 30 = .ok (.aload_n 3, 1) := by decide +kernel
theorem dX7_onScreen_31 : decode cX7_onScreen 31 = .ok (.iconst 3, 1) := by decide +kernel
theorem dX7_onScreen_32 : decode cX7_onScreen 32 = .ok (.iaload, 1) := by decide +kernel
theorem dX7_onScreen_33 : decode cX7_onScreen 33 = .ok (.ifCond .ne 7, 3) := by decide +kernel
theorem dX7_onScreen_36 : decode cX7_onScreen 36 = .ok (.iconst 0, 1) := by decide +kernel
theorem dX7_onScreen_37 : decode cX7_onScreen 37 = .ok (.goto 4, 3) := by decide +kernel
theorem dX7_onScreen_40 : decode cX7_onScreen 40 = .ok (.iconst 1, 1) := by decide +kernel
theorem dX7_onScreen_41 : decode cX7_onScreen 41 = .ok (.iadd, 1) := by decide +kernel
theorem dX7_onScreen_42 : decode cX7_onScreen 42 = .ok (.istore_n 1, 1) := by decide +kernel
theorem dX7_onScreen_43 : decode cX7_onScreen 43 = .ok (.goto (-33), 3) := by decide +kernel
theorem dX7_onScreen_46 : decode cX7_onScreen 46 = .ok (.iload_n 1, 1) := by decide +kernel
theorem dX7_onScreen_47 : decode cX7_onScreen 47 = .ok (.ireturn, 1) := by decide +kernel
theorem dX7_away_0 : decode cX7_away 0 = .ok (.aload_n 0, 1) := by decide +kernel
theorem dX7_away_1 : decode cX7_away 1 = .ok (.iconst 0, 1) := by decide +kernel
theorem dX7_away_2 : decode cX7_away 2 = .ok (.putfield 35, 3) := by decide +kernel
theorem dX7_away_5 : decode cX7_away 5 = .ok (.aload_n 0, 1) := by decide +kernel
theorem dX7_away_6 : decode cX7_away 6 = .ok (.iload_n 1, 1) := by decide +kernel
theorem dX7_away_7 : decode cX7_away 7 = .ok (.invokevirtual 132, 3) := by decide +kernel
theorem dX7_away_10 : decode cX7_away 10 = .ok (.ifCond .ne 9, 3) := by decide +kernel
theorem dX7_away_13 : decode cX7_away 13 = .ok (.aload_n 0, 1) := by decide +kernel
theorem dX7_away_14 : decode cX7_away 14 = .ok (.iconst 1, 1) := by decide +kernel
theorem dX7_away_15 : decode cX7_away 15 = .ok (.invokevirtual 93, 3) := by decide +kernel
theorem dX7_away_18 : decode cX7_away 18 = .ok (.ireturn, 1) := by decide +kernel
theorem dX7_away_19 : decode cX7_away 19 = .ok (.aload_n 0, 1) := by decide +kernel
theorem dX7_away_20 : decode cX7_away 20 = .ok (.getfield 16, 3) := by decide +kernel
theorem dX7_away_23 : decode cX7_away 23 = .ok (.iload_n 1, 1) := by decide +kernel
theorem dX7_away_24 : decode cX7_away 24 = .ok (.invokevirtual 48, 3) := by decide +kernel
theorem dX7_away_27 : decode cX7_away 27 = .ok (.checkcast 52, 3) := by decide +kernel
theorem dX7_away_30 : decode cX7_away 30 = .ok (.astore_n 2, 1) := by decide +kernel
theorem dX7_away_31 : decode cX7_away 31 = .ok (.aload_n 0, 1) := by decide +kernel
theorem dX7_away_32 : decode cX7_away 32 = .ok (.iload_n 1, 1) := by decide +kernel
theorem dX7_away_33 : decode cX7_away 33 = .ok (.invokevirtual 138, 3) := by decide +kernel
theorem dX7_away_36 : decode cX7_away 36 = .ok (.ifCond .eq 27, 3) := by decide +kernel
theorem dX7_away_39 : decode cX7_away 39 = .ok (.aload_n 2, 1) := by decide +kernel
theorem dX7_away_40 : decode cX7_away 40 = .ok (.iconst 4, 1) := by decide +kernel
theorem dX7_away_41 : decode cX7_away 41 = .ok (.iaload, 1) := by decide +kernel
theorem dX7_away_42 : decode cX7_away 42 = .ok (.bipush 9, 2) := by decide +kernel
theorem dX7_away_44 : decode cX7_away 44 = .ok (.aload_n 0, 1) := by decide +kernel
theorem dX7_away_45 : decode cX7_away 45 = .ok (.getfield 10, 3) := by decide +kernel
theorem dX7_away_48 : decode cX7_away 48 = .ok (.aload_n 2, 1) := by decide +kernel
theorem dX7_away_49 : decode cX7_away 49 = .ok (.iconst 0, 1) := by decide +kernel
theorem dX7_away_50 : decode cX7_away 50 = .ok (.iaload, 1) := by decide +kernel
theorem dX7_away_51 : decode cX7_away 51 = .ok (.invokevirtual 48, 3) := by decide +kernel
theorem dX7_away_54 : decode cX7_away 54 = .ok (.checkcast 52, 3) := by decide +kernel
theorem dX7_away_57 : decode cX7_away 57 = .ok (.iconst 0, 1) := by decide +kernel
theorem dX7_away_58 : decode cX7_away 58 = .ok (.iaload, 1) := by decide +kernel
theorem dX7_away_59 : decode cX7_away 59 = .ok (.imul, 1) := by decide +kernel
theorem dX7_away_60 : decode cX7_away 60 = .ok (.if_icmp .eq 9, 3) := by decide +kernel
theorem dX7_away_63 : decode cX7_away 63 = .ok (.aload_n 0, 1) := by decide +kernel
theorem dX7_away_64 : decode cX7_away 64 = .ok (.iconst 2, 1) := by decide +kernel
theorem dX7_away_65 : decode cX7_away 65 = .ok (.invokevirtual 93, 3) := by decide +kernel
theorem dX7_away_68 : decode cX7_away 68 = .ok (.ireturn, 1) := by decide +kernel
theorem dX7_away_69 : decode cX7_away 69 = .ok (.aload_n 2, 1) := by decide +kernel
theorem dX7_away_70 : decode cX7_away 70 = .ok (.iconst 3, 1) := by decide +kernel
theorem dX7_away_71 : decode cX7_away 71 = .ok (.iconst 0, 1) := by decide +kernel
theorem dX7_away_72 : decode cX7_away 72 = .ok (.iastore, 1) := by decide +kernel
theorem dX7_away_73 : decode cX7_away 73 = .ok (.aload_n 2, 1) := by decide +kernel
theorem dX7_away_74 : decode cX7_away 74 = .ok (.iconst 4, 1) := by decide +kernel
theorem dX7_away_75 : decode cX7_away 75 = .ok (.iconst (-1), 1) := by decide +kernel
theorem dX7_away_76 : decode cX7_away 76 = .ok (.iastore, 1) := by decide +kernel
theorem dX7_away_77 : decode cX7_away 77 = .ok (.aload_n 2, 1) := by decide +kernel
theorem dX7_away_78 : decode cX7_away 78 = .ok (.iconst 5, 1) := by decide +kernel
theorem dX7_away_79 : decode cX7_away 79 = .ok (.iconst 0, 1) := by decide +kernel
theorem dX7_away_80 : decode cX7_away 80 = .ok (.iastore, 1) := by decide +kernel
theorem dX7_away_81 : decode cX7_away 81 = .ok (.aload_n 0, 1) := by decide +kernel
theorem dX7_away_82 : decode cX7_away 82 = .ok (.invokevirtual 152, 3) := by decide +kernel
theorem dX7_away_85 : decode cX7_away 85 = .ok (.ireturn, 1) := by decide +kernel
theorem dX7_tap_0 : decode cX7_tap 0 = .ok (.aload_n 0, 1) := by decide +kernel
theorem dX7_tap_1 : decode cX7_tap 1 = .ok (.iload_n 1, 1) := by decide +kernel
theorem dX7_tap_2 : decode cX7_tap 2 = .ok (.iconst 0, 1) := by decide +kernel
theorem dX7_tap_3 : decode cX7_tap 3 = .ok (.iconst 3, 1) := by decide +kernel
theorem dX7_tap_4 : decode cX7_tap 4 = .ok (.invokestatic 42, 3) := by decide +kernel
theorem dX7_tap_7 : decode cX7_tap 7 = .ok (.ifCond .eq 7, 3) := by decide +kernel
theorem dX7_tap_10 : decode cX7_tap 10 = .ok (.iconst 0, 1) := by decide +kernel
theorem dX7_tap_11 : decode cX7_tap 11 = .ok (.goto 4, 3) := by decide +kernel
theorem dX7_tap_14 : decode cX7_tap 14 = .ok (.iconst 1, 1) := by decide +kernel
theorem dX7_tap_15 : decode cX7_tap 15 = .ok (.putfield 35, 3) := by decide +kernel
theorem dX7_tap_18 : decode cX7_tap 18 = .ok (.aload_n 0, 1) := by decide +kernel
theorem dX7_tap_19 : decode cX7_tap 19 = .ok (.getfield 35, 3) := by decide +kernel
theorem dX7_tap_22 : decode cX7_tap 22 = .ok (.ifCond .le 5, 3) := by decide +kernel
theorem dX7_tap_25 : decode cX7_tap 25 = .ok (.iconst 0, 1) := by decide +kernel
theorem dX7_tap_26 : decode cX7_tap 26 = .ok (.ireturn, 1) := by decide +kernel
theorem dX7_tap_27 : decode cX7_tap 27 = .ok (.aload_n 0, 1) := by decide +kernel
theorem dX7_tap_28 : decode cX7_tap 28 = .ok (.invokevirtual 155, 3) := by decide +kernel
theorem dX7_tap_31 : decode cX7_tap 31 = .ok (.istore_n 2, 1) := by decide +kernel
theorem dX7_tap_32 : decode cX7_tap 32 = .ok (.iload_n 1, 1) := by decide +kernel
theorem dX7_tap_33 : decode cX7_tap 33 = .ok (.ifCond .ne 24, 3) := by decide +kernel
theorem dX7_tap_36 : decode cX7_tap 36 = .ok (.aload_n 0, 1) := by decide +kernel
theorem dX7_tap_37 : decode cX7_tap 37 = .ok (.getfield 26, 3) := by decide +kernel
theorem dX7_tap_40 : decode cX7_tap 40 = .ok (.iconst (-1), 1) := by decide +kernel
theorem dX7_tap_41 : decode cX7_tap 41 = .ok (.if_icmp .ne 12, 3) := by decide +kernel
theorem dX7_tap_44 : decode cX7_tap 44 = .ok (.iload_n 2, 1) := by decide +kernel
theorem dX7_tap_45 : decode cX7_tap 45 = .ok (.iconst (-1), 1) := by decide +kernel
theorem dX7_tap_46 : decode cX7_tap 46 = .ok (.if_icmp .eq 7, 3) := by decide +kernel
theorem dX7_tap_49 : decode cX7_tap 49 = .ok (.iconst 1, 1) := by decide +kernel
theorem dX7_tap_50 : decode cX7_tap 50 = .ok (.goto 20, 3) := by decide +kernel
theorem dX7_tap_53 : decode cX7_tap 53 = .ok (.iconst 0, 1) := by decide +kernel
theorem dX7_tap_54 : decode cX7_tap 54 = .ok (.goto 16, 3) := by decide +kernel
theorem dX7_tap_57 : decode cX7_tap 57 = .ok (.aload_n 0, 1) := by decide +kernel
theorem dX7_tap_58 : decode cX7_tap 58 = .ok (.getfield 26, 3) := by decide +kernel
theorem dX7_tap_61 : decode cX7_tap 61 = .ok (.iconst (-1), 1) := by decide +kernel
theorem dX7_tap_62 : decode cX7_tap 62 = .ok (.if_icmp .eq 7, 3) := by decide +kernel
theorem dX7_tap_65 : decode cX7_tap 65 = .ok (.iconst 1, 1) := by decide +kernel
theorem dX7_tap_66 : decode cX7_tap 66 = .ok (.goto 4, 3) := by decide +kernel
theorem dX7_tap_69 : decode cX7_tap 69 = .ok (.iconst 0, 1) := by decide +kernel
theorem dX7_tap_70 : decode cX7_tap 70 = .ok (.istore_n 3, 1) := by decide +kernel
theorem dX7_tap_71 : decode cX7_tap 71 = .ok (.iload_n 3, 1) := by decide +kernel
theorem dX7_tap_72 : decode cX7_tap 72 = .ok (.ifCond .ne 16, 3) := by decide +kernel
theorem dX7_tap_75 : decode cX7_tap 75 = .ok (.aload_n 0, 1) := by decide +kernel
theorem dX7_tap_76 : decode cX7_tap 76 = .ok (.dup, 1) := by decide +kernel
theorem dX7_tap_77 : decode cX7_tap 77 = .ok (.getfield 158, 3) := by decide +kernel
theorem dX7_tap_80 : decode cX7_tap 80 = .ok (.iconst 1, 1) := by decide +kernel
theorem dX7_tap_81 : decode cX7_tap 81 = .ok (.iadd, 1) := by decide +kernel
theorem dX7_tap_82 : decode cX7_tap 82 = .ok (.putfield 158, 3) := by decide +kernel
theorem dX7_tap_85 : decode cX7_tap 85 = .ok (.goto 47, 3) := by decide +kernel
theorem dX7_tap_88 : decode cX7_tap 88 = .ok (.iload_n 1, 1) := by decide +kernel
theorem dX7_tap_89 : decode cX7_tap 89 = .ok (.ifCond .le 11, 3) := by decide +kernel
theorem dX7_tap_92 : decode cX7_tap 92 = .ok (.aload_n 0, 1) := by decide +kernel
theorem dX7_tap_93 : decode cX7_tap 93 = .ok (.iload_n 1, 1) := by decide +kernel
theorem dX7_tap_94 : decode cX7_tap 94 = .ok (.putfield 161, 3) := by decide +kernel
theorem dX7_tap_97 : decode cX7_tap 97 = .ok (.goto 35, 3) := by decide +kernel
theorem dX7_tap_100 : decode cX7_tap 100 = .ok (.aload_n 0, 1) := by decide +kernel
theorem dX7_tap_101 : decode cX7_tap 101 = .ok (.aload_n 0, 1) := by decide +kernel
theorem dX7_tap_102 : decode cX7_tap 102 = .ok (.getfield 19, 3) := by decide +kernel
theorem dX7_tap_105 : decode cX7_tap 105 = .ok (.iload_n 2, 1) := by decide +kernel
theorem dX7_tap_106 : decode cX7_tap 106 = .ok (.invokevirtual 48, 3) := by decide +kernel
theorem dX7_tap_109 : decode cX7_tap 109 = .ok (.checkcast 52, 3) := by decide +kernel
theorem dX7_tap_112 : decode cX7_tap 112 = .ok (.iconst 1, 1) := by decide +kernel
theorem dX7_tap_113 : decode cX7_tap 113 = .ok (.iaload, 1) := by decide +kernel
theorem dX7_tap_114 : decode cX7_tap 114 = .ok (.putfield 26, 3) := by decide +kernel
theorem dX7_tap_117 : decode cX7_tap 117 = .ok (.aload_n 0, 1) := by decide +kernel
theorem dX7_tap_118 : decode cX7_tap 118 = .ok (.iconst 1, 1) := by decide +kernel
theorem dX7_tap_119 : decode cX7_tap 119 = .ok (.putfield 164, 3) := by decide +kernel
theorem dX7_tap_122 : decode cX7_tap 122 = .ok (.aload_n 0, 1) := by decide +kernel
theorem dX7_tap_123 : decode cX7_tap 123 = .ok (.iconst 0, 1) := by decide +kernel
theorem dX7_tap_124 : decode cX7_tap 124 = .ok (.putfield 167, 3) := by decide +kernel
theorem dX7_tap_127 : decode cX7_tap 127 = .ok (.aload_n 0, 1) := by decide +kernel
theorem dX7_tap_128 : decode cX7_tap 128 = .ok (.iconst 0, 1) := by decide +kernel
theorem dX7_tap_129 : decode cX7_tap 129 = .ok (.putfield 161, 3) := by decide +kernel
theorem dX7_tap_132 : decode cX7_tap 132 = .ok (.iload_n 3, 1) := by decide +kernel
theorem dX7_tap_133 : decode cX7_tap 133 = .ok (.ireturn, 1) := by decide +kernel
theorem dX7_cycle_0 : decode cX7_cycle 0 = .ok (.iconst 4, 1) := by decide +kernel
theorem dX7_cycle_1 : decode cX7_cycle 1 = .ok (.newarray .int, 2) := by decide +kernel
theorem dX7_cycle_3 : decode cX7_cycle 3 = .ok (.dup, 1) := by decide +kernel
theorem dX7_cycle_4 : decode cX7_cycle 4 = .ok (.iconst 0, 1) := by decide +kernel
theorem dX7_cycle_5 : decode cX7_cycle 5 = .ok (.bipush 8, 2) := by decide +kernel
theorem dX7_cycle_7 : decode cX7_cycle 7 = .ok (.iastore, 1) := by decide +kernel
theorem dX7_cycle_8 : decode cX7_cycle 8 = .ok (.dup, 1) := by decide +kernel
theorem dX7_cycle_9 : decode cX7_cycle 9 = .ok (.iconst 1, 1) := by decide +kernel
theorem dX7_cycle_10 : decode cX7_cycle 10 = .ok (.bipush 16, 2) := by decide +kernel
theorem dX7_cycle_12 : decode cX7_cycle 12 = .ok (.iastore, 1) := by decide +kernel
theorem dX7_cycle_13 : decode cX7_cycle 13 = .ok (.dup, 1) := by decide +kernel
theorem dX7_cycle_14 : decode cX7_cycle 14 = .ok (.iconst 2, 1) := by decide +kernel
theorem dX7_cycle_15 : decode cX7_cycle 15 = .ok (.bipush 12, 2) := by decide +kernel
theorem dX7_cycle_17 : decode cX7_cycle 17 = .ok (.iastore, 1) := by decide +kernel
theorem dX7_cycle_18 : decode cX7_cycle 18 = .ok (.dup, 1) := by decide +kernel
theorem dX7_cycle_19 : decode cX7_cycle 19 = .ok (.iconst 3, 1) := by decide +kernel
theorem dX7_cycle_20 : decode cX7_cycle 20 = .ok (.bipush 32, 2) := by decide +kernel
theorem dX7_cycle_22 : decode cX7_cycle 22 = .ok (.iastore, 1) := by decide +kernel
theorem dX7_cycle_23 : decode cX7_cycle 23 = .ok (.astore_n 1, 1) := by decide +kernel
theorem dX7_cycle_24 : decode cX7_cycle 24 = .ok (.aload_n 1, 1) := by decide +kernel
theorem dX7_cycle_25 : decode cX7_cycle 25 = .ok (.aload_n 0, 1) := by decide +kernel
theorem dX7_cycle_26 : decode cX7_cycle 26 = .ok (.getfield 26, 3) := by decide +kernel
theorem dX7_cycle_29 : decode cX7_cycle 29 = .ok (.iaload, 1) := by decide +kernel
theorem dX7_cycle_30 : decode cX7_cycle 30 = .ok (.ireturn, 1) := by decide +kernel
theorem dX7_silence_0 : decode cX7_silence 0 = .ok (.aload_n 0, 1) := by decide +kernel
theorem dX7_silence_1 : decode cX7_silence 1 = .ok (.iconst (-1), 1) := by decide +kernel
theorem dX7_silence_2 : decode cX7_silence 2 = .ok (.putfield 26, 3) := by decide +kernel
theorem dX7_silence_5 : decode cX7_silence 5 = .ok (.aload_n 0, 1) := by decide +kernel
theorem dX7_silence_6 : decode cX7_silence 6 = .ok (.iconst 0, 1) := by decide +kernel
theorem dX7_silence_7 : decode cX7_silence 7 = .ok (.putfield 164, 3) := by decide +kernel
theorem dX7_silence_10 : decode cX7_silence 10 = .ok (.aload_n 0, 1) := by decide +kernel
theorem dX7_silence_11 : decode cX7_silence 11 = .ok (.iconst 0, 1) := by decide +kernel
theorem dX7_silence_12 : decode cX7_silence 12 = .ok (.putfield 167, 3) := by decide +kernel
theorem dX7_silence_15 : decode cX7_silence 15 = .ok (.aload_n 0, 1) := by decide +kernel
theorem dX7_silence_16 : decode cX7_silence 16 = .ok (.iconst 0, 1) := by decide +kernel
theorem dX7_silence_17 : decode cX7_silence 17 = .ok (.putfield 161, 3) := by decide +kernel
theorem dX7_silence_20 : decode cX7_silence 20 = .ok (.return_, 1) := by decide +kernel
theorem dX7_play_0 : decode cX7_play 0 = .ok (.iconst 0, 1) := by decide +kernel
theorem dX7_play_1 : decode cX7_play 1 = .ok (.istore_n 1, 1) := by decide +kernel
theorem dX7_play_2 : decode cX7_play 2 = .ok (.bipush 8, 2) := by decide +kernel
theorem dX7_play_4 : decode cX7_play 4 = .ok (.aload_n 0, 1) := by decide +kernel
theorem dX7_play_5 : decode cX7_play 5 = .ok (.getfield 164, 3) := by decide +kernel
theorem dX7_play_8 : decode cX7_play 8 = .ok (.imul, 1) := by decide +kernel
theorem dX7_play_9 : decode cX7_play 9 = .ok (.istore_n 2, 1) := by decide +kernel
theorem dX7_play_10 : decode cX7_play 10 = .ok (.iload_n 2, 1) := by decide +kernel
theorem dX7_play_11 : decode cX7_play 11 = .ok (.ifCond .le 110, 3) := by decide +kernel
theorem dX7_play_14 : decode cX7_play 14 = .ok (.aload_n 0, 1) := by decide +kernel
theorem dX7_play_15 : decode cX7_play 15 = .ok (.getfield 26, 3) := by decide +kernel
theorem dX7_play_18 : decode cX7_play 18 = .ok (.iconst (-1), 1) := by decide +kernel
theorem dX7_play_19 : decode cX7_play 19 = .ok (.if_icmp .eq 102, 3) := by decide +kernel
theorem dX7_play_22 : decode cX7_play 22 = .ok (.aload_n 0, 1) := by decide +kernel
theorem dX7_play_23 : decode cX7_play 23 = .ok (.dup, 1) := by decide +kernel
theorem dX7_play_24 : decode cX7_play 24 = .ok (.getfield 167, 3) := by decide +kernel
theorem dX7_play_27 : decode cX7_play 27 = .ok (.iconst 1, 1) := by decide +kernel
theorem dX7_play_28 : decode cX7_play 28 = .ok (.iadd, 1) := by decide +kernel
theorem dX7_play_29 : decode cX7_play 29 = .ok (.putfield 167, 3) := by decide +kernel
theorem dX7_play_32 : decode cX7_play 32 = .ok (.aload_n 0, 1) := by decide +kernel
theorem dX7_play_33 : decode cX7_play 33 = .ok (.getfield 167, 3) := by decide +kernel
theorem dX7_play_36 : decode cX7_play 36 = .ok (.aload_n 0, 1) := by decide +kernel
theorem dX7_play_37 : decode cX7_play 37 = .ok (.invokevirtual 170, 3) := by decide +kernel
theorem dX7_play_40 : decode cX7_play 40 = .ok (.if_icmp .ge 6, 3) := by decide +kernel
theorem dX7_play_43 : decode cX7_play 43 = .ok (.goto 72, 3) := by decide +kernel
theorem dX7_play_46 : decode cX7_play 46 = .ok (.aload_n 0, 1) := by decide +kernel
theorem dX7_play_47 : decode cX7_play 47 = .ok (.iconst 0, 1) := by decide +kernel
theorem dX7_play_48 : decode cX7_play 48 = .ok (.putfield 167, 3) := by decide +kernel
theorem dX7_play_51 : decode cX7_play 51 = .ok (.iinc 1 1, 3) := by decide +kernel
theorem dX7_play_54 : decode cX7_play 54 = .ok (.aload_n 0, 1) := by decide +kernel
theorem dX7_play_55 : decode cX7_play 55 = .ok (.getfield 161, 3) := by decide +kernel
theorem dX7_play_58 : decode cX7_play 58 = .ok (.iconst 1, 1) := by decide +kernel
theorem dX7_play_59 : decode cX7_play 59 = .ok (.if_icmp .ne 17, 3) := by decide +kernel
theorem dX7_play_62 : decode cX7_play 62 = .ok (.aload_n 0, 1) := by decide +kernel
theorem dX7_play_63 : decode cX7_play 63 = .ok (.iconst 3, 1) := by decide +kernel
theorem dX7_play_64 : decode cX7_play 64 = .ok (.aload_n 0, 1) := by decide +kernel
theorem dX7_play_65 : decode cX7_play 65 = .ok (.getfield 164, 3) := by decide +kernel
theorem dX7_play_68 : decode cX7_play 68 = .ok (.iconst 1, 1) := by decide +kernel
theorem dX7_play_69 : decode cX7_play 69 = .ok (.iadd, 1) := by decide +kernel
theorem dX7_play_70 : decode cX7_play 70 = .ok (.invokestatic 62, 3) := by decide +kernel
theorem dX7_play_73 : decode cX7_play 73 = .ok (.putfield 164, 3) := by decide +kernel
theorem dX7_play_76 : decode cX7_play 76 = .ok (.aload_n 0, 1) := by decide +kernel
theorem dX7_play_77 : decode cX7_play 77 = .ok (.getfield 161, 3) := by decide +kernel
theorem dX7_play_80 : decode cX7_play 80 = .ok (.iconst 2, 1) := by decide +kernel
theorem dX7_play_81 : decode cX7_play 81 = .ok (.if_icmp .ne 17, 3) := by decide +kernel
theorem dX7_play_84 : decode cX7_play 84 = .ok (.aload_n 0, 1) := by decide +kernel
theorem dX7_play_85 : decode cX7_play 85 = .ok (.iconst 1, 1) := by decide +kernel
theorem dX7_play_86 : decode cX7_play 86 = .ok (.aload_n 0, 1) := by decide +kernel
theorem dX7_play_87 : decode cX7_play 87 = .ok (.getfield 164, 3) := by decide +kernel
theorem dX7_play_90 : decode cX7_play 90 = .ok (.iconst 1, 1) := by decide +kernel
theorem dX7_play_91 : decode cX7_play 91 = .ok (.isub, 1) := by decide +kernel
theorem dX7_play_92 : decode cX7_play 92 = .ok (.invokestatic 173, 3) := by decide +kernel
theorem dX7_play_95 : decode cX7_play 95 = .ok (.putfield 164, 3) := by decide +kernel
theorem dX7_play_98 : decode cX7_play 98 = .ok (.aload_n 0, 1) := by decide +kernel
theorem dX7_play_99 : decode cX7_play 99 = .ok (.getfield 161, 3) := by decide +kernel
theorem dX7_play_102 : decode cX7_play 102 = .ok (.iconst 3, 1) := by decide +kernel
theorem dX7_play_103 : decode cX7_play 103 = .ok (.if_icmp .ne 7, 3) := by decide +kernel
theorem dX7_play_106 : decode cX7_play 106 = .ok (.aload_n 0, 1) := by decide +kernel
theorem dX7_play_107 : decode cX7_play 107 = .ok (.invokevirtual 176, 3) := by decide +kernel
theorem dX7_play_110 : decode cX7_play 110 = .ok (.aload_n 0, 1) := by decide +kernel
theorem dX7_play_111 : decode cX7_play 111 = .ok (.iconst 0, 1) := by decide +kernel
theorem dX7_play_112 : decode cX7_play 112 = .ok (.putfield 161, 3) := by decide +kernel
theorem dX7_play_115 : decode cX7_play 115 = .ok (.iinc 2 (-1), 3) := by decide +kernel
theorem dX7_play_118 : decode cX7_play 118 = .ok (.goto (-108), 3) := by decide +kernel
theorem dX7_play_121 : decode cX7_play 121 = .ok (.aload_n 0, 1) := by decide +kernel
theorem dX7_play_122 : decode cX7_play 122 = .ok (.dup, 1) := by decide +kernel
theorem dX7_play_123 : decode cX7_play 123 = .ok (.getfield 179, 3) := by decide +kernel
theorem dX7_play_126 : decode cX7_play 126 = .ok (.iload_n 1, 1) := by decide +kernel
theorem dX7_play_127 : decode cX7_play 127 = .ok (.iadd, 1) := by decide +kernel
theorem dX7_play_128 : decode cX7_play 128 = .ok (.putfield 179, 3) := by decide +kernel
theorem dX7_play_131 : decode cX7_play 131 = .ok (.iload_n 1, 1) := by decide +kernel
theorem dX7_play_132 : decode cX7_play 132 = .ok (.ireturn, 1) := by decide +kernel
theorem dX7_go_0 : decode cX7_go 0 = .ok (.iconst 0, 1) := by decide +kernel
theorem dX7_go_1 : decode cX7_go 1 = .ok (.istore_n 3, 1) := by decide +kernel
theorem dX7_go_2 : decode cX7_go 2 = .ok (.iconst 0, 1) := by decide +kernel
theorem dX7_go_3 : decode cX7_go 3 = .ok (.istore 4, 2) := by decide +kernel
theorem dX7_go_5 : decode cX7_go 5 = .ok (.iload 4, 2) := by decide +kernel
theorem dX7_go_7 : decode cX7_go 7 = .ok (.iload_n 1, 1) := by decide +kernel
theorem dX7_go_8 : decode cX7_go 8 = .ok (.if_icmp .ge 101, 3) := by decide +kernel
theorem dX7_go_11 : decode cX7_go 11 = .ok (.aload_n 0, 1) := by decide +kernel
theorem dX7_go_12 : decode cX7_go 12 = .ok (.dup, 1) := by decide +kernel
theorem dX7_go_13 : decode cX7_go 13 = .ok (.getfield 86, 3) := by decide +kernel
theorem dX7_go_16 : decode cX7_go 16 = .ok (.iconst 1, 1) := by decide +kernel
theorem dX7_go_17 : decode cX7_go 17 = .ok (.iadd, 1) := by decide +kernel
theorem dX7_go_18 : decode cX7_go 18 = .ok (.putfield 86, 3) := by decide +kernel
theorem dX7_go_21 : decode cX7_go 21 = .ok (.iload_n 3, 1) := by decide +kernel
theorem dX7_go_22 : decode cX7_go 22 = .ok (.aload_n 0, 1) := by decide +kernel
theorem dX7_go_23 : decode cX7_go 23 = .ok (.invokevirtual 182, 3) := by decide +kernel
theorem dX7_go_26 : decode cX7_go 26 = .ok (.iadd, 1) := by decide +kernel
theorem dX7_go_27 : decode cX7_go 27 = .ok (.istore_n 3, 1) := by decide +kernel
theorem dX7_go_28 : decode cX7_go 28 = .ok (.iload_n 2, 1) := by decide +kernel
theorem dX7_go_29 : decode cX7_go 29 = .ok (.ifCond .ne 17, 3) := by decide +kernel
theorem dX7_go_32 : decode cX7_go 32 = .ok (.aload_n 0, 1) := by decide +kernel
theorem dX7_go_33 : decode cX7_go 33 = .ok (.iconst 0, 1) := by decide +kernel
theorem dX7_go_34 : decode cX7_go 34 = .ok (.aload_n 0, 1) := by decide +kernel
theorem dX7_go_35 : decode cX7_go 35 = .ok (.getfield 185, 3) := by decide +kernel
theorem dX7_go_38 : decode cX7_go 38 = .ok (.iconst 1, 1) := by decide +kernel
theorem dX7_go_39 : decode cX7_go 39 = .ok (.isub, 1) := by decide +kernel
theorem dX7_go_40 : decode cX7_go 40 = .ok (.invokestatic 173, 3) := by decide +kernel
theorem dX7_go_43 : decode cX7_go 43 = .ok (.putfield 185, 3) := by decide +kernel
theorem dX7_go_46 : decode cX7_go 46 = .ok (.aload_n 0, 1) := by decide +kernel
theorem dX7_go_47 : decode cX7_go 47 = .ok (.getfield 16, 3) := by decide +kernel
theorem dX7_go_50 : decode cX7_go 50 = .ok (.invokevirtual 72, 3) := by decide +kernel
theorem dX7_go_53 : decode cX7_go 53 = .ok (.astore 5, 2) := by decide +kernel
theorem dX7_go_55 : decode cX7_go 55 = .ok (.aload 5, 2) := by decide +kernel
theorem dX7_go_57 : decode cX7_go 57 = .ok (.invokeinterface 76 1, 5) := by decide +kernel
theorem dX7_go_62 : decode cX7_go 62 = .ok (.ifCond .eq 41, 3) := by decide +kernel
theorem dX7_go_65 : decode cX7_go 65 = .ok (.aload 5, 2) := by decide +kernel
theorem dX7_go_67 : decode cX7_go 67 = .ok (.invokeinterface 82 1, 5) := by decide +kernel
theorem dX7_go_72 : decode cX7_go 72 = .ok (.checkcast 52, 3) := by decide +kernel
theorem dX7_go_75 : decode cX7_go 75 = .ok (.astore 6, 2) := by decide +kernel
theorem dX7_go_77 : decode cX7_go 77 = .ok (.aload_n 0, 1) := by decide +kernel
theorem dX7_go_78 : decode cX7_go 78 = .ok (.getfield 86, 3) := by decide +kernel
theorem dX7_go_81 : decode cX7_go 81 = .ok (.bipush 30, 2) := by decide +kernel
theorem dX7_go_83 : decode cX7_go 83 = .ok (.irem, 1) := by decide +kernel
theorem dX7_go_84 : decode cX7_go 84 = .ok (.ifCond .ne 16, 3) := by decide +kernel
theorem dX7_go_87 : decode cX7_go 87 = .ok (.aload 6, 2) := by decide +kernel
theorem dX7_go_89 : decode cX7_go 89 = .ok (.iconst 3, 1) := by decide +kernel
theorem dX7_go_90 : decode cX7_go 90 = .ok (.iaload, 1) := by decide +kernel
theorem dX7_go_91 : decode cX7_go 91 = .ok (.ifCond .eq 9, 3) := by decide +kernel
theorem dX7_go_94 : decode cX7_go 94 = .ok (.aload 6, 2) := by decide +kernel
theorem dX7_go_96 : decode cX7_go 96 = .ok (.iconst 1, 1) := by decide +kernel
theorem dX7_go_97 : decode cX7_go 97 = .ok (.invokestatic 144, 3) := by decide +kernel
theorem dX7_go_100 : decode cX7_go 100 = .ok (.goto (-45), 3) := by decide +kernel
theorem dX7_go_103 : decode cX7_go 103 = .ok (.iinc 4 1, 3) := by decide +kernel
theorem dX7_go_106 : decode cX7_go 106 = .ok (.goto (-101), 3) := by decide +kernel
theorem dX7_go_109 : decode cX7_go 109 = .ok (.iload_n 3, 1) := by decide +kernel
theorem dX7_go_110 : decode cX7_go 110 = .ok (.ireturn, 1) := by decide +kernel
theorem dX7_people_0 : decode cX7_people 0 = .ok (.iconst 0, 1) := by decide +kernel
theorem dX7_people_1 : decode cX7_people 1 = .ok (.istore_n 1, 1) := by decide +kernel
theorem dX7_people_2 : decode cX7_people 2 = .ok (.aload_n 0, 1) := by decide +kernel
theorem dX7_people_3 : decode cX7_people 3 = .ok (.getfield 16, 3) := by decide +kernel
theorem dX7_people_6 : decode cX7_people 6 = .ok (.invokevirtual 72, 3) := by decide +kernel
theorem dX7_people_9 : decode cX7_people 9 = .ok (.astore_n 2, 1) := by decide +kernel
theorem dX7_people_10 : decode cX7_people 10 = .ok (.aload_n 2, 1) := by decide +kernel
theorem dX7_people_11 : decode cX7_people 11 = .ok (.invokeinterface 76 1, 5) := by decide +kernel
theorem dX7_people_16 : decode cX7_people 16 = .ok (.ifCond .eq 30, 3) := by decide +kernel
theorem dX7_people_19 : decode cX7_people 19 = .ok (.aload_n 2, 1) := by decide +kernel
theorem dX7_people_20 : decode cX7_people 20 = .ok (.invokeinterface 82 1, 5) := by decide +kernel
theorem dX7_people_25 : decode cX7_people 25 = .ok (.checkcast 52, 3) := by decide +kernel
theorem dX7_people_28 : decode cX7_people 28 = .ok (.astore_n 3, 1) := by decide +kernel
theorem dX7_people_29 : decode cX7_people 29 = .ok (.aload_n 3, 1) := by decide +kernel
theorem dX7_people_30 : decode cX7_people 30 = .ok (.iconst 3, 1) := by decide +kernel
theorem dX7_people_31 : decode cX7_people 31 = .ok (.iaload, 1) := by decide +kernel
theorem dX7_people_32 : decode cX7_people 32 = .ok (.ifCond .eq 11, 3) := by decide +kernel
theorem dX7_people_35 : decode cX7_people 35 = .ok (.iload_n 1, 1) := by decide +kernel
theorem dX7_people_36 : decode cX7_people 36 = .ok (.iconst 1, 1) := by decide +kernel
theorem dX7_people_37 : decode cX7_people 37 = .ok (.aload_n 3, 1) := by decide +kernel
theorem dX7_people_38 : decode cX7_people 38 = .ok (.iconst 0, 1) := by decide +kernel
theorem dX7_people_39 : decode cX7_people 39 = .ok (.iaload, 1) := by decide +kernel
theorem dX7_people_40 : decode cX7_people 40 = .ok (.ishl, 1) := by decide +kernel
theorem dX7_people_41 : decode cX7_people 41 = .ok (.ior, 1) := by decide +kernel
theorem dX7_people_42 : decode cX7_people 42 = .ok (.istore_n 1, 1) := by decide +kernel
theorem dX7_people_43 : decode cX7_people 43 = .ok (.goto (-33), 3) := by decide +kernel
theorem dX7_people_46 : decode cX7_people 46 = .ok (.iload_n 1, 1) := by decide +kernel
theorem dX7_people_47 : decode cX7_people 47 = .ok (.ireturn, 1) := by decide +kernel
theorem dX7_speak_0 : decode cX7_speak 0 = .ok (.aload_n 0, 1) := by decide +kernel
theorem dX7_speak_1 : decode cX7_speak 1 = .ok (.iconst 0, 1) := by decide +kernel
theorem dX7_speak_2 : decode cX7_speak 2 = .ok (.putfield 35, 3) := by decide +kernel
theorem dX7_speak_5 : decode cX7_speak 5 = .ok (.aload_n 0, 1) := by decide +kernel
theorem dX7_speak_6 : decode cX7_speak 6 = .ok (.iload_n 1, 1) := by decide +kernel
theorem dX7_speak_7 : decode cX7_speak 7 = .ok (.invokevirtual 101, 3) := by decide +kernel
theorem dX7_speak_10 : decode cX7_speak 10 = .ok (.ifCond .eq 11, 3) := by decide +kernel
theorem dX7_speak_13 : decode cX7_speak 13 = .ok (.aload_n 0, 1) := by decide +kernel
theorem dX7_speak_14 : decode cX7_speak 14 = .ok (.iload_n 2, 1) := by decide +kernel
theorem dX7_speak_15 : decode cX7_speak 15 = .ok (.invokevirtual 101, 3) := by decide +kernel
theorem dX7_speak_18 : decode cX7_speak 18 = .ok (.ifCond .ne 9, 3) := by decide +kernel
theorem dX7_speak_21 : decode cX7_speak 21 = .ok (.aload_n 0, 1) := by decide +kernel
theorem dX7_speak_22 : decode cX7_speak 22 = .ok (.iconst 1, 1) := by decide +kernel
theorem dX7_speak_23 : decode cX7_speak 23 = .ok (.invokevirtual 93, 3) := by decide +kernel
theorem dX7_speak_26 : decode cX7_speak 26 = .ok (.ireturn, 1) := by decide +kernel
theorem dX7_speak_27 : decode cX7_speak 27 = .ok (.iload_n 1, 1) := by decide +kernel
theorem dX7_speak_28 : decode cX7_speak 28 = .ok (.iload_n 2, 1) := by decide +kernel
theorem dX7_speak_29 : decode cX7_speak 29 = .ok (.if_icmp .eq 23, 3) := by decide +kernel
theorem dX7_speak_32 : decode cX7_speak 32 = .ok (.iload_n 3, 1) := by decide +kernel
theorem dX7_speak_33 : decode cX7_speak 33 = .ok (.iconst 1, 1) := by decide +kernel
theorem dX7_speak_34 : decode cX7_speak 34 = .ok (.bipush 9, 2) := by decide +kernel
theorem dX7_speak_36 : decode cX7_speak 36 = .ok (.invokestatic 42, 3) := by decide +kernel
theorem dX7_speak_39 : decode cX7_speak 39 = .ok (.ifCond .eq 13, 3) := by decide +kernel
theorem dX7_speak_42 : decode cX7_speak 42 = .ok (.iload 4, 2) := by decide +kernel
theorem dX7_speak_44 : decode cX7_speak 44 = .ok (.iconst (-1), 1) := by decide +kernel
theorem dX7_speak_45 : decode cX7_speak 45 = .ok (.iconst 1, 1) := by decide +kernel
theorem dX7_speak_46 : decode cX7_speak 46 = .ok (.invokestatic 42, 3) := by decide +kernel
theorem dX7_speak_49 : decode cX7_speak 49 = .ok (.ifCond .ne 9, 3) := by decide +kernel
theorem dX7_speak_52 : decode cX7_speak 52 = .ok (.aload_n 0, 1) := by decide +kernel
theorem dX7_speak_53 : decode cX7_speak 53 = .ok (.iconst 2, 1) := by decide +kernel
theorem dX7_speak_54 : decode cX7_speak 54 = .ok (.invokevirtual 93, 3) := by decide +kernel
theorem dX7_speak_57 : decode cX7_speak 57 = .ok (.ireturn, 1) := by decide +kernel
theorem dX7_speak_58 : decode cX7_speak 58 = .ok (.aload_n 0, 1) := by decide +kernel
theorem dX7_speak_59 : decode cX7_speak 59 = .ok (.invokevirtual 188, 3) := by decide +kernel
theorem dX7_speak_62 : decode cX7_speak 62 = .ok (.iload_n 1, 1) := by decide +kernel
theorem dX7_speak_63 : decode cX7_speak 63 = .ok (.ishr, 1) := by decide +kernel
theorem dX7_speak_64 : decode cX7_speak 64 = .ok (.iconst 1, 1) := by decide +kernel
theorem dX7_speak_65 : decode cX7_speak 65 = .ok (.iand, 1) := by decide +kernel
theorem dX7_speak_66 : decode cX7_speak 66 = .ok (.ifCond .eq 24, 3) := by decide +kernel
theorem dX7_speak_69 : decode cX7_speak 69 = .ok (.aload_n 0, 1) := by decide +kernel
theorem dX7_speak_70 : decode cX7_speak 70 = .ok (.getfield 185, 3) := by decide +kernel
theorem dX7_speak_73 : decode cX7_speak 73 = .ok (.bipush 80, 2) := by decide +kernel
theorem dX7_speak_75 : decode cX7_speak 75 = .ok (.if_icmp .ge 15, 3) := by decide +kernel
theorem dX7_speak_78 : decode cX7_speak 78 = .ok (.aload_n 0, 1) := by decide +kernel
theorem dX7_speak_79 : decode cX7_speak 79 = .ok (.getfield 86, 3) := by decide +kernel
theorem dX7_speak_82 : decode cX7_speak 82 = .ok (.iload_n 3, 1) := by decide +kernel
theorem dX7_speak_83 : decode cX7_speak 83 = .ok (.iadd, 1) := by decide +kernel
theorem dX7_speak_84 : decode cX7_speak 84 = .ok (.sipush 540, 3) := by decide +kernel
theorem dX7_speak_87 : decode cX7_speak 87 = .ok (.if_icmp .le 9, 3) := by decide +kernel
theorem dX7_speak_90 : decode cX7_speak 90 = .ok (.aload_n 0, 1) := by decide +kernel
theorem dX7_speak_91 : decode cX7_speak 91 = .ok (.iconst 3, 1) := by decide +kernel
theorem dX7_speak_92 : decode cX7_speak 92 = .ok (.invokevirtual 93, 3) := by decide +kernel
theorem dX7_speak_95 : decode cX7_speak 95 = .ok (.ireturn, 1) := by decide +kernel
theorem dX7_speak_96 : decode cX7_speak 96 = .ok (.aload_n 0, 1) := by decide +kernel
theorem dX7_speak_97 : decode cX7_speak 97 = .ok (.getfield 10, 3) := by decide +kernel
theorem dX7_speak_100 : decode cX7_speak 100 = .ok (.iload_n 1, 1) := by decide +kernel
theorem dX7_speak_101 : decode cX7_speak 101 = .ok (.invokevirtual 48, 3) := by decide +kernel
theorem dX7_speak_104 : decode cX7_speak 104 = .ok (.checkcast 52, 3) := by decide +kernel
theorem dX7_speak_107 : decode cX7_speak 107 = .ok (.astore 5, 2) := by decide +kernel
theorem dX7_speak_109 : decode cX7_speak 109 = .ok (.aload_n 0, 1) := by decide +kernel
theorem dX7_speak_110 : decode cX7_speak 110 = .ok (.bipush 100, 2) := by decide +kernel
theorem dX7_speak_112 : decode cX7_speak 112 = .ok (.aload_n 0, 1) := by decide +kernel
theorem dX7_speak_113 : decode cX7_speak 113 = .ok (.getfield 185, 3) := by decide +kernel
theorem dX7_speak_116 : decode cX7_speak 116 = .ok (.iload_n 3, 1) := by decide +kernel
theorem dX7_speak_117 : decode cX7_speak 117 = .ok (.aload 5, 2) := by decide +kernel
theorem dX7_speak_119 : decode cX7_speak 119 = .ok (.iconst 2, 1) := by decide +kernel
theorem dX7_speak_120 : decode cX7_speak 120 = .ok (.iaload, 1) := by decide +kernel
theorem dX7_speak_121 : decode cX7_speak 121 = .ok (.aload_n 0, 1) := by decide +kernel
theorem dX7_speak_122 : decode cX7_speak 122 = .ok (.getfield 29, 3) := by decide +kernel
theorem dX7_speak_125 : decode cX7_speak 125 = .ok (.isub, 1) := by decide +kernel
theorem dX7_speak_126 : decode cX7_speak 126 = .ok (.invokestatic 141, 3) := by decide +kernel
theorem dX7_speak_129 : decode cX7_speak 129 = .ok (.imul, 1) := by decide +kernel
theorem dX7_speak_130 : decode cX7_speak 130 = .ok (.iconst 3, 1) := by decide +kernel
theorem dX7_speak_131 : decode cX7_speak 131 = .ok (.idiv, 1) := by decide +kernel
theorem dX7_speak_132 : decode cX7_speak 132 = .ok (.iadd, 1) := by decide +kernel
theorem dX7_speak_133 : decode cX7_speak 133 = .ok (.iconst 1, 1) := by decide +kernel
theorem dX7_speak_134 : decode cX7_speak 134 = .ok (.iadd, 1) := by decide +kernel
theorem dX7_speak_135 : decode cX7_speak 135 = .ok (.invokestatic 62, 3) := by decide +kernel
theorem dX7_speak_138 : decode cX7_speak 138 = .ok (.putfield 185, 3) := by decide +kernel
theorem dX7_speak_141 : decode cX7_speak 141 = .ok (.aload_n 0, 1) := by decide +kernel
theorem dX7_speak_142 : decode cX7_speak 142 = .ok (.aload 5, 2) := by decide +kernel
theorem dX7_speak_144 : decode cX7_speak 144 = .ok (.iconst 2, 1) := by decide +kernel
theorem dX7_speak_145 : decode cX7_speak 145 = .ok (.iaload, 1) := by decide +kernel
theorem dX7_speak_146 : decode cX7_speak 146 = .ok (.putfield 29, 3) := by decide +kernel
theorem dX7_speak_149 : decode cX7_speak 149 = .ok (.aload_n 0, 1) := by decide +kernel
theorem dX7_speak_150 : decode cX7_speak 150 = .ok (.dup, 1) := by decide +kernel
theorem dX7_speak_151 : decode cX7_speak 151 = .ok (.getfield 191, 3) := by decide +kernel
theorem dX7_speak_154 : decode cX7_speak 154 = .ok (.iload 4, 2) := by decide +kernel
theorem dX7_speak_156 : decode cX7_speak 156 = .ok (.aload_n 0, 1) := by decide +kernel
theorem dX7_speak_157 : decode cX7_speak 157 = .ok (.getfield 10, 3) := by decide +kernel
theorem dX7_speak_160 : decode cX7_speak 160 = .ok (.iload_n 2, 1) := by decide +kernel
theorem dX7_speak_161 : decode cX7_speak 161 = .ok (.invokevirtual 48, 3) := by decide +kernel
theorem dX7_speak_164 : decode cX7_speak 164 = .ok (.checkcast 52, 3) := by decide +kernel
theorem dX7_speak_167 : decode cX7_speak 167 = .ok (.iconst 1, 1) := by decide +kernel
theorem dX7_speak_168 : decode cX7_speak 168 = .ok (.iaload, 1) := by decide +kernel
theorem dX7_speak_169 : decode cX7_speak 169 = .ok (.aload 5, 2) := by decide +kernel
theorem dX7_speak_171 : decode cX7_speak 171 = .ok (.iconst 1, 1) := by decide +kernel
theorem dX7_speak_172 : decode cX7_speak 172 = .ok (.iaload, 1) := by decide +kernel
theorem dX7_speak_173 : decode cX7_speak 173 = .ok (.isub, 1) := by decide +kernel
theorem dX7_speak_174 : decode cX7_speak 174 = .ok (.invokestatic 194, 3) := by decide +kernel
theorem dX7_speak_177 : decode cX7_speak 177 = .ok (.if_icmp .ne 7, 3) := by decide +kernel
theorem dX7_speak_180 : decode cX7_speak 180 = .ok (.iconst 0, 1) := by decide +kernel
theorem dX7_speak_181 : decode cX7_speak 181 = .ok (.goto 4, 3) := by decide +kernel
theorem dX7_speak_184 : decode cX7_speak 184 = .ok (.iconst 1, 1) := by decide +kernel
theorem dX7_speak_185 : decode cX7_speak 185 = .ok (.iadd, 1) := by decide +kernel
theorem dX7_speak_186 : decode cX7_speak 186 = .ok (.putfield 191, 3) := by decide +kernel
theorem dX7_speak_189 : decode cX7_speak 189 = .ok (.aload_n 0, 1) := by decide +kernel
theorem dX7_speak_190 : decode cX7_speak 190 = .ok (.iload_n 3, 1) := by decide +kernel
theorem dX7_speak_191 : decode cX7_speak 191 = .ok (.iconst 1, 1) := by decide +kernel
theorem dX7_speak_192 : decode cX7_speak 192 = .ok (.invokevirtual 199, 3) := by decide +kernel
theorem dX7_speak_195 : decode cX7_speak 195 = .ok (.pop, 1) := by decide +kernel
theorem dX7_speak_196 : decode cX7_speak 196 = .ok (.aload_n 0, 1) := by decide +kernel
theorem dX7_speak_197 : decode cX7_speak 197 = .ok (.getfield 185, 3) := by decide +kernel
theorem dX7_speak_200 : decode cX7_speak 200 = .ok (.ireturn, 1) := by decide +kernel
theorem dX7_joke_0 : decode cX7_joke 0 = .ok (.aload_n 0, 1) := by decide +kernel
theorem dX7_joke_1 : decode cX7_joke 1 = .ok (.iconst 0, 1) := by decide +kernel
theorem dX7_joke_2 : decode cX7_joke 2 = .ok (.putfield 35, 3) := by decide +kernel
theorem dX7_joke_5 : decode cX7_joke 5 = .ok (.iload_n 1, 1) := by decide +kernel
theorem dX7_joke_6 : decode cX7_joke 6 = .ok (.iconst 0, 1) := by decide +kernel
theorem dX7_joke_7 : decode cX7_joke 7 = .ok (.bipush 9, 2) := by decide +kernel
theorem dX7_joke_9 : decode cX7_joke 9 = .ok (.invokestatic 42, 3) := by decide +kernel
theorem dX7_joke_12 : decode cX7_joke 12 = .ok (.ifCond .ne 9, 3) := by decide +kernel
theorem dX7_joke_15 : decode cX7_joke 15 = .ok (.aload_n 0, 1) := by decide +kernel
theorem dX7_joke_16 : decode cX7_joke 16 = .ok (.iconst 1, 1) := by decide +kernel
theorem dX7_joke_17 : decode cX7_joke 17 = .ok (.invokevirtual 93, 3) := by decide +kernel
theorem dX7_joke_20 : decode cX7_joke 20 = .ok (.ireturn, 1) := by decide +kernel
theorem dX7_joke_21 : decode cX7_joke 21 = .ok (.aload_n 0, 1) := by decide +kernel
theorem dX7_joke_22 : decode cX7_joke 22 = .ok (.getfield 32, 3) := by decide +kernel
theorem dX7_joke_25 : decode cX7_joke 25 = .ok (.iload_n 1, 1) := by decide +kernel
theorem dX7_joke_26 : decode cX7_joke 26 = .ok (.if_icmp .ge 16, 3) := by decide +kernel
theorem dX7_joke_29 : decode cX7_joke 29 = .ok (.aload_n 0, 1) := by decide +kernel
theorem dX7_joke_30 : decode cX7_joke 30 = .ok (.dup, 1) := by decide +kernel
theorem dX7_joke_31 : decode cX7_joke 31 = .ok (.getfield 203, 3) := by decide +kernel
theorem dX7_joke_34 : decode cX7_joke 34 = .ok (.iconst 1, 1) := by decide +kernel
theorem dX7_joke_35 : decode cX7_joke 35 = .ok (.iadd, 1) := by decide +kernel
theorem dX7_joke_36 : decode cX7_joke 36 = .ok (.putfield 203, 3) := by decide +kernel
theorem dX7_joke_39 : decode cX7_joke 39 = .ok (.bipush (-2), 2) := by decide +kernel
theorem dX7_joke_41 : decode cX7_joke 41 = .ok (.ireturn, 1) := by decide +kernel
theorem dX7_joke_42 : decode cX7_joke 42 = .ok (.aload_n 0, 1) := by decide +kernel
theorem dX7_joke_43 : decode cX7_joke 43 = .ok (.dup, 1) := by decide +kernel
theorem dX7_joke_44 : decode cX7_joke 44 = .ok (.getfield 32, 3) := by decide +kernel
theorem dX7_joke_47 : decode cX7_joke 47 = .ok (.iload_n 1, 1) := by decide +kernel
theorem dX7_joke_48 : decode cX7_joke 48 = .ok (.isub, 1) := by decide +kernel
theorem dX7_joke_49 : decode cX7_joke 49 = .ok (.putfield 32, 3) := by decide +kernel
theorem dX7_joke_52 : decode cX7_joke 52 = .ok (.aload_n 0, 1) := by decide +kernel
theorem dX7_joke_53 : decode cX7_joke 53 = .ok (.getfield 32, 3) := by decide +kernel
theorem dX7_joke_56 : decode cX7_joke 56 = .ok (.ireturn, 1) := by decide +kernel
theorem dX7_offer_0 : decode cX7_offer 0 = .ok (.aload_n 0, 1) := by decide +kernel
theorem dX7_offer_1 : decode cX7_offer 1 = .ok (.iconst 0, 1) := by decide +kernel
theorem dX7_offer_2 : decode cX7_offer 2 = .ok (.putfield 35, 3) := by decide +kernel
theorem dX7_offer_5 : decode cX7_offer 5 = .ok (.aload_n 0, 1) := by decide +kernel
theorem dX7_offer_6 : decode cX7_offer 6 = .ok (.getfield 86, 3) := by decide +kernel
theorem dX7_offer_9 : decode cX7_offer 9 = .ok (.iconst 3, 1) := by decide +kernel
theorem dX7_offer_10 : decode cX7_offer 10 = .ok (.iadd, 1) := by decide +kernel
theorem dX7_offer_11 : decode cX7_offer 11 = .ok (.sipush 540, 3) := by decide +kernel
theorem dX7_offer_14 : decode cX7_offer 14 = .ok (.if_icmp .le 9, 3) := by decide +kernel
theorem dX7_offer_17 : decode cX7_offer 17 = .ok (.aload_n 0, 1) := by decide +kernel
theorem dX7_offer_18 : decode cX7_offer 18 = .ok (.iconst 1, 1) := by decide +kernel
theorem dX7_offer_19 : decode cX7_offer 19 = .ok (.invokevirtual 93, 3) := by decide +kernel
theorem dX7_offer_22 : decode cX7_offer 22 = .ok (.ireturn, 1) := by decide +kernel
theorem dX7_offer_23 : decode cX7_offer 23 = .ok (.aload_n 0, 1) := by decide +kernel
theorem dX7_offer_24 : decode cX7_offer 24 = .ok (.bipush 30, 2) := by decide +kernel
theorem dX7_offer_26 : decode cX7_offer 26 = .ok (.aload_n 0, 1) := by decide +kernel
theorem dX7_offer_27 : decode cX7_offer 27 = .ok (.getfield 32, 3) := by decide +kernel
end
section
theorem dX7_offer_30 : decode cX7_offer 30 = .ok (.iconst 5, 1) := by decide +kernel
theorem dX7_offer_31 : decode cX7_offer 31 = .ok (.iadd, 1) := by decide +kernel
theorem dX7_offer_32 : decode cX7_offer 32 = .ok (.invokestatic 62, 3) := by decide +kernel
theorem dX7_offer_35 : decode cX7_offer 35 = .ok (.putfield 32, 3) := by decide +kernel
theorem dX7_offer_38 : decode cX7_offer 38 = .ok (.aload_n 0, 1) := by decide +kernel
theorem dX7_offer_39 : decode cX7_offer 39 = .ok (.iconst 3, 1) := by decide +kernel
theorem dX7_offer_40 : decode cX7_offer 40 = .ok (.iconst 0, 1) := by decide +kernel
theorem dX7_offer_41 : decode cX7_offer 41 = .ok (.invokevirtual 199, 3) := by decide +kernel
theorem dX7_offer_44 : decode cX7_offer 44 = .ok (.pop, 1) := by decide +kernel
theorem dX7_offer_45 : decode cX7_offer 45 = .ok (.aload_n 0, 1) := by decide +kernel
theorem dX7_offer_46 : decode cX7_offer 46 = .ok (.getfield 32, 3) := by decide +kernel
theorem dX7_offer_49 : decode cX7_offer 49 = .ok (.ireturn, 1) := by decide +kernel
theorem dX7_pass_0 : decode cX7_pass 0 = .ok (.aload_n 0, 1) := by decide +kernel
theorem dX7_pass_1 : decode cX7_pass 1 = .ok (.iconst 0, 1) := by decide +kernel
theorem dX7_pass_2 : decode cX7_pass 2 = .ok (.putfield 35, 3) := by decide +kernel
theorem dX7_pass_5 : decode cX7_pass 5 = .ok (.iload_n 1, 1) := by decide +kernel
theorem dX7_pass_6 : decode cX7_pass 6 = .ok (.iconst 1, 1) := by decide +kernel
theorem dX7_pass_7 : decode cX7_pass 7 = .ok (.bipush 99, 2) := by decide +kernel
theorem dX7_pass_9 : decode cX7_pass 9 = .ok (.invokestatic 42, 3) := by decide +kernel
theorem dX7_pass_12 : decode cX7_pass 12 = .ok (.ifCond .ne 9, 3) := by decide +kernel
theorem dX7_pass_15 : decode cX7_pass 15 = .ok (.aload_n 0, 1) := by decide +kernel
theorem dX7_pass_16 : decode cX7_pass 16 = .ok (.iconst 1, 1) := by decide +kernel
theorem dX7_pass_17 : decode cX7_pass 17 = .ok (.invokevirtual 93, 3) := by decide +kernel
theorem dX7_pass_20 : decode cX7_pass 20 = .ok (.ireturn, 1) := by decide +kernel
theorem dX7_pass_21 : decode cX7_pass 21 = .ok (.aload_n 0, 1) := by decide +kernel
theorem dX7_pass_22 : decode cX7_pass 22 = .ok (.getfield 86, 3) := by decide +kernel
theorem dX7_pass_25 : decode cX7_pass 25 = .ok (.iload_n 1, 1) := by decide +kernel
theorem dX7_pass_26 : decode cX7_pass 26 = .ok (.iadd, 1) := by decide +kernel
theorem dX7_pass_27 : decode cX7_pass 27 = .ok (.sipush 540, 3) := by decide +kernel
theorem dX7_pass_30 : decode cX7_pass 30 = .ok (.if_icmp .le 9, 3) := by decide +kernel
theorem dX7_pass_33 : decode cX7_pass 33 = .ok (.aload_n 0, 1) := by decide +kernel
theorem dX7_pass_34 : decode cX7_pass 34 = .ok (.iconst 2, 1) := by decide +kernel
theorem dX7_pass_35 : decode cX7_pass 35 = .ok (.invokevirtual 93, 3) := by decide +kernel
theorem dX7_pass_38 : decode cX7_pass 38 = .ok (.ireturn, 1) := by decide +kernel
theorem dX7_pass_39 : decode cX7_pass 39 = .ok (.aload_n 0, 1) := by decide +kernel
theorem dX7_pass_40 : decode cX7_pass 40 = .ok (.iload_n 1, 1) := by decide +kernel
theorem dX7_pass_41 : decode cX7_pass 41 = .ok (.iconst 0, 1) := by decide +kernel
theorem dX7_pass_42 : decode cX7_pass 42 = .ok (.invokevirtual 199, 3) := by decide +kernel
theorem dX7_pass_45 : decode cX7_pass 45 = .ok (.ireturn, 1) := by decide +kernel
theorem dX7_knowsBehind_0 : decode cX7_knowsBehind 0 = .ok (.iload_n 2, 1) := by decide +kernel
theorem dX7_knowsBehind_1 : decode cX7_knowsBehind 1 = .ok (.iconst (-1), 1) := by decide +kernel
theorem dX7_knowsBehind_2 : decode cX7_knowsBehind 2 = .ok (.if_icmp .ne 28, 3) := by decide +kernel
theorem dX7_knowsBehind_5 : decode cX7_knowsBehind 5 = .ok (.aload_n 0, 1) := by decide +kernel
theorem dX7_knowsBehind_6 : decode cX7_knowsBehind 6 = .ok (.getfield 10, 3) := by decide +kernel
theorem dX7_knowsBehind_9 : decode cX7_knowsBehind 9 = .ok (.iload_n 1, 1) := by decide +kernel
theorem dX7_knowsBehind_10 : decode cX7_knowsBehind 10 = .ok (.invokevirtual 48, 3) := by decide +kernel
theorem dX7_knowsBehind_13 : decode cX7_knowsBehind 13 = .ok (.checkcast 52, 3) := by decide +kernel
theorem dX7_knowsBehind_16 : decode cX7_knowsBehind 16 = .ok (.iconst 5, 1) := by decide +kernel
theorem dX7_knowsBehind_17 : decode cX7_knowsBehind 17 = .ok (.iaload, 1) := by decide +kernel
theorem dX7_knowsBehind_18 : decode cX7_knowsBehind 18 = .ok (.iconst 1, 1) := by decide +kernel
theorem dX7_knowsBehind_19 : decode cX7_knowsBehind 19 = .ok (.if_icmp .ne 7, 3) := by decide +kernel
theorem dX7_knowsBehind_22 : decode cX7_knowsBehind 22 = .ok (.iconst 1, 1) := by decide +kernel
theorem dX7_knowsBehind_23 : decode cX7_knowsBehind 23 = .ok (.goto 32, 3) := by decide +kernel
theorem dX7_knowsBehind_26 : decode cX7_knowsBehind 26 = .ok (.iconst 0, 1) := by decide +kernel
theorem dX7_knowsBehind_27 : decode cX7_knowsBehind 27 = .ok (.goto 28, 3) := by decide +kernel
theorem dX7_knowsBehind_30 : decode cX7_knowsBehind 30 = .ok (.aload_n 0, 1) := by decide +kernel
theorem dX7_knowsBehind_31 : decode cX7_knowsBehind 31 = .ok (.aload_n 0, 1) := by decide +kernel
theorem dX7_knowsBehind_32 : decode cX7_knowsBehind 32 = .ok (.getfield 19, 3) := by decide +kernel
theorem dX7_knowsBehind_35 : decode cX7_knowsBehind 35 = .ok (.invokevirtual 68, 3) := by decide +kernel
theorem dX7_knowsBehind_38 : decode cX7_knowsBehind 38 = .ok (.iload_n 2, 1) := by decide +kernel
theorem dX7_knowsBehind_39 : decode cX7_knowsBehind 39 = .ok (.aaload, 1) := by decide +kernel
theorem dX7_knowsBehind_40 : decode cX7_knowsBehind 40 = .ok (.iconst 2, 1) := by decide +kernel
theorem dX7_knowsBehind_41 : decode cX7_knowsBehind 41 = .ok (.iaload, 1) := by decide +kernel
theorem dX7_knowsBehind_42 : decode cX7_knowsBehind 42 = .ok (.iload_n 1, 1) := by decide +kernel
theorem dX7_knowsBehind_43 : decode cX7_knowsBehind 43 = .ok (.ishr, 1) := by decide +kernel
theorem dX7_knowsBehind_44 : decode cX7_knowsBehind 44 = .ok (.iconst 1, 1) := by decide +kernel
theorem dX7_knowsBehind_45 : decode cX7_knowsBehind 45 = .ok (.iand, 1) := by decide +kernel
theorem dX7_knowsBehind_46 : decode cX7_knowsBehind 46 = .ok (.iconst 1, 1) := by decide +kernel
theorem dX7_knowsBehind_47 : decode cX7_knowsBehind 47 = .ok (.if_icmp .ne 7, 3) := by decide +kernel
theorem dX7_knowsBehind_50 : decode cX7_knowsBehind 50 = .ok (.iconst 1, 1) := by decide +kernel
theorem dX7_knowsBehind_51 : decode cX7_knowsBehind 51 = .ok (.goto 4, 3) := by decide +kernel
theorem dX7_knowsBehind_54 : decode cX7_knowsBehind 54 = .ok (.iconst 0, 1) := by decide +kernel
theorem dX7_knowsBehind_55 : decode cX7_knowsBehind 55 = .ok (.ireturn, 1) := by decide +kernel
theorem dX7_knows_0 : decode cX7_knows 0 = .ok (.aload_n 0, 1) := by decide +kernel
theorem dX7_knows_1 : decode cX7_knows 1 = .ok (.aload_n 0, 1) := by decide +kernel
theorem dX7_knows_2 : decode cX7_knows 2 = .ok (.iload_n 1, 1) := by decide +kernel
theorem dX7_knows_3 : decode cX7_knows 3 = .ok (.invokevirtual 101, 3) := by decide +kernel
theorem dX7_knows_6 : decode cX7_knows 6 = .ok (.ifCond .eq 20, 3) := by decide +kernel
theorem dX7_knows_9 : decode cX7_knows 9 = .ok (.iload_n 2, 1) := by decide +kernel
theorem dX7_knows_10 : decode cX7_knows 10 = .ok (.iconst (-1), 1) := by decide +kernel
theorem dX7_knows_11 : decode cX7_knows 11 = .ok (.if_icmp .eq 11, 3) := by decide +kernel
theorem dX7_knows_14 : decode cX7_knows 14 = .ok (.aload_n 0, 1) := by decide +kernel
theorem dX7_knows_15 : decode cX7_knows 15 = .ok (.iload_n 2, 1) := by decide +kernel
theorem dX7_knows_16 : decode cX7_knows 16 = .ok (.invokevirtual 109, 3) := by decide +kernel
theorem dX7_knows_19 : decode cX7_knows 19 = .ok (.ifCond .eq 7, 3) := by decide +kernel
theorem dX7_knows_22 : decode cX7_knows 22 = .ok (.iconst 0, 1) := by decide +kernel
theorem dX7_knows_23 : decode cX7_knows 23 = .ok (.goto 4, 3) := by decide +kernel
theorem dX7_knows_26 : decode cX7_knows 26 = .ok (.iconst 1, 1) := by decide +kernel
theorem dX7_knows_27 : decode cX7_knows 27 = .ok (.putfield 35, 3) := by decide +kernel
theorem dX7_knows_30 : decode cX7_knows 30 = .ok (.aload_n 0, 1) := by decide +kernel
theorem dX7_knows_31 : decode cX7_knows 31 = .ok (.getfield 35, 3) := by decide +kernel
theorem dX7_knows_34 : decode cX7_knows 34 = .ok (.ifCond .ne 16, 3) := by decide +kernel
theorem dX7_knows_37 : decode cX7_knows 37 = .ok (.aload_n 0, 1) := by decide +kernel
theorem dX7_knows_38 : decode cX7_knows 38 = .ok (.iload_n 1, 1) := by decide +kernel
theorem dX7_knows_39 : decode cX7_knows 39 = .ok (.iload_n 2, 1) := by decide +kernel
theorem dX7_knows_40 : decode cX7_knows 40 = .ok (.invokevirtual 206, 3) := by decide +kernel
theorem dX7_knows_43 : decode cX7_knows 43 = .ok (.ifCond .eq 7, 3) := by decide +kernel
theorem dX7_knows_46 : decode cX7_knows 46 = .ok (.iconst 1, 1) := by decide +kernel
theorem dX7_knows_47 : decode cX7_knows 47 = .ok (.goto 4, 3) := by decide +kernel
theorem dX7_knows_50 : decode cX7_knows 50 = .ok (.iconst 0, 1) := by decide +kernel
theorem dX7_knows_51 : decode cX7_knows 51 = .ok (.ireturn, 1) := by decide +kernel
theorem dX7_ofFigureNow_0 : decode cX7_ofFigureNow 0 = .ok (.aload_n 0, 1) := by decide +kernel
theorem dX7_ofFigureNow_1 : decode cX7_ofFigureNow 1 = .ok (.getfield 16, 3) := by decide +kernel
theorem dX7_ofFigureNow_4 : decode cX7_ofFigureNow 4 = .ok (.iload_n 1, 1) := by decide +kernel
theorem dX7_ofFigureNow_5 : decode cX7_ofFigureNow 5 = .ok (.invokevirtual 48, 3) := by decide +kernel
theorem dX7_ofFigureNow_8 : decode cX7_ofFigureNow 8 = .ok (.checkcast 52, 3) := by decide +kernel
theorem dX7_ofFigureNow_11 : decode cX7_ofFigureNow 11 = .ok (.astore_n 3, 1) := by decide +kernel
theorem dX7_ofFigureNow_12 : decode cX7_ofFigureNow 12 = .ok (.iload_n 2, 1) := by decide +kernel
theorem dX7_ofFigureNow_13 : decode cX7_ofFigureNow 13 = .ok (.bipush 6, 2) := by decide +kernel
theorem dX7_ofFigureNow_15 : decode cX7_ofFigureNow 15 = .ok (.if_icmp .ge 7, 3) := by decide +kernel
theorem dX7_ofFigureNow_18 : decode cX7_ofFigureNow 18 = .ok (.aload_n 3, 1) := by decide +kernel
theorem dX7_ofFigureNow_19 : decode cX7_ofFigureNow 19 = .ok (.iload_n 2, 1) := by decide +kernel
theorem dX7_ofFigureNow_20 : decode cX7_ofFigureNow 20 = .ok (.iaload, 1) := by decide +kernel
theorem dX7_ofFigureNow_21 : decode cX7_ofFigureNow 21 = .ok (.ireturn, 1) := by decide +kernel
theorem dX7_ofFigureNow_22 : decode cX7_ofFigureNow 22 = .ok (.iload_n 2, 1) := by decide +kernel
theorem dX7_ofFigureNow_23 : decode cX7_ofFigureNow 23 = .ok (.bipush 6, 2) := by decide +kernel
theorem dX7_ofFigureNow_25 : decode cX7_ofFigureNow 25 = .ok (.if_icmp .ne 14, 3) := by decide +kernel
theorem dX7_ofFigureNow_28 : decode cX7_ofFigureNow 28 = .ok (.aload_n 0, 1) := by decide +kernel
theorem dX7_ofFigureNow_29 : decode cX7_ofFigureNow 29 = .ok (.aload_n 3, 1) := by decide +kernel
theorem dX7_ofFigureNow_30 : decode cX7_ofFigureNow 30 = .ok (.aload_n 3, 1) := by decide +kernel
theorem dX7_ofFigureNow_31 : decode cX7_ofFigureNow 31 = .ok (.iconst 5, 1) := by decide +kernel
theorem dX7_ofFigureNow_32 : decode cX7_ofFigureNow 32 = .ok (.iaload, 1) := by decide +kernel
theorem dX7_ofFigureNow_33 : decode cX7_ofFigureNow 33 = .ok (.invokevirtual 148, 3) := by decide +kernel
theorem dX7_ofFigureNow_36 : decode cX7_ofFigureNow 36 = .ok (.goto 22, 3) := by decide +kernel
theorem dX7_ofFigureNow_39 : decode cX7_ofFigureNow 39 = .ok (.aload_n 3, 1) := by decide +kernel
theorem dX7_ofFigureNow_40 : decode cX7_ofFigureNow 40 = .ok (.iconst 5, 1) := by decide +kernel
theorem dX7_ofFigureNow_41 : decode cX7_ofFigureNow 41 = .ok (.iaload, 1) := by decide +kernel
theorem dX7_ofFigureNow_42 : decode cX7_ofFigureNow 42 = .ok (.aload_n 0, 1) := by decide +kernel
theorem dX7_ofFigureNow_43 : decode cX7_ofFigureNow 43 = .ok (.getfield 120, 3) := by decide +kernel
theorem dX7_ofFigureNow_46 : decode cX7_ofFigureNow 46 = .ok (.iconst 1, 1) := by decide +kernel
theorem dX7_ofFigureNow_47 : decode cX7_ofFigureNow 47 = .ok (.iadd, 1) := by decide +kernel
theorem dX7_ofFigureNow_48 : decode cX7_ofFigureNow 48 = .ok (.imul, 1) := by decide +kernel
theorem dX7_ofFigureNow_49 : decode cX7_ofFigureNow 49 = .ok (.iconst 4, 1) := by decide +kernel
theorem dX7_ofFigureNow_50 : decode cX7_ofFigureNow 50 = .ok (.idiv, 1) := by decide +kernel
theorem dX7_ofFigureNow_51 : decode cX7_ofFigureNow 51 = .ok (.aload_n 3, 1) := by decide +kernel
theorem dX7_ofFigureNow_52 : decode cX7_ofFigureNow 52 = .ok (.iconst 2, 1) := by decide +kernel
theorem dX7_ofFigureNow_53 : decode cX7_ofFigureNow 53 = .ok (.iaload, 1) := by decide +kernel
theorem dX7_ofFigureNow_54 : decode cX7_ofFigureNow 54 = .ok (.bipush 10, 2) := by decide +kernel
theorem dX7_ofFigureNow_56 : decode cX7_ofFigureNow 56 = .ok (.idiv, 1) := by decide +kernel
theorem dX7_ofFigureNow_57 : decode cX7_ofFigureNow 57 = .ok (.iadd, 1) := by decide +kernel
theorem dX7_ofFigureNow_58 : decode cX7_ofFigureNow 58 = .ok (.ireturn, 1) := by decide +kernel
theorem dX7_ofFigure_0 : decode cX7_ofFigure 0 = .ok (.aload_n 0, 1) := by decide +kernel
theorem dX7_ofFigure_1 : decode cX7_ofFigure 1 = .ok (.iconst 0, 1) := by decide +kernel
theorem dX7_ofFigure_2 : decode cX7_ofFigure 2 = .ok (.putfield 35, 3) := by decide +kernel
theorem dX7_ofFigure_5 : decode cX7_ofFigure 5 = .ok (.aload_n 0, 1) := by decide +kernel
theorem dX7_ofFigure_6 : decode cX7_ofFigure 6 = .ok (.iload_n 1, 1) := by decide +kernel
theorem dX7_ofFigure_7 : decode cX7_ofFigure 7 = .ok (.invokevirtual 132, 3) := by decide +kernel
theorem dX7_ofFigure_10 : decode cX7_ofFigure 10 = .ok (.ifCond .ne 9, 3) := by decide +kernel
theorem dX7_ofFigure_13 : decode cX7_ofFigure 13 = .ok (.aload_n 0, 1) := by decide +kernel
theorem dX7_ofFigure_14 : decode cX7_ofFigure 14 = .ok (.iconst 1, 1) := by decide +kernel
theorem dX7_ofFigure_15 : decode cX7_ofFigure 15 = .ok (.invokevirtual 93, 3) := by decide +kernel
theorem dX7_ofFigure_18 : decode cX7_ofFigure 18 = .ok (.ireturn, 1) := by decide +kernel
theorem dX7_ofFigure_19 : decode cX7_ofFigure 19 = .ok (.iload_n 2, 1) := by decide +kernel
theorem dX7_ofFigure_20 : decode cX7_ofFigure 20 = .ok (.iconst 0, 1) := by decide +kernel
theorem dX7_ofFigure_21 : decode cX7_ofFigure 21 = .ok (.bipush 7, 2) := by decide +kernel
theorem dX7_ofFigure_23 : decode cX7_ofFigure 23 = .ok (.invokestatic 42, 3) := by decide +kernel
theorem dX7_ofFigure_26 : decode cX7_ofFigure 26 = .ok (.ifCond .eq 12, 3) := by decide +kernel
theorem dX7_ofFigure_29 : decode cX7_ofFigure 29 = .ok (.aload_n 0, 1) := by decide +kernel
theorem dX7_ofFigure_30 : decode cX7_ofFigure 30 = .ok (.iload_n 1, 1) := by decide +kernel
theorem dX7_ofFigure_31 : decode cX7_ofFigure 31 = .ok (.iload_n 2, 1) := by decide +kernel
theorem dX7_ofFigure_32 : decode cX7_ofFigure 32 = .ok (.invokevirtual 209, 3) := by decide +kernel
theorem dX7_ofFigure_35 : decode cX7_ofFigure 35 = .ok (.goto 8, 3) := by decide +kernel
theorem dX7_ofFigure_38 : decode cX7_ofFigure 38 = .ok (.aload_n 0, 1) := by decide +kernel
theorem dX7_ofFigure_39 : decode cX7_ofFigure 39 = .ok (.iconst 2, 1) := by decide +kernel
theorem dX7_ofFigure_40 : decode cX7_ofFigure 40 = .ok (.invokevirtual 93, 3) := by decide +kernel
theorem dX7_ofFigure_43 : decode cX7_ofFigure 43 = .ok (.ireturn, 1) := by decide +kernel
theorem dX7_ofSceneNow_0 : decode cX7_ofSceneNow 0 = .ok (.iload_n 2, 1) := by decide +kernel
theorem dX7_ofSceneNow_1 : decode cX7_ofSceneNow 1 = .ok (.bipush 6, 2) := by decide +kernel
theorem dX7_ofSceneNow_3 : decode cX7_ofSceneNow 3 = .ok (.if_icmp .ge 17, 3) := by decide +kernel
theorem dX7_ofSceneNow_6 : decode cX7_ofSceneNow 6 = .ok (.aload_n 0, 1) := by decide +kernel
theorem dX7_ofSceneNow_7 : decode cX7_ofSceneNow 7 = .ok (.getfield 19, 3) := by decide +kernel
theorem dX7_ofSceneNow_10 : decode cX7_ofSceneNow 10 = .ok (.iload_n 1, 1) := by decide +kernel
theorem dX7_ofSceneNow_11 : decode cX7_ofSceneNow 11 = .ok (.invokevirtual 48, 3) := by decide +kernel
theorem dX7_ofSceneNow_14 : decode cX7_ofSceneNow 14 = .ok (.checkcast 52, 3) := by decide +kernel
theorem dX7_ofSceneNow_17 : decode cX7_ofSceneNow 17 = .ok (.iload_n 2, 1) := by decide +kernel
theorem dX7_ofSceneNow_18 : decode cX7_ofSceneNow 18 = .ok (.iaload, 1) := by decide +kernel
theorem dX7_ofSceneNow_19 : decode cX7_ofSceneNow 19 = .ok (.ireturn, 1) := by decide +kernel
theorem dX7_ofSceneNow_20 : decode cX7_ofSceneNow 20 = .ok (.aload_n 0, 1) := by decide +kernel
theorem dX7_ofSceneNow_21 : decode cX7_ofSceneNow 21 = .ok (.aload_n 0, 1) := by decide +kernel
theorem dX7_ofSceneNow_22 : decode cX7_ofSceneNow 22 = .ok (.getfield 19, 3) := by decide +kernel
theorem dX7_ofSceneNow_25 : decode cX7_ofSceneNow 25 = .ok (.invokevirtual 68, 3) := by decide +kernel
theorem dX7_ofSceneNow_28 : decode cX7_ofSceneNow 28 = .ok (.iload_n 1, 1) := by decide +kernel
theorem dX7_ofSceneNow_29 : decode cX7_ofSceneNow 29 = .ok (.aaload, 1) := by decide +kernel
theorem dX7_ofSceneNow_30 : decode cX7_ofSceneNow 30 = .ok (.astore_n 3, 1) := by decide +kernel
theorem dX7_ofSceneNow_31 : decode cX7_ofSceneNow 31 = .ok (.iload_n 2, 1) := by decide +kernel
theorem dX7_ofSceneNow_32 : decode cX7_ofSceneNow 32 = .ok (.bipush 6, 2) := by decide +kernel
theorem dX7_ofSceneNow_34 : decode cX7_ofSceneNow 34 = .ok (.if_icmp .ne 9, 3) := by decide +kernel
theorem dX7_ofSceneNow_37 : decode cX7_ofSceneNow 37 = .ok (.aload_n 3, 1) := by decide +kernel
theorem dX7_ofSceneNow_38 : decode cX7_ofSceneNow 38 = .ok (.iconst 0, 1) := by decide +kernel
theorem dX7_ofSceneNow_39 : decode cX7_ofSceneNow 39 = .ok (.iaload, 1) := by decide +kernel
theorem dX7_ofSceneNow_40 : decode cX7_ofSceneNow 40 = .ok (.goto 26, 3) := by decide +kernel
theorem dX7_ofSceneNow_43 : decode cX7_ofSceneNow 43 = .ok (.iload_n 2, 1) := by decide +kernel
theorem dX7_ofSceneNow_44 : decode cX7_ofSceneNow 44 = .ok (.bipush 7, 2) := by decide +kernel
theorem dX7_ofSceneNow_46 : decode cX7_ofSceneNow 46 = .ok (.if_icmp .ne 17, 3) := by decide +kernel
theorem dX7_ofSceneNow_49 : decode cX7_ofSceneNow 49 = .ok (.iconst 2, 1) := by decide +kernel
theorem dX7_ofSceneNow_50 : decode cX7_ofSceneNow 50 = .ok (.aload_n 3, 1) := by decide +kernel
theorem dX7_ofSceneNow_51 : decode cX7_ofSceneNow 51 = .ok (.iconst 0, 1) := by decide +kernel
theorem dX7_ofSceneNow_52 : decode cX7_ofSceneNow 52 = .ok (.iaload, 1) := by decide +kernel
theorem dX7_ofSceneNow_53 : decode cX7_ofSceneNow 53 = .ok (.sipush 180, 3) := by decide +kernel
theorem dX7_ofSceneNow_56 : decode cX7_ofSceneNow 56 = .ok (.idiv, 1) := by decide +kernel
theorem dX7_ofSceneNow_57 : decode cX7_ofSceneNow 57 = .ok (.invokestatic 62, 3) := by decide +kernel
theorem dX7_ofSceneNow_60 : decode cX7_ofSceneNow 60 = .ok (.goto 6, 3) := by decide +kernel
theorem dX7_ofSceneNow_63 : decode cX7_ofSceneNow 63 = .ok (.aload_n 3, 1) := by decide +kernel
theorem dX7_ofSceneNow_64 : decode cX7_ofSceneNow 64 = .ok (.iconst 1, 1) := by decide +kernel
theorem dX7_ofSceneNow_65 : decode cX7_ofSceneNow 65 = .ok (.iaload, 1) := by decide +kernel
theorem dX7_ofSceneNow_66 : decode cX7_ofSceneNow 66 = .ok (.ireturn, 1) := by decide +kernel
theorem dX7_ofScene_0 : decode cX7_ofScene 0 = .ok (.aload_n 0, 1) := by decide +kernel
theorem dX7_ofScene_1 : decode cX7_ofScene 1 = .ok (.iconst 0, 1) := by decide +kernel
theorem dX7_ofScene_2 : decode cX7_ofScene 2 = .ok (.putfield 35, 3) := by decide +kernel
theorem dX7_ofScene_5 : decode cX7_ofScene 5 = .ok (.aload_n 0, 1) := by decide +kernel
theorem dX7_ofScene_6 : decode cX7_ofScene 6 = .ok (.iload_n 1, 1) := by decide +kernel
theorem dX7_ofScene_7 : decode cX7_ofScene 7 = .ok (.invokevirtual 109, 3) := by decide +kernel
theorem dX7_ofScene_10 : decode cX7_ofScene 10 = .ok (.ifCond .ne 9, 3) := by decide +kernel
theorem dX7_ofScene_13 : decode cX7_ofScene 13 = .ok (.aload_n 0, 1) := by decide +kernel
theorem dX7_ofScene_14 : decode cX7_ofScene 14 = .ok (.iconst 1, 1) := by decide +kernel
theorem dX7_ofScene_15 : decode cX7_ofScene 15 = .ok (.invokevirtual 93, 3) := by decide +kernel
theorem dX7_ofScene_18 : decode cX7_ofScene 18 = .ok (.ireturn, 1) := by decide +kernel
theorem dX7_ofScene_19 : decode cX7_ofScene 19 = .ok (.iload_n 2, 1) := by decide +kernel
theorem dX7_ofScene_20 : decode cX7_ofScene 20 = .ok (.iconst 0, 1) := by decide +kernel
theorem dX7_ofScene_21 : decode cX7_ofScene 21 = .ok (.bipush 8, 2) := by decide +kernel
theorem dX7_ofScene_23 : decode cX7_ofScene 23 = .ok (.invokestatic 42, 3) := by decide +kernel
theorem dX7_ofScene_26 : decode cX7_ofScene 26 = .ok (.ifCond .eq 12, 3) := by decide +kernel
theorem dX7_ofScene_29 : decode cX7_ofScene 29 = .ok (.aload_n 0, 1) := by decide +kernel
theorem dX7_ofScene_30 : decode cX7_ofScene 30 = .ok (.iload_n 1, 1) := by decide +kernel
theorem dX7_ofScene_31 : decode cX7_ofScene 31 = .ok (.iload_n 2, 1) := by decide +kernel
theorem dX7_ofScene_32 : decode cX7_ofScene 32 = .ok (.invokevirtual 212, 3) := by decide +kernel
theorem dX7_ofScene_35 : decode cX7_ofScene 35 = .ok (.goto 8, 3) := by decide +kernel
theorem dX7_ofScene_38 : decode cX7_ofScene 38 = .ok (.aload_n 0, 1) := by decide +kernel
theorem dX7_ofScene_39 : decode cX7_ofScene 39 = .ok (.iconst 2, 1) := by decide +kernel
theorem dX7_ofScene_40 : decode cX7_ofScene 40 = .ok (.invokevirtual 93, 3) := by decide +kernel
theorem dX7_ofScene_43 : decode cX7_ofScene 43 = .ok (.ireturn, 1) := by decide +kernel
theorem dX7_at__0 : decode cX7_at_ 0 = .ok (.aload_n 0, 1) := by decide +kernel
theorem dX7_at__1 : decode cX7_at_ 1 = .ok (.iconst 0, 1) := by decide +kernel
theorem dX7_at__2 : decode cX7_at_ 2 = .ok (.putfield 35, 3) := by decide +kernel
theorem dX7_at__5 : decode cX7_at_ 5 = .ok (.iload_n 1, 1) := by decide +kernel
theorem dX7_at__6 : decode cX7_at_ 6 = .ok (.iconst 0, 1) := by decide +kernel
theorem dX7_at__7 : decode cX7_at_ 7 = .ok (.bipush 9, 2) := by decide +kernel
theorem dX7_at__9 : decode cX7_at_ 9 = .ok (.invokestatic 42, 3) := by decide +kernel
theorem dX7_at__12 : decode cX7_at_ 12 = .ok (.ifCond .eq 12, 3) := by decide +kernel
theorem dX7_at__15 : decode cX7_at_ 15 = .ok (.aload_n 0, 1) := by decide +kernel
theorem dX7_at__16 : decode cX7_at_ 16 = .ok (.iload_n 1, 1) := by decide +kernel
theorem dX7_at__17 : decode cX7_at_ 17 = .ok (.iconst (-1), 1) := by decide +kernel
theorem dX7_at__18 : decode cX7_at_ 18 = .ok (.invokevirtual 126, 3) := by decide +kernel
theorem dX7_at__21 : decode cX7_at_ 21 = .ok (.goto 8, 3) := by decide +kernel
theorem dX7_at__24 : decode cX7_at_ 24 = .ok (.aload_n 0, 1) := by decide +kernel
theorem dX7_at__25 : decode cX7_at_ 25 = .ok (.iconst 1, 1) := by decide +kernel
theorem dX7_at__26 : decode cX7_at_ 26 = .ok (.invokevirtual 93, 3) := by decide +kernel
theorem dX7_at__29 : decode cX7_at_ 29 = .ok (.ireturn, 1) := by decide +kernel
theorem dX7_soundNow_0 : decode cX7_soundNow 0 = .ok (.iconst 4, 1) := by decide +kernel
theorem dX7_soundNow_1 : decode cX7_soundNow 1 = .ok (.newarray .int, 2) := by decide +kernel
theorem dX7_soundNow_3 : decode cX7_soundNow 3 = .ok (.dup, 1) := by decide +kernel
theorem dX7_soundNow_4 : decode cX7_soundNow 4 = .ok (.iconst 0, 1) := by decide +kernel
theorem dX7_soundNow_5 : decode cX7_soundNow 5 = .ok (.aload_n 0, 1) := by decide +kernel
theorem dX7_soundNow_6 : decode cX7_soundNow 6 = .ok (.getfield 26, 3) := by decide +kernel
theorem dX7_soundNow_9 : decode cX7_soundNow 9 = .ok (.iastore, 1) := by decide +kernel
theorem dX7_soundNow_10 : decode cX7_soundNow 10 = .ok (.dup, 1) := by decide +kernel
theorem dX7_soundNow_11 : decode cX7_soundNow 11 = .ok (.iconst 1, 1) := by decide +kernel
theorem dX7_soundNow_12 : decode cX7_soundNow 12 = .ok (.aload_n 0, 1) := by decide +kernel
theorem dX7_soundNow_13 : decode cX7_soundNow 13 = .ok (.getfield 164, 3) := by decide +kernel
theorem dX7_soundNow_16 : decode cX7_soundNow 16 = .ok (.iastore, 1) := by decide +kernel
theorem dX7_soundNow_17 : decode cX7_soundNow 17 = .ok (.dup, 1) := by decide +kernel
theorem dX7_soundNow_18 : decode cX7_soundNow 18 = .ok (.iconst 2, 1) := by decide +kernel
theorem dX7_soundNow_19 : decode cX7_soundNow 19 = .ok (.aload_n 0, 1) := by decide +kernel
theorem dX7_soundNow_20 : decode cX7_soundNow 20 = .ok (.getfield 167, 3) := by decide +kernel
theorem dX7_soundNow_23 : decode cX7_soundNow 23 = .ok (.iastore, 1) := by decide +kernel
theorem dX7_soundNow_24 : decode cX7_soundNow 24 = .ok (.dup, 1) := by decide +kernel
theorem dX7_soundNow_25 : decode cX7_soundNow 25 = .ok (.iconst 3, 1) := by decide +kernel
theorem dX7_soundNow_26 : decode cX7_soundNow 26 = .ok (.aload_n 0, 1) := by decide +kernel
theorem dX7_soundNow_27 : decode cX7_soundNow 27 = .ok (.getfield 161, 3) := by decide +kernel
theorem dX7_soundNow_30 : decode cX7_soundNow 30 = .ok (.iastore, 1) := by decide +kernel
theorem dX7_soundNow_31 : decode cX7_soundNow 31 = .ok (.astore_n 2, 1) := by decide +kernel
theorem dX7_soundNow_32 : decode cX7_soundNow 32 = .ok (.aload_n 2, 1) := by decide +kernel
theorem dX7_soundNow_33 : decode cX7_soundNow 33 = .ok (.iload_n 1, 1) := by decide +kernel
theorem dX7_soundNow_34 : decode cX7_soundNow 34 = .ok (.iaload, 1) := by decide +kernel
theorem dX7_soundNow_35 : decode cX7_soundNow 35 = .ok (.ireturn, 1) := by decide +kernel
theorem dX7_sound_0 : decode cX7_sound 0 = .ok (.aload_n 0, 1) := by decide +kernel
theorem dX7_sound_1 : decode cX7_sound 1 = .ok (.iconst 0, 1) := by decide +kernel
theorem dX7_sound_2 : decode cX7_sound 2 = .ok (.putfield 35, 3) := by decide +kernel
theorem dX7_sound_5 : decode cX7_sound 5 = .ok (.iload_n 1, 1) := by decide +kernel
theorem dX7_sound_6 : decode cX7_sound 6 = .ok (.iconst 0, 1) := by decide +kernel
theorem dX7_sound_7 : decode cX7_sound 7 = .ok (.iconst 3, 1) := by decide +kernel
theorem dX7_sound_8 : decode cX7_sound 8 = .ok (.invokestatic 42, 3) := by decide +kernel
theorem dX7_sound_11 : decode cX7_sound 11 = .ok (.ifCond .eq 11, 3) := by decide +kernel
theorem dX7_sound_14 : decode cX7_sound 14 = .ok (.aload_n 0, 1) := by decide +kernel
theorem dX7_sound_15 : decode cX7_sound 15 = .ok (.iload_n 1, 1) := by decide +kernel
theorem dX7_sound_16 : decode cX7_sound 16 = .ok (.invokevirtual 215, 3) := by decide +kernel
theorem dX7_sound_19 : decode cX7_sound 19 = .ok (.goto 8, 3) := by decide +kernel
theorem dX7_sound_22 : decode cX7_sound 22 = .ok (.aload_n 0, 1) := by decide +kernel
theorem dX7_sound_23 : decode cX7_sound 23 = .ok (.iconst 1, 1) := by decide +kernel
theorem dX7_sound_24 : decode cX7_sound 24 = .ok (.invokevirtual 93, 3) := by decide +kernel
theorem dX7_sound_27 : decode cX7_sound 27 = .ok (.ireturn, 1) := by decide +kernel
theorem dX7_manyNow_0 : decode cX7_manyNow 0 = .ok (.aload_n 0, 1) := by decide +kernel
theorem dX7_manyNow_1 : decode cX7_manyNow 1 = .ok (.invokevirtual 188, 3) := by decide +kernel
theorem dX7_manyNow_4 : decode cX7_manyNow 4 = .ok (.istore_n 2, 1) := by decide +kernel
theorem dX7_manyNow_5 : decode cX7_manyNow 5 = .ok (.aload_n 0, 1) := by decide +kernel
theorem dX7_manyNow_6 : decode cX7_manyNow 6 = .ok (.invokevirtual 155, 3) := by decide +kernel
theorem dX7_manyNow_9 : decode cX7_manyNow 9 = .ok (.istore_n 3, 1) := by decide +kernel
theorem dX7_manyNow_10 : decode cX7_manyNow 10 = .ok (.bipush 16, 2) := by decide +kernel
theorem dX7_manyNow_12 : decode cX7_manyNow 12 = .ok (.newarray .int, 2) := by decide +kernel
theorem dX7_manyNow_14 : decode cX7_manyNow 14 = .ok (.dup, 1) := by decide +kernel
theorem dX7_manyNow_15 : decode cX7_manyNow 15 = .ok (.iconst 0, 1) := by decide +kernel
theorem dX7_manyNow_16 : decode cX7_manyNow 16 = .ok (.aload_n 0, 1) := by decide +kernel
theorem dX7_manyNow_17 : decode cX7_manyNow 17 = .ok (.getfield 86, 3) := by decide +kernel
theorem dX7_manyNow_20 : decode cX7_manyNow 20 = .ok (.iastore, 1) := by decide +kernel
theorem dX7_manyNow_21 : decode cX7_manyNow 21 = .ok (.dup, 1) := by decide +kernel
theorem dX7_manyNow_22 : decode cX7_manyNow 22 = .ok (.iconst 1, 1) := by decide +kernel
theorem dX7_manyNow_23 : decode cX7_manyNow 23 = .ok (.aload_n 0, 1) := by decide +kernel
theorem dX7_manyNow_24 : decode cX7_manyNow 24 = .ok (.getfield 10, 3) := by decide +kernel
theorem dX7_manyNow_27 : decode cX7_manyNow 27 = .ok (.invokevirtual 38, 3) := by decide +kernel
theorem dX7_manyNow_30 : decode cX7_manyNow 30 = .ok (.iastore, 1) := by decide +kernel
theorem dX7_manyNow_31 : decode cX7_manyNow 31 = .ok (.dup, 1) := by decide +kernel
theorem dX7_manyNow_32 : decode cX7_manyNow 32 = .ok (.iconst 2, 1) := by decide +kernel
theorem dX7_manyNow_33 : decode cX7_manyNow 33 = .ok (.aload_n 0, 1) := by decide +kernel
theorem dX7_manyNow_34 : decode cX7_manyNow 34 = .ok (.getfield 16, 3) := by decide +kernel
theorem dX7_manyNow_37 : decode cX7_manyNow 37 = .ok (.invokevirtual 38, 3) := by decide +kernel
theorem dX7_manyNow_40 : decode cX7_manyNow 40 = .ok (.iastore, 1) := by decide +kernel
theorem dX7_manyNow_41 : decode cX7_manyNow 41 = .ok (.dup, 1) := by decide +kernel
theorem dX7_manyNow_42 : decode cX7_manyNow 42 = .ok (.iconst 3, 1) := by decide +kernel
theorem dX7_manyNow_43 : decode cX7_manyNow 43 = .ok (.aload_n 0, 1) := by decide +kernel
theorem dX7_manyNow_44 : decode cX7_manyNow 44 = .ok (.getfield 19, 3) := by decide +kernel
theorem dX7_manyNow_47 : decode cX7_manyNow 47 = .ok (.invokevirtual 38, 3) := by decide +kernel
theorem dX7_manyNow_50 : decode cX7_manyNow 50 = .ok (.iastore, 1) := by decide +kernel
theorem dX7_manyNow_51 : decode cX7_manyNow 51 = .ok (.dup, 1) := by decide +kernel
theorem dX7_manyNow_52 : decode cX7_manyNow 52 = .ok (.iconst 4, 1) := by decide +kernel
theorem dX7_manyNow_53 : decode cX7_manyNow 53 = .ok (.aload_n 0, 1) := by decide +kernel
theorem dX7_manyNow_54 : decode cX7_manyNow 54 = .ok (.invokevirtual 218, 3) := by decide +kernel
theorem dX7_manyNow_57 : decode cX7_manyNow 57 = .ok (.iastore, 1) := by decide +kernel
theorem dX7_manyNow_58 : decode cX7_manyNow 58 = .ok (.dup, 1) := by decide +kernel
theorem dX7_manyNow_59 : decode cX7_manyNow 59 = .ok (.iconst 5, 1) := by decide +kernel
theorem dX7_manyNow_60 : decode cX7_manyNow 60 = .ok (.aload_n 0, 1) := by decide +kernel
theorem dX7_manyNow_61 : decode cX7_manyNow 61 = .ok (.aload_n 0, 1) := by decide +kernel
theorem dX7_manyNow_62 : decode cX7_manyNow 62 = .ok (.getfield 19, 3) := by decide +kernel
theorem dX7_manyNow_65 : decode cX7_manyNow 65 = .ok (.invokevirtual 116, 3) := by decide +kernel
theorem dX7_manyNow_68 : decode cX7_manyNow 68 = .ok (.iastore, 1) := by decide +kernel
theorem dX7_manyNow_69 : decode cX7_manyNow 69 = .ok (.dup, 1) := by decide +kernel
theorem dX7_manyNow_70 : decode cX7_manyNow 70 = .ok (.bipush 6, 2) := by decide +kernel
theorem dX7_manyNow_72 : decode cX7_manyNow 72 = .ok (.iload_n 3, 1) := by decide +kernel
theorem dX7_manyNow_73 : decode cX7_manyNow 73 = .ok (.iastore, 1) := by decide +kernel
theorem dX7_manyNow_74 : decode cX7_manyNow 74 = .ok (.dup, 1) := by decide +kernel
theorem dX7_manyNow_75 : decode cX7_manyNow 75 = .ok (.bipush 7, 2) := by decide +kernel
theorem dX7_manyNow_77 : decode cX7_manyNow 77 = .ok (.iload_n 2, 1) := by decide +kernel
theorem dX7_manyNow_78 : decode cX7_manyNow 78 = .ok (.iastore, 1) := by decide +kernel
theorem dX7_manyNow_79 : decode cX7_manyNow 79 = .ok (.dup, 1) := by decide +kernel
theorem dX7_manyNow_80 : decode cX7_manyNow 80 = .ok (.bipush 8, 2) := by decide +kernel
theorem dX7_manyNow_82 : decode cX7_manyNow 82 = .ok (.iload_n 3, 1) := by decide +kernel
theorem dX7_manyNow_83 : decode cX7_manyNow 83 = .ok (.iconst (-1), 1) := by decide +kernel
theorem dX7_manyNow_84 : decode cX7_manyNow 84 = .ok (.if_icmp .ne 7, 3) := by decide +kernel
theorem dX7_manyNow_87 : decode cX7_manyNow 87 = .ok (.iload_n 2, 1) := by decide +kernel
theorem dX7_manyNow_88 : decode cX7_manyNow 88 = .ok (.goto 20, 3) := by decide +kernel
theorem dX7_manyNow_91 : decode cX7_manyNow 91 = .ok (.iload_n 2, 1) := by decide +kernel
theorem dX7_manyNow_92 : decode cX7_manyNow 92 = .ok (.aload_n 0, 1) := by decide +kernel
theorem dX7_manyNow_93 : decode cX7_manyNow 93 = .ok (.getfield 19, 3) := by decide +kernel
theorem dX7_manyNow_96 : decode cX7_manyNow 96 = .ok (.iload_n 3, 1) := by decide +kernel
theorem dX7_manyNow_97 : decode cX7_manyNow 97 = .ok (.invokevirtual 48, 3) := by decide +kernel
theorem dX7_manyNow_100 : decode cX7_manyNow 100 = .ok (.checkcast 52, 3) := by decide +kernel
theorem dX7_manyNow_103 : decode cX7_manyNow 103 = .ok (.iconst 2, 1) := by decide +kernel
theorem dX7_manyNow_104 : decode cX7_manyNow 104 = .ok (.iaload, 1) := by decide +kernel
theorem dX7_manyNow_105 : decode cX7_manyNow 105 = .ok (.iconst (-1), 1) := by decide +kernel
theorem dX7_manyNow_106 : decode cX7_manyNow 106 = .ok (.ixor, 1) := by decide +kernel
theorem dX7_manyNow_107 : decode cX7_manyNow 107 = .ok (.iand, 1) := by decide +kernel
theorem dX7_manyNow_108 : decode cX7_manyNow 108 = .ok (.iastore, 1) := by decide +kernel
theorem dX7_manyNow_109 : decode cX7_manyNow 109 = .ok (.dup, 1) := by decide +kernel
theorem dX7_manyNow_110 : decode cX7_manyNow 110 = .ok (.bipush 9, 2) := by decide +kernel
theorem dX7_manyNow_112 : decode cX7_manyNow 112 = .ok (.aload_n 0, 1) := by decide +kernel
theorem dX7_manyNow_113 : decode cX7_manyNow 113 = .ok (.getfield 185, 3) := by decide +kernel
theorem dX7_manyNow_116 : decode cX7_manyNow 116 = .ok (.iastore, 1) := by decide +kernel
theorem dX7_manyNow_117 : decode cX7_manyNow 117 = .ok (.dup, 1) := by decide +kernel
theorem dX7_manyNow_118 : decode cX7_manyNow 118 = .ok (.bipush 10, 2) := by decide +kernel
theorem dX7_manyNow_120 : decode cX7_manyNow 120 = .ok (.aload_n 0, 1) := by decide +kernel
theorem dX7_manyNow_121 : decode cX7_manyNow 121 = .ok (.getfield 32, 3) := by decide +kernel
theorem dX7_manyNow_124 : decode cX7_manyNow 124 = .ok (.iastore, 1) := by decide +kernel
theorem dX7_manyNow_125 : decode cX7_manyNow 125 = .ok (.dup, 1) := by decide +kernel
theorem dX7_manyNow_126 : decode cX7_manyNow 126 = .ok (.bipush 11, 2) := by decide +kernel
theorem dX7_manyNow_128 : decode cX7_manyNow 128 = .ok (.aload_n 0, 1) := by decide +kernel
theorem dX7_manyNow_129 : decode cX7_manyNow 129 = .ok (.getfield 158, 3) := by decide +kernel
theorem dX7_manyNow_132 : decode cX7_manyNow 132 = .ok (.iastore, 1) := by decide +kernel
theorem dX7_manyNow_133 : decode cX7_manyNow 133 = .ok (.dup, 1) := by decide +kernel
theorem dX7_manyNow_134 : decode cX7_manyNow 134 = .ok (.bipush 12, 2) := by decide +kernel
theorem dX7_manyNow_136 : decode cX7_manyNow 136 = .ok (.aload_n 0, 1) := by decide +kernel
theorem dX7_manyNow_137 : decode cX7_manyNow 137 = .ok (.getfield 191, 3) := by decide +kernel
theorem dX7_manyNow_140 : decode cX7_manyNow 140 = .ok (.iastore, 1) := by decide +kernel
theorem dX7_manyNow_141 : decode cX7_manyNow 141 = .ok (.dup, 1) := by decide +kernel
theorem dX7_manyNow_142 : decode cX7_manyNow 142 = .ok (.bipush 13, 2) := by decide +kernel
theorem dX7_manyNow_144 : decode cX7_manyNow 144 = .ok (.aload_n 0, 1) := by decide +kernel
theorem dX7_manyNow_145 : decode cX7_manyNow 145 = .ok (.getfield 203, 3) := by decide +kernel
theorem dX7_manyNow_148 : decode cX7_manyNow 148 = .ok (.iastore, 1) := by decide +kernel
theorem dX7_manyNow_149 : decode cX7_manyNow 149 = .ok (.dup, 1) := by decide +kernel
theorem dX7_manyNow_150 : decode cX7_manyNow 150 = .ok (.bipush 14, 2) := by decide +kernel
theorem dX7_manyNow_152 : decode cX7_manyNow 152 = .ok (.aload_n 0, 1) := by decide +kernel
theorem dX7_manyNow_153 : decode cX7_manyNow 153 = .ok (.getfield 179, 3) := by decide +kernel
theorem dX7_manyNow_156 : decode cX7_manyNow 156 = .ok (.iastore, 1) := by decide +kernel
theorem dX7_manyNow_157 : decode cX7_manyNow 157 = .ok (.dup, 1) := by decide +kernel
theorem dX7_manyNow_158 : decode cX7_manyNow 158 = .ok (.bipush 15, 2) := by decide +kernel
theorem dX7_manyNow_160 : decode cX7_manyNow 160 = .ok (.aload_n 0, 1) := by decide +kernel
theorem dX7_manyNow_161 : decode cX7_manyNow 161 = .ok (.invokevirtual 152, 3) := by decide +kernel
theorem dX7_manyNow_164 : decode cX7_manyNow 164 = .ok (.iastore, 1) := by decide +kernel
theorem dX7_manyNow_165 : decode cX7_manyNow 165 = .ok (.astore 4, 2) := by decide +kernel
theorem dX7_manyNow_167 : decode cX7_manyNow 167 = .ok (.aload 4, 2) := by decide +kernel
theorem dX7_manyNow_169 : decode cX7_manyNow 169 = .ok (.iload_n 1, 1) := by decide +kernel
theorem dX7_manyNow_170 : decode cX7_manyNow 170 = .ok (.iaload, 1) := by decide +kernel
theorem dX7_manyNow_171 : decode cX7_manyNow 171 = .ok (.ireturn, 1) := by decide +kernel
theorem dX7_many_0 : decode cX7_many 0 = .ok (.aload_n 0, 1) := by decide +kernel
theorem dX7_many_1 : decode cX7_many 1 = .ok (.iconst 0, 1) := by decide +kernel
theorem dX7_many_2 : decode cX7_many 2 = .ok (.putfield 35, 3) := by decide +kernel
theorem dX7_many_5 : decode cX7_many 5 = .ok (.iload_n 1, 1) := by decide +kernel
theorem dX7_many_6 : decode cX7_many 6 = .ok (.iconst 0, 1) := by decide +kernel
theorem dX7_many_7 : decode cX7_many 7 = .ok (.bipush 15, 2) := by decide +kernel
theorem dX7_many_9 : decode cX7_many 9 = .ok (.invokestatic 42, 3) := by decide +kernel
theorem dX7_many_12 : decode cX7_many 12 = .ok (.ifCond .eq 11, 3) := by decide +kernel
theorem dX7_many_15 : decode cX7_many 15 = .ok (.aload_n 0, 1) := by decide +kernel
theorem dX7_many_16 : decode cX7_many 16 = .ok (.iload_n 1, 1) := by decide +kernel
theorem dX7_many_17 : decode cX7_many 17 = .ok (.invokevirtual 221, 3) := by decide +kernel
theorem dX7_many_20 : decode cX7_many 20 = .ok (.goto 8, 3) := by decide +kernel
theorem dX7_many_23 : decode cX7_many 23 = .ok (.aload_n 0, 1) := by decide +kernel
theorem dX7_many_24 : decode cX7_many 24 = .ok (.iconst 1, 1) := by decide +kernel
theorem dX7_many_25 : decode cX7_many 25 = .ok (.invokevirtual 93, 3) := by decide +kernel
theorem dX7_many_28 : decode cX7_many 28 = .ok (.ireturn, 1) := by decide +kernel
theorem dX7_meanShadow_0 : decode cX7_meanShadow 0 = .ok (.aload_n 0, 1) := by decide +kernel
theorem dX7_meanShadow_1 : decode cX7_meanShadow 1 = .ok (.iconst 0, 1) := by decide +kernel
theorem dX7_meanShadow_2 : decode cX7_meanShadow 2 = .ok (.putfield 35, 3) := by decide +kernel
theorem dX7_meanShadow_5 : decode cX7_meanShadow 5 = .ok (.iconst 0, 1) := by decide +kernel
theorem dX7_meanShadow_6 : decode cX7_meanShadow 6 = .ok (.istore_n 1, 1) := by decide +kernel
theorem dX7_meanShadow_7 : decode cX7_meanShadow 7 = .ok (.aload_n 0, 1) := by decide +kernel
theorem dX7_meanShadow_8 : decode cX7_meanShadow 8 = .ok (.getfield 16, 3) := by decide +kernel
theorem dX7_meanShadow_11 : decode cX7_meanShadow 11 = .ok (.invokevirtual 72, 3) := by decide +kernel
theorem dX7_meanShadow_14 : decode cX7_meanShadow 14 = .ok (.astore_n 2, 1) := by decide +kernel
theorem dX7_meanShadow_15 : decode cX7_meanShadow 15 = .ok (.aload_n 2, 1) := by decide +kernel
theorem dX7_meanShadow_16 : decode cX7_meanShadow 16 = .ok (.invokeinterface 76 1, 5) := by decide +kernel
theorem dX7_meanShadow_21 : decode cX7_meanShadow 21 = .ok (.ifCond .eq 37, 3) := by decide +kernel
theorem dX7_meanShadow_24 : decode cX7_meanShadow 24 = .ok (.aload_n 2, 1) := by decide +kernel
theorem dX7_meanShadow_25 : decode cX7_meanShadow 25 = .ok (.invokeinterface 82 1, 5) := by decide +kernel
theorem dX7_meanShadow_30 : decode cX7_meanShadow 30 = .ok (.checkcast 52, 3) := by decide +kernel
theorem dX7_meanShadow_33 : decode cX7_meanShadow 33 = .ok (.astore_n 3, 1) := by decide +kernel
theorem dX7_meanShadow_34 : decode cX7_meanShadow 34 = .ok (.iload_n 1, 1) := by decide +kernel
theorem dX7_meanShadow_35 : decode cX7_meanShadow 35 = .ok (.aload_n 3, 1) := by decide +kernel
theorem dX7_meanShadow_36 : decode cX7_meanShadow 36 = .ok (.iconst 3, 1) := by decide +kernel
theorem dX7_meanShadow_37 : decode cX7_meanShadow 37 = .ok (.iaload, 1) := by decide +kernel
theorem dX7_meanShadow_38 : decode cX7_meanShadow 38 = .ok (.ifCond .ne 7, 3) := by decide +kernel
theorem dX7_meanShadow_41 : decode cX7_meanShadow 41 = .ok (.iconst 0, 1) := by decide +kernel
theorem dX7_meanShadow_42 : decode cX7_meanShadow 42 = .ok (.goto 11, 3) := by decide +kernel
theorem dX7_meanShadow_45 : decode cX7_meanShadow 45 = .ok (.aload_n 0, 1) := by decide +kernel
theorem dX7_meanShadow_46 : decode cX7_meanShadow 46 = .ok (.aload_n 3, 1) := by decide +kernel
theorem dX7_meanShadow_47 : decode cX7_meanShadow 47 = .ok (.aload_n 3, 1) := by decide +kernel
theorem dX7_meanShadow_48 : decode cX7_meanShadow 48 = .ok (.iconst 5, 1) := by decide +kernel
theorem dX7_meanShadow_49 : decode cX7_meanShadow 49 = .ok (.iaload, 1) := by decide +kernel
theorem dX7_meanShadow_50 : decode cX7_meanShadow 50 = .ok (.invokevirtual 148, 3) := by decide +kernel
theorem dX7_meanShadow_53 : decode cX7_meanShadow 53 = .ok (.iadd, 1) := by decide +kernel
theorem dX7_meanShadow_54 : decode cX7_meanShadow 54 = .ok (.istore_n 1, 1) := by decide +kernel
theorem dX7_meanShadow_55 : decode cX7_meanShadow 55 = .ok (.goto (-40), 3) := by decide +kernel
theorem dX7_meanShadow_58 : decode cX7_meanShadow 58 = .ok (.aload_n 0, 1) := by decide +kernel
theorem dX7_meanShadow_59 : decode cX7_meanShadow 59 = .ok (.invokevirtual 152, 3) := by decide +kernel
theorem dX7_meanShadow_62 : decode cX7_meanShadow 62 = .ok (.ifCond .ne 7, 3) := by decide +kernel
theorem dX7_meanShadow_65 : decode cX7_meanShadow 65 = .ok (.dconst 0, 1) := by decide +kernel
theorem dX7_meanShadow_66 : decode cX7_meanShadow 66 = .ok (.goto 11, 3) := by decide +kernel
theorem dX7_meanShadow_69 : decode cX7_meanShadow 69 = .ok (.iload_n 1, 1) := by decide +kernel
theorem dX7_meanShadow_70 : decode cX7_meanShadow 70 = .ok (.i2d, 1) := by decide +kernel
theorem dX7_meanShadow_71 : decode cX7_meanShadow 71 = .ok (.aload_n 0, 1) := by decide +kernel
theorem dX7_meanShadow_72 : decode cX7_meanShadow 72 = .ok (.invokevirtual 152, 3) := by decide +kernel
theorem dX7_meanShadow_75 : decode cX7_meanShadow 75 = .ok (.i2d, 1) := by decide +kernel
theorem dX7_meanShadow_76 : decode cX7_meanShadow 76 = .ok (.ddiv, 1) := by decide +kernel
theorem dX7_meanShadow_77 : decode cX7_meanShadow 77 = .ok (.dreturn, 1) := by decide +kernel
theorem dX7_gongNow_0 : decode cX7_gongNow 0 = .ok (.aload_n 0, 1) := by decide +kernel
theorem dX7_gongNow_1 : decode cX7_gongNow 1 = .ok (.getfield 26, 3) := by decide +kernel
theorem dX7_gongNow_4 : decode cX7_gongNow 4 = .ok (.iconst (-1), 1) := by decide +kernel
theorem dX7_gongNow_5 : decode cX7_gongNow 5 = .ok (.if_icmp .ne 7, 3) := by decide +kernel
theorem dX7_gongNow_8 : decode cX7_gongNow 8 = .ok (.iconst (-1), 1) := by decide +kernel
theorem dX7_gongNow_9 : decode cX7_gongNow 9 = .ok (.goto 30, 3) := by decide +kernel
theorem dX7_gongNow_12 : decode cX7_gongNow 12 = .ok (.aload_n 0, 1) := by decide +kernel
theorem dX7_gongNow_13 : decode cX7_gongNow 13 = .ok (.invokevirtual 170, 3) := by decide +kernel
theorem dX7_gongNow_16 : decode cX7_gongNow 16 = .ok (.aload_n 0, 1) := by decide +kernel
theorem dX7_gongNow_17 : decode cX7_gongNow 17 = .ok (.getfield 167, 3) := by decide +kernel
theorem dX7_gongNow_20 : decode cX7_gongNow 20 = .ok (.isub, 1) := by decide +kernel
theorem dX7_gongNow_21 : decode cX7_gongNow 21 = .ok (.bipush 8, 2) := by decide +kernel
theorem dX7_gongNow_23 : decode cX7_gongNow 23 = .ok (.aload_n 0, 1) := by decide +kernel
theorem dX7_gongNow_24 : decode cX7_gongNow 24 = .ok (.getfield 164, 3) := by decide +kernel
theorem dX7_gongNow_27 : decode cX7_gongNow 27 = .ok (.imul, 1) := by decide +kernel
theorem dX7_gongNow_28 : decode cX7_gongNow 28 = .ok (.iadd, 1) := by decide +kernel
theorem dX7_gongNow_29 : decode cX7_gongNow 29 = .ok (.iconst 1, 1) := by decide +kernel
theorem dX7_gongNow_30 : decode cX7_gongNow 30 = .ok (.isub, 1) := by decide +kernel
theorem dX7_gongNow_31 : decode cX7_gongNow 31 = .ok (.bipush 8, 2) := by decide +kernel
theorem dX7_gongNow_33 : decode cX7_gongNow 33 = .ok (.aload_n 0, 1) := by decide +kernel
theorem dX7_gongNow_34 : decode cX7_gongNow 34 = .ok (.getfield 164, 3) := by decide +kernel
theorem dX7_gongNow_37 : decode cX7_gongNow 37 = .ok (.imul, 1) := by decide +kernel
theorem dX7_gongNow_38 : decode cX7_gongNow 38 = .ok (.idiv, 1) := by decide +kernel
theorem dX7_gongNow_39 : decode cX7_gongNow 39 = .ok (.ireturn, 1) := by decide +kernel
theorem dX7_nextGong_0 : decode cX7_nextGong 0 = .ok (.aload_n 0, 1) := by decide +kernel
theorem dX7_nextGong_1 : decode cX7_nextGong 1 = .ok (.iconst 0, 1) := by decide +kernel
theorem dX7_nextGong_2 : decode cX7_nextGong 2 = .ok (.putfield 35, 3) := by decide +kernel
theorem dX7_nextGong_5 : decode cX7_nextGong 5 = .ok (.aload_n 0, 1) := by decide +kernel
theorem dX7_nextGong_6 : decode cX7_nextGong 6 = .ok (.invokevirtual 224, 3) := by decide +kernel
theorem dX7_nextGong_9 : decode cX7_nextGong 9 = .ok (.ireturn, 1) := by decide +kernel
theorem dX7_swapNow_0 : decode cX7_swapNow 0 = .ok (.new 7, 3) := by decide +kernel
theorem dX7_swapNow_3 : decode cX7_swapNow 3 = .ok (.dup, 1) := by decide +kernel
theorem dX7_swapNow_4 : decode cX7_swapNow 4 = .ok (.aload_n 0, 1) := by decide +kernel
theorem dX7_swapNow_5 : decode cX7_swapNow 5 = .ok (.getfield 19, 3) := by decide +kernel
theorem dX7_swapNow_8 : decode cX7_swapNow 8 = .ok (.invokespecial 227, 3) := by decide +kernel
theorem dX7_swapNow_11 : decode cX7_swapNow 11 = .ok (.astore_n 1, 1) := by decide +kernel
theorem dX7_swapNow_12 : decode cX7_swapNow 12 = .ok (.aload_n 0, 1) := by decide +kernel
theorem dX7_swapNow_13 : decode cX7_swapNow 13 = .ok (.aload_n 1, 1) := by decide +kernel
theorem dX7_swapNow_14 : decode cX7_swapNow 14 = .ok (.invokevirtual 116, 3) := by decide +kernel
theorem dX7_swapNow_17 : decode cX7_swapNow 17 = .ok (.istore_n 2, 1) := by decide +kernel
theorem dX7_swapNow_18 : decode cX7_swapNow 18 = .ok (.iconst (-1), 1) := by decide +kernel
theorem dX7_swapNow_19 : decode cX7_swapNow 19 = .ok (.istore_n 3, 1) := by decide +kernel
theorem dX7_swapNow_20 : decode cX7_swapNow 20 = .ok (.iconst 0, 1) := by decide +kernel
theorem dX7_swapNow_21 : decode cX7_swapNow 21 = .ok (.istore 4, 2) := by decide +kernel
theorem dX7_swapNow_23 : decode cX7_swapNow 23 = .ok (.iload 4, 2) := by decide +kernel
theorem dX7_swapNow_25 : decode cX7_swapNow 25 = .ok (.aload_n 1, 1) := by decide +kernel
theorem dX7_swapNow_26 : decode cX7_swapNow 26 = .ok (.invokevirtual 38, 3) := by decide +kernel
theorem dX7_swapNow_29 : decode cX7_swapNow 29 = .ok (.if_icmp .ge 74, 3) := by decide +kernel
theorem dX7_swapNow_32 : decode cX7_swapNow 32 = .ok (.iload 4, 2) := by decide +kernel
theorem dX7_swapNow_34 : decode cX7_swapNow 34 = .ok (.iconst 1, 1) := by decide +kernel
theorem dX7_swapNow_35 : decode cX7_swapNow 35 = .ok (.iadd, 1) := by decide +kernel
theorem dX7_swapNow_36 : decode cX7_swapNow 36 = .ok (.istore 5, 2) := by decide +kernel
theorem dX7_swapNow_38 : decode cX7_swapNow 38 = .ok (.iload 5, 2) := by decide +kernel
theorem dX7_swapNow_40 : decode cX7_swapNow 40 = .ok (.aload_n 1, 1) := by decide +kernel
theorem dX7_swapNow_41 : decode cX7_swapNow 41 = .ok (.invokevirtual 38, 3) := by decide +kernel
theorem dX7_swapNow_44 : decode cX7_swapNow 44 = .ok (.if_icmp .ge 53, 3) := by decide +kernel
theorem dX7_swapNow_47 : decode cX7_swapNow 47 = .ok (.aload_n 1, 1) := by decide +kernel
theorem dX7_swapNow_48 : decode cX7_swapNow 48 = .ok (.iload 4, 2) := by decide +kernel
theorem dX7_swapNow_50 : decode cX7_swapNow 50 = .ok (.iload 5, 2) := by decide +kernel
theorem dX7_swapNow_52 : decode cX7_swapNow 52 = .ok (.invokestatic 112, 3) := by decide +kernel
theorem dX7_swapNow_55 : decode cX7_swapNow 55 = .ok (.aload_n 0, 1) := by decide +kernel
theorem dX7_swapNow_56 : decode cX7_swapNow 56 = .ok (.aload_n 1, 1) := by decide +kernel
theorem dX7_swapNow_57 : decode cX7_swapNow 57 = .ok (.invokevirtual 116, 3) := by decide +kernel
theorem dX7_swapNow_60 : decode cX7_swapNow 60 = .ok (.istore 6, 2) := by decide +kernel
theorem dX7_swapNow_62 : decode cX7_swapNow 62 = .ok (.aload_n 1, 1) := by decide +kernel
theorem dX7_swapNow_63 : decode cX7_swapNow 63 = .ok (.iload 4, 2) := by decide +kernel
theorem dX7_swapNow_65 : decode cX7_swapNow 65 = .ok (.iload 5, 2) := by decide +kernel
theorem dX7_swapNow_67 : decode cX7_swapNow 67 = .ok (.invokestatic 112, 3) := by decide +kernel
theorem dX7_swapNow_70 : decode cX7_swapNow 70 = .ok (.iload 6, 2) := by decide +kernel
theorem dX7_swapNow_72 : decode cX7_swapNow 72 = .ok (.iload_n 2, 1) := by decide +kernel
theorem dX7_swapNow_73 : decode cX7_swapNow 73 = .ok (.if_icmp .lt 6, 3) := by decide +kernel
theorem dX7_swapNow_76 : decode cX7_swapNow 76 = .ok (.goto 15, 3) := by decide +kernel
theorem dX7_swapNow_79 : decode cX7_swapNow 79 = .ok (.iload 6, 2) := by decide +kernel
theorem dX7_swapNow_81 : decode cX7_swapNow 81 = .ok (.istore_n 2, 1) := by decide +kernel
theorem dX7_swapNow_82 : decode cX7_swapNow 82 = .ok (.bipush 10, 2) := by decide +kernel
theorem dX7_swapNow_84 : decode cX7_swapNow 84 = .ok (.iload 4, 2) := by decide +kernel
theorem dX7_swapNow_86 : decode cX7_swapNow 86 = .ok (.imul, 1) := by decide +kernel
theorem dX7_swapNow_87 : decode cX7_swapNow 87 = .ok (.iload 5, 2) := by decide +kernel
theorem dX7_swapNow_89 : decode cX7_swapNow 89 = .ok (.iadd, 1) := by decide +kernel
theorem dX7_swapNow_90 : decode cX7_swapNow 90 = .ok (.istore_n 3, 1) := by decide +kernel
theorem dX7_swapNow_91 : decode cX7_swapNow 91 = .ok (.iinc 5 1, 3) := by decide +kernel
theorem dX7_swapNow_94 : decode cX7_swapNow 94 = .ok (.goto (-56), 3) := by decide +kernel
theorem dX7_swapNow_97 : decode cX7_swapNow 97 = .ok (.iinc 4 1, 3) := by decide +kernel
theorem dX7_swapNow_100 : decode cX7_swapNow 100 = .ok (.goto (-77), 3) := by decide +kernel
theorem dX7_swapNow_103 : decode cX7_swapNow 103 = .ok (.iload_n 3, 1) := by decide +kernel
theorem dX7_swapNow_104 : decode cX7_swapNow 104 = .ok (.ireturn, 1) := by decide +kernel
theorem dX7_bestSwap_0 : decode cX7_bestSwap 0 = .ok (.aload_n 0, 1) := by decide +kernel
theorem dX7_bestSwap_1 : decode cX7_bestSwap 1 = .ok (.iconst 0, 1) := by decide +kernel
theorem dX7_bestSwap_2 : decode cX7_bestSwap 2 = .ok (.putfield 35, 3) := by decide +kernel
theorem dX7_bestSwap_5 : decode cX7_bestSwap 5 = .ok (.aload_n 0, 1) := by decide +kernel
theorem dX7_bestSwap_6 : decode cX7_bestSwap 6 = .ok (.invokevirtual 230, 3) := by decide +kernel
theorem dX7_bestSwap_9 : decode cX7_bestSwap 9 = .ok (.ireturn, 1) := by decide +kernel
theorem dX7_liftNow_0 : decode cX7_liftNow 0 = .ok (.iconst 0, 1) := by decide +kernel
theorem dX7_liftNow_1 : decode cX7_liftNow 1 = .ok (.istore_n 3, 1) := by decide +kernel
theorem dX7_liftNow_2 : decode cX7_liftNow 2 = .ok (.iload_n 3, 1) := by decide +kernel
theorem dX7_liftNow_3 : decode cX7_liftNow 3 = .ok (.bipush 16, 2) := by decide +kernel
theorem dX7_liftNow_5 : decode cX7_liftNow 5 = .ok (.if_icmp .ge 31, 3) := by decide +kernel
theorem dX7_liftNow_8 : decode cX7_liftNow 8 = .ok (.aload_n 0, 1) := by decide +kernel
theorem dX7_liftNow_9 : decode cX7_liftNow 9 = .ok (.aload_n 0, 1) := by decide +kernel
theorem dX7_liftNow_10 : decode cX7_liftNow 10 = .ok (.getfield 16, 3) := by decide +kernel
theorem dX7_liftNow_13 : decode cX7_liftNow 13 = .ok (.iload_n 1, 1) := by decide +kernel
theorem dX7_liftNow_14 : decode cX7_liftNow 14 = .ok (.invokevirtual 48, 3) := by decide +kernel
theorem dX7_liftNow_17 : decode cX7_liftNow 17 = .ok (.checkcast 52, 3) := by decide +kernel
theorem dX7_liftNow_20 : decode cX7_liftNow 20 = .ok (.iload_n 3, 1) := by decide +kernel
theorem dX7_liftNow_21 : decode cX7_liftNow 21 = .ok (.invokevirtual 148, 3) := by decide +kernel
theorem dX7_liftNow_24 : decode cX7_liftNow 24 = .ok (.iload_n 2, 1) := by decide +kernel
theorem dX7_liftNow_25 : decode cX7_liftNow 25 = .ok (.if_icmp .lt 5, 3) := by decide +kernel
theorem dX7_liftNow_28 : decode cX7_liftNow 28 = .ok (.iload_n 3, 1) := by decide +kernel
theorem dX7_liftNow_29 : decode cX7_liftNow 29 = .ok (.ireturn, 1) := by decide +kernel
theorem dX7_liftNow_30 : decode cX7_liftNow 30 = .ok (.iinc 3 1, 3) := by decide +kernel
theorem dX7_liftNow_33 : decode cX7_liftNow 33 = .ok (.goto (-31), 3) := by decide +kernel
theorem dX7_liftNow_36 : decode cX7_liftNow 36 = .ok (.iconst (-1), 1) := by decide +kernel
theorem dX7_liftNow_37 : decode cX7_liftNow 37 = .ok (.ireturn, 1) := by decide +kernel
theorem dX7_liftFor_0 : decode cX7_liftFor 0 = .ok (.aload_n 0, 1) := by decide +kernel
theorem dX7_liftFor_1 : decode cX7_liftFor 1 = .ok (.iconst 0, 1) := by decide +kernel
theorem dX7_liftFor_2 : decode cX7_liftFor 2 = .ok (.putfield 35, 3) := by decide +kernel
theorem dX7_liftFor_5 : decode cX7_liftFor 5 = .ok (.aload_n 0, 1) := by decide +kernel
theorem dX7_liftFor_6 : decode cX7_liftFor 6 = .ok (.iload_n 1, 1) := by decide +kernel
theorem dX7_liftFor_7 : decode cX7_liftFor 7 = .ok (.invokevirtual 132, 3) := by decide +kernel
theorem dX7_liftFor_10 : decode cX7_liftFor 10 = .ok (.ifCond .ne 9, 3) := by decide +kernel
theorem dX7_liftFor_13 : decode cX7_liftFor 13 = .ok (.aload_n 0, 1) := by decide +kernel
theorem dX7_liftFor_14 : decode cX7_liftFor 14 = .ok (.iconst 1, 1) := by decide +kernel
theorem dX7_liftFor_15 : decode cX7_liftFor 15 = .ok (.invokevirtual 93, 3) := by decide +kernel
theorem dX7_liftFor_18 : decode cX7_liftFor 18 = .ok (.ireturn, 1) := by decide +kernel
theorem dX7_liftFor_19 : decode cX7_liftFor 19 = .ok (.iload_n 2, 1) := by decide +kernel
theorem dX7_liftFor_20 : decode cX7_liftFor 20 = .ok (.iconst 1, 1) := by decide +kernel
theorem dX7_liftFor_21 : decode cX7_liftFor 21 = .ok (.sipush 400, 3) := by decide +kernel
theorem dX7_liftFor_24 : decode cX7_liftFor 24 = .ok (.invokestatic 42, 3) := by decide +kernel
theorem dX7_liftFor_27 : decode cX7_liftFor 27 = .ok (.ifCond .eq 12, 3) := by decide +kernel
theorem dX7_liftFor_30 : decode cX7_liftFor 30 = .ok (.aload_n 0, 1) := by decide +kernel
theorem dX7_liftFor_31 : decode cX7_liftFor 31 = .ok (.iload_n 1, 1) := by decide +kernel
theorem dX7_liftFor_32 : decode cX7_liftFor 32 = .ok (.iload_n 2, 1) := by decide +kernel
theorem dX7_liftFor_33 : decode cX7_liftFor 33 = .ok (.invokevirtual 233, 3) := by decide +kernel
theorem dX7_liftFor_36 : decode cX7_liftFor 36 = .ok (.goto 8, 3) := by decide +kernel
theorem dX7_liftFor_39 : decode cX7_liftFor 39 = .ok (.aload_n 0, 1) := by decide +kernel
theorem dX7_liftFor_40 : decode cX7_liftFor 40 = .ok (.iconst 2, 1) := by decide +kernel
theorem dX7_liftFor_41 : decode cX7_liftFor 41 = .ok (.invokevirtual 93, 3) := by decide +kernel
theorem dX7_liftFor_44 : decode cX7_liftFor 44 = .ok (.ireturn, 1) := by decide +kernel
theorem dX7_gripNow_0 : decode cX7_gripNow 0 = .ok (.iconst 0, 1) := by decide +kernel
theorem dX7_gripNow_1 : decode cX7_gripNow 1 = .ok (.istore_n 1, 1) := by decide +kernel
theorem dX7_gripNow_2 : decode cX7_gripNow 2 = .ok (.iconst 0, 1) := by decide +kernel
theorem dX7_gripNow_3 : decode cX7_gripNow 3 = .ok (.istore_n 2, 1) := by decide +kernel
theorem dX7_gripNow_4 : decode cX7_gripNow 4 = .ok (.iload_n 2, 1) := by decide +kernel
theorem dX7_gripNow_5 : decode cX7_gripNow 5 = .ok (.aload_n 0, 1) := by decide +kernel
theorem dX7_gripNow_6 : decode cX7_gripNow 6 = .ok (.getfield 16, 3) := by decide +kernel
theorem dX7_gripNow_9 : decode cX7_gripNow 9 = .ok (.invokevirtual 38, 3) := by decide +kernel
theorem dX7_gripNow_12 : decode cX7_gripNow 12 = .ok (.if_icmp .ge 24, 3) := by decide +kernel
theorem dX7_gripNow_15 : decode cX7_gripNow 15 = .ok (.aload_n 0, 1) := by decide +kernel
theorem dX7_gripNow_16 : decode cX7_gripNow 16 = .ok (.iload_n 2, 1) := by decide +kernel
theorem dX7_gripNow_17 : decode cX7_gripNow 17 = .ok (.invokevirtual 135, 3) := by decide +kernel
theorem dX7_gripNow_20 : decode cX7_gripNow 20 = .ok (.iconst (-1), 1) := by decide +kernel
theorem dX7_gripNow_21 : decode cX7_gripNow 21 = .ok (.if_icmp .eq 9, 3) := by decide +kernel
theorem dX7_gripNow_24 : decode cX7_gripNow 24 = .ok (.iload_n 1, 1) := by decide +kernel
theorem dX7_gripNow_25 : decode cX7_gripNow 25 = .ok (.iconst 1, 1) := by decide +kernel
theorem dX7_gripNow_26 : decode cX7_gripNow 26 = .ok (.iload_n 2, 1) := by decide +kernel
theorem dX7_gripNow_27 : decode cX7_gripNow 27 = .ok (.ishl, 1) := by decide +kernel
theorem dX7_gripNow_28 : decode cX7_gripNow 28 = .ok (.ior, 1) := by decide +kernel
theorem dX7_gripNow_29 : decode cX7_gripNow 29 = .ok (.istore_n 1, 1) := by decide +kernel
theorem dX7_gripNow_30 : decode cX7_gripNow 30 = .ok (.iinc 2 1, 3) := by decide +kernel
theorem dX7_gripNow_33 : decode cX7_gripNow 33 = .ok (.goto (-29), 3) := by decide +kernel
theorem dX7_gripNow_36 : decode cX7_gripNow 36 = .ok (.iload_n 1, 1) := by decide +kernel
theorem dX7_gripNow_37 : decode cX7_gripNow 37 = .ok (.ireturn, 1) := by decide +kernel
theorem dX7_gripable_0 : decode cX7_gripable 0 = .ok (.aload_n 0, 1) := by decide +kernel
theorem dX7_gripable_1 : decode cX7_gripable 1 = .ok (.iconst 0, 1) := by decide +kernel
theorem dX7_gripable_2 : decode cX7_gripable 2 = .ok (.putfield 35, 3) := by decide +kernel
theorem dX7_gripable_5 : decode cX7_gripable 5 = .ok (.aload_n 0, 1) := by decide +kernel
theorem dX7_gripable_6 : decode cX7_gripable 6 = .ok (.invokevirtual 236, 3) := by decide +kernel
theorem dX7_gripable_9 : decode cX7_gripable 9 = .ok (.ireturn, 1) := by decide +kernel
theorem dX7_add_0 : decode cX7_add 0 = .ok (.aload_n 0, 1) := by decide +kernel
theorem dX7_add_1 : decode cX7_add 1 = .ok (.aload_n 0, 1) := by decide +kernel
theorem dX7_add_2 : decode cX7_add 2 = .ok (.getfield 239, 3) := by decide +kernel
theorem dX7_add_5 : decode cX7_add 5 = .ok (.ldc2_w 243, 3) := by decide +kernel
theorem dX7_add_8 : decode cX7_add 8 = .ok (.lmul, 1) := by decide +kernel
theorem dX7_add_9 : decode cX7_add 9 = .ok (.iload_n 1, 1) := by decide +kernel
theorem dX7_add_10 : decode cX7_add 10 = .ok (.i2l, 1) := by decide +kernel
theorem dX7_add_11 : decode cX7_add 11 = .ok (.ladd, 1) := by decide +kernel
theorem dX7_add_12 : decode cX7_add 12 = .ok (.putfield 239, 3) := by decide +kernel
theorem dX7_add_15 : decode cX7_add 15 = .ok (.return_, 1) := by decide +kernel
theorem dX7_digest_0 : decode cX7_digest 0 = .ok (.aload_n 0, 1) := by decide +kernel
theorem dX7_digest_1 : decode cX7_digest 1 = .ok (.iconst 0, 1) := by decide +kernel
theorem dX7_digest_2 : decode cX7_digest 2 = .ok (.putfield 35, 3) := by decide +kernel
theorem dX7_digest_5 : decode cX7_digest 5 = .ok (.aload_n 0, 1) := by decide +kernel
theorem dX7_digest_6 : decode cX7_digest 6 = .ok (.ldc2_w 245, 3) := by decide +kernel
theorem dX7_digest_9 : decode cX7_digest 9 = .ok (.putfield 239, 3) := by decide +kernel
theorem dX7_digest_12 : decode cX7_digest 12 = .ok (.iconst 0, 1) := by decide +kernel
theorem dX7_digest_13 : decode cX7_digest 13 = .ok (.istore_n 1, 1) := by decide +kernel
theorem dX7_digest_14 : decode cX7_digest 14 = .ok (.iload_n 1, 1) := by decide +kernel
theorem dX7_digest_15 : decode cX7_digest 15 = .ok (.bipush 16, 2) := by decide +kernel
theorem dX7_digest_17 : decode cX7_digest 17 = .ok (.if_icmp .ge 18, 3) := by decide +kernel
theorem dX7_digest_20 : decode cX7_digest 20 = .ok (.aload_n 0, 1) := by decide +kernel
theorem dX7_digest_21 : decode cX7_digest 21 = .ok (.aload_n 0, 1) := by decide +kernel
theorem dX7_digest_22 : decode cX7_digest 22 = .ok (.iload_n 1, 1) := by decide +kernel
theorem dX7_digest_23 : decode cX7_digest 23 = .ok (.invokevirtual 221, 3) := by decide +kernel
theorem dX7_digest_26 : decode cX7_digest 26 = .ok (.invokevirtual 247, 3) := by decide +kernel
theorem dX7_digest_29 : decode cX7_digest 29 = .ok (.iinc 1 1, 3) := by decide +kernel
theorem dX7_digest_32 : decode cX7_digest 32 = .ok (.goto (-18), 3) := by decide +kernel
theorem dX7_digest_35 : decode cX7_digest 35 = .ok (.iconst 0, 1) := by decide +kernel
theorem dX7_digest_36 : decode cX7_digest 36 = .ok (.istore_n 1, 1) := by decide +kernel
theorem dX7_digest_37 : decode cX7_digest 37 = .ok (.iload_n 1, 1) := by decide +kernel
theorem dX7_digest_38 : decode cX7_digest 38 = .ok (.aload_n 0, 1) := by decide +kernel
theorem dX7_digest_39 : decode cX7_digest 39 = .ok (.getfield 10, 3) := by decide +kernel
theorem dX7_digest_42 : decode cX7_digest 42 = .ok (.invokevirtual 38, 3) := by decide +kernel
theorem dX7_digest_45 : decode cX7_digest 45 = .ok (.if_icmp .ge 35, 3) := by decide +kernel
theorem dX7_digest_48 : decode cX7_digest 48 = .ok (.aload_n 0, 1) := by decide +kernel
theorem dX7_digest_49 : decode cX7_digest 49 = .ok (.aload_n 0, 1) := by decide +kernel
theorem dX7_digest_50 : decode cX7_digest 50 = .ok (.iload_n 1, 1) := by decide +kernel
theorem dX7_digest_51 : decode cX7_digest 51 = .ok (.aload_n 0, 1) := by decide +kernel
theorem dX7_digest_52 : decode cX7_digest 52 = .ok (.getfield 19, 3) := by decide +kernel
theorem dX7_digest_55 : decode cX7_digest 55 = .ok (.invokevirtual 38, 3) := by decide +kernel
theorem dX7_digest_58 : decode cX7_digest 58 = .ok (.iconst 1, 1) := by decide +kernel
theorem dX7_digest_59 : decode cX7_digest 59 = .ok (.isub, 1) := by decide +kernel
theorem dX7_digest_60 : decode cX7_digest 60 = .ok (.invokevirtual 206, 3) := by decide +kernel
theorem dX7_digest_63 : decode cX7_digest 63 = .ok (.ifCond .eq 7, 3) := by decide +kernel
theorem dX7_digest_66 : decode cX7_digest 66 = .ok (.iconst 1, 1) := by decide +kernel
theorem dX7_digest_67 : decode cX7_digest 67 = .ok (.goto 4, 3) := by decide +kernel
theorem dX7_digest_70 : decode cX7_digest 70 = .ok (.iconst 0, 1) := by decide +kernel
theorem dX7_digest_71 : decode cX7_digest 71 = .ok (.invokevirtual 247, 3) := by decide +kernel
theorem dX7_digest_74 : decode cX7_digest 74 = .ok (.iinc 1 1, 3) := by decide +kernel
theorem dX7_digest_77 : decode cX7_digest 77 = .ok (.goto (-40), 3) := by decide +kernel
theorem dX7_digest_80 : decode cX7_digest 80 = .ok (.iconst 0, 1) := by decide +kernel
theorem dX7_digest_81 : decode cX7_digest 81 = .ok (.istore_n 1, 1) := by decide +kernel
theorem dX7_digest_82 : decode cX7_digest 82 = .ok (.iload_n 1, 1) := by decide +kernel
theorem dX7_digest_83 : decode cX7_digest 83 = .ok (.aload_n 0, 1) := by decide +kernel
theorem dX7_digest_84 : decode cX7_digest 84 = .ok (.getfield 16, 3) := by decide +kernel
theorem dX7_digest_87 : decode cX7_digest 87 = .ok (.invokevirtual 38, 3) := by decide +kernel
theorem dX7_digest_90 : decode cX7_digest 90 = .ok (.if_icmp .ge 44, 3) := by decide +kernel
theorem dX7_digest_93 : decode cX7_digest 93 = .ok (.iconst 0, 1) := by decide +kernel
theorem dX7_digest_94 : decode cX7_digest 94 = .ok (.istore_n 2, 1) := by decide +kernel
theorem dX7_digest_95 : decode cX7_digest 95 = .ok (.iload_n 2, 1) := by decide +kernel
theorem dX7_digest_96 : decode cX7_digest 96 = .ok (.bipush 8, 2) := by decide +kernel
theorem dX7_digest_98 : decode cX7_digest 98 = .ok (.if_icmp .ge 19, 3) := by decide +kernel
theorem dX7_digest_101 : decode cX7_digest 101 = .ok (.aload_n 0, 1) := by decide +kernel
theorem dX7_digest_102 : decode cX7_digest 102 = .ok (.aload_n 0, 1) := by decide +kernel
theorem dX7_digest_103 : decode cX7_digest 103 = .ok (.iload_n 1, 1) := by decide +kernel
theorem dX7_digest_104 : decode cX7_digest 104 = .ok (.iload_n 2, 1) := by decide +kernel
theorem dX7_digest_105 : decode cX7_digest 105 = .ok (.invokevirtual 209, 3) := by decide +kernel
theorem dX7_digest_108 : decode cX7_digest 108 = .ok (.invokevirtual 247, 3) := by decide +kernel
theorem dX7_digest_111 : decode cX7_digest 111 = .ok (.iinc 2 1, 3) := by decide +kernel
theorem dX7_digest_114 : decode cX7_digest 114 = .ok (.goto (-19), 3) := by decide +kernel
theorem dX7_digest_117 : decode cX7_digest 117 = .ok (.aload_n 0, 1) := by decide +kernel
theorem dX7_digest_118 : decode cX7_digest 118 = .ok (.aload_n 0, 1) := by decide +kernel
theorem dX7_digest_119 : decode cX7_digest 119 = .ok (.iload_n 1, 1) := by decide +kernel
theorem dX7_digest_120 : decode cX7_digest 120 = .ok (.bipush 60, 2) := by decide +kernel
theorem dX7_digest_122 : decode cX7_digest 122 = .ok (.invokevirtual 233, 3) := by decide +kernel
theorem dX7_digest_125 : decode cX7_digest 125 = .ok (.invokevirtual 247, 3) := by decide +kernel
theorem dX7_digest_128 : decode cX7_digest 128 = .ok (.iinc 1 1, 3) := by decide +kernel
theorem dX7_digest_131 : decode cX7_digest 131 = .ok (.goto (-49), 3) := by decide +kernel
theorem dX7_digest_134 : decode cX7_digest 134 = .ok (.iconst 0, 1) := by decide +kernel
theorem dX7_digest_135 : decode cX7_digest 135 = .ok (.istore_n 1, 1) := by decide +kernel
theorem dX7_digest_136 : decode cX7_digest 136 = .ok (.iload_n 1, 1) := by decide +kernel
theorem dX7_digest_137 : decode cX7_digest 137 = .ok (.aload_n 0, 1) := by decide +kernel
theorem dX7_digest_138 : decode cX7_digest 138 = .ok (.getfield 19, 3) := by decide +kernel
theorem dX7_digest_141 : decode cX7_digest 141 = .ok (.invokevirtual 38, 3) := by decide +kernel
theorem dX7_digest_144 : decode cX7_digest 144 = .ok (.if_icmp .ge 33, 3) := by decide +kernel
theorem dX7_digest_147 : decode cX7_digest 147 = .ok (.iconst 0, 1) := by decide +kernel
theorem dX7_digest_148 : decode cX7_digest 148 = .ok (.istore_n 2, 1) := by decide +kernel
theorem dX7_digest_149 : decode cX7_digest 149 = .ok (.iload_n 2, 1) := by decide +kernel
theorem dX7_digest_150 : decode cX7_digest 150 = .ok (.bipush 9, 2) := by decide +kernel
theorem dX7_digest_152 : decode cX7_digest 152 = .ok (.if_icmp .ge 19, 3) := by decide +kernel
theorem dX7_digest_155 : decode cX7_digest 155 = .ok (.aload_n 0, 1) := by decide +kernel
theorem dX7_digest_156 : decode cX7_digest 156 = .ok (.aload_n 0, 1) := by decide +kernel
theorem dX7_digest_157 : decode cX7_digest 157 = .ok (.iload_n 1, 1) := by decide +kernel
theorem dX7_digest_158 : decode cX7_digest 158 = .ok (.iload_n 2, 1) := by decide +kernel
theorem dX7_digest_159 : decode cX7_digest 159 = .ok (.invokevirtual 212, 3) := by decide +kernel
theorem dX7_digest_162 : decode cX7_digest 162 = .ok (.invokevirtual 247, 3) := by decide +kernel
theorem dX7_digest_165 : decode cX7_digest 165 = .ok (.iinc 2 1, 3) := by decide +kernel
theorem dX7_digest_168 : decode cX7_digest 168 = .ok (.goto (-19), 3) := by decide +kernel
theorem dX7_digest_171 : decode cX7_digest 171 = .ok (.iinc 1 1, 3) := by decide +kernel
theorem dX7_digest_174 : decode cX7_digest 174 = .ok (.goto (-38), 3) := by decide +kernel
theorem dX7_digest_177 : decode cX7_digest 177 = .ok (.iconst 0, 1) := by decide +kernel
theorem dX7_digest_178 : decode cX7_digest 178 = .ok (.istore_n 1, 1) := by decide +kernel
theorem dX7_digest_179 : decode cX7_digest 179 = .ok (.iload_n 1, 1) := by decide +kernel
theorem dX7_digest_180 : decode cX7_digest 180 = .ok (.bipush 10, 2) := by decide +kernel
theorem dX7_digest_182 : decode cX7_digest 182 = .ok (.if_icmp .ge 19, 3) := by decide +kernel
theorem dX7_digest_185 : decode cX7_digest 185 = .ok (.aload_n 0, 1) := by decide +kernel
theorem dX7_digest_186 : decode cX7_digest 186 = .ok (.aload_n 0, 1) := by decide +kernel
theorem dX7_digest_187 : decode cX7_digest 187 = .ok (.iload_n 1, 1) := by decide +kernel
theorem dX7_digest_188 : decode cX7_digest 188 = .ok (.iconst (-1), 1) := by decide +kernel
theorem dX7_digest_189 : decode cX7_digest 189 = .ok (.invokevirtual 126, 3) := by decide +kernel
theorem dX7_digest_192 : decode cX7_digest 192 = .ok (.invokevirtual 247, 3) := by decide +kernel
theorem dX7_digest_195 : decode cX7_digest 195 = .ok (.iinc 1 1, 3) := by decide +kernel
theorem dX7_digest_198 : decode cX7_digest 198 = .ok (.goto (-19), 3) := by decide +kernel
theorem dX7_digest_201 : decode cX7_digest 201 = .ok (.iconst 0, 1) := by decide +kernel
theorem dX7_digest_202 : decode cX7_digest 202 = .ok (.istore_n 1, 1) := by decide +kernel
theorem dX7_digest_203 : decode cX7_digest 203 = .ok (.iload_n 1, 1) := by decide +kernel
theorem dX7_digest_204 : decode cX7_digest 204 = .ok (.iconst 4, 1) := by decide +kernel
theorem dX7_digest_205 : decode cX7_digest 205 = .ok (.if_icmp .ge 18, 3) := by decide +kernel
theorem dX7_digest_208 : decode cX7_digest 208 = .ok (.aload_n 0, 1) := by decide +kernel
theorem dX7_digest_209 : decode cX7_digest 209 = .ok (.aload_n 0, 1) := by decide +kernel
theorem dX7_digest_210 : decode cX7_digest 210 = .ok (.iload_n 1, 1) := by decide +kernel
theorem dX7_digest_211 : decode cX7_digest 211 = .ok (.invokevirtual 215, 3) := by decide +kernel
theorem dX7_digest_214 : decode cX7_digest 214 = .ok (.invokevirtual 247, 3) := by decide +kernel
theorem dX7_digest_217 : decode cX7_digest 217 = .ok (.iinc 1 1, 3) := by decide +kernel
theorem dX7_digest_220 : decode cX7_digest 220 = .ok (.goto (-17), 3) := by decide +kernel
theorem dX7_digest_223 : decode cX7_digest 223 = .ok (.aload_n 0, 1) := by decide +kernel
theorem dX7_digest_224 : decode cX7_digest 224 = .ok (.aload_n 0, 1) := by decide +kernel
theorem dX7_digest_225 : decode cX7_digest 225 = .ok (.invokevirtual 224, 3) := by decide +kernel
theorem dX7_digest_228 : decode cX7_digest 228 = .ok (.invokevirtual 247, 3) := by decide +kernel
theorem dX7_digest_231 : decode cX7_digest 231 = .ok (.aload_n 0, 1) := by decide +kernel
theorem dX7_digest_232 : decode cX7_digest 232 = .ok (.aload_n 0, 1) := by decide +kernel
theorem dX7_digest_233 : decode cX7_digest 233 = .ok (.invokevirtual 230, 3) := by decide +kernel
theorem dX7_digest_236 : decode cX7_digest 236 = .ok (.invokevirtual 247, 3) := by decide +kernel
theorem dX7_digest_239 : decode cX7_digest 239 = .ok (.aload_n 0, 1) := by decide +kernel
theorem dX7_digest_240 : decode cX7_digest 240 = .ok (.aload_n 0, 1) := by decide +kernel
theorem dX7_digest_241 : decode cX7_digest 241 = .ok (.invokevirtual 236, 3) := by decide +kernel
theorem dX7_digest_244 : decode cX7_digest 244 = .ok (.invokevirtual 247, 3) := by decide +kernel
theorem dX7_digest_247 : decode cX7_digest 247 = .ok (.aload_n 0, 1) := by decide +kernel
theorem dX7_digest_248 : decode cX7_digest 248 = .ok (.getfield 239, 3) := by decide +kernel
theorem dX7_digest_251 : decode cX7_digest 251 = .ok (.lreturn, 1) := by decide +kernel
theorem dJ6_signum_0f7a4_0 : decode cJ6_signum_0f7a4 0 = .ok (.iload_n 0, 1) := by decide +kernel
theorem dJ6_signum_0f7a4_1 : decode cJ6_signum_0f7a4 1 = .ok (.bipush 31, 2) := by decide +kernel
theorem dJ6_signum_0f7a4_3 : decode cJ6_signum_0f7a4 3 = .ok (.ishr, 1) := by decide +kernel
theorem dJ6_signum_0f7a4_4 : decode cJ6_signum_0f7a4 4 = .ok (.iload_n 0, 1) := by decide +kernel
theorem dJ6_signum_0f7a4_5 : decode cJ6_signum_0f7a4 5 = .ok (.ineg, 1) := by decide +kernel
theorem dJ6_signum_0f7a4_6 : decode cJ6_signum_0f7a4 6 = .ok (.bipush 31, 2) := by decide +kernel
theorem dJ6_signum_0f7a4_8 : decode cJ6_signum_0f7a4 8 = .ok (.iushr, 1) := by decide +kernel
theorem dJ6_signum_0f7a4_9 : decode cJ6_signum_0f7a4 9 = .ok (.ior, 1) := by decide +kernel
theorem dJ6_signum_0f7a4_10 : decode cJ6_signum_0f7a4 10 = .ok (.ireturn, 1) := by decide +kernel
theorem dJ9_abs_0f7a4_0 : decode cJ9_abs_0f7a4 0 = .ok (.iload_n 0, 1) := by decide +kernel
theorem dJ9_abs_0f7a4_1 : decode cJ9_abs_0f7a4 1 = .ok (.ifCond .ge 8, 3) := by decide +kernel
theorem dJ9_abs_0f7a4_4 : decode cJ9_abs_0f7a4 4 = .ok (.iload_n 0, 1) := by decide +kernel
theorem dJ9_abs_0f7a4_5 : decode cJ9_abs_0f7a4 5 = .ok (.ineg, 1) := by decide +kernel
theorem dJ9_abs_0f7a4_6 : decode cJ9_abs_0f7a4 6 = .ok (.goto 4, 3) := by decide +kernel
theorem dJ9_abs_0f7a4_9 : decode cJ9_abs_0f7a4 9 = .ok (.iload_n 0, 1) := by decide +kernel
theorem dJ9_abs_0f7a4_10 : decode cJ9_abs_0f7a4 10 = .ok (.ireturn, 1) := by decide +kernel
theorem dJ9_max_7cf53_0 : decode cJ9_max_7cf53 0 = .ok (.iload_n 0, 1) := by decide +kernel
theorem dJ9_max_7cf53_1 : decode cJ9_max_7cf53 1 = .ok (.iload_n 1, 1) := by decide +kernel
theorem dJ9_max_7cf53_2 : decode cJ9_max_7cf53 2 = .ok (.if_icmp .lt 7, 3) := by decide +kernel
theorem dJ9_max_7cf53_5 : decode cJ9_max_7cf53 5 = .ok (.iload_n 0, 1) := by decide +kernel
theorem dJ9_max_7cf53_6 : decode cJ9_max_7cf53 6 = .ok (.goto 4, 3) := by decide +kernel
theorem dJ9_max_7cf53_9 : decode cJ9_max_7cf53 9 = .ok (.iload_n 1, 1) := by decide +kernel
theorem dJ9_max_7cf53_10 : decode cJ9_max_7cf53 10 = .ok (.ireturn, 1) := by decide +kernel
theorem dJ9_min_7cf53_0 : decode cJ9_min_7cf53 0 = .ok (.iload_n 0, 1) := by decide +kernel
theorem dJ9_min_7cf53_1 : decode cJ9_min_7cf53 1 = .ok (.iload_n 1, 1) := by decide +kernel
theorem dJ9_min_7cf53_2 : decode cJ9_min_7cf53 2 = .ok (.if_icmp .gt 7, 3) := by decide +kernel
theorem dJ9_min_7cf53_5 : decode cJ9_min_7cf53 5 = .ok (.iload_n 0, 1) := by decide +kernel
theorem dJ9_min_7cf53_6 : decode cJ9_min_7cf53 6 = .ok (.goto 4, 3) := by decide +kernel
theorem dJ9_min_7cf53_9 : decode cJ9_min_7cf53 9 = .ok (.iload_n 1, 1) := by decide +kernel
theorem dJ9_min_7cf53_10 : decode cJ9_min_7cf53 10 = .ok (.ireturn, 1) := by decide +kernel
theorem dJxa1e45_init_da8c8_0 : decode cJxa1e45_init_da8c8 0 = .ok (.aload_n 0, 1) := by decide +kernel
theorem dJxa1e45_init_da8c8_1 : decode cJxa1e45_init_da8c8 1 = .ok (.invokespecial 1, 3) := by decide +kernel
theorem dJxa1e45_init_da8c8_4 : decode cJxa1e45_init_da8c8 4 = .ok (.return_, 1) := by decide +kernel
theorem dJxc12de_init_da8c8_0 : decode cJxc12de_init_da8c8 0 = .ok (.aload_n 0, 1) := by decide +kernel
theorem dJxc12de_init_da8c8_1 : decode cJxc12de_init_da8c8 1 = .ok (.invokespecial 1, 3) := by decide +kernel
theorem dJxc12de_init_da8c8_4 : decode cJxc12de_init_da8c8 4 = .ok (.aload_n 0, 1) := by decide +kernel
theorem dJxc12de_init_da8c8_5 : decode cJxc12de_init_da8c8 5 = .ok (.iconst 0, 1) := by decide +kernel
theorem dJxc12de_init_da8c8_6 : decode cJxc12de_init_da8c8 6 = .ok (.putfield 7, 3) := by decide +kernel
theorem dJxc12de_init_da8c8_9 : decode cJxc12de_init_da8c8 9 = .ok (.return_, 1) := by decide +kernel
theorem dJx35411_init_45d68_0 : decode cJx35411_init_45d68 0 = .ok (.aload_n 0, 1) := by decide +kernel
theorem dJx35411_init_45d68_1 : decode cJx35411_init_45d68 1 = .ok (.aload_n 1, 1) := by decide +kernel
theorem dJx35411_init_45d68_2 : decode cJx35411_init_45d68 2 = .ok (.putfield 1, 3) := by decide +kernel
theorem dJx35411_init_45d68_5 : decode cJx35411_init_45d68 5 = .ok (.aload_n 0, 1) := by decide +kernel
theorem dJx35411_init_45d68_6 : decode cJx35411_init_45d68 6 = .ok (.invokespecial 7, 3) := by decide +kernel
theorem dJx35411_init_45d68_9 : decode cJx35411_init_45d68 9 = .ok (.aload_n 0, 1) := by decide +kernel
theorem dJx35411_init_45d68_10 : decode cJx35411_init_45d68 10 = .ok (.iconst (-1), 1) := by decide +kernel
theorem dJx35411_init_45d68_11 : decode cJx35411_init_45d68 11 = .ok (.putfield 13, 3) := by decide +kernel
theorem dJx35411_init_45d68_14 : decode cJx35411_init_45d68 14 = .ok (.aload_n 0, 1) := by decide +kernel
theorem dJx35411_init_45d68_15 : decode cJx35411_init_45d68 15 = .ok (.aload_n 0, 1) := by decide +kernel
theorem dJx35411_init_45d68_16 : decode cJx35411_init_45d68 16 = .ok (.getfield 1, 3) := by decide +kernel
theorem dJx35411_init_45d68_19 : decode cJx35411_init_45d68 19 = .ok (.getfield 17, 3) := by decide +kernel
theorem dJx35411_init_45d68_22 : decode cJx35411_init_45d68 22 = .ok (.putfield 22, 3) := by decide +kernel
theorem dJx35411_init_45d68_25 : decode cJx35411_init_45d68 25 = .ok (.return_, 1) := by decide +kernel
theorem dJx35411_hasNext_aae02_0 : decode cJx35411_hasNext_aae02 0 = .ok (.aload_n 0, 1) := by decide +kernel
theorem dJx35411_hasNext_aae02_1 : decode cJx35411_hasNext_aae02 1 = .ok (.getfield 25, 3) := by decide +kernel
theorem dJx35411_hasNext_aae02_4 : decode cJx35411_hasNext_aae02 4 = .ok (.aload_n 0, 1) := by decide +kernel
theorem dJx35411_hasNext_aae02_5 : decode cJx35411_hasNext_aae02 5 = .ok (.getfield 1, 3) := by decide +kernel
theorem dJx35411_hasNext_aae02_8 : decode cJx35411_hasNext_aae02 8 = .ok (.getfield 28, 3) := by decide +kernel
theorem dJx35411_hasNext_aae02_11 : decode cJx35411_hasNext_aae02 11 = .ok (.if_icmp .eq 7, 3) := by decide +kernel
theorem dJx35411_hasNext_aae02_14 : decode cJx35411_hasNext_aae02 14 = .ok (.iconst 1, 1) := by decide +kernel
theorem dJx35411_hasNext_aae02_15 : decode cJx35411_hasNext_aae02 15 = .ok (.goto 4, 3) := by decide +kernel
theorem dJx35411_hasNext_aae02_18 : decode cJx35411_hasNext_aae02 18 = .ok (.iconst 0, 1) := by decide +kernel
theorem dJx35411_hasNext_aae02_19 : decode cJx35411_hasNext_aae02 19 = .ok (.ireturn, 1) := by decide +kernel
theorem dJx35411_next_0502b_0 : decode cJx35411_next_0502b 0 = .ok (.aload_n 0, 1) := by decide +kernel
theorem dJx35411_next_0502b_1 : decode cJx35411_next_0502b 1 = .ok (.invokevirtual 31, 3) := by decide +kernel
theorem dJx35411_next_0502b_4 : decode cJx35411_next_0502b 4 = .ok (.aload_n 0, 1) := by decide +kernel
theorem dJx35411_next_0502b_5 : decode cJx35411_next_0502b 5 = .ok (.getfield 25, 3) := by decide +kernel
theorem dJx35411_next_0502b_8 : decode cJx35411_next_0502b 8 = .ok (.istore_n 1, 1) := by decide +kernel
theorem dJx35411_next_0502b_9 : decode cJx35411_next_0502b 9 = .ok (.iload_n 1, 1) := by decide +kernel
theorem dJx35411_next_0502b_10 : decode cJx35411_next_0502b 10 = .ok (.aload_n 0, 1) := by decide +kernel
theorem dJx35411_next_0502b_11 : decode cJx35411_next_0502b 11 = .ok (.getfield 1, 3) := by decide +kernel
theorem dJx35411_next_0502b_14 : decode cJx35411_next_0502b 14 = .ok (.getfield 28, 3) := by decide +kernel
theorem dJx35411_next_0502b_17 : decode cJx35411_next_0502b 17 = .ok (.if_icmp .lt 11, 3) := by decide +kernel
theorem dJx35411_next_0502b_20 : decode cJx35411_next_0502b 20 = .ok (.new 34, 3) := by decide +kernel
theorem dJx35411_next_0502b_23 : decode cJx35411_next_0502b 23 = .ok (.dup, 1) := by decide +kernel
theorem dJx35411_next_0502b_24 : decode cJx35411_next_0502b 24 = .ok (.invokespecial 36, 3) := by decide +kernel
theorem dJx35411_next_0502b_27 : decode cJx35411_next_0502b 27 = .ok (.athrow, 1) := by decide +kernel
theorem dJx35411_next_0502b_28 : decode cJx35411_next_0502b 28 = .ok (.aload_n 0, 1) := by decide +kernel
theorem dJx35411_next_0502b_29 : decode cJx35411_next_0502b 29 = .ok (.getfield 1, 3) := by decide +kernel
theorem dJx35411_next_0502b_32 : decode cJx35411_next_0502b 32 = .ok (.getfield 37, 3) := by decide +kernel
theorem dJx35411_next_0502b_35 : decode cJx35411_next_0502b 35 = .ok (.astore_n 2, 1) := by decide +kernel
theorem dJx35411_next_0502b_36 : decode cJx35411_next_0502b 36 = .ok (.iload_n 1, 1) := by decide +kernel
theorem dJx35411_next_0502b_37 : decode cJx35411_next_0502b 37 = .ok (.aload_n 2, 1) := by decide +kernel
theorem dJx35411_next_0502b_38 : decode cJx35411_next_0502b 38 = .ok (.arraylength, 1) := by decide +kernel
theorem dJx35411_next_0502b_39 : decode cJx35411_next_0502b 39 = .ok (.if_icmp .lt 11, 3) := by decide +kernel
theorem dJx35411_next_0502b_42 : decode cJx35411_next_0502b 42 = .ok (.new 41, 3) := by decide +kernel
theorem dJx35411_next_0502b_45 : decode cJx35411_next_0502b 45 = .ok (.dup, 1) := by decide +kernel
theorem dJx35411_next_0502b_46 : decode cJx35411_next_0502b 46 = .ok (.invokespecial 43, 3) := by decide +kernel
theorem dJx35411_next_0502b_49 : decode cJx35411_next_0502b 49 = .ok (.athrow, 1) := by decide +kernel
theorem dJx35411_next_0502b_50 : decode cJx35411_next_0502b 50 = .ok (.aload_n 0, 1) := by decide +kernel
theorem dJx35411_next_0502b_51 : decode cJx35411_next_0502b 51 = .ok (.iload_n 1, 1) := by decide +kernel
theorem dJx35411_next_0502b_52 : decode cJx35411_next_0502b 52 = .ok (.iconst 1, 1) := by decide +kernel
theorem dJx35411_next_0502b_53 : decode cJx35411_next_0502b 53 = .ok (.iadd, 1) := by decide +kernel
theorem dJx35411_next_0502b_54 : decode cJx35411_next_0502b 54 = .ok (.putfield 25, 3) := by decide +kernel
theorem dJx35411_next_0502b_57 : decode cJx35411_next_0502b 57 = .ok (.aload_n 2, 1) := by decide +kernel
theorem dJx35411_next_0502b_58 : decode cJx35411_next_0502b 58 = .ok (.aload_n 0, 1) := by decide +kernel
theorem dJx35411_next_0502b_59 : decode cJx35411_next_0502b 59 = .ok (.iload_n 1, 1) := by decide +kernel
theorem dJx35411_next_0502b_60 : decode cJx35411_next_0502b 60 = .ok (.dup_x1, 1) := by decide +kernel
theorem dJx35411_next_0502b_61 : decode cJx35411_next_0502b 61 = .ok (.putfield 13, 3) := by decide +kernel
theorem dJx35411_next_0502b_64 : decode cJx35411_next_0502b 64 = .ok (.aaload, 1) := by decide +kernel
theorem dJx35411_next_0502b_65 : decode cJx35411_next_0502b 65 = .ok (.areturn, 1) := by decide +kernel
theorem dJx35411_checkForComodification_da8c8_0 : decode cJx35411_checkForComodification_da8c8 0 = .ok (.aload_n 0, 1) := by decide +kernel
theorem dJx35411_checkForComodification_da8c8_1 : decode cJx35411_checkForComodification_da8c8 1 = .ok (.getfield 1, 3) := by decide +kernel
theorem dJx35411_checkForComodification_da8c8_4 : decode cJx35411_checkForComodification_da8c8 4 = .ok (.getfield 17, 3) := by decide +kernel
theorem dJx35411_checkForComodification_da8c8_7 : decode cJx35411_checkForComodification_da8c8 7 = .ok (.aload_n 0, 1) := by decide +kernel
theorem dJx35411_checkForComodification_da8c8_8 : decode cJx35411_checkForComodification_da8c8 8 = .ok (.getfield 22, 3) := by decide +kernel
theorem dJx35411_checkForComodification_da8c8_11 : decode cJx35411_checkForComodification_da8c8 11 = .ok (.if_icmp .eq 11, 3) := by decide +kernel
theorem dJx35411_checkForComodification_da8c8_14 : decode cJx35411_checkForComodification_da8c8 14 = .ok (.new 41, 3) := by decide +kernel
theorem dJx35411_checkForComodification_da8c8_17 : decode cJx35411_checkForComodification_da8c8 17 = .ok (.dup, 1) := by decide +kernel
theorem dJx35411_checkForComodification_da8c8_18 : decode cJx35411_checkForComodification_da8c8 18 = .ok (.invokespecial 43, 3) := by decide +kernel
theorem dJx35411_checkForComodification_da8c8_21 : decode cJx35411_checkForComodification_da8c8 21 = .ok (.athrow, 1) := by decide +kernel
theorem dJx35411_checkForComodification_da8c8_22 : decode cJx35411_checkForComodification_da8c8 22 = .ok (.return_, 1) := by decide +kernel
theorem dJx4a65c_init_da8c8_0 : decode cJx4a65c_init_da8c8 0 = .ok (.aload_n 0, 1) := by decide +kernel
theorem dJx4a65c_init_da8c8_1 : decode cJx4a65c_init_da8c8 1 = .ok (.invokespecial 1, 3) := by decide +kernel
theorem dJx4a65c_init_da8c8_4 : decode cJx4a65c_init_da8c8 4 = .ok (.aload_n 0, 1) := by decide +kernel
theorem dJx4a65c_init_da8c8_5 : decode cJx4a65c_init_da8c8 5 = .ok (.getstatic 39, 3) := by decide +kernel
theorem dJx4a65c_init_da8c8_8 : decode cJx4a65c_init_da8c8 8 = .ok (.putfield 9, 3) := by decide +kernel
theorem dJx4a65c_init_da8c8_11 : decode cJx4a65c_init_da8c8 11 = .ok (.return_, 1) := by decide +kernel
theorem dJx4a65c_init_4bcb3_0 : decode cJx4a65c_init_4bcb3 0 = .ok (.aload_n 0, 1) := by decide +kernel
theorem dJx4a65c_init_4bcb3_1 : decode cJx4a65c_init_4bcb3 1 = .ok (.invokespecial 1, 3) := by decide +kernel
theorem dJx4a65c_init_4bcb3_4 : decode cJx4a65c_init_4bcb3 4 = .ok (.aload_n 1, 1) := by decide +kernel
theorem dJx4a65c_init_4bcb3_5 : decode cJx4a65c_init_4bcb3 5 = .ok (.invokeinterface 42 1, 5) := by decide +kernel
theorem dJx4a65c_init_4bcb3_10 : decode cJx4a65c_init_4bcb3 10 = .ok (.astore_n 2, 1) := by decide +kernel
theorem dJx4a65c_init_4bcb3_11 : decode cJx4a65c_init_4bcb3 11 = .ok (.aload_n 0, 1) := by decide +kernel
theorem dJx4a65c_init_4bcb3_12 : decode cJx4a65c_init_4bcb3 12 = .ok (.aload_n 2, 1) := by decide +kernel
theorem dJx4a65c_init_4bcb3_13 : decode cJx4a65c_init_4bcb3 13 = .ok (.arraylength, 1) := by decide +kernel
theorem dJx4a65c_init_4bcb3_14 : decode cJx4a65c_init_4bcb3 14 = .ok (.dup_x1, 1) := by decide +kernel
theorem dJx4a65c_init_4bcb3_15 : decode cJx4a65c_init_4bcb3 15 = .ok (.putfield 48, 3) := by decide +kernel
theorem dJx4a65c_init_4bcb3_18 : decode cJx4a65c_init_4bcb3 18 = .ok (.ifCond .eq 39, 3) := by decide +kernel
theorem dJx4a65c_init_4bcb3_21 : decode cJx4a65c_init_4bcb3 21 = .ok (.aload_n 1, 1) := by decide +kernel
theorem dJx4a65c_init_4bcb3_22 : decode cJx4a65c_init_4bcb3 22 = .ok (.invokeinterface 52 1, 5) := by decide +kernel
theorem dJx4a65c_init_4bcb3_27 : decode cJx4a65c_init_4bcb3 27 = .ok (.ldc 10, 2) := by decide +kernel
theorem dJx4a65c_init_4bcb3_29 : decode cJx4a65c_init_4bcb3 29 = .ok (.if_acmp .ne 11, 3) := by decide +kernel
theorem dJx4a65c_init_4bcb3_32 : decode cJx4a65c_init_4bcb3 32 = .ok (.aload_n 0, 1) := by decide +kernel
theorem dJx4a65c_init_4bcb3_33 : decode cJx4a65c_init_4bcb3 33 = .ok (.aload_n 2, 1) := by decide +kernel
theorem dJx4a65c_init_4bcb3_34 : decode cJx4a65c_init_4bcb3 34 = .ok (.putfield 9, 3) := by decide +kernel
theorem dJx4a65c_init_4bcb3_37 : decode cJx4a65c_init_4bcb3 37 = .ok (.goto 27, 3) := by decide +kernel
theorem dJx4a65c_init_4bcb3_40 : decode cJx4a65c_init_4bcb3 40 = .ok (.aload_n 0, 1) := by decide +kernel
theorem dJx4a65c_init_4bcb3_41 : decode cJx4a65c_init_4bcb3 41 = .ok (.aload_n 2, 1) := by decide +kernel
theorem dJx4a65c_init_4bcb3_42 : decode cJx4a65c_init_4bcb3 42 = .ok (.aload_n 0, 1) := by decide +kernel
theorem dJx4a65c_init_4bcb3_43 : decode cJx4a65c_init_4bcb3 43 = .ok (.getfield 48, 3) := by decide +kernel
theorem dJx4a65c_init_4bcb3_46 : decode cJx4a65c_init_4bcb3 46 = .ok (.ldc 56, 2) := by decide +kernel
theorem dJx4a65c_init_4bcb3_48 : decode cJx4a65c_init_4bcb3 48 = .ok (.invokestatic 57, 3) := by decide +kernel
theorem dJx4a65c_init_4bcb3_51 : decode cJx4a65c_init_4bcb3 51 = .ok (.putfield 9, 3) := by decide +kernel
theorem dJx4a65c_init_4bcb3_54 : decode cJx4a65c_init_4bcb3 54 = .ok (.goto 10, 3) := by decide +kernel
theorem dJx4a65c_init_4bcb3_57 : decode cJx4a65c_init_4bcb3 57 = .ok (.aload_n 0, 1) := by decide +kernel
theorem dJx4a65c_init_4bcb3_58 : decode cJx4a65c_init_4bcb3 58 = .ok (.getstatic 15, 3) := by decide +kernel
theorem dJx4a65c_init_4bcb3_61 : decode cJx4a65c_init_4bcb3 61 = .ok (.putfield 9, 3) := by decide +kernel
theorem dJx4a65c_init_4bcb3_64 : decode cJx4a65c_init_4bcb3 64 = .ok (.return_, 1) := by decide +kernel
theorem dJx4a65c_grow_92f84_0 : decode cJx4a65c_grow_92f84 0 = .ok (.aload_n 0, 1) := by decide +kernel
theorem dJx4a65c_grow_92f84_1 : decode cJx4a65c_grow_92f84 1 = .ok (.getfield 9, 3) := by decide +kernel
theorem dJx4a65c_grow_92f84_4 : decode cJx4a65c_grow_92f84 4 = .ok (.arraylength, 1) := by decide +kernel
theorem dJx4a65c_grow_92f84_5 : decode cJx4a65c_grow_92f84 5 = .ok (.istore_n 2, 1) := by decide +kernel
theorem dJx4a65c_grow_92f84_6 : decode cJx4a65c_grow_92f84 6 = .ok (.iload_n 2, 1) := by decide +kernel
theorem dJx4a65c_grow_92f84_7 : decode cJx4a65c_grow_92f84 7 = .ok (.ifCond .gt 13, 3) := by decide +kernel
theorem dJx4a65c_grow_92f84_10 : decode cJx4a65c_grow_92f84 10 = .ok (.aload_n 0, 1) := by decide +kernel
theorem dJx4a65c_grow_92f84_11 : decode cJx4a65c_grow_92f84 11 = .ok (.getfield 9, 3) := by decide +kernel
theorem dJx4a65c_grow_92f84_14 : decode cJx4a65c_grow_92f84 14 = .ok (.getstatic 39, 3) := by decide +kernel
theorem dJx4a65c_grow_92f84_17 : decode cJx4a65c_grow_92f84 17 = .ok (.if_acmp .eq 28, 3) := by decide +kernel
theorem dJx4a65c_grow_92f84_20 : decode cJx4a65c_grow_92f84 20 = .ok (.iload_n 2, 1) := by decide +kernel
theorem dJx4a65c_grow_92f84_21 : decode cJx4a65c_grow_92f84 21 = .ok (.iload_n 1, 1) := by decide +kernel
theorem dJx4a65c_grow_92f84_22 : decode cJx4a65c_grow_92f84 22 = .ok (.iload_n 2, 1) := by decide +kernel
theorem dJx4a65c_grow_92f84_23 : decode cJx4a65c_grow_92f84 23 = .ok (.isub, 1) := by decide +kernel
theorem dJx4a65c_grow_92f84_24 : decode cJx4a65c_grow_92f84 24 = .ok (.iload_n 2, 1) := by decide +kernel
theorem dJx4a65c_grow_92f84_25 : decode cJx4a65c_grow_92f84 25 = .ok (.iconst 1, 1) := by decide +kernel
theorem dJx4a65c_grow_92f84_26 : decode cJx4a65c_grow_92f84 26 = .ok (.ishr, 1) := by decide +kernel
theorem dJx4a65c_grow_92f84_27 : decode cJx4a65c_grow_92f84 27 = .ok (.invokestatic 73, 3) := by decide +kernel
theorem dJx4a65c_grow_92f84_30 : decode cJx4a65c_grow_92f84 30 = .ok (.istore_n 3, 1) := by decide +kernel
theorem dJx4a65c_grow_92f84_31 : decode cJx4a65c_grow_92f84 31 = .ok (.aload_n 0, 1) := by decide +kernel
theorem dJx4a65c_grow_92f84_32 : decode cJx4a65c_grow_92f84 32 = .ok (.aload_n 0, 1) := by decide +kernel
theorem dJx4a65c_grow_92f84_33 : decode cJx4a65c_grow_92f84 33 = .ok (.getfield 9, 3) := by decide +kernel
theorem dJx4a65c_grow_92f84_36 : decode cJx4a65c_grow_92f84 36 = .ok (.iload_n 3, 1) := by decide +kernel
theorem dJx4a65c_grow_92f84_37 : decode cJx4a65c_grow_92f84 37 = .ok (.invokestatic 66, 3) := by decide +kernel
theorem dJx4a65c_grow_92f84_40 : decode cJx4a65c_grow_92f84 40 = .ok (.dup_x1, 1) := by decide +kernel
theorem dJx4a65c_grow_92f84_41 : decode cJx4a65c_grow_92f84 41 = .ok (.putfield 9, 3) := by decide +kernel
theorem dJx4a65c_grow_92f84_44 : decode cJx4a65c_grow_92f84 44 = .ok (.areturn, 1) := by decide +kernel
theorem dJx4a65c_grow_92f84_45 : decode cJx4a65c_grow_92f84 45 = .ok (.aload_n 0, 1) := by decide +kernel
theorem dJx4a65c_grow_92f84_46 : decode cJx4a65c_grow_92f84 46 = .ok (.bipush 10, 2) := by decide +kernel
theorem dJx4a65c_grow_92f84_48 : decode cJx4a65c_grow_92f84 48 = .ok (.iload_n 1, 1) := by decide +kernel
theorem dJx4a65c_grow_92f84_49 : decode cJx4a65c_grow_92f84 49 = .ok (.invokestatic 79, 3) := by decide +kernel
theorem dJx4a65c_grow_92f84_52 : decode cJx4a65c_grow_92f84 52 = .ok (.anewarray 7, 3) := by decide +kernel
theorem dJx4a65c_grow_92f84_55 : decode cJx4a65c_grow_92f84 55 = .ok (.dup_x1, 1) := by decide +kernel
theorem dJx4a65c_grow_92f84_56 : decode cJx4a65c_grow_92f84 56 = .ok (.putfield 9, 3) := by decide +kernel
theorem dJx4a65c_grow_92f84_59 : decode cJx4a65c_grow_92f84 59 = .ok (.areturn, 1) := by decide +kernel
theorem dJx4a65c_grow_d5877_0 : decode cJx4a65c_grow_d5877 0 = .ok (.aload_n 0, 1) := by decide +kernel
theorem dJx4a65c_grow_d5877_1 : decode cJx4a65c_grow_d5877 1 = .ok (.aload_n 0, 1) := by decide +kernel
theorem dJx4a65c_grow_d5877_2 : decode cJx4a65c_grow_d5877 2 = .ok (.getfield 48, 3) := by decide +kernel
theorem dJx4a65c_grow_d5877_5 : decode cJx4a65c_grow_d5877 5 = .ok (.iconst 1, 1) := by decide +kernel
theorem dJx4a65c_grow_d5877_6 : decode cJx4a65c_grow_d5877 6 = .ok (.iadd, 1) := by decide +kernel
theorem dJx4a65c_grow_d5877_7 : decode cJx4a65c_grow_d5877 7 = .ok (.invokevirtual 69, 3) := by decide +kernel
theorem dJx4a65c_grow_d5877_10 : decode cJx4a65c_grow_d5877 10 = .ok (.areturn, 1) := by decide +kernel
theorem dJx4a65c_size_8abf5_0 : decode cJx4a65c_size_8abf5 0 = .ok (.aload_n 0, 1) := by decide +kernel
theorem dJx4a65c_size_8abf5_1 : decode cJx4a65c_size_8abf5 1 = .ok (.getfield 48, 3) := by decide +kernel
theorem dJx4a65c_size_8abf5_4 : decode cJx4a65c_size_8abf5 4 = .ok (.ireturn, 1) := by decide +kernel
theorem dJx4a65c_toArray_d5877_0 : decode cJx4a65c_toArray_d5877 0 = .ok (.aload_n 0, 1) := by decide +kernel
theorem dJx4a65c_toArray_d5877_1 : decode cJx4a65c_toArray_d5877 1 = .ok (.getfield 9, 3) := by decide +kernel
theorem dJx4a65c_toArray_d5877_4 : decode cJx4a65c_toArray_d5877 4 = .ok (.aload_n 0, 1) := by decide +kernel
theorem dJx4a65c_toArray_d5877_5 : decode cJx4a65c_toArray_d5877 5 = .ok (.getfield 48, 3) := by decide +kernel
theorem dJx4a65c_toArray_d5877_8 : decode cJx4a65c_toArray_d5877 8 = .ok (.invokestatic 66, 3) := by decide +kernel
theorem dJx4a65c_toArray_d5877_11 : decode cJx4a65c_toArray_d5877 11 = .ok (.areturn, 1) := by decide +kernel
theorem dJx4a65c_elementData_915e3_0 : decode cJx4a65c_elementData_915e3 0 = .ok (.aload_n 0, 1) := by decide +kernel
theorem dJx4a65c_elementData_915e3_1 : decode cJx4a65c_elementData_915e3 1 = .ok (.getfield 9, 3) := by decide +kernel
theorem dJx4a65c_elementData_915e3_4 : decode cJx4a65c_elementData_915e3 4 = .ok (.iload_n 1, 1) := by decide +kernel
theorem dJx4a65c_elementData_915e3_5 : decode cJx4a65c_elementData_915e3 5 = .ok (.aaload, 1) := by decide +kernel
theorem dJx4a65c_elementData_915e3_6 : decode cJx4a65c_elementData_915e3 6 = .ok (.areturn, 1) := by decide +kernel
theorem dJx4a65c_get_915e3_0 : decode cJx4a65c_get_915e3 0 = .ok (.iload_n 1, 1) := by decide +kernel
theorem dJx4a65c_get_915e3_1 : decode cJx4a65c_get_915e3 1 = .ok (.aload_n 0, 1) := by decide +kernel
theorem dJx4a65c_get_915e3_2 : decode cJx4a65c_get_915e3 2 = .ok (.getfield 48, 3) := by decide +kernel
theorem dJx4a65c_get_915e3_5 : decode cJx4a65c_get_915e3 5 = .ok (.invokestatic 118, 3) := by decide +kernel
theorem dJx4a65c_get_915e3_8 : decode cJx4a65c_get_915e3 8 = .ok (.pop, 1) := by decide +kernel
theorem dJx4a65c_get_915e3_9 : decode cJx4a65c_get_915e3 9 = .ok (.aload_n 0, 1) := by decide +kernel
theorem dJx4a65c_get_915e3_10 : decode cJx4a65c_get_915e3 10 = .ok (.iload_n 1, 1) := by decide +kernel
theorem dJx4a65c_get_915e3_11 : decode cJx4a65c_get_915e3 11 = .ok (.invokevirtual 123, 3) := by decide +kernel
theorem dJx4a65c_get_915e3_14 : decode cJx4a65c_get_915e3 14 = .ok (.areturn, 1) := by decide +kernel
theorem dJx4a65c_set_bcc79_0 : decode cJx4a65c_set_bcc79 0 = .ok (.iload_n 1, 1) := by decide +kernel
theorem dJx4a65c_set_bcc79_1 : decode cJx4a65c_set_bcc79 1 = .ok (.aload_n 0, 1) := by decide +kernel
theorem dJx4a65c_set_bcc79_2 : decode cJx4a65c_set_bcc79 2 = .ok (.getfield 48, 3) := by decide +kernel
theorem dJx4a65c_set_bcc79_5 : decode cJx4a65c_set_bcc79 5 = .ok (.invokestatic 118, 3) := by decide +kernel
theorem dJx4a65c_set_bcc79_8 : decode cJx4a65c_set_bcc79 8 = .ok (.pop, 1) := by decide +kernel
theorem dJx4a65c_set_bcc79_9 : decode cJx4a65c_set_bcc79 9 = .ok (.aload_n 0, 1) := by decide +kernel
theorem dJx4a65c_set_bcc79_10 : decode cJx4a65c_set_bcc79 10 = .ok (.iload_n 1, 1) := by decide +kernel
theorem dJx4a65c_set_bcc79_11 : decode cJx4a65c_set_bcc79 11 = .ok (.invokevirtual 123, 3) := by decide +kernel
theorem dJx4a65c_set_bcc79_14 : decode cJx4a65c_set_bcc79 14 = .ok (.astore_n 3, 1) := by decide +kernel
theorem dJx4a65c_set_bcc79_15 : decode cJx4a65c_set_bcc79 15 = .ok (.aload_n 0, 1) := by decide +kernel
theorem dJx4a65c_set_bcc79_16 : decode cJx4a65c_set_bcc79 16 = .ok (.getfield 9, 3) := by decide +kernel
theorem dJx4a65c_set_bcc79_19 : decode cJx4a65c_set_bcc79 19 = .ok (.iload_n 1, 1) := by decide +kernel
theorem dJx4a65c_set_bcc79_20 : decode cJx4a65c_set_bcc79 20 = .ok (.aload_n 2, 1) := by decide +kernel
theorem dJx4a65c_set_bcc79_21 : decode cJx4a65c_set_bcc79 21 = .ok (.aastore, 1) := by decide +kernel
theorem dJx4a65c_set_bcc79_22 : decode cJx4a65c_set_bcc79 22 = .ok (.aload_n 3, 1) := by decide +kernel
theorem dJx4a65c_set_bcc79_23 : decode cJx4a65c_set_bcc79 23 = .ok (.areturn, 1) := by decide +kernel
theorem dJx4a65c_add_72be8_0 : decode cJx4a65c_add_72be8 0 = .ok (.iload_n 3, 1) := by decide +kernel
theorem dJx4a65c_add_72be8_1 : decode cJx4a65c_add_72be8 1 = .ok (.aload_n 2, 1) := by decide +kernel
theorem dJx4a65c_add_72be8_2 : decode cJx4a65c_add_72be8 2 = .ok (.arraylength, 1) := by decide +kernel
theorem dJx4a65c_add_72be8_3 : decode cJx4a65c_add_72be8 3 = .ok (.if_icmp .ne 8, 3) := by decide +kernel
theorem dJx4a65c_add_72be8_6 : decode cJx4a65c_add_72be8 6 = .ok (.aload_n 0, 1) := by decide +kernel
theorem dJx4a65c_add_72be8_7 : decode cJx4a65c_add_72be8 7 = .ok (.invokevirtual 129, 3) := by decide +kernel
theorem dJx4a65c_add_72be8_10 : decode cJx4a65c_add_72be8 10 = .ok (.astore_n 2, 1) := by decide +kernel
theorem dJx4a65c_add_72be8_11 : decode cJx4a65c_add_72be8 11 = .ok (.aload_n 2, 1) := by decide +kernel
theorem dJx4a65c_add_72be8_12 : decode cJx4a65c_add_72be8 12 = .ok (.iload_n 3, 1) := by decide +kernel
theorem dJx4a65c_add_72be8_13 : decode cJx4a65c_add_72be8 13 = .ok (.aload_n 1, 1) := by decide +kernel
theorem dJx4a65c_add_72be8_14 : decode cJx4a65c_add_72be8 14 = .ok (.aastore, 1) := by decide +kernel
theorem dJx4a65c_add_72be8_15 : decode cJx4a65c_add_72be8 15 = .ok (.aload_n 0, 1) := by decide +kernel
theorem dJx4a65c_add_72be8_16 : decode cJx4a65c_add_72be8 16 = .ok (.iload_n 3, 1) := by decide +kernel
theorem dJx4a65c_add_72be8_17 : decode cJx4a65c_add_72be8 17 = .ok (.iconst 1, 1) := by decide +kernel
theorem dJx4a65c_add_72be8_18 : decode cJx4a65c_add_72be8 18 = .ok (.iadd, 1) := by decide +kernel
theorem dJx4a65c_add_72be8_19 : decode cJx4a65c_add_72be8 19 = .ok (.putfield 48, 3) := by decide +kernel
theorem dJx4a65c_add_72be8_22 : decode cJx4a65c_add_72be8 22 = .ok (.return_, 1) := by decide +kernel
theorem dJx4a65c_add_9ea2d_0 : decode cJx4a65c_add_9ea2d 0 = .ok (.aload_n 0, 1) := by decide +kernel
theorem dJx4a65c_add_9ea2d_1 : decode cJx4a65c_add_9ea2d 1 = .ok (.dup, 1) := by decide +kernel
theorem dJx4a65c_add_9ea2d_2 : decode cJx4a65c_add_9ea2d 2 = .ok (.getfield 63, 3) := by decide +kernel
theorem dJx4a65c_add_9ea2d_5 : decode cJx4a65c_add_9ea2d 5 = .ok (.iconst 1, 1) := by decide +kernel
theorem dJx4a65c_add_9ea2d_6 : decode cJx4a65c_add_9ea2d 6 = .ok (.iadd, 1) := by decide +kernel
theorem dJx4a65c_add_9ea2d_7 : decode cJx4a65c_add_9ea2d 7 = .ok (.putfield 63, 3) := by decide +kernel
theorem dJx4a65c_add_9ea2d_10 : decode cJx4a65c_add_9ea2d 10 = .ok (.aload_n 0, 1) := by decide +kernel
theorem dJx4a65c_add_9ea2d_11 : decode cJx4a65c_add_9ea2d 11 = .ok (.aload_n 1, 1) := by decide +kernel
theorem dJx4a65c_add_9ea2d_12 : decode cJx4a65c_add_9ea2d 12 = .ok (.aload_n 0, 1) := by decide +kernel
theorem dJx4a65c_add_9ea2d_13 : decode cJx4a65c_add_9ea2d 13 = .ok (.getfield 9, 3) := by decide +kernel
theorem dJx4a65c_add_9ea2d_16 : decode cJx4a65c_add_9ea2d 16 = .ok (.aload_n 0, 1) := by decide +kernel
theorem dJx4a65c_add_9ea2d_17 : decode cJx4a65c_add_9ea2d 17 = .ok (.getfield 48, 3) := by decide +kernel
theorem dJx4a65c_add_9ea2d_20 : decode cJx4a65c_add_9ea2d 20 = .ok (.invokevirtual 131, 3) := by decide +kernel
theorem dJx4a65c_add_9ea2d_23 : decode cJx4a65c_add_9ea2d 23 = .ok (.iconst 1, 1) := by decide +kernel
theorem dJx4a65c_add_9ea2d_24 : decode cJx4a65c_add_9ea2d 24 = .ok (.ireturn, 1) := by decide +kernel
theorem dJx4a65c_iterator_32c93_0 : decode cJx4a65c_iterator_32c93 0 = .ok (.new 267, 3) := by decide +kernel
theorem dJx4a65c_iterator_32c93_3 : decode cJx4a65c_iterator_32c93 3 = .ok (.dup, 1) := by decide +kernel
theorem dJx4a65c_iterator_32c93_4 : decode cJx4a65c_iterator_32c93 4 = .ok (.aload_n 0, 1) := by decide +kernel
theorem dJx4a65c_iterator_32c93_5 : decode cJx4a65c_iterator_32c93 5 = .ok (.invokespecial 269, 3) := by decide +kernel
theorem dJx4a65c_iterator_32c93_8 : decode cJx4a65c_iterator_32c93 8 = .ok (.areturn, 1) := by decide +kernel
theorem dJ7_copyOf_1904c_0 : decode cJ7_copyOf_1904c 0 = .ok (.aload_n 0, 1) := by decide +kernel
theorem dJ7_copyOf_1904c_1 : decode cJ7_copyOf_1904c 1 = .ok (.iload_n 1, 1) := by decide +kernel
theorem dJ7_copyOf_1904c_2 : decode cJ7_copyOf_1904c 2 = .ok (.aload_n 0, 1) := by decide +kernel
theorem dJ7_copyOf_1904c_3 : decode cJ7_copyOf_1904c 3 = .ok (.invokevirtual 86, 3) := by decide +kernel
theorem dJ7_copyOf_1904c_6 : decode cJ7_copyOf_1904c 6 = .ok (.invokestatic 300, 3) := by decide +kernel
theorem dJ7_copyOf_1904c_9 : decode cJ7_copyOf_1904c 9 = .ok (.areturn, 1) := by decide +kernel
theorem dJ7_copyOf_6403c_0 : decode cJ7_copyOf_6403c 0 = .ok (.aload_n 2, 1) := by decide +kernel
theorem dJ7_copyOf_6403c_1 : decode cJ7_copyOf_6403c 1 = .ok (.ldc 110, 2) := by decide +kernel
theorem dJ7_copyOf_6403c_3 : decode cJ7_copyOf_6403c 3 = .ok (.if_acmp .ne 10, 3) := by decide +kernel
theorem dJ7_copyOf_6403c_6 : decode cJ7_copyOf_6403c 6 = .ok (.iload_n 1, 1) := by decide +kernel
theorem dJ7_copyOf_6403c_7 : decode cJ7_copyOf_6403c 7 = .ok (.anewarray 2, 3) := by decide +kernel
theorem dJ7_copyOf_6403c_10 : decode cJ7_copyOf_6403c 10 = .ok (.goto 14, 3) := by decide +kernel
theorem dJ7_copyOf_6403c_13 : decode cJ7_copyOf_6403c 13 = .ok (.aload_n 2, 1) := by decide +kernel
theorem dJ7_copyOf_6403c_14 : decode cJ7_copyOf_6403c 14 = .ok (.invokevirtual 90, 3) := by decide +kernel
theorem dJ7_copyOf_6403c_17 : decode cJ7_copyOf_6403c 17 = .ok (.iload_n 1, 1) := by decide +kernel
theorem dJ7_copyOf_6403c_18 : decode cJ7_copyOf_6403c 18 = .ok (.invokestatic 95, 3) := by decide +kernel
theorem dJ7_copyOf_6403c_21 : decode cJ7_copyOf_6403c 21 = .ok (.checkcast 110, 3) := by decide +kernel
theorem dJ7_copyOf_6403c_24 : decode cJ7_copyOf_6403c 24 = .ok (.astore_n 3, 1) := by decide +kernel
theorem dJ7_copyOf_6403c_25 : decode cJ7_copyOf_6403c 25 = .ok (.aload_n 0, 1) := by decide +kernel
theorem dJ7_copyOf_6403c_26 : decode cJ7_copyOf_6403c 26 = .ok (.iconst 0, 1) := by decide +kernel
theorem dJ7_copyOf_6403c_27 : decode cJ7_copyOf_6403c 27 = .ok (.aload_n 3, 1) := by decide +kernel
theorem dJ7_copyOf_6403c_28 : decode cJ7_copyOf_6403c 28 = .ok (.iconst 0, 1) := by decide +kernel
theorem dJ7_copyOf_6403c_29 : decode cJ7_copyOf_6403c 29 = .ok (.aload_n 0, 1) := by decide +kernel
theorem dJ7_copyOf_6403c_30 : decode cJ7_copyOf_6403c 30 = .ok (.arraylength, 1) := by decide +kernel
theorem dJ7_copyOf_6403c_31 : decode cJ7_copyOf_6403c 31 = .ok (.iload_n 1, 1) := by decide +kernel
theorem dJ7_copyOf_6403c_32 : decode cJ7_copyOf_6403c 32 = .ok (.invokestatic 304, 3) := by decide +kernel
theorem dJ7_copyOf_6403c_35 : decode cJ7_copyOf_6403c 35 = .ok (.invokestatic 150, 3) := by decide +kernel
theorem dJ7_copyOf_6403c_38 : decode cJ7_copyOf_6403c 38 = .ok (.aload_n 3, 1) := by decide +kernel
theorem dJ7_copyOf_6403c_39 : decode cJ7_copyOf_6403c 39 = .ok (.areturn, 1) := by decide +kernel
theorem dJ15_checkIndex_7cf53_0 : decode cJ15_checkIndex_7cf53 0 = .ok (.iload_n 0, 1) := by decide +kernel
theorem dJ15_checkIndex_7cf53_1 : decode cJ15_checkIndex_7cf53 1 = .ok (.iload_n 1, 1) := by decide +kernel
theorem dJ15_checkIndex_7cf53_2 : decode cJ15_checkIndex_7cf53 2 = .ok (.aconst_null, 1) := by decide +kernel
theorem dJ15_checkIndex_7cf53_3 : decode cJ15_checkIndex_7cf53 3 = .ok (.invokestatic 105, 3) := by decide +kernel
theorem dJ15_checkIndex_7cf53_6 : decode cJ15_checkIndex_7cf53 6 = .ok (.ireturn, 1) := by decide +kernel
theorem dJ8_newLength_cabcc_0 : decode cJ8_newLength_cabcc 0 = .ok (.iload_n 0, 1) := by decide +kernel
theorem dJ8_newLength_cabcc_1 : decode cJ8_newLength_cabcc 1 = .ok (.iload_n 1, 1) := by decide +kernel
theorem dJ8_newLength_cabcc_2 : decode cJ8_newLength_cabcc 2 = .ok (.iload_n 2, 1) := by decide +kernel
theorem dJ8_newLength_cabcc_3 : decode cJ8_newLength_cabcc 3 = .ok (.invokestatic 194, 3) := by decide +kernel
theorem dJ8_newLength_cabcc_6 : decode cJ8_newLength_cabcc 6 = .ok (.iadd, 1) := by decide +kernel
theorem dJ8_newLength_cabcc_7 : decode cJ8_newLength_cabcc 7 = .ok (.istore_n 3, 1) := by decide +kernel
theorem dJ8_newLength_cabcc_8 : decode cJ8_newLength_cabcc 8 = .ok (.iconst 0, 1) := by decide +kernel
theorem dJ8_newLength_cabcc_9 : decode cJ8_newLength_cabcc 9 = .ok (.iload_n 3, 1) := by decide +kernel
theorem dJ8_newLength_cabcc_10 : decode cJ8_newLength_cabcc 10 = .ok (.if_icmp .ge 11, 3) := by decide +kernel
theorem dJ8_newLength_cabcc_13 : decode cJ8_newLength_cabcc 13 = .ok (.iload_n 3, 1) := by decide +kernel
theorem dJ8_newLength_cabcc_14 : decode cJ8_newLength_cabcc 14 = .ok (.ldc 200, 2) := by decide +kernel
theorem dJ8_newLength_cabcc_16 : decode cJ8_newLength_cabcc 16 = .ok (.if_icmp .gt 5, 3) := by decide +kernel
theorem dJ8_newLength_cabcc_19 : decode cJ8_newLength_cabcc 19 = .ok (.iload_n 3, 1) := by decide +kernel
theorem dJ8_newLength_cabcc_20 : decode cJ8_newLength_cabcc 20 = .ok (.ireturn, 1) := by decide +kernel
theorem dJ8_newLength_cabcc_21 : decode cJ8_newLength_cabcc 21 = .ok (.iload_n 0, 1) := by decide +kernel
theorem dJ8_newLength_cabcc_22 : decode cJ8_newLength_cabcc 22 = .ok (.iload_n 1, 1) := by decide +kernel
theorem dJ8_newLength_cabcc_23 : decode cJ8_newLength_cabcc 23 = .ok (.invokestatic 201, 3) := by decide +kernel
theorem dJ8_newLength_cabcc_26 : decode cJ8_newLength_cabcc 26 = .ok (.ireturn, 1) := by decide +kernel
theorem dJ8_hugeLength_7cf53_0 : decode cJ8_hugeLength_7cf53 0 = .ok (.iload_n 0, 1) := by decide +kernel
theorem dJ8_hugeLength_7cf53_1 : decode cJ8_hugeLength_7cf53 1 = .ok (.iload_n 1, 1) := by decide +kernel
theorem dJ8_hugeLength_7cf53_2 : decode cJ8_hugeLength_7cf53 2 = .ok (.iadd, 1) := by decide +kernel
theorem dJ8_hugeLength_7cf53_3 : decode cJ8_hugeLength_7cf53 3 = .ok (.istore_n 2, 1) := by decide +kernel
theorem dJ8_hugeLength_7cf53_4 : decode cJ8_hugeLength_7cf53 4 = .ok (.iload_n 2, 1) := by decide +kernel
theorem dJ8_hugeLength_7cf53_5 : decode cJ8_hugeLength_7cf53 5 = .ok (.ifCond .ge 44, 3) := by decide +kernel
theorem dJ8_hugeLength_7cf53_8 : decode cJ8_hugeLength_7cf53 8 = .ok (.new 204, 3) := by decide +kernel
theorem dJ8_hugeLength_7cf53_11 : decode cJ8_hugeLength_7cf53 11 = .ok (.dup, 1) := by decide +kernel
theorem dJ8_hugeLength_7cf53_12 : decode cJ8_hugeLength_7cf53 12 = .ok (.new 89, 3) := by decide +kernel
theorem dJ8_hugeLength_7cf53_15 : decode cJ8_hugeLength_7cf53 15 = .ok (.dup, 1) := by decide +kernel
theorem dJ8_hugeLength_7cf53_16 : decode cJ8_hugeLength_7cf53 16 = .ok (.invokespecial 91, 3) := by decide +kernel
theorem dJ8_hugeLength_7cf53_19 : decode cJ8_hugeLength_7cf53 19 = .ok (.ldc 206, 2) := by decide +kernel
theorem dJ8_hugeLength_7cf53_21 : decode cJ8_hugeLength_7cf53 21 = .ok (.invokevirtual 94, 3) := by decide +kernel
theorem dJ8_hugeLength_7cf53_24 : decode cJ8_hugeLength_7cf53 24 = .ok (.iload_n 0, 1) := by decide +kernel
theorem dJ8_hugeLength_7cf53_25 : decode cJ8_hugeLength_7cf53 25 = .ok (.invokevirtual 98, 3) := by decide +kernel
theorem dJ8_hugeLength_7cf53_28 : decode cJ8_hugeLength_7cf53 28 = .ok (.ldc 208, 2) := by decide +kernel
theorem dJ8_hugeLength_7cf53_30 : decode cJ8_hugeLength_7cf53 30 = .ok (.invokevirtual 94, 3) := by decide +kernel
theorem dJ8_hugeLength_7cf53_33 : decode cJ8_hugeLength_7cf53 33 = .ok (.iload_n 1, 1) := by decide +kernel
theorem dJ8_hugeLength_7cf53_34 : decode cJ8_hugeLength_7cf53 34 = .ok (.invokevirtual 98, 3) := by decide +kernel
theorem dJ8_hugeLength_7cf53_37 : decode cJ8_hugeLength_7cf53 37 = .ok (.ldc 210, 2) := by decide +kernel
theorem dJ8_hugeLength_7cf53_39 : decode cJ8_hugeLength_7cf53 39 = .ok (.invokevirtual 94, 3) := by decide +kernel
theorem dJ8_hugeLength_7cf53_42 : decode cJ8_hugeLength_7cf53 42 = .ok (.invokevirtual 101, 3) := by decide +kernel
theorem dJ8_hugeLength_7cf53_45 : decode cJ8_hugeLength_7cf53 45 = .ok (.invokespecial 212, 3) := by decide +kernel
theorem dJ8_hugeLength_7cf53_48 : decode cJ8_hugeLength_7cf53 48 = .ok (.athrow, 1) := by decide +kernel
theorem dJ8_hugeLength_7cf53_49 : decode cJ8_hugeLength_7cf53 49 = .ok (.iload_n 2, 1) := by decide +kernel
theorem dJ8_hugeLength_7cf53_50 : decode cJ8_hugeLength_7cf53 50 = .ok (.ldc 200, 2) := by decide +kernel
theorem dJ8_hugeLength_7cf53_52 : decode cJ8_hugeLength_7cf53 52 = .ok (.if_icmp .gt 6, 3) := by decide +kernel
theorem dJ8_hugeLength_7cf53_55 : decode cJ8_hugeLength_7cf53 55 = .ok (.ldc 200, 2) := by decide +kernel
theorem dJ8_hugeLength_7cf53_57 : decode cJ8_hugeLength_7cf53 57 = .ok (.ireturn, 1) := by decide +kernel
theorem dJ8_hugeLength_7cf53_58 : decode cJ8_hugeLength_7cf53 58 = .ok (.iload_n 2, 1) := by decide +kernel
theorem dJ8_hugeLength_7cf53_59 : decode cJ8_hugeLength_7cf53 59 = .ok (.ireturn, 1) := by decide +kernel
theorem dJ3_checkIndex_8e157_0 : decode cJ3_checkIndex_8e157 0 = .ok (.iload_n 0, 1) := by decide +kernel
theorem dJ3_checkIndex_8e157_1 : decode cJ3_checkIndex_8e157 1 = .ok (.ifCond .lt 8, 3) := by decide +kernel
theorem dJ3_checkIndex_8e157_4 : decode cJ3_checkIndex_8e157 4 = .ok (.iload_n 0, 1) := by decide +kernel
theorem dJ3_checkIndex_8e157_5 : decode cJ3_checkIndex_8e157 5 = .ok (.iload_n 1, 1) := by decide +kernel
theorem dJ3_checkIndex_8e157_6 : decode cJ3_checkIndex_8e157 6 = .ok (.if_icmp .lt 10, 3) := by decide +kernel
theorem dJ3_checkIndex_8e157_9 : decode cJ3_checkIndex_8e157 9 = .ok (.aload_n 2, 1) := by decide +kernel
theorem dJ3_checkIndex_8e157_10 : decode cJ3_checkIndex_8e157 10 = .ok (.iload_n 0, 1) := by decide +kernel
theorem dJ3_checkIndex_8e157_11 : decode cJ3_checkIndex_8e157 11 = .ok (.iload_n 1, 1) := by decide +kernel
theorem dJ3_checkIndex_8e157_12 : decode cJ3_checkIndex_8e157 12 = .ok (.invokestatic 95, 3) := by decide +kernel
theorem dJ3_checkIndex_8e157_15 : decode cJ3_checkIndex_8e157 15 = .ok (.athrow, 1) := by decide +kernel
theorem dJ3_checkIndex_8e157_16 : decode cJ3_checkIndex_8e157 16 = .ok (.iload_n 0, 1) := by decide +kernel
theorem dJ3_checkIndex_8e157_17 : decode cJ3_checkIndex_8e157 17 = .ok (.ireturn, 1) := by decide +kernel
theorem dL_person_0 : decode cL_person 0 = .ok (.aload 7, 2) := by decide +kernel
theorem dL_person_2 : decode cL_person 2 = .ok (.iconst 0, 1) := by decide +kernel
theorem dL_person_3 : decode cL_person 3 = .ok (.aload_n 0, 1) := by decide +kernel
theorem dL_person_4 : decode cL_person 4 = .ok (.iload_n 1, 1) := by decide +kernel
theorem dL_person_5 : decode cL_person 5 = .ok (.iload_n 2, 1) := by decide +kernel
theorem dL_person_6 : decode cL_person 6 = .ok (.iload_n 3, 1) := by decide +kernel
theorem dL_person_7 : decode cL_person 7 = .ok (.iload 4, 2) := by decide +kernel
theorem dL_person_9 : decode cL_person 9 = .ok (.iload 5, 2) := by decide +kernel
theorem dL_person_11 : decode cL_person 11 = .ok (.iload 6, 2) := by decide +kernel
theorem dL_person_13 : decode cL_person 13 = .ok (.invokevirtual 7, 3) := by decide +kernel
theorem dL_person_16 : decode cL_person 16 = .ok (.i2l, 1) := by decide +kernel
theorem dL_person_17 : decode cL_person 17 = .ok (.lastore, 1) := by decide +kernel
theorem dL_person_18 : decode cL_person 18 = .ok (.goto 11, 3) := by decide +kernel
theorem dL_person_21 : decode cL_person 21 = .ok (.astore 8, 2) := by decide +kernel
theorem dL_person_23 : decode cL_person 23 = .ok (.iconst 1, 1) := by decide +kernel
theorem dL_person_24 : decode cL_person 24 = .ok (.ireturn, 1) := by decide +kernel
theorem dL_person_25 : decode cL_person 25 = .ok (.astore 8, 2) := by decide +kernel
theorem dL_person_27 : decode cL_person 27 = .ok (.iconst 2, 1) := by decide +kernel
theorem dL_person_28 : decode cL_person 28 = .ok (.ireturn, 1) := by decide +kernel
theorem dL_person_29 : decode cL_person 29 = .ok (.iconst 0, 1) := by decide +kernel
theorem dL_person_30 : decode cL_person 30 = .ok (.ireturn, 1) := by decide +kernel
theorem dL_figure_0 : decode cL_figure 0 = .ok (.aload_n 3, 1) := by decide +kernel
theorem dL_figure_1 : decode cL_figure 1 = .ok (.iconst 0, 1) := by decide +kernel
theorem dL_figure_2 : decode cL_figure 2 = .ok (.aload_n 0, 1) := by decide +kernel
theorem dL_figure_3 : decode cL_figure 3 = .ok (.iload_n 1, 1) := by decide +kernel
theorem dL_figure_4 : decode cL_figure 4 = .ok (.iload_n 2, 1) := by decide +kernel
theorem dL_figure_5 : decode cL_figure 5 = .ok (.invokevirtual 17, 3) := by decide +kernel
theorem dL_figure_8 : decode cL_figure 8 = .ok (.i2l, 1) := by decide +kernel
theorem dL_figure_9 : decode cL_figure 9 = .ok (.lastore, 1) := by decide +kernel
theorem dL_figure_10 : decode cL_figure 10 = .ok (.goto 15, 3) := by decide +kernel
theorem dL_figure_13 : decode cL_figure 13 = .ok (.astore 4, 2) := by decide +kernel
theorem dL_figure_15 : decode cL_figure 15 = .ok (.iconst 1, 1) := by decide +kernel
theorem dL_figure_16 : decode cL_figure 16 = .ok (.ireturn, 1) := by decide +kernel
theorem dL_figure_17 : decode cL_figure 17 = .ok (.astore 4, 2) := by decide +kernel
theorem dL_figure_19 : decode cL_figure 19 = .ok (.iconst 2, 1) := by decide +kernel
theorem dL_figure_20 : decode cL_figure 20 = .ok (.ireturn, 1) := by decide +kernel
theorem dL_figure_21 : decode cL_figure 21 = .ok (.astore 4, 2) := by decide +kernel
theorem dL_figure_23 : decode cL_figure 23 = .ok (.iconst 3, 1) := by decide +kernel
theorem dL_figure_24 : decode cL_figure 24 = .ok (.ireturn, 1) := by decide +kernel
theorem dL_figure_25 : decode cL_figure 25 = .ok (.iconst 0, 1) := by decide +kernel
theorem dL_figure_26 : decode cL_figure 26 = .ok (.ireturn, 1) := by decide +kernel
theorem dL_scene_0 : decode cL_scene 0 = .ok (.aload 7, 2) := by decide +kernel
theorem dL_scene_2 : decode cL_scene 2 = .ok (.iconst 0, 1) := by decide +kernel
theorem dL_scene_3 : decode cL_scene 3 = .ok (.aload_n 0, 1) := by decide +kernel
theorem dL_scene_4 : decode cL_scene 4 = .ok (.iload_n 1, 1) := by decide +kernel
theorem dL_scene_5 : decode cL_scene 5 = .ok (.iload_n 2, 1) := by decide +kernel
theorem dL_scene_6 : decode cL_scene 6 = .ok (.iload_n 3, 1) := by decide +kernel
theorem dL_scene_7 : decode cL_scene 7 = .ok (.iload 4, 2) := by decide +kernel
theorem dL_scene_9 : decode cL_scene 9 = .ok (.iload 5, 2) := by decide +kernel
theorem dL_scene_11 : decode cL_scene 11 = .ok (.iload 6, 2) := by decide +kernel
theorem dL_scene_13 : decode cL_scene 13 = .ok (.invokevirtual 23, 3) := by decide +kernel
theorem dL_scene_16 : decode cL_scene 16 = .ok (.i2l, 1) := by decide +kernel
theorem dL_scene_17 : decode cL_scene 17 = .ok (.lastore, 1) := by decide +kernel
theorem dL_scene_18 : decode cL_scene 18 = .ok (.goto 11, 3) := by decide +kernel
theorem dL_scene_21 : decode cL_scene 21 = .ok (.astore 8, 2) := by decide +kernel
theorem dL_scene_23 : decode cL_scene 23 = .ok (.iconst 1, 1) := by decide +kernel
theorem dL_scene_24 : decode cL_scene 24 = .ok (.ireturn, 1) := by decide +kernel
theorem dL_scene_25 : decode cL_scene 25 = .ok (.astore 8, 2) := by decide +kernel
theorem dL_scene_27 : decode cL_scene 27 = .ok (.iconst 2, 1) := by decide +kernel
theorem dL_scene_28 : decode cL_scene 28 = .ok (.ireturn, 1) := by decide +kernel
theorem dL_scene_29 : decode cL_scene 29 = .ok (.iconst 0, 1) := by decide +kernel
theorem dL_scene_30 : decode cL_scene 30 = .ok (.ireturn, 1) := by decide +kernel
theorem dL_length_0 : decode cL_length 0 = .ok (.aload_n 3, 1) := by decide +kernel
theorem dL_length_1 : decode cL_length 1 = .ok (.iconst 0, 1) := by decide +kernel
theorem dL_length_2 : decode cL_length 2 = .ok (.aload_n 0, 1) := by decide +kernel
theorem dL_length_3 : decode cL_length 3 = .ok (.iload_n 1, 1) := by decide +kernel
theorem dL_length_4 : decode cL_length 4 = .ok (.iload_n 2, 1) := by decide +kernel
theorem dL_length_5 : decode cL_length 5 = .ok (.invokevirtual 27, 3) := by decide +kernel
theorem dL_length_8 : decode cL_length 8 = .ok (.i2l, 1) := by decide +kernel
theorem dL_length_9 : decode cL_length 9 = .ok (.lastore, 1) := by decide +kernel
theorem dL_length_10 : decode cL_length 10 = .ok (.goto 15, 3) := by decide +kernel
theorem dL_length_13 : decode cL_length 13 = .ok (.astore 4, 2) := by decide +kernel
theorem dL_length_15 : decode cL_length 15 = .ok (.iconst 1, 1) := by decide +kernel
theorem dL_length_16 : decode cL_length 16 = .ok (.ireturn, 1) := by decide +kernel
theorem dL_length_17 : decode cL_length 17 = .ok (.astore 4, 2) := by decide +kernel
theorem dL_length_19 : decode cL_length 19 = .ok (.iconst 2, 1) := by decide +kernel
theorem dL_length_20 : decode cL_length 20 = .ok (.ireturn, 1) := by decide +kernel
theorem dL_length_21 : decode cL_length 21 = .ok (.astore 4, 2) := by decide +kernel
theorem dL_length_23 : decode cL_length 23 = .ok (.iconst 3, 1) := by decide +kernel
theorem dL_length_24 : decode cL_length 24 = .ok (.ireturn, 1) := by decide +kernel
theorem dL_length_25 : decode cL_length 25 = .ok (.iconst 0, 1) := by decide +kernel
theorem dL_length_26 : decode cL_length 26 = .ok (.ireturn, 1) := by decide +kernel
theorem dL_swap_0 : decode cL_swap 0 = .ok (.aload_n 3, 1) := by decide +kernel
theorem dL_swap_1 : decode cL_swap 1 = .ok (.iconst 0, 1) := by decide +kernel
theorem dL_swap_2 : decode cL_swap 2 = .ok (.aload_n 0, 1) := by decide +kernel
theorem dL_swap_3 : decode cL_swap 3 = .ok (.iload_n 1, 1) := by decide +kernel
theorem dL_swap_4 : decode cL_swap 4 = .ok (.iload_n 2, 1) := by decide +kernel
theorem dL_swap_5 : decode cL_swap 5 = .ok (.invokevirtual 30, 3) := by decide +kernel
theorem dL_swap_8 : decode cL_swap 8 = .ok (.i2l, 1) := by decide +kernel
theorem dL_swap_9 : decode cL_swap 9 = .ok (.lastore, 1) := by decide +kernel
theorem dL_swap_10 : decode cL_swap 10 = .ok (.goto 11, 3) := by decide +kernel
theorem dL_swap_13 : decode cL_swap 13 = .ok (.astore 4, 2) := by decide +kernel
theorem dL_swap_15 : decode cL_swap 15 = .ok (.iconst 1, 1) := by decide +kernel
theorem dL_swap_16 : decode cL_swap 16 = .ok (.ireturn, 1) := by decide +kernel
theorem dL_swap_17 : decode cL_swap 17 = .ok (.astore 4, 2) := by decide +kernel
theorem dL_swap_19 : decode cL_swap 19 = .ok (.iconst 2, 1) := by decide +kernel
theorem dL_swap_20 : decode cL_swap 20 = .ok (.ireturn, 1) := by decide +kernel
theorem dL_swap_21 : decode cL_swap 21 = .ok (.iconst 0, 1) := by decide +kernel
theorem dL_swap_22 : decode cL_swap 22 = .ok (.ireturn, 1) := by decide +kernel
theorem dL_lamp_0 : decode cL_lamp 0 = .ok (.aload_n 3, 1) := by decide +kernel
theorem dL_lamp_1 : decode cL_lamp 1 = .ok (.iconst 0, 1) := by decide +kernel
theorem dL_lamp_2 : decode cL_lamp 2 = .ok (.aload_n 0, 1) := by decide +kernel
theorem dL_lamp_3 : decode cL_lamp 3 = .ok (.iload_n 1, 1) := by decide +kernel
theorem dL_lamp_4 : decode cL_lamp 4 = .ok (.iload_n 2, 1) := by decide +kernel
theorem dL_lamp_5 : decode cL_lamp 5 = .ok (.invokevirtual 33, 3) := by decide +kernel
theorem dL_lamp_8 : decode cL_lamp 8 = .ok (.i2l, 1) := by decide +kernel
theorem dL_lamp_9 : decode cL_lamp 9 = .ok (.lastore, 1) := by decide +kernel
theorem dL_lamp_10 : decode cL_lamp 10 = .ok (.goto 7, 3) := by decide +kernel
theorem dL_lamp_13 : decode cL_lamp 13 = .ok (.astore 4, 2) := by decide +kernel
theorem dL_lamp_15 : decode cL_lamp 15 = .ok (.iconst 1, 1) := by decide +kernel
theorem dL_lamp_16 : decode cL_lamp 16 = .ok (.ireturn, 1) := by decide +kernel
theorem dL_lamp_17 : decode cL_lamp 17 = .ok (.iconst 0, 1) := by decide +kernel
theorem dL_lamp_18 : decode cL_lamp 18 = .ok (.ireturn, 1) := by decide +kernel
theorem dL_grip_0 : decode cL_grip 0 = .ok (.aload_n 2, 1) := by decide +kernel
theorem dL_grip_1 : decode cL_grip 1 = .ok (.iconst 0, 1) := by decide +kernel
theorem dL_grip_2 : decode cL_grip 2 = .ok (.aload_n 0, 1) := by decide +kernel
theorem dL_grip_3 : decode cL_grip 3 = .ok (.iload_n 1, 1) := by decide +kernel
theorem dL_grip_4 : decode cL_grip 4 = .ok (.invokevirtual 36, 3) := by decide +kernel
theorem dL_grip_7 : decode cL_grip 7 = .ok (.i2l, 1) := by decide +kernel
theorem dL_grip_8 : decode cL_grip 8 = .ok (.lastore, 1) := by decide +kernel
theorem dL_grip_9 : decode cL_grip 9 = .ok (.goto 9, 3) := by decide +kernel
theorem dL_grip_12 : decode cL_grip 12 = .ok (.astore_n 3, 1) := by decide +kernel
theorem dL_grip_13 : decode cL_grip 13 = .ok (.iconst 1, 1) := by decide +kernel
theorem dL_grip_14 : decode cL_grip 14 = .ok (.ireturn, 1) := by decide +kernel
theorem dL_grip_15 : decode cL_grip 15 = .ok (.astore_n 3, 1) := by decide +kernel
theorem dL_grip_16 : decode cL_grip 16 = .ok (.iconst 2, 1) := by decide +kernel
theorem dL_grip_17 : decode cL_grip 17 = .ok (.ireturn, 1) := by decide +kernel
theorem dL_grip_18 : decode cL_grip 18 = .ok (.iconst 0, 1) := by decide +kernel
theorem dL_grip_19 : decode cL_grip 19 = .ok (.ireturn, 1) := by decide +kernel
theorem dL_move_0 : decode cL_move 0 = .ok (.aload_n 3, 1) := by decide +kernel
theorem dL_move_1 : decode cL_move 1 = .ok (.iconst 0, 1) := by decide +kernel
theorem dL_move_2 : decode cL_move 2 = .ok (.aload_n 0, 1) := by decide +kernel
theorem dL_move_3 : decode cL_move 3 = .ok (.iload_n 1, 1) := by decide +kernel
theorem dL_move_4 : decode cL_move 4 = .ok (.iload_n 2, 1) := by decide +kernel
theorem dL_move_5 : decode cL_move 5 = .ok (.invokevirtual 40, 3) := by decide +kernel
theorem dL_move_8 : decode cL_move 8 = .ok (.i2l, 1) := by decide +kernel
theorem dL_move_9 : decode cL_move 9 = .ok (.lastore, 1) := by decide +kernel
theorem dL_move_10 : decode cL_move 10 = .ok (.goto 15, 3) := by decide +kernel
theorem dL_move_13 : decode cL_move 13 = .ok (.astore 4, 2) := by decide +kernel
theorem dL_move_15 : decode cL_move 15 = .ok (.iconst 1, 1) := by decide +kernel
theorem dL_move_16 : decode cL_move 16 = .ok (.ireturn, 1) := by decide +kernel
theorem dL_move_17 : decode cL_move 17 = .ok (.astore 4, 2) := by decide +kernel
theorem dL_move_19 : decode cL_move 19 = .ok (.iconst 2, 1) := by decide +kernel
theorem dL_move_20 : decode cL_move 20 = .ok (.ireturn, 1) := by decide +kernel
theorem dL_move_21 : decode cL_move 21 = .ok (.astore 4, 2) := by decide +kernel
theorem dL_move_23 : decode cL_move 23 = .ok (.iconst 3, 1) := by decide +kernel
theorem dL_move_24 : decode cL_move 24 = .ok (.ireturn, 1) := by decide +kernel
theorem dL_move_25 : decode cL_move 25 = .ok (.iconst 0, 1) := by decide +kernel
theorem dL_move_26 : decode cL_move 26 = .ok (.ireturn, 1) := by decide +kernel
theorem dL_lift_0 : decode cL_lift 0 = .ok (.aload_n 3, 1) := by decide +kernel
theorem dL_lift_1 : decode cL_lift 1 = .ok (.iconst 0, 1) := by decide +kernel
theorem dL_lift_2 : decode cL_lift 2 = .ok (.aload_n 0, 1) := by decide +kernel
theorem dL_lift_3 : decode cL_lift 3 = .ok (.iload_n 1, 1) := by decide +kernel
theorem dL_lift_4 : decode cL_lift 4 = .ok (.iload_n 2, 1) := by decide +kernel
theorem dL_lift_5 : decode cL_lift 5 = .ok (.invokevirtual 43, 3) := by decide +kernel
theorem dL_lift_8 : decode cL_lift 8 = .ok (.i2l, 1) := by decide +kernel
theorem dL_lift_9 : decode cL_lift 9 = .ok (.lastore, 1) := by decide +kernel
theorem dL_lift_10 : decode cL_lift 10 = .ok (.goto 15, 3) := by decide +kernel
theorem dL_lift_13 : decode cL_lift 13 = .ok (.astore 4, 2) := by decide +kernel
theorem dL_lift_15 : decode cL_lift 15 = .ok (.iconst 1, 1) := by decide +kernel
theorem dL_lift_16 : decode cL_lift 16 = .ok (.ireturn, 1) := by decide +kernel
theorem dL_lift_17 : decode cL_lift 17 = .ok (.astore 4, 2) := by decide +kernel
theorem dL_lift_19 : decode cL_lift 19 = .ok (.iconst 2, 1) := by decide +kernel
theorem dL_lift_20 : decode cL_lift 20 = .ok (.ireturn, 1) := by decide +kernel
theorem dL_lift_21 : decode cL_lift 21 = .ok (.astore 4, 2) := by decide +kernel
theorem dL_lift_23 : decode cL_lift 23 = .ok (.iconst 3, 1) := by decide +kernel
theorem dL_lift_24 : decode cL_lift 24 = .ok (.ireturn, 1) := by decide +kernel
theorem dL_lift_25 : decode cL_lift 25 = .ok (.iconst 0, 1) := by decide +kernel
theorem dL_lift_26 : decode cL_lift 26 = .ok (.ireturn, 1) := by decide +kernel
theorem dL_plant_0 : decode cL_plant 0 = .ok (.aload_n 2, 1) := by decide +kernel
theorem dL_plant_1 : decode cL_plant 1 = .ok (.iconst 0, 1) := by decide +kernel
theorem dL_plant_2 : decode cL_plant 2 = .ok (.aload_n 0, 1) := by decide +kernel
theorem dL_plant_3 : decode cL_plant 3 = .ok (.iload_n 1, 1) := by decide +kernel
theorem dL_plant_4 : decode cL_plant 4 = .ok (.invokevirtual 46, 3) := by decide +kernel
theorem dL_plant_7 : decode cL_plant 7 = .ok (.i2l, 1) := by decide +kernel
theorem dL_plant_8 : decode cL_plant 8 = .ok (.lastore, 1) := by decide +kernel
theorem dL_plant_9 : decode cL_plant 9 = .ok (.goto 9, 3) := by decide +kernel
theorem dL_plant_12 : decode cL_plant 12 = .ok (.astore_n 3, 1) := by decide +kernel
theorem dL_plant_13 : decode cL_plant 13 = .ok (.iconst 1, 1) := by decide +kernel
theorem dL_plant_14 : decode cL_plant 14 = .ok (.ireturn, 1) := by decide +kernel
theorem dL_plant_15 : decode cL_plant 15 = .ok (.astore_n 3, 1) := by decide +kernel
theorem dL_plant_16 : decode cL_plant 16 = .ok (.iconst 2, 1) := by decide +kernel
theorem dL_plant_17 : decode cL_plant 17 = .ok (.ireturn, 1) := by decide +kernel
theorem dL_plant_18 : decode cL_plant 18 = .ok (.iconst 0, 1) := by decide +kernel
theorem dL_plant_19 : decode cL_plant 19 = .ok (.ireturn, 1) := by decide +kernel
theorem dL_hand_0 : decode cL_hand 0 = .ok (.aload_n 2, 1) := by decide +kernel
theorem dL_hand_1 : decode cL_hand 1 = .ok (.iconst 0, 1) := by decide +kernel
theorem dL_hand_2 : decode cL_hand 2 = .ok (.aload_n 0, 1) := by decide +kernel
theorem dL_hand_3 : decode cL_hand 3 = .ok (.iload_n 1, 1) := by decide +kernel
theorem dL_hand_4 : decode cL_hand 4 = .ok (.invokevirtual 49, 3) := by decide +kernel
theorem dL_hand_7 : decode cL_hand 7 = .ok (.i2l, 1) := by decide +kernel
theorem dL_hand_8 : decode cL_hand 8 = .ok (.lastore, 1) := by decide +kernel
theorem dL_hand_9 : decode cL_hand 9 = .ok (.goto 9, 3) := by decide +kernel
theorem dL_hand_12 : decode cL_hand 12 = .ok (.astore_n 3, 1) := by decide +kernel
theorem dL_hand_13 : decode cL_hand 13 = .ok (.iconst 1, 1) := by decide +kernel
theorem dL_hand_14 : decode cL_hand 14 = .ok (.ireturn, 1) := by decide +kernel
theorem dL_hand_15 : decode cL_hand 15 = .ok (.astore_n 3, 1) := by decide +kernel
theorem dL_hand_16 : decode cL_hand 16 = .ok (.iconst 2, 1) := by decide +kernel
theorem dL_hand_17 : decode cL_hand 17 = .ok (.ireturn, 1) := by decide +kernel
theorem dL_hand_18 : decode cL_hand 18 = .ok (.iconst 0, 1) := by decide +kernel
theorem dL_hand_19 : decode cL_hand 19 = .ok (.ireturn, 1) := by decide +kernel
theorem dL_away_0 : decode cL_away 0 = .ok (.aload_n 2, 1) := by decide +kernel
theorem dL_away_1 : decode cL_away 1 = .ok (.iconst 0, 1) := by decide +kernel
theorem dL_away_2 : decode cL_away 2 = .ok (.aload_n 0, 1) := by decide +kernel
theorem dL_away_3 : decode cL_away 3 = .ok (.iload_n 1, 1) := by decide +kernel
theorem dL_away_4 : decode cL_away 4 = .ok (.invokevirtual 52, 3) := by decide +kernel
theorem dL_away_7 : decode cL_away 7 = .ok (.i2l, 1) := by decide +kernel
theorem dL_away_8 : decode cL_away 8 = .ok (.lastore, 1) := by decide +kernel
theorem dL_away_9 : decode cL_away 9 = .ok (.goto 9, 3) := by decide +kernel
theorem dL_away_12 : decode cL_away 12 = .ok (.astore_n 3, 1) := by decide +kernel
theorem dL_away_13 : decode cL_away 13 = .ok (.iconst 1, 1) := by decide +kernel
theorem dL_away_14 : decode cL_away 14 = .ok (.ireturn, 1) := by decide +kernel
theorem dL_away_15 : decode cL_away 15 = .ok (.astore_n 3, 1) := by decide +kernel
theorem dL_away_16 : decode cL_away 16 = .ok (.iconst 2, 1) := by decide +kernel
theorem dL_away_17 : decode cL_away 17 = .ok (.ireturn, 1) := by decide +kernel
theorem dL_away_18 : decode cL_away 18 = .ok (.iconst 0, 1) := by decide +kernel
theorem dL_away_19 : decode cL_away 19 = .ok (.ireturn, 1) := by decide +kernel
theorem dL_tap_0 : decode cL_tap 0 = .ok (.aload_n 2, 1) := by decide +kernel
theorem dL_tap_1 : decode cL_tap 1 = .ok (.iconst 0, 1) := by decide +kernel
theorem dL_tap_2 : decode cL_tap 2 = .ok (.aload_n 0, 1) := by decide +kernel
theorem dL_tap_3 : decode cL_tap 3 = .ok (.iload_n 1, 1) := by decide +kernel
theorem dL_tap_4 : decode cL_tap 4 = .ok (.invokevirtual 55, 3) := by decide +kernel
theorem dL_tap_7 : decode cL_tap 7 = .ok (.ifCond .eq 7, 3) := by decide +kernel
theorem dL_tap_10 : decode cL_tap 10 = .ok (.lconst 1, 1) := by decide +kernel
theorem dL_tap_11 : decode cL_tap 11 = .ok (.goto 4, 3) := by decide +kernel
theorem dL_tap_14 : decode cL_tap 14 = .ok (.lconst 0, 1) := by decide +kernel
theorem dL_tap_15 : decode cL_tap 15 = .ok (.lastore, 1) := by decide +kernel
theorem dL_tap_16 : decode cL_tap 16 = .ok (.goto 6, 3) := by decide +kernel
theorem dL_tap_19 : decode cL_tap 19 = .ok (.astore_n 3, 1) := by decide +kernel
theorem dL_tap_20 : decode cL_tap 20 = .ok (.iconst 1, 1) := by decide +kernel
theorem dL_tap_21 : decode cL_tap 21 = .ok (.ireturn, 1) := by decide +kernel
theorem dL_tap_22 : decode cL_tap 22 = .ok (.iconst 0, 1) := by decide +kernel
theorem dL_tap_23 : decode cL_tap 23 = .ok (.ireturn, 1) := by decide +kernel
theorem dL_speak_0 : decode cL_speak 0 = .ok (.aload 5, 2) := by decide +kernel
theorem dL_speak_2 : decode cL_speak 2 = .ok (.iconst 0, 1) := by decide +kernel
theorem dL_speak_3 : decode cL_speak 3 = .ok (.aload_n 0, 1) := by decide +kernel
theorem dL_speak_4 : decode cL_speak 4 = .ok (.iload_n 1, 1) := by decide +kernel
theorem dL_speak_5 : decode cL_speak 5 = .ok (.iload_n 2, 1) := by decide +kernel
theorem dL_speak_6 : decode cL_speak 6 = .ok (.iload_n 3, 1) := by decide +kernel
theorem dL_speak_7 : decode cL_speak 7 = .ok (.iload 4, 2) := by decide +kernel
theorem dL_speak_9 : decode cL_speak 9 = .ok (.invokevirtual 59, 3) := by decide +kernel
theorem dL_speak_12 : decode cL_speak 12 = .ok (.i2l, 1) := by decide +kernel
theorem dL_speak_13 : decode cL_speak 13 = .ok (.lastore, 1) := by decide +kernel
theorem dL_speak_14 : decode cL_speak 14 = .ok (.goto 15, 3) := by decide +kernel
theorem dL_speak_17 : decode cL_speak 17 = .ok (.astore 6, 2) := by decide +kernel
theorem dL_speak_19 : decode cL_speak 19 = .ok (.iconst 1, 1) := by decide +kernel
theorem dL_speak_20 : decode cL_speak 20 = .ok (.ireturn, 1) := by decide +kernel
theorem dL_speak_21 : decode cL_speak 21 = .ok (.astore 6, 2) := by decide +kernel
theorem dL_speak_23 : decode cL_speak 23 = .ok (.iconst 2, 1) := by decide +kernel
theorem dL_speak_24 : decode cL_speak 24 = .ok (.ireturn, 1) := by decide +kernel
theorem dL_speak_25 : decode cL_speak 25 = .ok (.astore 6, 2) := by decide +kernel
theorem dL_speak_27 : decode cL_speak 27 = .ok (.iconst 3, 1) := by decide +kernel
theorem dL_speak_28 : decode cL_speak 28 = .ok (.ireturn, 1) := by decide +kernel
theorem dL_speak_29 : decode cL_speak 29 = .ok (.iconst 0, 1) := by decide +kernel
theorem dL_speak_30 : decode cL_speak 30 = .ok (.ireturn, 1) := by decide +kernel
theorem dL_joke_0 : decode cL_joke 0 = .ok (.aload_n 2, 1) := by decide +kernel
theorem dL_joke_1 : decode cL_joke 1 = .ok (.iconst 0, 1) := by decide +kernel
theorem dL_joke_2 : decode cL_joke 2 = .ok (.aload_n 0, 1) := by decide +kernel
theorem dL_joke_3 : decode cL_joke 3 = .ok (.iload_n 1, 1) := by decide +kernel
theorem dL_joke_4 : decode cL_joke 4 = .ok (.invokevirtual 63, 3) := by decide +kernel
theorem dL_joke_7 : decode cL_joke 7 = .ok (.i2l, 1) := by decide +kernel
theorem dL_joke_8 : decode cL_joke 8 = .ok (.lastore, 1) := by decide +kernel
theorem dL_joke_9 : decode cL_joke 9 = .ok (.goto 6, 3) := by decide +kernel
theorem dL_joke_12 : decode cL_joke 12 = .ok (.astore_n 3, 1) := by decide +kernel
theorem dL_joke_13 : decode cL_joke 13 = .ok (.iconst 1, 1) := by decide +kernel
theorem dL_joke_14 : decode cL_joke 14 = .ok (.ireturn, 1) := by decide +kernel
theorem dL_joke_15 : decode cL_joke 15 = .ok (.iconst 0, 1) := by decide +kernel
theorem dL_joke_16 : decode cL_joke 16 = .ok (.ireturn, 1) := by decide +kernel
theorem dL_offer_0 : decode cL_offer 0 = .ok (.aload_n 1, 1) := by decide +kernel
theorem dL_offer_1 : decode cL_offer 1 = .ok (.iconst 0, 1) := by decide +kernel
theorem dL_offer_2 : decode cL_offer 2 = .ok (.aload_n 0, 1) := by decide +kernel
theorem dL_offer_3 : decode cL_offer 3 = .ok (.invokevirtual 66, 3) := by decide +kernel
theorem dL_offer_6 : decode cL_offer 6 = .ok (.i2l, 1) := by decide +kernel
theorem dL_offer_7 : decode cL_offer 7 = .ok (.lastore, 1) := by decide +kernel
theorem dL_offer_8 : decode cL_offer 8 = .ok (.goto 6, 3) := by decide +kernel
theorem dL_offer_11 : decode cL_offer 11 = .ok (.astore_n 2, 1) := by decide +kernel
theorem dL_offer_12 : decode cL_offer 12 = .ok (.iconst 1, 1) := by decide +kernel
theorem dL_offer_13 : decode cL_offer 13 = .ok (.ireturn, 1) := by decide +kernel
theorem dL_offer_14 : decode cL_offer 14 = .ok (.iconst 0, 1) := by decide +kernel
theorem dL_offer_15 : decode cL_offer 15 = .ok (.ireturn, 1) := by decide +kernel
theorem dL_pass_0 : decode cL_pass 0 = .ok (.aload_n 2, 1) := by decide +kernel
theorem dL_pass_1 : decode cL_pass 1 = .ok (.iconst 0, 1) := by decide +kernel
theorem dL_pass_2 : decode cL_pass 2 = .ok (.aload_n 0, 1) := by decide +kernel
theorem dL_pass_3 : decode cL_pass 3 = .ok (.iload_n 1, 1) := by decide +kernel
theorem dL_pass_4 : decode cL_pass 4 = .ok (.invokevirtual 70, 3) := by decide +kernel
theorem dL_pass_7 : decode cL_pass 7 = .ok (.i2l, 1) := by decide +kernel
theorem dL_pass_8 : decode cL_pass 8 = .ok (.lastore, 1) := by decide +kernel
theorem dL_pass_9 : decode cL_pass 9 = .ok (.goto 9, 3) := by decide +kernel
theorem dL_pass_12 : decode cL_pass 12 = .ok (.astore_n 3, 1) := by decide +kernel
theorem dL_pass_13 : decode cL_pass 13 = .ok (.iconst 1, 1) := by decide +kernel
theorem dL_pass_14 : decode cL_pass 14 = .ok (.ireturn, 1) := by decide +kernel
theorem dL_pass_15 : decode cL_pass 15 = .ok (.astore_n 3, 1) := by decide +kernel
theorem dL_pass_16 : decode cL_pass 16 = .ok (.iconst 2, 1) := by decide +kernel
theorem dL_pass_17 : decode cL_pass 17 = .ok (.ireturn, 1) := by decide +kernel
theorem dL_pass_18 : decode cL_pass 18 = .ok (.iconst 0, 1) := by decide +kernel
theorem dL_pass_19 : decode cL_pass 19 = .ok (.ireturn, 1) := by decide +kernel
theorem dL_knows_0 : decode cL_knows 0 = .ok (.aload_n 3, 1) := by decide +kernel
theorem dL_knows_1 : decode cL_knows 1 = .ok (.iconst 0, 1) := by decide +kernel
theorem dL_knows_2 : decode cL_knows 2 = .ok (.aload_n 0, 1) := by decide +kernel
theorem dL_knows_3 : decode cL_knows 3 = .ok (.iload_n 1, 1) := by decide +kernel
theorem dL_knows_4 : decode cL_knows 4 = .ok (.iload_n 2, 1) := by decide +kernel
theorem dL_knows_5 : decode cL_knows 5 = .ok (.invokevirtual 73, 3) := by decide +kernel
theorem dL_knows_8 : decode cL_knows 8 = .ok (.ifCond .eq 7, 3) := by decide +kernel
theorem dL_knows_11 : decode cL_knows 11 = .ok (.lconst 1, 1) := by decide +kernel
theorem dL_knows_12 : decode cL_knows 12 = .ok (.goto 4, 3) := by decide +kernel
theorem dL_knows_15 : decode cL_knows 15 = .ok (.lconst 0, 1) := by decide +kernel
theorem dL_knows_16 : decode cL_knows 16 = .ok (.lastore, 1) := by decide +kernel
theorem dL_knows_17 : decode cL_knows 17 = .ok (.goto 7, 3) := by decide +kernel
theorem dL_knows_20 : decode cL_knows 20 = .ok (.astore 4, 2) := by decide +kernel
theorem dL_knows_22 : decode cL_knows 22 = .ok (.iconst 1, 1) := by decide +kernel
theorem dL_knows_23 : decode cL_knows 23 = .ok (.ireturn, 1) := by decide +kernel
theorem dL_knows_24 : decode cL_knows 24 = .ok (.iconst 0, 1) := by decide +kernel
theorem dL_knows_25 : decode cL_knows 25 = .ok (.ireturn, 1) := by decide +kernel
theorem dL_ofFigure_0 : decode cL_ofFigure 0 = .ok (.aload_n 3, 1) := by decide +kernel
theorem dL_ofFigure_1 : decode cL_ofFigure 1 = .ok (.iconst 0, 1) := by decide +kernel
theorem dL_ofFigure_2 : decode cL_ofFigure 2 = .ok (.aload_n 0, 1) := by decide +kernel
theorem dL_ofFigure_3 : decode cL_ofFigure 3 = .ok (.iload_n 1, 1) := by decide +kernel
theorem dL_ofFigure_4 : decode cL_ofFigure 4 = .ok (.iload_n 2, 1) := by decide +kernel
theorem dL_ofFigure_5 : decode cL_ofFigure 5 = .ok (.invokevirtual 77, 3) := by decide +kernel
theorem dL_ofFigure_8 : decode cL_ofFigure 8 = .ok (.i2l, 1) := by decide +kernel
theorem dL_ofFigure_9 : decode cL_ofFigure 9 = .ok (.lastore, 1) := by decide +kernel
theorem dL_ofFigure_10 : decode cL_ofFigure 10 = .ok (.goto 11, 3) := by decide +kernel
theorem dL_ofFigure_13 : decode cL_ofFigure 13 = .ok (.astore 4, 2) := by decide +kernel
theorem dL_ofFigure_15 : decode cL_ofFigure 15 = .ok (.iconst 1, 1) := by decide +kernel
theorem dL_ofFigure_16 : decode cL_ofFigure 16 = .ok (.ireturn, 1) := by decide +kernel
theorem dL_ofFigure_17 : decode cL_ofFigure 17 = .ok (.astore 4, 2) := by decide +kernel
theorem dL_ofFigure_19 : decode cL_ofFigure 19 = .ok (.iconst 2, 1) := by decide +kernel
theorem dL_ofFigure_20 : decode cL_ofFigure 20 = .ok (.ireturn, 1) := by decide +kernel
theorem dL_ofFigure_21 : decode cL_ofFigure 21 = .ok (.iconst 0, 1) := by decide +kernel
theorem dL_ofFigure_22 : decode cL_ofFigure 22 = .ok (.ireturn, 1) := by decide +kernel
theorem dL_ofScene_0 : decode cL_ofScene 0 = .ok (.aload_n 3, 1) := by decide +kernel
theorem dL_ofScene_1 : decode cL_ofScene 1 = .ok (.iconst 0, 1) := by decide +kernel
theorem dL_ofScene_2 : decode cL_ofScene 2 = .ok (.aload_n 0, 1) := by decide +kernel
theorem dL_ofScene_3 : decode cL_ofScene 3 = .ok (.iload_n 1, 1) := by decide +kernel
theorem dL_ofScene_4 : decode cL_ofScene 4 = .ok (.iload_n 2, 1) := by decide +kernel
theorem dL_ofScene_5 : decode cL_ofScene 5 = .ok (.invokevirtual 80, 3) := by decide +kernel
theorem dL_ofScene_8 : decode cL_ofScene 8 = .ok (.i2l, 1) := by decide +kernel
theorem dL_ofScene_9 : decode cL_ofScene 9 = .ok (.lastore, 1) := by decide +kernel
theorem dL_ofScene_10 : decode cL_ofScene 10 = .ok (.goto 11, 3) := by decide +kernel
theorem dL_ofScene_13 : decode cL_ofScene 13 = .ok (.astore 4, 2) := by decide +kernel
theorem dL_ofScene_15 : decode cL_ofScene 15 = .ok (.iconst 1, 1) := by decide +kernel
theorem dL_ofScene_16 : decode cL_ofScene 16 = .ok (.ireturn, 1) := by decide +kernel
theorem dL_ofScene_17 : decode cL_ofScene 17 = .ok (.astore 4, 2) := by decide +kernel
theorem dL_ofScene_19 : decode cL_ofScene 19 = .ok (.iconst 2, 1) := by decide +kernel
theorem dL_ofScene_20 : decode cL_ofScene 20 = .ok (.ireturn, 1) := by decide +kernel
theorem dL_ofScene_21 : decode cL_ofScene 21 = .ok (.iconst 0, 1) := by decide +kernel
theorem dL_ofScene_22 : decode cL_ofScene 22 = .ok (.ireturn, 1) := by decide +kernel
theorem dL_at_0 : decode cL_at 0 = .ok (.aload_n 2, 1) := by decide +kernel
theorem dL_at_1 : decode cL_at 1 = .ok (.iconst 0, 1) := by decide +kernel
theorem dL_at_2 : decode cL_at 2 = .ok (.aload_n 0, 1) := by decide +kernel
theorem dL_at_3 : decode cL_at 3 = .ok (.iload_n 1, 1) := by decide +kernel
theorem dL_at_4 : decode cL_at 4 = .ok (.invokevirtual 83, 3) := by decide +kernel
theorem dL_at_7 : decode cL_at 7 = .ok (.i2l, 1) := by decide +kernel
theorem dL_at_8 : decode cL_at 8 = .ok (.lastore, 1) := by decide +kernel
theorem dL_at_9 : decode cL_at 9 = .ok (.goto 6, 3) := by decide +kernel
theorem dL_at_12 : decode cL_at 12 = .ok (.astore_n 3, 1) := by decide +kernel
theorem dL_at_13 : decode cL_at 13 = .ok (.iconst 1, 1) := by decide +kernel
theorem dL_at_14 : decode cL_at 14 = .ok (.ireturn, 1) := by decide +kernel
theorem dL_at_15 : decode cL_at 15 = .ok (.iconst 0, 1) := by decide +kernel
theorem dL_at_16 : decode cL_at 16 = .ok (.ireturn, 1) := by decide +kernel
theorem dL_sound_0 : decode cL_sound 0 = .ok (.aload_n 2, 1) := by decide +kernel
theorem dL_sound_1 : decode cL_sound 1 = .ok (.iconst 0, 1) := by decide +kernel
theorem dL_sound_2 : decode cL_sound 2 = .ok (.aload_n 0, 1) := by decide +kernel
theorem dL_sound_3 : decode cL_sound 3 = .ok (.iload_n 1, 1) := by decide +kernel
theorem dL_sound_4 : decode cL_sound 4 = .ok (.invokevirtual 86, 3) := by decide +kernel
theorem dL_sound_7 : decode cL_sound 7 = .ok (.i2l, 1) := by decide +kernel
theorem dL_sound_8 : decode cL_sound 8 = .ok (.lastore, 1) := by decide +kernel
theorem dL_sound_9 : decode cL_sound 9 = .ok (.goto 6, 3) := by decide +kernel
theorem dL_sound_12 : decode cL_sound 12 = .ok (.astore_n 3, 1) := by decide +kernel
theorem dL_sound_13 : decode cL_sound 13 = .ok (.iconst 1, 1) := by decide +kernel
theorem dL_sound_14 : decode cL_sound 14 = .ok (.ireturn, 1) := by decide +kernel
theorem dL_sound_15 : decode cL_sound 15 = .ok (.iconst 0, 1) := by decide +kernel
theorem dL_sound_16 : decode cL_sound 16 = .ok (.ireturn, 1) := by decide +kernel
theorem dL_many_0 : decode cL_many 0 = .ok (.aload_n 2, 1) := by decide +kernel
theorem dL_many_1 : decode cL_many 1 = .ok (.iconst 0, 1) := by decide +kernel
theorem dL_many_2 : decode cL_many 2 = .ok (.aload_n 0, 1) := by decide +kernel
theorem dL_many_3 : decode cL_many 3 = .ok (.iload_n 1, 1) := by decide +kernel
theorem dL_many_4 : decode cL_many 4 = .ok (.invokevirtual 89, 3) := by decide +kernel
theorem dL_many_7 : decode cL_many 7 = .ok (.i2l, 1) := by decide +kernel
theorem dL_many_8 : decode cL_many 8 = .ok (.lastore, 1) := by decide +kernel
theorem dL_many_9 : decode cL_many 9 = .ok (.goto 6, 3) := by decide +kernel
theorem dL_many_12 : decode cL_many 12 = .ok (.astore_n 3, 1) := by decide +kernel
theorem dL_many_13 : decode cL_many 13 = .ok (.iconst 1, 1) := by decide +kernel
theorem dL_many_14 : decode cL_many 14 = .ok (.ireturn, 1) := by decide +kernel
theorem dL_many_15 : decode cL_many 15 = .ok (.iconst 0, 1) := by decide +kernel
theorem dL_many_16 : decode cL_many 16 = .ok (.ireturn, 1) := by decide +kernel
theorem dL_liftFor_0 : decode cL_liftFor 0 = .ok (.aload_n 3, 1) := by decide +kernel
theorem dL_liftFor_1 : decode cL_liftFor 1 = .ok (.iconst 0, 1) := by decide +kernel
theorem dL_liftFor_2 : decode cL_liftFor 2 = .ok (.aload_n 0, 1) := by decide +kernel
theorem dL_liftFor_3 : decode cL_liftFor 3 = .ok (.iload_n 1, 1) := by decide +kernel
theorem dL_liftFor_4 : decode cL_liftFor 4 = .ok (.iload_n 2, 1) := by decide +kernel
theorem dL_liftFor_5 : decode cL_liftFor 5 = .ok (.invokevirtual 92, 3) := by decide +kernel
theorem dL_liftFor_8 : decode cL_liftFor 8 = .ok (.i2l, 1) := by decide +kernel
theorem dL_liftFor_9 : decode cL_liftFor 9 = .ok (.lastore, 1) := by decide +kernel
theorem dL_liftFor_10 : decode cL_liftFor 10 = .ok (.goto 11, 3) := by decide +kernel
theorem dL_liftFor_13 : decode cL_liftFor 13 = .ok (.astore 4, 2) := by decide +kernel
theorem dL_liftFor_15 : decode cL_liftFor 15 = .ok (.iconst 1, 1) := by decide +kernel
theorem dL_liftFor_16 : decode cL_liftFor 16 = .ok (.ireturn, 1) := by decide +kernel
theorem dL_liftFor_17 : decode cL_liftFor 17 = .ok (.astore 4, 2) := by decide +kernel
theorem dL_liftFor_19 : decode cL_liftFor 19 = .ok (.iconst 2, 1) := by decide +kernel
theorem dL_liftFor_20 : decode cL_liftFor 20 = .ok (.ireturn, 1) := by decide +kernel
theorem dL_liftFor_21 : decode cL_liftFor 21 = .ok (.iconst 0, 1) := by decide +kernel
theorem dL_liftFor_22 : decode cL_liftFor 22 = .ok (.ireturn, 1) := by decide +kernel
theorem dL_law_0 : decode cL_law 0 = .ok (.new 8, 3) := by decide +kernel
theorem dL_law_3 : decode cL_law 3 = .ok (.dup, 1) := by decide +kernel
theorem dL_law_4 : decode cL_law 4 = .ok (.invokespecial 95, 3) := by decide +kernel
theorem dL_law_7 : decode cL_law 7 = .ok (.astore_n 1, 1) := by decide +kernel
theorem dL_law_8 : decode cL_law 8 = .ok (.new 96, 3) := by decide +kernel
theorem dL_law_11 : decode cL_law 11 = .ok (.dup, 1) := by decide +kernel
theorem dL_law_12 : decode cL_law 12 = .ok (.invokespecial 98, 3) := by decide +kernel
theorem dL_law_15 : decode cL_law 15 = .ok (.astore_n 2, 1) := by decide +kernel
theorem dL_law_16 : decode cL_law 16 = .ok (.iconst 1, 1) := by decide +kernel
theorem dL_law_17 : decode cL_law 17 = .ok (.newarray .long, 2) := by decide +kernel
theorem dL_law_19 : decode cL_law 19 = .ok (.astore_n 3, 1) := by decide +kernel
theorem dL_law_20 : decode cL_law 20 = .ok (.iconst 0, 1) := by decide +kernel
theorem dL_law_21 : decode cL_law 21 = .ok (.istore 4, 2) := by decide +kernel
theorem dL_law_23 : decode cL_law 23 = .ok (.iload 4, 2) := by decide +kernel
theorem dL_law_25 : decode cL_law 25 = .ok (.aload_n 0, 1) := by decide +kernel
theorem dL_law_26 : decode cL_law 26 = .ok (.arraylength, 1) := by decide +kernel
theorem dL_law_27 : decode cL_law 27 = .ok (.bipush 7, 2) := by decide +kernel
theorem dL_law_29 : decode cL_law 29 = .ok (.isub, 1) := by decide +kernel
theorem dL_law_30 : decode cL_law 30 = .ok (.if_icmp .gt 1884, 3) := by decide +kernel
theorem dL_law_33 : decode cL_law 33 = .ok (.aload_n 0, 1) := by decide +kernel
theorem dL_law_34 : decode cL_law 34 = .ok (.iload 4, 2) := by decide +kernel
theorem dL_law_36 : decode cL_law 36 = .ok (.iaload, 1) := by decide +kernel
theorem dL_law_37 : decode cL_law 37 = .ok (.bipush 31, 2) := by decide +kernel
theorem dL_law_39 : decode cL_law 39 = .ok (.iand, 1) := by decide +kernel
theorem dL_law_40 : decode cL_law 40 = .ok (.tableswitch 1868 0 28 #[132, 266, 334, 452, 520, 588, 656, 712, 780, 848, 904, 960, 1016, 1079, 1171, 1227, 1271, 1327, 1402, 1470, 1538, 1594, 1650, 1706, 1747, 1760, 1773, 1841, 1854], 132) := by decide +kernel
theorem dL_law_172 : decode cL_law 172 = .ok (.aload_n 1, 1) := by decide +kernel
theorem dL_law_173 : decode cL_law 173 = .ok (.aload_n 0, 1) := by decide +kernel
theorem dL_law_174 : decode cL_law 174 = .ok (.iload 4, 2) := by decide +kernel
theorem dL_law_176 : decode cL_law 176 = .ok (.iconst 1, 1) := by decide +kernel
theorem dL_law_177 : decode cL_law 177 = .ok (.iadd, 1) := by decide +kernel
theorem dL_law_178 : decode cL_law 178 = .ok (.iaload, 1) := by decide +kernel
theorem dL_law_179 : decode cL_law 179 = .ok (.aload_n 0, 1) := by decide +kernel
theorem dL_law_180 : decode cL_law 180 = .ok (.iload 4, 2) := by decide +kernel
theorem dL_law_182 : decode cL_law 182 = .ok (.iconst 2, 1) := by decide +kernel
theorem dL_law_183 : decode cL_law 183 = .ok (.iadd, 1) := by decide +kernel
theorem dL_law_184 : decode cL_law 184 = .ok (.iaload, 1) := by decide +kernel
theorem dL_law_185 : decode cL_law 185 = .ok (.aload_n 0, 1) := by decide +kernel
theorem dL_law_186 : decode cL_law 186 = .ok (.iload 4, 2) := by decide +kernel
theorem dL_law_188 : decode cL_law 188 = .ok (.iconst 3, 1) := by decide +kernel
theorem dL_law_189 : decode cL_law 189 = .ok (.iadd, 1) := by decide +kernel
theorem dL_law_190 : decode cL_law 190 = .ok (.iaload, 1) := by decide +kernel
theorem dL_law_191 : decode cL_law 191 = .ok (.aload_n 0, 1) := by decide +kernel
theorem dL_law_192 : decode cL_law 192 = .ok (.iload 4, 2) := by decide +kernel
theorem dL_law_194 : decode cL_law 194 = .ok (.iconst 4, 1) := by decide +kernel
theorem dL_law_195 : decode cL_law 195 = .ok (.iadd, 1) := by decide +kernel
theorem dL_law_196 : decode cL_law 196 = .ok (.iaload, 1) := by decide +kernel
theorem dL_law_197 : decode cL_law 197 = .ok (.aload_n 0, 1) := by decide +kernel
theorem dL_law_198 : decode cL_law 198 = .ok (.iload 4, 2) := by decide +kernel
theorem dL_law_200 : decode cL_law 200 = .ok (.iconst 5, 1) := by decide +kernel
theorem dL_law_201 : decode cL_law 201 = .ok (.iadd, 1) := by decide +kernel
theorem dL_law_202 : decode cL_law 202 = .ok (.iaload, 1) := by decide +kernel
theorem dL_law_203 : decode cL_law 203 = .ok (.aload_n 0, 1) := by decide +kernel
theorem dL_law_204 : decode cL_law 204 = .ok (.iload 4, 2) := by decide +kernel
theorem dL_law_206 : decode cL_law 206 = .ok (.bipush 6, 2) := by decide +kernel
theorem dL_law_208 : decode cL_law 208 = .ok (.iadd, 1) := by decide +kernel
theorem dL_law_209 : decode cL_law 209 = .ok (.iaload, 1) := by decide +kernel
theorem dL_law_210 : decode cL_law 210 = .ok (.ifCond .eq 7, 3) := by decide +kernel
theorem dL_law_213 : decode cL_law 213 = .ok (.iconst 1, 1) := by decide +kernel
theorem dL_law_214 : decode cL_law 214 = .ok (.goto 4, 3) := by decide +kernel
theorem dL_law_217 : decode cL_law 217 = .ok (.iconst 0, 1) := by decide +kernel
theorem dL_law_218 : decode cL_law 218 = .ok (.aload_n 3, 1) := by decide +kernel
theorem dL_law_219 : decode cL_law 219 = .ok (.invokestatic 99, 3) := by decide +kernel
theorem dL_law_222 : decode cL_law 222 = .ok (.istore 5, 2) := by decide +kernel
theorem dL_law_224 : decode cL_law 224 = .ok (.aload_n 2, 1) := by decide +kernel
theorem dL_law_225 : decode cL_law 225 = .ok (.aload_n 0, 1) := by decide +kernel
theorem dL_law_226 : decode cL_law 226 = .ok (.iload 4, 2) := by decide +kernel
theorem dL_law_228 : decode cL_law 228 = .ok (.iconst 1, 1) := by decide +kernel
theorem dL_law_229 : decode cL_law 229 = .ok (.iadd, 1) := by decide +kernel
theorem dL_law_230 : decode cL_law 230 = .ok (.iaload, 1) := by decide +kernel
theorem dL_law_231 : decode cL_law 231 = .ok (.aload_n 0, 1) := by decide +kernel
theorem dL_law_232 : decode cL_law 232 = .ok (.iload 4, 2) := by decide +kernel
theorem dL_law_234 : decode cL_law 234 = .ok (.iconst 2, 1) := by decide +kernel
theorem dL_law_235 : decode cL_law 235 = .ok (.iadd, 1) := by decide +kernel
theorem dL_law_236 : decode cL_law 236 = .ok (.iaload, 1) := by decide +kernel
theorem dL_law_237 : decode cL_law 237 = .ok (.aload_n 0, 1) := by decide +kernel
theorem dL_law_238 : decode cL_law 238 = .ok (.iload 4, 2) := by decide +kernel
theorem dL_law_240 : decode cL_law 240 = .ok (.iconst 3, 1) := by decide +kernel
theorem dL_law_241 : decode cL_law 241 = .ok (.iadd, 1) := by decide +kernel
theorem dL_law_242 : decode cL_law 242 = .ok (.iaload, 1) := by decide +kernel
theorem dL_law_243 : decode cL_law 243 = .ok (.aload_n 0, 1) := by decide +kernel
theorem dL_law_244 : decode cL_law 244 = .ok (.iload 4, 2) := by decide +kernel
theorem dL_law_246 : decode cL_law 246 = .ok (.iconst 4, 1) := by decide +kernel
theorem dL_law_247 : decode cL_law 247 = .ok (.iadd, 1) := by decide +kernel
theorem dL_law_248 : decode cL_law 248 = .ok (.iaload, 1) := by decide +kernel
theorem dL_law_249 : decode cL_law 249 = .ok (.aload_n 0, 1) := by decide +kernel
theorem dL_law_250 : decode cL_law 250 = .ok (.iload 4, 2) := by decide +kernel
theorem dL_law_252 : decode cL_law 252 = .ok (.iconst 5, 1) := by decide +kernel
theorem dL_law_253 : decode cL_law 253 = .ok (.iadd, 1) := by decide +kernel
theorem dL_law_254 : decode cL_law 254 = .ok (.iaload, 1) := by decide +kernel
theorem dL_law_255 : decode cL_law 255 = .ok (.aload_n 0, 1) := by decide +kernel
theorem dL_law_256 : decode cL_law 256 = .ok (.iload 4, 2) := by decide +kernel
theorem dL_law_258 : decode cL_law 258 = .ok (.bipush 6, 2) := by decide +kernel
theorem dL_law_260 : decode cL_law 260 = .ok (.iadd, 1) := by decide +kernel
theorem dL_law_261 : decode cL_law 261 = .ok (.iaload, 1) := by decide +kernel
theorem dL_law_262 : decode cL_law 262 = .ok (.ifCond .eq 7, 3) := by decide +kernel
theorem dL_law_265 : decode cL_law 265 = .ok (.iconst 1, 1) := by decide +kernel
theorem dL_law_266 : decode cL_law 266 = .ok (.goto 4, 3) := by decide +kernel
theorem dL_law_269 : decode cL_law 269 = .ok (.iconst 0, 1) := by decide +kernel
theorem dL_law_270 : decode cL_law 270 = .ok (.invokevirtual 104, 3) := by decide +kernel
theorem dL_law_273 : decode cL_law 273 = .ok (.istore 6, 2) := by decide +kernel
theorem dL_law_275 : decode cL_law 275 = .ok (.aload_n 2, 1) := by decide +kernel
theorem dL_law_276 : decode cL_law 276 = .ok (.invokevirtual 105, 3) := by decide +kernel
theorem dL_law_279 : decode cL_law 279 = .ok (.iload 5, 2) := by decide +kernel
theorem dL_law_281 : decode cL_law 281 = .ok (.if_icmp .eq 5, 3) := by decide +kernel
theorem dL_law_284 : decode cL_law 284 = .ok (.iconst 0, 1) := by decide +kernel
theorem dL_law_285 : decode cL_law 285 = .ok (.ireturn, 1) := by decide +kernel
theorem dL_law_286 : decode cL_law 286 = .ok (.iload 5, 2) := by decide +kernel
theorem dL_law_288 : decode cL_law 288 = .ok (.ifCond .ne 15, 3) := by decide +kernel
theorem dL_law_291 : decode cL_law 291 = .ok (.aload_n 3, 1) := by decide +kernel
theorem dL_law_292 : decode cL_law 292 = .ok (.iconst 0, 1) := by decide +kernel
theorem dL_law_293 : decode cL_law 293 = .ok (.laload, 1) := by decide +kernel
theorem dL_law_294 : decode cL_law 294 = .ok (.iload 6, 2) := by decide +kernel
theorem dL_law_296 : decode cL_law 296 = .ok (.i2l, 1) := by decide +kernel
theorem dL_law_297 : decode cL_law 297 = .ok (.lcmp, 1) := by decide +kernel
theorem dL_law_298 : decode cL_law 298 = .ok (.ifCond .eq 5, 3) := by decide +kernel
theorem dL_law_301 : decode cL_law 301 = .ok (.iconst 0, 1) := by decide +kernel
theorem dL_law_302 : decode cL_law 302 = .ok (.ireturn, 1) := by decide +kernel
theorem dL_law_303 : decode cL_law 303 = .ok (.goto 1605, 3) := by decide +kernel
theorem dL_law_306 : decode cL_law 306 = .ok (.aload_n 1, 1) := by decide +kernel
theorem dL_law_307 : decode cL_law 307 = .ok (.aload_n 0, 1) := by decide +kernel
theorem dL_law_308 : decode cL_law 308 = .ok (.iload 4, 2) := by decide +kernel
theorem dL_law_310 : decode cL_law 310 = .ok (.iconst 1, 1) := by decide +kernel
theorem dL_law_311 : decode cL_law 311 = .ok (.iadd, 1) := by decide +kernel
theorem dL_law_312 : decode cL_law 312 = .ok (.iaload, 1) := by decide +kernel
theorem dL_law_313 : decode cL_law 313 = .ok (.aload_n 0, 1) := by decide +kernel
theorem dL_law_314 : decode cL_law 314 = .ok (.iload 4, 2) := by decide +kernel
theorem dL_law_316 : decode cL_law 316 = .ok (.iconst 2, 1) := by decide +kernel
theorem dL_law_317 : decode cL_law 317 = .ok (.iadd, 1) := by decide +kernel
theorem dL_law_318 : decode cL_law 318 = .ok (.iaload, 1) := by decide +kernel
theorem dL_law_319 : decode cL_law 319 = .ok (.aload_n 3, 1) := by decide +kernel
theorem dL_law_320 : decode cL_law 320 = .ok (.invokestatic 108, 3) := by decide +kernel
theorem dL_law_323 : decode cL_law 323 = .ok (.istore 5, 2) := by decide +kernel
theorem dL_law_325 : decode cL_law 325 = .ok (.aload_n 2, 1) := by decide +kernel
theorem dL_law_326 : decode cL_law 326 = .ok (.aload_n 0, 1) := by decide +kernel
theorem dL_law_327 : decode cL_law 327 = .ok (.iload 4, 2) := by decide +kernel
theorem dL_law_329 : decode cL_law 329 = .ok (.iconst 1, 1) := by decide +kernel
theorem dL_law_330 : decode cL_law 330 = .ok (.iadd, 1) := by decide +kernel
theorem dL_law_331 : decode cL_law 331 = .ok (.iaload, 1) := by decide +kernel
theorem dL_law_332 : decode cL_law 332 = .ok (.aload_n 0, 1) := by decide +kernel
theorem dL_law_333 : decode cL_law 333 = .ok (.iload 4, 2) := by decide +kernel
theorem dL_law_335 : decode cL_law 335 = .ok (.iconst 2, 1) := by decide +kernel
theorem dL_law_336 : decode cL_law 336 = .ok (.iadd, 1) := by decide +kernel
theorem dL_law_337 : decode cL_law 337 = .ok (.iaload, 1) := by decide +kernel
theorem dL_law_338 : decode cL_law 338 = .ok (.invokevirtual 111, 3) := by decide +kernel
theorem dL_law_341 : decode cL_law 341 = .ok (.istore 6, 2) := by decide +kernel
theorem dL_law_343 : decode cL_law 343 = .ok (.aload_n 2, 1) := by decide +kernel
theorem dL_law_344 : decode cL_law 344 = .ok (.invokevirtual 105, 3) := by decide +kernel
theorem dL_law_347 : decode cL_law 347 = .ok (.iload 5, 2) := by decide +kernel
theorem dL_law_349 : decode cL_law 349 = .ok (.if_icmp .eq 5, 3) := by decide +kernel
theorem dL_law_352 : decode cL_law 352 = .ok (.iconst 0, 1) := by decide +kernel
theorem dL_law_353 : decode cL_law 353 = .ok (.ireturn, 1) := by decide +kernel
theorem dL_law_354 : decode cL_law 354 = .ok (.iload 5, 2) := by decide +kernel
theorem dL_law_356 : decode cL_law 356 = .ok (.ifCond .ne 15, 3) := by decide +kernel
theorem dL_law_359 : decode cL_law 359 = .ok (.aload_n 3, 1) := by decide +kernel
theorem dL_law_360 : decode cL_law 360 = .ok (.iconst 0, 1) := by decide +kernel
theorem dL_law_361 : decode cL_law 361 = .ok (.laload, 1) := by decide +kernel
theorem dL_law_362 : decode cL_law 362 = .ok (.iload 6, 2) := by decide +kernel
theorem dL_law_364 : decode cL_law 364 = .ok (.i2l, 1) := by decide +kernel
theorem dL_law_365 : decode cL_law 365 = .ok (.lcmp, 1) := by decide +kernel
theorem dL_law_366 : decode cL_law 366 = .ok (.ifCond .eq 5, 3) := by decide +kernel
theorem dL_law_369 : decode cL_law 369 = .ok (.iconst 0, 1) := by decide +kernel
theorem dL_law_370 : decode cL_law 370 = .ok (.ireturn, 1) := by decide +kernel
theorem dL_law_371 : decode cL_law 371 = .ok (.goto 1537, 3) := by decide +kernel
theorem dL_law_374 : decode cL_law 374 = .ok (.aload_n 1, 1) := by decide +kernel
theorem dL_law_375 : decode cL_law 375 = .ok (.aload_n 0, 1) := by decide +kernel
theorem dL_law_376 : decode cL_law 376 = .ok (.iload 4, 2) := by decide +kernel
theorem dL_law_378 : decode cL_law 378 = .ok (.iconst 1, 1) := by decide +kernel
theorem dL_law_379 : decode cL_law 379 = .ok (.iadd, 1) := by decide +kernel
theorem dL_law_380 : decode cL_law 380 = .ok (.iaload, 1) := by decide +kernel
theorem dL_law_381 : decode cL_law 381 = .ok (.aload_n 0, 1) := by decide +kernel
theorem dL_law_382 : decode cL_law 382 = .ok (.iload 4, 2) := by decide +kernel
theorem dL_law_384 : decode cL_law 384 = .ok (.iconst 2, 1) := by decide +kernel
theorem dL_law_385 : decode cL_law 385 = .ok (.iadd, 1) := by decide +kernel
theorem dL_law_386 : decode cL_law 386 = .ok (.iaload, 1) := by decide +kernel
theorem dL_law_387 : decode cL_law 387 = .ok (.aload_n 0, 1) := by decide +kernel
theorem dL_law_388 : decode cL_law 388 = .ok (.iload 4, 2) := by decide +kernel
theorem dL_law_390 : decode cL_law 390 = .ok (.iconst 3, 1) := by decide +kernel
theorem dL_law_391 : decode cL_law 391 = .ok (.iadd, 1) := by decide +kernel
theorem dL_law_392 : decode cL_law 392 = .ok (.iaload, 1) := by decide +kernel
theorem dL_law_393 : decode cL_law 393 = .ok (.aload_n 0, 1) := by decide +kernel
theorem dL_law_394 : decode cL_law 394 = .ok (.iload 4, 2) := by decide +kernel
theorem dL_law_396 : decode cL_law 396 = .ok (.iconst 4, 1) := by decide +kernel
theorem dL_law_397 : decode cL_law 397 = .ok (.iadd, 1) := by decide +kernel
theorem dL_law_398 : decode cL_law 398 = .ok (.iaload, 1) := by decide +kernel
theorem dL_law_399 : decode cL_law 399 = .ok (.aload_n 0, 1) := by decide +kernel
theorem dL_law_400 : decode cL_law 400 = .ok (.iload 4, 2) := by decide +kernel
theorem dL_law_402 : decode cL_law 402 = .ok (.iconst 5, 1) := by decide +kernel
theorem dL_law_403 : decode cL_law 403 = .ok (.iadd, 1) := by decide +kernel
theorem dL_law_404 : decode cL_law 404 = .ok (.iaload, 1) := by decide +kernel
theorem dL_law_405 : decode cL_law 405 = .ok (.aload_n 0, 1) := by decide +kernel
theorem dL_law_406 : decode cL_law 406 = .ok (.iload 4, 2) := by decide +kernel
theorem dL_law_408 : decode cL_law 408 = .ok (.bipush 6, 2) := by decide +kernel
theorem dL_law_410 : decode cL_law 410 = .ok (.iadd, 1) := by decide +kernel
theorem dL_law_411 : decode cL_law 411 = .ok (.iaload, 1) := by decide +kernel
theorem dL_law_412 : decode cL_law 412 = .ok (.aload_n 3, 1) := by decide +kernel
theorem dL_law_413 : decode cL_law 413 = .ok (.invokestatic 112, 3) := by decide +kernel
theorem dL_law_416 : decode cL_law 416 = .ok (.istore 5, 2) := by decide +kernel
theorem dL_law_418 : decode cL_law 418 = .ok (.aload_n 2, 1) := by decide +kernel
theorem dL_law_419 : decode cL_law 419 = .ok (.aload_n 0, 1) := by decide +kernel
theorem dL_law_420 : decode cL_law 420 = .ok (.iload 4, 2) := by decide +kernel
theorem dL_law_422 : decode cL_law 422 = .ok (.iconst 1, 1) := by decide +kernel
theorem dL_law_423 : decode cL_law 423 = .ok (.iadd, 1) := by decide +kernel
theorem dL_law_424 : decode cL_law 424 = .ok (.iaload, 1) := by decide +kernel
theorem dL_law_425 : decode cL_law 425 = .ok (.aload_n 0, 1) := by decide +kernel
theorem dL_law_426 : decode cL_law 426 = .ok (.iload 4, 2) := by decide +kernel
theorem dL_law_428 : decode cL_law 428 = .ok (.iconst 2, 1) := by decide +kernel
theorem dL_law_429 : decode cL_law 429 = .ok (.iadd, 1) := by decide +kernel
theorem dL_law_430 : decode cL_law 430 = .ok (.iaload, 1) := by decide +kernel
theorem dL_law_431 : decode cL_law 431 = .ok (.aload_n 0, 1) := by decide +kernel
theorem dL_law_432 : decode cL_law 432 = .ok (.iload 4, 2) := by decide +kernel
theorem dL_law_434 : decode cL_law 434 = .ok (.iconst 3, 1) := by decide +kernel
theorem dL_law_435 : decode cL_law 435 = .ok (.iadd, 1) := by decide +kernel
theorem dL_law_436 : decode cL_law 436 = .ok (.iaload, 1) := by decide +kernel
theorem dL_law_437 : decode cL_law 437 = .ok (.aload_n 0, 1) := by decide +kernel
theorem dL_law_438 : decode cL_law 438 = .ok (.iload 4, 2) := by decide +kernel
theorem dL_law_440 : decode cL_law 440 = .ok (.iconst 4, 1) := by decide +kernel
theorem dL_law_441 : decode cL_law 441 = .ok (.iadd, 1) := by decide +kernel
theorem dL_law_442 : decode cL_law 442 = .ok (.iaload, 1) := by decide +kernel
theorem dL_law_443 : decode cL_law 443 = .ok (.aload_n 0, 1) := by decide +kernel
theorem dL_law_444 : decode cL_law 444 = .ok (.iload 4, 2) := by decide +kernel
theorem dL_law_446 : decode cL_law 446 = .ok (.iconst 5, 1) := by decide +kernel
theorem dL_law_447 : decode cL_law 447 = .ok (.iadd, 1) := by decide +kernel
theorem dL_law_448 : decode cL_law 448 = .ok (.iaload, 1) := by decide +kernel
theorem dL_law_449 : decode cL_law 449 = .ok (.aload_n 0, 1) := by decide +kernel
theorem dL_law_450 : decode cL_law 450 = .ok (.iload 4, 2) := by decide +kernel
theorem dL_law_452 : decode cL_law 452 = .ok (.bipush 6, 2) := by decide +kernel
theorem dL_law_454 : decode cL_law 454 = .ok (.iadd, 1) := by decide +kernel
theorem dL_law_455 : decode cL_law 455 = .ok (.iaload, 1) := by decide +kernel
theorem dL_law_456 : decode cL_law 456 = .ok (.invokevirtual 115, 3) := by decide +kernel
theorem dL_law_459 : decode cL_law 459 = .ok (.istore 6, 2) := by decide +kernel
theorem dL_law_461 : decode cL_law 461 = .ok (.aload_n 2, 1) := by decide +kernel
theorem dL_law_462 : decode cL_law 462 = .ok (.invokevirtual 105, 3) := by decide +kernel
theorem dL_law_465 : decode cL_law 465 = .ok (.iload 5, 2) := by decide +kernel
theorem dL_law_467 : decode cL_law 467 = .ok (.if_icmp .eq 5, 3) := by decide +kernel
theorem dL_law_470 : decode cL_law 470 = .ok (.iconst 0, 1) := by decide +kernel
theorem dL_law_471 : decode cL_law 471 = .ok (.ireturn, 1) := by decide +kernel
theorem dL_law_472 : decode cL_law 472 = .ok (.iload 5, 2) := by decide +kernel
theorem dL_law_474 : decode cL_law 474 = .ok (.ifCond .ne 15, 3) := by decide +kernel
theorem dL_law_477 : decode cL_law 477 = .ok (.aload_n 3, 1) := by decide +kernel
theorem dL_law_478 : decode cL_law 478 = .ok (.iconst 0, 1) := by decide +kernel
theorem dL_law_479 : decode cL_law 479 = .ok (.laload, 1) := by decide +kernel
theorem dL_law_480 : decode cL_law 480 = .ok (.iload 6, 2) := by decide +kernel
theorem dL_law_482 : decode cL_law 482 = .ok (.i2l, 1) := by decide +kernel
theorem dL_law_483 : decode cL_law 483 = .ok (.lcmp, 1) := by decide +kernel
theorem dL_law_484 : decode cL_law 484 = .ok (.ifCond .eq 5, 3) := by decide +kernel
theorem dL_law_487 : decode cL_law 487 = .ok (.iconst 0, 1) := by decide +kernel
theorem dL_law_488 : decode cL_law 488 = .ok (.ireturn, 1) := by decide +kernel
theorem dL_law_489 : decode cL_law 489 = .ok (.goto 1419, 3) := by decide +kernel
theorem dL_law_492 : decode cL_law 492 = .ok (.aload_n 1, 1) := by decide +kernel
theorem dL_law_493 : decode cL_law 493 = .ok (.aload_n 0, 1) := by decide +kernel
theorem dL_law_494 : decode cL_law 494 = .ok (.iload 4, 2) := by decide +kernel
theorem dL_law_496 : decode cL_law 496 = .ok (.iconst 1, 1) := by decide +kernel
theorem dL_law_497 : decode cL_law 497 = .ok (.iadd, 1) := by decide +kernel
theorem dL_law_498 : decode cL_law 498 = .ok (.iaload, 1) := by decide +kernel
theorem dL_law_499 : decode cL_law 499 = .ok (.aload_n 0, 1) := by decide +kernel
theorem dL_law_500 : decode cL_law 500 = .ok (.iload 4, 2) := by decide +kernel
theorem dL_law_502 : decode cL_law 502 = .ok (.iconst 2, 1) := by decide +kernel
theorem dL_law_503 : decode cL_law 503 = .ok (.iadd, 1) := by decide +kernel
theorem dL_law_504 : decode cL_law 504 = .ok (.iaload, 1) := by decide +kernel
theorem dL_law_505 : decode cL_law 505 = .ok (.aload_n 3, 1) := by decide +kernel
theorem dL_law_506 : decode cL_law 506 = .ok (.invokestatic 116, 3) := by decide +kernel
theorem dL_law_509 : decode cL_law 509 = .ok (.istore 5, 2) := by decide +kernel
theorem dL_law_511 : decode cL_law 511 = .ok (.aload_n 2, 1) := by decide +kernel
theorem dL_law_512 : decode cL_law 512 = .ok (.aload_n 0, 1) := by decide +kernel
theorem dL_law_513 : decode cL_law 513 = .ok (.iload 4, 2) := by decide +kernel
theorem dL_law_515 : decode cL_law 515 = .ok (.iconst 1, 1) := by decide +kernel
theorem dL_law_516 : decode cL_law 516 = .ok (.iadd, 1) := by decide +kernel
theorem dL_law_517 : decode cL_law 517 = .ok (.iaload, 1) := by decide +kernel
theorem dL_law_518 : decode cL_law 518 = .ok (.aload_n 0, 1) := by decide +kernel
theorem dL_law_519 : decode cL_law 519 = .ok (.iload 4, 2) := by decide +kernel
theorem dL_law_521 : decode cL_law 521 = .ok (.iconst 2, 1) := by decide +kernel
theorem dL_law_522 : decode cL_law 522 = .ok (.iadd, 1) := by decide +kernel
theorem dL_law_523 : decode cL_law 523 = .ok (.iaload, 1) := by decide +kernel
theorem dL_law_524 : decode cL_law 524 = .ok (.invokevirtual 118, 3) := by decide +kernel
theorem dL_law_527 : decode cL_law 527 = .ok (.istore 6, 2) := by decide +kernel
theorem dL_law_529 : decode cL_law 529 = .ok (.aload_n 2, 1) := by decide +kernel
theorem dL_law_530 : decode cL_law 530 = .ok (.invokevirtual 105, 3) := by decide +kernel
theorem dL_law_533 : decode cL_law 533 = .ok (.iload 5, 2) := by decide +kernel
theorem dL_law_535 : decode cL_law 535 = .ok (.if_icmp .eq 5, 3) := by decide +kernel
theorem dL_law_538 : decode cL_law 538 = .ok (.iconst 0, 1) := by decide +kernel
theorem dL_law_539 : decode cL_law 539 = .ok (.ireturn, 1) := by decide +kernel
theorem dL_law_540 : decode cL_law 540 = .ok (.iload 5, 2) := by decide +kernel
theorem dL_law_542 : decode cL_law 542 = .ok (.ifCond .ne 15, 3) := by decide +kernel
theorem dL_law_545 : decode cL_law 545 = .ok (.aload_n 3, 1) := by decide +kernel
theorem dL_law_546 : decode cL_law 546 = .ok (.iconst 0, 1) := by decide +kernel
theorem dL_law_547 : decode cL_law 547 = .ok (.laload, 1) := by decide +kernel
theorem dL_law_548 : decode cL_law 548 = .ok (.iload 6, 2) := by decide +kernel
theorem dL_law_550 : decode cL_law 550 = .ok (.i2l, 1) := by decide +kernel
theorem dL_law_551 : decode cL_law 551 = .ok (.lcmp, 1) := by decide +kernel
theorem dL_law_552 : decode cL_law 552 = .ok (.ifCond .eq 5, 3) := by decide +kernel
theorem dL_law_555 : decode cL_law 555 = .ok (.iconst 0, 1) := by decide +kernel
theorem dL_law_556 : decode cL_law 556 = .ok (.ireturn, 1) := by decide +kernel
theorem dL_law_557 : decode cL_law 557 = .ok (.goto 1351, 3) := by decide +kernel
theorem dL_law_560 : decode cL_law 560 = .ok (.aload_n 1, 1) := by decide +kernel
theorem dL_law_561 : decode cL_law 561 = .ok (.aload_n 0, 1) := by decide +kernel
theorem dL_law_562 : decode cL_law 562 = .ok (.iload 4, 2) := by decide +kernel
theorem dL_law_564 : decode cL_law 564 = .ok (.iconst 1, 1) := by decide +kernel
theorem dL_law_565 : decode cL_law 565 = .ok (.iadd, 1) := by decide +kernel
theorem dL_law_566 : decode cL_law 566 = .ok (.iaload, 1) := by decide +kernel
theorem dL_law_567 : decode cL_law 567 = .ok (.aload_n 0, 1) := by decide +kernel
theorem dL_law_568 : decode cL_law 568 = .ok (.iload 4, 2) := by decide +kernel
theorem dL_law_570 : decode cL_law 570 = .ok (.iconst 2, 1) := by decide +kernel
theorem dL_law_571 : decode cL_law 571 = .ok (.iadd, 1) := by decide +kernel
theorem dL_law_572 : decode cL_law 572 = .ok (.iaload, 1) := by decide +kernel
theorem dL_law_573 : decode cL_law 573 = .ok (.aload_n 3, 1) := by decide +kernel
theorem dL_law_574 : decode cL_law 574 = .ok (.invokestatic 119, 3) := by decide +kernel
theorem dL_law_577 : decode cL_law 577 = .ok (.istore 5, 2) := by decide +kernel
theorem dL_law_579 : decode cL_law 579 = .ok (.aload_n 2, 1) := by decide +kernel
theorem dL_law_580 : decode cL_law 580 = .ok (.aload_n 0, 1) := by decide +kernel
theorem dL_law_581 : decode cL_law 581 = .ok (.iload 4, 2) := by decide +kernel
theorem dL_law_583 : decode cL_law 583 = .ok (.iconst 1, 1) := by decide +kernel
theorem dL_law_584 : decode cL_law 584 = .ok (.iadd, 1) := by decide +kernel
theorem dL_law_585 : decode cL_law 585 = .ok (.iaload, 1) := by decide +kernel
theorem dL_law_586 : decode cL_law 586 = .ok (.aload_n 0, 1) := by decide +kernel
theorem dL_law_587 : decode cL_law 587 = .ok (.iload 4, 2) := by decide +kernel
theorem dL_law_589 : decode cL_law 589 = .ok (.iconst 2, 1) := by decide +kernel
theorem dL_law_590 : decode cL_law 590 = .ok (.iadd, 1) := by decide +kernel
theorem dL_law_591 : decode cL_law 591 = .ok (.iaload, 1) := by decide +kernel
theorem dL_law_592 : decode cL_law 592 = .ok (.invokevirtual 121, 3) := by decide +kernel
theorem dL_law_595 : decode cL_law 595 = .ok (.istore 6, 2) := by decide +kernel
theorem dL_law_597 : decode cL_law 597 = .ok (.aload_n 2, 1) := by decide +kernel
theorem dL_law_598 : decode cL_law 598 = .ok (.invokevirtual 105, 3) := by decide +kernel
theorem dL_law_601 : decode cL_law 601 = .ok (.iload 5, 2) := by decide +kernel
theorem dL_law_603 : decode cL_law 603 = .ok (.if_icmp .eq 5, 3) := by decide +kernel
theorem dL_law_606 : decode cL_law 606 = .ok (.iconst 0, 1) := by decide +kernel
theorem dL_law_607 : decode cL_law 607 = .ok (.ireturn, 1) := by decide +kernel
theorem dL_law_608 : decode cL_law 608 = .ok (.iload 5, 2) := by decide +kernel
theorem dL_law_610 : decode cL_law 610 = .ok (.ifCond .ne 15, 3) := by decide +kernel
theorem dL_law_613 : decode cL_law 613 = .ok (.aload_n 3, 1) := by decide +kernel
theorem dL_law_614 : decode cL_law 614 = .ok (.iconst 0, 1) := by decide +kernel
theorem dL_law_615 : decode cL_law 615 = .ok (.laload, 1) := by decide +kernel
theorem dL_law_616 : decode cL_law 616 = .ok (.iload 6, 2) := by decide +kernel
theorem dL_law_618 : decode cL_law 618 = .ok (.i2l, 1) := by decide +kernel
theorem dL_law_619 : decode cL_law 619 = .ok (.lcmp, 1) := by decide +kernel
theorem dL_law_620 : decode cL_law 620 = .ok (.ifCond .eq 5, 3) := by decide +kernel
theorem dL_law_623 : decode cL_law 623 = .ok (.iconst 0, 1) := by decide +kernel
theorem dL_law_624 : decode cL_law 624 = .ok (.ireturn, 1) := by decide +kernel
theorem dL_law_625 : decode cL_law 625 = .ok (.goto 1283, 3) := by decide +kernel
theorem dL_law_628 : decode cL_law 628 = .ok (.aload_n 1, 1) := by decide +kernel
theorem dL_law_629 : decode cL_law 629 = .ok (.aload_n 0, 1) := by decide +kernel
theorem dL_law_630 : decode cL_law 630 = .ok (.iload 4, 2) := by decide +kernel
theorem dL_law_632 : decode cL_law 632 = .ok (.iconst 1, 1) := by decide +kernel
theorem dL_law_633 : decode cL_law 633 = .ok (.iadd, 1) := by decide +kernel
theorem dL_law_634 : decode cL_law 634 = .ok (.iaload, 1) := by decide +kernel
theorem dL_law_635 : decode cL_law 635 = .ok (.aload_n 0, 1) := by decide +kernel
theorem dL_law_636 : decode cL_law 636 = .ok (.iload 4, 2) := by decide +kernel
theorem dL_law_638 : decode cL_law 638 = .ok (.iconst 2, 1) := by decide +kernel
theorem dL_law_639 : decode cL_law 639 = .ok (.iadd, 1) := by decide +kernel
theorem dL_law_640 : decode cL_law 640 = .ok (.iaload, 1) := by decide +kernel
theorem dL_law_641 : decode cL_law 641 = .ok (.aload_n 3, 1) := by decide +kernel
theorem dL_law_642 : decode cL_law 642 = .ok (.invokestatic 122, 3) := by decide +kernel
theorem dL_law_645 : decode cL_law 645 = .ok (.istore 5, 2) := by decide +kernel
theorem dL_law_647 : decode cL_law 647 = .ok (.aload_n 2, 1) := by decide +kernel
theorem dL_law_648 : decode cL_law 648 = .ok (.aload_n 0, 1) := by decide +kernel
theorem dL_law_649 : decode cL_law 649 = .ok (.iload 4, 2) := by decide +kernel
theorem dL_law_651 : decode cL_law 651 = .ok (.iconst 1, 1) := by decide +kernel
theorem dL_law_652 : decode cL_law 652 = .ok (.iadd, 1) := by decide +kernel
theorem dL_law_653 : decode cL_law 653 = .ok (.iaload, 1) := by decide +kernel
theorem dL_law_654 : decode cL_law 654 = .ok (.aload_n 0, 1) := by decide +kernel
theorem dL_law_655 : decode cL_law 655 = .ok (.iload 4, 2) := by decide +kernel
theorem dL_law_657 : decode cL_law 657 = .ok (.iconst 2, 1) := by decide +kernel
theorem dL_law_658 : decode cL_law 658 = .ok (.iadd, 1) := by decide +kernel
theorem dL_law_659 : decode cL_law 659 = .ok (.iaload, 1) := by decide +kernel
theorem dL_law_660 : decode cL_law 660 = .ok (.invokevirtual 124, 3) := by decide +kernel
theorem dL_law_663 : decode cL_law 663 = .ok (.istore 6, 2) := by decide +kernel
theorem dL_law_665 : decode cL_law 665 = .ok (.aload_n 2, 1) := by decide +kernel
theorem dL_law_666 : decode cL_law 666 = .ok (.invokevirtual 105, 3) := by decide +kernel
theorem dL_law_669 : decode cL_law 669 = .ok (.iload 5, 2) := by decide +kernel
theorem dL_law_671 : decode cL_law 671 = .ok (.if_icmp .eq 5, 3) := by decide +kernel
theorem dL_law_674 : decode cL_law 674 = .ok (.iconst 0, 1) := by decide +kernel
theorem dL_law_675 : decode cL_law 675 = .ok (.ireturn, 1) := by decide +kernel
theorem dL_law_676 : decode cL_law 676 = .ok (.iload 5, 2) := by decide +kernel
theorem dL_law_678 : decode cL_law 678 = .ok (.ifCond .ne 15, 3) := by decide +kernel
theorem dL_law_681 : decode cL_law 681 = .ok (.aload_n 3, 1) := by decide +kernel
theorem dL_law_682 : decode cL_law 682 = .ok (.iconst 0, 1) := by decide +kernel
theorem dL_law_683 : decode cL_law 683 = .ok (.laload, 1) := by decide +kernel
theorem dL_law_684 : decode cL_law 684 = .ok (.iload 6, 2) := by decide +kernel
theorem dL_law_686 : decode cL_law 686 = .ok (.i2l, 1) := by decide +kernel
theorem dL_law_687 : decode cL_law 687 = .ok (.lcmp, 1) := by decide +kernel
theorem dL_law_688 : decode cL_law 688 = .ok (.ifCond .eq 5, 3) := by decide +kernel
theorem dL_law_691 : decode cL_law 691 = .ok (.iconst 0, 1) := by decide +kernel
theorem dL_law_692 : decode cL_law 692 = .ok (.ireturn, 1) := by decide +kernel
theorem dL_law_693 : decode cL_law 693 = .ok (.goto 1215, 3) := by decide +kernel
theorem dL_law_696 : decode cL_law 696 = .ok (.aload_n 1, 1) := by decide +kernel
theorem dL_law_697 : decode cL_law 697 = .ok (.aload_n 0, 1) := by decide +kernel
theorem dL_law_698 : decode cL_law 698 = .ok (.iload 4, 2) := by decide +kernel
theorem dL_law_700 : decode cL_law 700 = .ok (.iconst 1, 1) := by decide +kernel
theorem dL_law_701 : decode cL_law 701 = .ok (.iadd, 1) := by decide +kernel
theorem dL_law_702 : decode cL_law 702 = .ok (.iaload, 1) := by decide +kernel
theorem dL_law_703 : decode cL_law 703 = .ok (.aload_n 3, 1) := by decide +kernel
theorem dL_law_704 : decode cL_law 704 = .ok (.invokestatic 125, 3) := by decide +kernel
theorem dL_law_707 : decode cL_law 707 = .ok (.istore 5, 2) := by decide +kernel
theorem dL_law_709 : decode cL_law 709 = .ok (.aload_n 2, 1) := by decide +kernel
theorem dL_law_710 : decode cL_law 710 = .ok (.aload_n 0, 1) := by decide +kernel
theorem dL_law_711 : decode cL_law 711 = .ok (.iload 4, 2) := by decide +kernel
theorem dL_law_713 : decode cL_law 713 = .ok (.iconst 1, 1) := by decide +kernel
theorem dL_law_714 : decode cL_law 714 = .ok (.iadd, 1) := by decide +kernel
theorem dL_law_715 : decode cL_law 715 = .ok (.iaload, 1) := by decide +kernel
theorem dL_law_716 : decode cL_law 716 = .ok (.invokevirtual 128, 3) := by decide +kernel
theorem dL_law_719 : decode cL_law 719 = .ok (.istore 6, 2) := by decide +kernel
theorem dL_law_721 : decode cL_law 721 = .ok (.aload_n 2, 1) := by decide +kernel
theorem dL_law_722 : decode cL_law 722 = .ok (.invokevirtual 105, 3) := by decide +kernel
theorem dL_law_725 : decode cL_law 725 = .ok (.iload 5, 2) := by decide +kernel
theorem dL_law_727 : decode cL_law 727 = .ok (.if_icmp .eq 5, 3) := by decide +kernel
theorem dL_law_730 : decode cL_law 730 = .ok (.iconst 0, 1) := by decide +kernel
theorem dL_law_731 : decode cL_law 731 = .ok (.ireturn, 1) := by decide +kernel
theorem dL_law_732 : decode cL_law 732 = .ok (.iload 5, 2) := by decide +kernel
theorem dL_law_734 : decode cL_law 734 = .ok (.ifCond .ne 15, 3) := by decide +kernel
theorem dL_law_737 : decode cL_law 737 = .ok (.aload_n 3, 1) := by decide +kernel
theorem dL_law_738 : decode cL_law 738 = .ok (.iconst 0, 1) := by decide +kernel
theorem dL_law_739 : decode cL_law 739 = .ok (.laload, 1) := by decide +kernel
theorem dL_law_740 : decode cL_law 740 = .ok (.iload 6, 2) := by decide +kernel
theorem dL_law_742 : decode cL_law 742 = .ok (.i2l, 1) := by decide +kernel
theorem dL_law_743 : decode cL_law 743 = .ok (.lcmp, 1) := by decide +kernel
theorem dL_law_744 : decode cL_law 744 = .ok (.ifCond .eq 5, 3) := by decide +kernel
theorem dL_law_747 : decode cL_law 747 = .ok (.iconst 0, 1) := by decide +kernel
theorem dL_law_748 : decode cL_law 748 = .ok (.ireturn, 1) := by decide +kernel
theorem dL_law_749 : decode cL_law 749 = .ok (.goto 1159, 3) := by decide +kernel
theorem dL_law_752 : decode cL_law 752 = .ok (.aload_n 1, 1) := by decide +kernel
theorem dL_law_753 : decode cL_law 753 = .ok (.aload_n 0, 1) := by decide +kernel
theorem dL_law_754 : decode cL_law 754 = .ok (.iload 4, 2) := by decide +kernel
theorem dL_law_756 : decode cL_law 756 = .ok (.iconst 1, 1) := by decide +kernel
theorem dL_law_757 : decode cL_law 757 = .ok (.iadd, 1) := by decide +kernel
theorem dL_law_758 : decode cL_law 758 = .ok (.iaload, 1) := by decide +kernel
theorem dL_law_759 : decode cL_law 759 = .ok (.aload_n 0, 1) := by decide +kernel
theorem dL_law_760 : decode cL_law 760 = .ok (.iload 4, 2) := by decide +kernel
theorem dL_law_762 : decode cL_law 762 = .ok (.iconst 2, 1) := by decide +kernel
theorem dL_law_763 : decode cL_law 763 = .ok (.iadd, 1) := by decide +kernel
theorem dL_law_764 : decode cL_law 764 = .ok (.iaload, 1) := by decide +kernel
theorem dL_law_765 : decode cL_law 765 = .ok (.aload_n 3, 1) := by decide +kernel
theorem dL_law_766 : decode cL_law 766 = .ok (.invokestatic 129, 3) := by decide +kernel
theorem dL_law_769 : decode cL_law 769 = .ok (.istore 5, 2) := by decide +kernel
theorem dL_law_771 : decode cL_law 771 = .ok (.aload_n 2, 1) := by decide +kernel
theorem dL_law_772 : decode cL_law 772 = .ok (.aload_n 0, 1) := by decide +kernel
theorem dL_law_773 : decode cL_law 773 = .ok (.iload 4, 2) := by decide +kernel
theorem dL_law_775 : decode cL_law 775 = .ok (.iconst 1, 1) := by decide +kernel
theorem dL_law_776 : decode cL_law 776 = .ok (.iadd, 1) := by decide +kernel
theorem dL_law_777 : decode cL_law 777 = .ok (.iaload, 1) := by decide +kernel
theorem dL_law_778 : decode cL_law 778 = .ok (.aload_n 0, 1) := by decide +kernel
theorem dL_law_779 : decode cL_law 779 = .ok (.iload 4, 2) := by decide +kernel
theorem dL_law_781 : decode cL_law 781 = .ok (.iconst 2, 1) := by decide +kernel
theorem dL_law_782 : decode cL_law 782 = .ok (.iadd, 1) := by decide +kernel
theorem dL_law_783 : decode cL_law 783 = .ok (.iaload, 1) := by decide +kernel
theorem dL_law_784 : decode cL_law 784 = .ok (.invokevirtual 131, 3) := by decide +kernel
theorem dL_law_787 : decode cL_law 787 = .ok (.istore 6, 2) := by decide +kernel
theorem dL_law_789 : decode cL_law 789 = .ok (.aload_n 2, 1) := by decide +kernel
theorem dL_law_790 : decode cL_law 790 = .ok (.invokevirtual 105, 3) := by decide +kernel
theorem dL_law_793 : decode cL_law 793 = .ok (.iload 5, 2) := by decide +kernel
theorem dL_law_795 : decode cL_law 795 = .ok (.if_icmp .eq 5, 3) := by decide +kernel
theorem dL_law_798 : decode cL_law 798 = .ok (.iconst 0, 1) := by decide +kernel
theorem dL_law_799 : decode cL_law 799 = .ok (.ireturn, 1) := by decide +kernel
theorem dL_law_800 : decode cL_law 800 = .ok (.iload 5, 2) := by decide +kernel
theorem dL_law_802 : decode cL_law 802 = .ok (.ifCond .ne 15, 3) := by decide +kernel
theorem dL_law_805 : decode cL_law 805 = .ok (.aload_n 3, 1) := by decide +kernel
theorem dL_law_806 : decode cL_law 806 = .ok (.iconst 0, 1) := by decide +kernel
theorem dL_law_807 : decode cL_law 807 = .ok (.laload, 1) := by decide +kernel
theorem dL_law_808 : decode cL_law 808 = .ok (.iload 6, 2) := by decide +kernel
theorem dL_law_810 : decode cL_law 810 = .ok (.i2l, 1) := by decide +kernel
theorem dL_law_811 : decode cL_law 811 = .ok (.lcmp, 1) := by decide +kernel
theorem dL_law_812 : decode cL_law 812 = .ok (.ifCond .eq 5, 3) := by decide +kernel
theorem dL_law_815 : decode cL_law 815 = .ok (.iconst 0, 1) := by decide +kernel
theorem dL_law_816 : decode cL_law 816 = .ok (.ireturn, 1) := by decide +kernel
theorem dL_law_817 : decode cL_law 817 = .ok (.goto 1091, 3) := by decide +kernel
theorem dL_law_820 : decode cL_law 820 = .ok (.aload_n 1, 1) := by decide +kernel
theorem dL_law_821 : decode cL_law 821 = .ok (.aload_n 0, 1) := by decide +kernel
theorem dL_law_822 : decode cL_law 822 = .ok (.iload 4, 2) := by decide +kernel
theorem dL_law_824 : decode cL_law 824 = .ok (.iconst 1, 1) := by decide +kernel
theorem dL_law_825 : decode cL_law 825 = .ok (.iadd, 1) := by decide +kernel
theorem dL_law_826 : decode cL_law 826 = .ok (.iaload, 1) := by decide +kernel
theorem dL_law_827 : decode cL_law 827 = .ok (.aload_n 0, 1) := by decide +kernel
theorem dL_law_828 : decode cL_law 828 = .ok (.iload 4, 2) := by decide +kernel
theorem dL_law_830 : decode cL_law 830 = .ok (.iconst 2, 1) := by decide +kernel
theorem dL_law_831 : decode cL_law 831 = .ok (.iadd, 1) := by decide +kernel
theorem dL_law_832 : decode cL_law 832 = .ok (.iaload, 1) := by decide +kernel
theorem dL_law_833 : decode cL_law 833 = .ok (.aload_n 3, 1) := by decide +kernel
theorem dL_law_834 : decode cL_law 834 = .ok (.invokestatic 132, 3) := by decide +kernel
theorem dL_law_837 : decode cL_law 837 = .ok (.istore 5, 2) := by decide +kernel
theorem dL_law_839 : decode cL_law 839 = .ok (.aload_n 2, 1) := by decide +kernel
theorem dL_law_840 : decode cL_law 840 = .ok (.aload_n 0, 1) := by decide +kernel
theorem dL_law_841 : decode cL_law 841 = .ok (.iload 4, 2) := by decide +kernel
theorem dL_law_843 : decode cL_law 843 = .ok (.iconst 1, 1) := by decide +kernel
theorem dL_law_844 : decode cL_law 844 = .ok (.iadd, 1) := by decide +kernel
theorem dL_law_845 : decode cL_law 845 = .ok (.iaload, 1) := by decide +kernel
theorem dL_law_846 : decode cL_law 846 = .ok (.aload_n 0, 1) := by decide +kernel
theorem dL_law_847 : decode cL_law 847 = .ok (.iload 4, 2) := by decide +kernel
theorem dL_law_849 : decode cL_law 849 = .ok (.iconst 2, 1) := by decide +kernel
theorem dL_law_850 : decode cL_law 850 = .ok (.iadd, 1) := by decide +kernel
theorem dL_law_851 : decode cL_law 851 = .ok (.iaload, 1) := by decide +kernel
theorem dL_law_852 : decode cL_law 852 = .ok (.invokevirtual 134, 3) := by decide +kernel
theorem dL_law_855 : decode cL_law 855 = .ok (.istore 6, 2) := by decide +kernel
theorem dL_law_857 : decode cL_law 857 = .ok (.aload_n 2, 1) := by decide +kernel
theorem dL_law_858 : decode cL_law 858 = .ok (.invokevirtual 105, 3) := by decide +kernel
theorem dL_law_861 : decode cL_law 861 = .ok (.iload 5, 2) := by decide +kernel
theorem dL_law_863 : decode cL_law 863 = .ok (.if_icmp .eq 5, 3) := by decide +kernel
theorem dL_law_866 : decode cL_law 866 = .ok (.iconst 0, 1) := by decide +kernel
theorem dL_law_867 : decode cL_law 867 = .ok (.ireturn, 1) := by decide +kernel
theorem dL_law_868 : decode cL_law 868 = .ok (.iload 5, 2) := by decide +kernel
theorem dL_law_870 : decode cL_law 870 = .ok (.ifCond .ne 15, 3) := by decide +kernel
theorem dL_law_873 : decode cL_law 873 = .ok (.aload_n 3, 1) := by decide +kernel
theorem dL_law_874 : decode cL_law 874 = .ok (.iconst 0, 1) := by decide +kernel
theorem dL_law_875 : decode cL_law 875 = .ok (.laload, 1) := by decide +kernel
theorem dL_law_876 : decode cL_law 876 = .ok (.iload 6, 2) := by decide +kernel
theorem dL_law_878 : decode cL_law 878 = .ok (.i2l, 1) := by decide +kernel
theorem dL_law_879 : decode cL_law 879 = .ok (.lcmp, 1) := by decide +kernel
theorem dL_law_880 : decode cL_law 880 = .ok (.ifCond .eq 5, 3) := by decide +kernel
theorem dL_law_883 : decode cL_law 883 = .ok (.iconst 0, 1) := by decide +kernel
theorem dL_law_884 : decode cL_law 884 = .ok (.ireturn, 1) := by decide +kernel
theorem dL_law_885 : decode cL_law 885 = .ok (.goto 1023, 3) := by decide +kernel
theorem dL_law_888 : decode cL_law 888 = .ok (.aload_n 1, 1) := by decide +kernel
theorem dL_law_889 : decode cL_law 889 = .ok (.aload_n 0, 1) := by decide +kernel
theorem dL_law_890 : decode cL_law 890 = .ok (.iload 4, 2) := by decide +kernel
theorem dL_law_892 : decode cL_law 892 = .ok (.iconst 1, 1) := by decide +kernel
theorem dL_law_893 : decode cL_law 893 = .ok (.iadd, 1) := by decide +kernel
theorem dL_law_894 : decode cL_law 894 = .ok (.iaload, 1) := by decide +kernel
theorem dL_law_895 : decode cL_law 895 = .ok (.aload_n 3, 1) := by decide +kernel
theorem dL_law_896 : decode cL_law 896 = .ok (.invokestatic 135, 3) := by decide +kernel
theorem dL_law_899 : decode cL_law 899 = .ok (.istore 5, 2) := by decide +kernel
theorem dL_law_901 : decode cL_law 901 = .ok (.aload_n 2, 1) := by decide +kernel
theorem dL_law_902 : decode cL_law 902 = .ok (.aload_n 0, 1) := by decide +kernel
theorem dL_law_903 : decode cL_law 903 = .ok (.iload 4, 2) := by decide +kernel
theorem dL_law_905 : decode cL_law 905 = .ok (.iconst 1, 1) := by decide +kernel
theorem dL_law_906 : decode cL_law 906 = .ok (.iadd, 1) := by decide +kernel
theorem dL_law_907 : decode cL_law 907 = .ok (.iaload, 1) := by decide +kernel
theorem dL_law_908 : decode cL_law 908 = .ok (.invokevirtual 137, 3) := by decide +kernel
theorem dL_law_911 : decode cL_law 911 = .ok (.istore 6, 2) := by decide +kernel
theorem dL_law_913 : decode cL_law 913 = .ok (.aload_n 2, 1) := by decide +kernel
theorem dL_law_914 : decode cL_law 914 = .ok (.invokevirtual 105, 3) := by decide +kernel
theorem dL_law_917 : decode cL_law 917 = .ok (.iload 5, 2) := by decide +kernel
theorem dL_law_919 : decode cL_law 919 = .ok (.if_icmp .eq 5, 3) := by decide +kernel
theorem dL_law_922 : decode cL_law 922 = .ok (.iconst 0, 1) := by decide +kernel
theorem dL_law_923 : decode cL_law 923 = .ok (.ireturn, 1) := by decide +kernel
theorem dL_law_924 : decode cL_law 924 = .ok (.iload 5, 2) := by decide +kernel
theorem dL_law_926 : decode cL_law 926 = .ok (.ifCond .ne 15, 3) := by decide +kernel
theorem dL_law_929 : decode cL_law 929 = .ok (.aload_n 3, 1) := by decide +kernel
theorem dL_law_930 : decode cL_law 930 = .ok (.iconst 0, 1) := by decide +kernel
theorem dL_law_931 : decode cL_law 931 = .ok (.laload, 1) := by decide +kernel
theorem dL_law_932 : decode cL_law 932 = .ok (.iload 6, 2) := by decide +kernel
theorem dL_law_934 : decode cL_law 934 = .ok (.i2l, 1) := by decide +kernel
theorem dL_law_935 : decode cL_law 935 = .ok (.lcmp, 1) := by decide +kernel
theorem dL_law_936 : decode cL_law 936 = .ok (.ifCond .eq 5, 3) := by decide +kernel
theorem dL_law_939 : decode cL_law 939 = .ok (.iconst 0, 1) := by decide +kernel
theorem dL_law_940 : decode cL_law 940 = .ok (.ireturn, 1) := by decide +kernel
theorem dL_law_941 : decode cL_law 941 = .ok (.goto 967, 3) := by decide +kernel
theorem dL_law_944 : decode cL_law 944 = .ok (.aload_n 1, 1) := by decide +kernel
theorem dL_law_945 : decode cL_law 945 = .ok (.aload_n 0, 1) := by decide +kernel
theorem dL_law_946 : decode cL_law 946 = .ok (.iload 4, 2) := by decide +kernel
theorem dL_law_948 : decode cL_law 948 = .ok (.iconst 1, 1) := by decide +kernel
theorem dL_law_949 : decode cL_law 949 = .ok (.iadd, 1) := by decide +kernel
theorem dL_law_950 : decode cL_law 950 = .ok (.iaload, 1) := by decide +kernel
theorem dL_law_951 : decode cL_law 951 = .ok (.aload_n 3, 1) := by decide +kernel
theorem dL_law_952 : decode cL_law 952 = .ok (.invokestatic 138, 3) := by decide +kernel
theorem dL_law_955 : decode cL_law 955 = .ok (.istore 5, 2) := by decide +kernel
theorem dL_law_957 : decode cL_law 957 = .ok (.aload_n 2, 1) := by decide +kernel
theorem dL_law_958 : decode cL_law 958 = .ok (.aload_n 0, 1) := by decide +kernel
theorem dL_law_959 : decode cL_law 959 = .ok (.iload 4, 2) := by decide +kernel
theorem dL_law_961 : decode cL_law 961 = .ok (.iconst 1, 1) := by decide +kernel
theorem dL_law_962 : decode cL_law 962 = .ok (.iadd, 1) := by decide +kernel
theorem dL_law_963 : decode cL_law 963 = .ok (.iaload, 1) := by decide +kernel
theorem dL_law_964 : decode cL_law 964 = .ok (.invokevirtual 140, 3) := by decide +kernel
theorem dL_law_967 : decode cL_law 967 = .ok (.istore 6, 2) := by decide +kernel
theorem dL_law_969 : decode cL_law 969 = .ok (.aload_n 2, 1) := by decide +kernel
theorem dL_law_970 : decode cL_law 970 = .ok (.invokevirtual 105, 3) := by decide +kernel
theorem dL_law_973 : decode cL_law 973 = .ok (.iload 5, 2) := by decide +kernel
theorem dL_law_975 : decode cL_law 975 = .ok (.if_icmp .eq 5, 3) := by decide +kernel
theorem dL_law_978 : decode cL_law 978 = .ok (.iconst 0, 1) := by decide +kernel
end
section
theorem dL_law_979 : decode cL_law 979 = .ok (.ireturn, 1) := by decide +kernel
theorem dL_law_980 : decode cL_law 980 = .ok (.iload 5, 2) := by decide +kernel
theorem dL_law_982 : decode cL_law 982 = .ok (.ifCond .ne 15, 3) := by decide +kernel
theorem dL_law_985 : decode cL_law 985 = .ok (.aload_n 3, 1) := by decide +kernel
theorem dL_law_986 : decode cL_law 986 = .ok (.iconst 0, 1) := by decide +kernel
theorem dL_law_987 : decode cL_law 987 = .ok (.laload, 1) := by decide +kernel
theorem dL_law_988 : decode cL_law 988 = .ok (.iload 6, 2) := by decide +kernel
theorem dL_law_990 : decode cL_law 990 = .ok (.i2l, 1) := by decide +kernel
theorem dL_law_991 : decode cL_law 991 = .ok (.lcmp, 1) := by decide +kernel
theorem dL_law_992 : decode cL_law 992 = .ok (.ifCond .eq 5, 3) := by decide +kernel
theorem dL_law_995 : decode cL_law 995 = .ok (.iconst 0, 1) := by decide +kernel
theorem dL_law_996 : decode cL_law 996 = .ok (.ireturn, 1) := by decide +kernel
theorem dL_law_997 : decode cL_law 997 = .ok (.goto 911, 3) := by decide +kernel
theorem dL_law_1000 : decode cL_law 1000 = .ok (.aload_n 1, 1) := by decide +kernel
theorem dL_law_1001 : decode cL_law 1001 = .ok (.aload_n 0, 1) := by decide +kernel
theorem dL_law_1002 : decode cL_law 1002 = .ok (.iload 4, 2) := by decide +kernel
theorem dL_law_1004 : decode cL_law 1004 = .ok (.iconst 1, 1) := by decide +kernel
theorem dL_law_1005 : decode cL_law 1005 = .ok (.iadd, 1) := by decide +kernel
theorem dL_law_1006 : decode cL_law 1006 = .ok (.iaload, 1) := by decide +kernel
theorem dL_law_1007 : decode cL_law 1007 = .ok (.aload_n 3, 1) := by decide +kernel
theorem dL_law_1008 : decode cL_law 1008 = .ok (.invokestatic 141, 3) := by decide +kernel
theorem dL_law_1011 : decode cL_law 1011 = .ok (.istore 5, 2) := by decide +kernel
theorem dL_law_1013 : decode cL_law 1013 = .ok (.aload_n 2, 1) := by decide +kernel
theorem dL_law_1014 : decode cL_law 1014 = .ok (.aload_n 0, 1) := by decide +kernel
theorem dL_law_1015 : decode cL_law 1015 = .ok (.iload 4, 2) := by decide +kernel
theorem dL_law_1017 : decode cL_law 1017 = .ok (.iconst 1, 1) := by decide +kernel
theorem dL_law_1018 : decode cL_law 1018 = .ok (.iadd, 1) := by decide +kernel
theorem dL_law_1019 : decode cL_law 1019 = .ok (.iaload, 1) := by decide +kernel
theorem dL_law_1020 : decode cL_law 1020 = .ok (.invokevirtual 143, 3) := by decide +kernel
theorem dL_law_1023 : decode cL_law 1023 = .ok (.istore 6, 2) := by decide +kernel
theorem dL_law_1025 : decode cL_law 1025 = .ok (.aload_n 2, 1) := by decide +kernel
theorem dL_law_1026 : decode cL_law 1026 = .ok (.invokevirtual 105, 3) := by decide +kernel
theorem dL_law_1029 : decode cL_law 1029 = .ok (.iload 5, 2) := by decide +kernel
theorem dL_law_1031 : decode cL_law 1031 = .ok (.if_icmp .eq 5, 3) := by decide +kernel
theorem dL_law_1034 : decode cL_law 1034 = .ok (.iconst 0, 1) := by decide +kernel
theorem dL_law_1035 : decode cL_law 1035 = .ok (.ireturn, 1) := by decide +kernel
theorem dL_law_1036 : decode cL_law 1036 = .ok (.iload 5, 2) := by decide +kernel
theorem dL_law_1038 : decode cL_law 1038 = .ok (.ifCond .ne 15, 3) := by decide +kernel
theorem dL_law_1041 : decode cL_law 1041 = .ok (.aload_n 3, 1) := by decide +kernel
theorem dL_law_1042 : decode cL_law 1042 = .ok (.iconst 0, 1) := by decide +kernel
theorem dL_law_1043 : decode cL_law 1043 = .ok (.laload, 1) := by decide +kernel
theorem dL_law_1044 : decode cL_law 1044 = .ok (.iload 6, 2) := by decide +kernel
theorem dL_law_1046 : decode cL_law 1046 = .ok (.i2l, 1) := by decide +kernel
theorem dL_law_1047 : decode cL_law 1047 = .ok (.lcmp, 1) := by decide +kernel
theorem dL_law_1048 : decode cL_law 1048 = .ok (.ifCond .eq 5, 3) := by decide +kernel
theorem dL_law_1051 : decode cL_law 1051 = .ok (.iconst 0, 1) := by decide +kernel
theorem dL_law_1052 : decode cL_law 1052 = .ok (.ireturn, 1) := by decide +kernel
theorem dL_law_1053 : decode cL_law 1053 = .ok (.goto 855, 3) := by decide +kernel
theorem dL_law_1056 : decode cL_law 1056 = .ok (.aload_n 1, 1) := by decide +kernel
theorem dL_law_1057 : decode cL_law 1057 = .ok (.aload_n 0, 1) := by decide +kernel
theorem dL_law_1058 : decode cL_law 1058 = .ok (.iload 4, 2) := by decide +kernel
theorem dL_law_1060 : decode cL_law 1060 = .ok (.iconst 1, 1) := by decide +kernel
theorem dL_law_1061 : decode cL_law 1061 = .ok (.iadd, 1) := by decide +kernel
theorem dL_law_1062 : decode cL_law 1062 = .ok (.iaload, 1) := by decide +kernel
theorem dL_law_1063 : decode cL_law 1063 = .ok (.aload_n 3, 1) := by decide +kernel
theorem dL_law_1064 : decode cL_law 1064 = .ok (.invokestatic 144, 3) := by decide +kernel
theorem dL_law_1067 : decode cL_law 1067 = .ok (.istore 5, 2) := by decide +kernel
theorem dL_law_1069 : decode cL_law 1069 = .ok (.aload_n 2, 1) := by decide +kernel
theorem dL_law_1070 : decode cL_law 1070 = .ok (.aload_n 0, 1) := by decide +kernel
theorem dL_law_1071 : decode cL_law 1071 = .ok (.iload 4, 2) := by decide +kernel
theorem dL_law_1073 : decode cL_law 1073 = .ok (.iconst 1, 1) := by decide +kernel
theorem dL_law_1074 : decode cL_law 1074 = .ok (.iadd, 1) := by decide +kernel
theorem dL_law_1075 : decode cL_law 1075 = .ok (.iaload, 1) := by decide +kernel
theorem dL_law_1076 : decode cL_law 1076 = .ok (.invokevirtual 146, 3) := by decide +kernel
theorem dL_law_1079 : decode cL_law 1079 = .ok (.istore 6, 2) := by decide +kernel
theorem dL_law_1081 : decode cL_law 1081 = .ok (.aload_n 2, 1) := by decide +kernel
theorem dL_law_1082 : decode cL_law 1082 = .ok (.invokevirtual 105, 3) := by decide +kernel
theorem dL_law_1085 : decode cL_law 1085 = .ok (.iload 5, 2) := by decide +kernel
theorem dL_law_1087 : decode cL_law 1087 = .ok (.if_icmp .eq 5, 3) := by decide +kernel
theorem dL_law_1090 : decode cL_law 1090 = .ok (.iconst 0, 1) := by decide +kernel
theorem dL_law_1091 : decode cL_law 1091 = .ok (.ireturn, 1) := by decide +kernel
theorem dL_law_1092 : decode cL_law 1092 = .ok (.iload 5, 2) := by decide +kernel
theorem dL_law_1094 : decode cL_law 1094 = .ok (.ifCond .ne 22, 3) := by decide +kernel
theorem dL_law_1097 : decode cL_law 1097 = .ok (.aload_n 3, 1) := by decide +kernel
theorem dL_law_1098 : decode cL_law 1098 = .ok (.iconst 0, 1) := by decide +kernel
theorem dL_law_1099 : decode cL_law 1099 = .ok (.laload, 1) := by decide +kernel
theorem dL_law_1100 : decode cL_law 1100 = .ok (.iload 6, 2) := by decide +kernel
theorem dL_law_1102 : decode cL_law 1102 = .ok (.ifCond .eq 7, 3) := by decide +kernel
theorem dL_law_1105 : decode cL_law 1105 = .ok (.lconst 1, 1) := by decide +kernel
theorem dL_law_1106 : decode cL_law 1106 = .ok (.goto 4, 3) := by decide +kernel
theorem dL_law_1109 : decode cL_law 1109 = .ok (.lconst 0, 1) := by decide +kernel
theorem dL_law_1110 : decode cL_law 1110 = .ok (.lcmp, 1) := by decide +kernel
theorem dL_law_1111 : decode cL_law 1111 = .ok (.ifCond .eq 5, 3) := by decide +kernel
theorem dL_law_1114 : decode cL_law 1114 = .ok (.iconst 0, 1) := by decide +kernel
theorem dL_law_1115 : decode cL_law 1115 = .ok (.ireturn, 1) := by decide +kernel
theorem dL_law_1116 : decode cL_law 1116 = .ok (.goto 792, 3) := by decide +kernel
theorem dL_law_1119 : decode cL_law 1119 = .ok (.aload_n 1, 1) := by decide +kernel
theorem dL_law_1120 : decode cL_law 1120 = .ok (.aload_n 0, 1) := by decide +kernel
theorem dL_law_1121 : decode cL_law 1121 = .ok (.iload 4, 2) := by decide +kernel
theorem dL_law_1123 : decode cL_law 1123 = .ok (.iconst 1, 1) := by decide +kernel
theorem dL_law_1124 : decode cL_law 1124 = .ok (.iadd, 1) := by decide +kernel
theorem dL_law_1125 : decode cL_law 1125 = .ok (.iaload, 1) := by decide +kernel
theorem dL_law_1126 : decode cL_law 1126 = .ok (.aload_n 0, 1) := by decide +kernel
theorem dL_law_1127 : decode cL_law 1127 = .ok (.iload 4, 2) := by decide +kernel
theorem dL_law_1129 : decode cL_law 1129 = .ok (.iconst 2, 1) := by decide +kernel
theorem dL_law_1130 : decode cL_law 1130 = .ok (.iadd, 1) := by decide +kernel
theorem dL_law_1131 : decode cL_law 1131 = .ok (.iaload, 1) := by decide +kernel
theorem dL_law_1132 : decode cL_law 1132 = .ok (.aload_n 0, 1) := by decide +kernel
theorem dL_law_1133 : decode cL_law 1133 = .ok (.iload 4, 2) := by decide +kernel
theorem dL_law_1135 : decode cL_law 1135 = .ok (.iconst 3, 1) := by decide +kernel
theorem dL_law_1136 : decode cL_law 1136 = .ok (.iadd, 1) := by decide +kernel
theorem dL_law_1137 : decode cL_law 1137 = .ok (.iaload, 1) := by decide +kernel
theorem dL_law_1138 : decode cL_law 1138 = .ok (.aload_n 0, 1) := by decide +kernel
theorem dL_law_1139 : decode cL_law 1139 = .ok (.iload 4, 2) := by decide +kernel
theorem dL_law_1141 : decode cL_law 1141 = .ok (.iconst 4, 1) := by decide +kernel
theorem dL_law_1142 : decode cL_law 1142 = .ok (.iadd, 1) := by decide +kernel
theorem dL_law_1143 : decode cL_law 1143 = .ok (.iaload, 1) := by decide +kernel
theorem dL_law_1144 : decode cL_law 1144 = .ok (.aload_n 3, 1) := by decide +kernel
theorem dL_law_1145 : decode cL_law 1145 = .ok (.invokestatic 147, 3) := by decide +kernel
theorem dL_law_1148 : decode cL_law 1148 = .ok (.istore 5, 2) := by decide +kernel
theorem dL_law_1150 : decode cL_law 1150 = .ok (.aload_n 2, 1) := by decide +kernel
theorem dL_law_1151 : decode cL_law 1151 = .ok (.aload_n 0, 1) := by decide +kernel
theorem dL_law_1152 : decode cL_law 1152 = .ok (.iload 4, 2) := by decide +kernel
theorem dL_law_1154 : decode cL_law 1154 = .ok (.iconst 1, 1) := by decide +kernel
theorem dL_law_1155 : decode cL_law 1155 = .ok (.iadd, 1) := by decide +kernel
theorem dL_law_1156 : decode cL_law 1156 = .ok (.iaload, 1) := by decide +kernel
theorem dL_law_1157 : decode cL_law 1157 = .ok (.aload_n 0, 1) := by decide +kernel
theorem dL_law_1158 : decode cL_law 1158 = .ok (.iload 4, 2) := by decide +kernel
theorem dL_law_1160 : decode cL_law 1160 = .ok (.iconst 2, 1) := by decide +kernel
theorem dL_law_1161 : decode cL_law 1161 = .ok (.iadd, 1) := by decide +kernel
theorem dL_law_1162 : decode cL_law 1162 = .ok (.iaload, 1) := by decide +kernel
theorem dL_law_1163 : decode cL_law 1163 = .ok (.aload_n 0, 1) := by decide +kernel
theorem dL_law_1164 : decode cL_law 1164 = .ok (.iload 4, 2) := by decide +kernel
theorem dL_law_1166 : decode cL_law 1166 = .ok (.iconst 3, 1) := by decide +kernel
theorem dL_law_1167 : decode cL_law 1167 = .ok (.iadd, 1) := by decide +kernel
theorem dL_law_1168 : decode cL_law 1168 = .ok (.iaload, 1) := by decide +kernel
theorem dL_law_1169 : decode cL_law 1169 = .ok (.aload_n 0, 1) := by decide +kernel
theorem dL_law_1170 : decode cL_law 1170 = .ok (.iload 4, 2) := by decide +kernel
theorem dL_law_1172 : decode cL_law 1172 = .ok (.iconst 4, 1) := by decide +kernel
theorem dL_law_1173 : decode cL_law 1173 = .ok (.iadd, 1) := by decide +kernel
theorem dL_law_1174 : decode cL_law 1174 = .ok (.iaload, 1) := by decide +kernel
theorem dL_law_1175 : decode cL_law 1175 = .ok (.invokevirtual 150, 3) := by decide +kernel
theorem dL_law_1178 : decode cL_law 1178 = .ok (.istore 6, 2) := by decide +kernel
theorem dL_law_1180 : decode cL_law 1180 = .ok (.aload_n 2, 1) := by decide +kernel
theorem dL_law_1181 : decode cL_law 1181 = .ok (.invokevirtual 105, 3) := by decide +kernel
theorem dL_law_1184 : decode cL_law 1184 = .ok (.iload 5, 2) := by decide +kernel
theorem dL_law_1186 : decode cL_law 1186 = .ok (.if_icmp .eq 5, 3) := by decide +kernel
theorem dL_law_1189 : decode cL_law 1189 = .ok (.iconst 0, 1) := by decide +kernel
theorem dL_law_1190 : decode cL_law 1190 = .ok (.ireturn, 1) := by decide +kernel
theorem dL_law_1191 : decode cL_law 1191 = .ok (.iload 5, 2) := by decide +kernel
theorem dL_law_1193 : decode cL_law 1193 = .ok (.ifCond .ne 15, 3) := by decide +kernel
theorem dL_law_1196 : decode cL_law 1196 = .ok (.aload_n 3, 1) := by decide +kernel
theorem dL_law_1197 : decode cL_law 1197 = .ok (.iconst 0, 1) := by decide +kernel
theorem dL_law_1198 : decode cL_law 1198 = .ok (.laload, 1) := by decide +kernel
theorem dL_law_1199 : decode cL_law 1199 = .ok (.iload 6, 2) := by decide +kernel
theorem dL_law_1201 : decode cL_law 1201 = .ok (.i2l, 1) := by decide +kernel
theorem dL_law_1202 : decode cL_law 1202 = .ok (.lcmp, 1) := by decide +kernel
theorem dL_law_1203 : decode cL_law 1203 = .ok (.ifCond .eq 5, 3) := by decide +kernel
theorem dL_law_1206 : decode cL_law 1206 = .ok (.iconst 0, 1) := by decide +kernel
theorem dL_law_1207 : decode cL_law 1207 = .ok (.ireturn, 1) := by decide +kernel
theorem dL_law_1208 : decode cL_law 1208 = .ok (.goto 700, 3) := by decide +kernel
theorem dL_law_1211 : decode cL_law 1211 = .ok (.aload_n 1, 1) := by decide +kernel
theorem dL_law_1212 : decode cL_law 1212 = .ok (.aload_n 0, 1) := by decide +kernel
theorem dL_law_1213 : decode cL_law 1213 = .ok (.iload 4, 2) := by decide +kernel
theorem dL_law_1215 : decode cL_law 1215 = .ok (.iconst 1, 1) := by decide +kernel
theorem dL_law_1216 : decode cL_law 1216 = .ok (.iadd, 1) := by decide +kernel
theorem dL_law_1217 : decode cL_law 1217 = .ok (.iaload, 1) := by decide +kernel
theorem dL_law_1218 : decode cL_law 1218 = .ok (.aload_n 3, 1) := by decide +kernel
theorem dL_law_1219 : decode cL_law 1219 = .ok (.invokestatic 151, 3) := by decide +kernel
theorem dL_law_1222 : decode cL_law 1222 = .ok (.istore 5, 2) := by decide +kernel
theorem dL_law_1224 : decode cL_law 1224 = .ok (.aload_n 2, 1) := by decide +kernel
theorem dL_law_1225 : decode cL_law 1225 = .ok (.aload_n 0, 1) := by decide +kernel
theorem dL_law_1226 : decode cL_law 1226 = .ok (.iload 4, 2) := by decide +kernel
theorem dL_law_1228 : decode cL_law 1228 = .ok (.iconst 1, 1) := by decide +kernel
theorem dL_law_1229 : decode cL_law 1229 = .ok (.iadd, 1) := by decide +kernel
theorem dL_law_1230 : decode cL_law 1230 = .ok (.iaload, 1) := by decide +kernel
theorem dL_law_1231 : decode cL_law 1231 = .ok (.invokevirtual 153, 3) := by decide +kernel
theorem dL_law_1234 : decode cL_law 1234 = .ok (.istore 6, 2) := by decide +kernel
theorem dL_law_1236 : decode cL_law 1236 = .ok (.aload_n 2, 1) := by decide +kernel
theorem dL_law_1237 : decode cL_law 1237 = .ok (.invokevirtual 105, 3) := by decide +kernel
theorem dL_law_1240 : decode cL_law 1240 = .ok (.iload 5, 2) := by decide +kernel
theorem dL_law_1242 : decode cL_law 1242 = .ok (.if_icmp .eq 5, 3) := by decide +kernel
theorem dL_law_1245 : decode cL_law 1245 = .ok (.iconst 0, 1) := by decide +kernel
theorem dL_law_1246 : decode cL_law 1246 = .ok (.ireturn, 1) := by decide +kernel
theorem dL_law_1247 : decode cL_law 1247 = .ok (.iload 5, 2) := by decide +kernel
theorem dL_law_1249 : decode cL_law 1249 = .ok (.ifCond .ne 15, 3) := by decide +kernel
theorem dL_law_1252 : decode cL_law 1252 = .ok (.aload_n 3, 1) := by decide +kernel
theorem dL_law_1253 : decode cL_law 1253 = .ok (.iconst 0, 1) := by decide +kernel
theorem dL_law_1254 : decode cL_law 1254 = .ok (.laload, 1) := by decide +kernel
theorem dL_law_1255 : decode cL_law 1255 = .ok (.iload 6, 2) := by decide +kernel
theorem dL_law_1257 : decode cL_law 1257 = .ok (.i2l, 1) := by decide +kernel
theorem dL_law_1258 : decode cL_law 1258 = .ok (.lcmp, 1) := by decide +kernel
theorem dL_law_1259 : decode cL_law 1259 = .ok (.ifCond .eq 5, 3) := by decide +kernel
theorem dL_law_1262 : decode cL_law 1262 = .ok (.iconst 0, 1) := by decide +kernel
theorem dL_law_1263 : decode cL_law 1263 = .ok (.ireturn, 1) := by decide +kernel
theorem dL_law_1264 : decode cL_law 1264 = .ok (.goto 644, 3) := by decide +kernel
theorem dL_law_1267 : decode cL_law 1267 = .ok (.aload_n 1, 1) := by decide +kernel
theorem dL_law_1268 : decode cL_law 1268 = .ok (.aload_n 3, 1) := by decide +kernel
theorem dL_law_1269 : decode cL_law 1269 = .ok (.invokestatic 154, 3) := by decide +kernel
theorem dL_law_1272 : decode cL_law 1272 = .ok (.istore 5, 2) := by decide +kernel
theorem dL_law_1274 : decode cL_law 1274 = .ok (.aload_n 2, 1) := by decide +kernel
theorem dL_law_1275 : decode cL_law 1275 = .ok (.invokevirtual 157, 3) := by decide +kernel
theorem dL_law_1278 : decode cL_law 1278 = .ok (.istore 6, 2) := by decide +kernel
theorem dL_law_1280 : decode cL_law 1280 = .ok (.aload_n 2, 1) := by decide +kernel
theorem dL_law_1281 : decode cL_law 1281 = .ok (.invokevirtual 105, 3) := by decide +kernel
theorem dL_law_1284 : decode cL_law 1284 = .ok (.iload 5, 2) := by decide +kernel
theorem dL_law_1286 : decode cL_law 1286 = .ok (.if_icmp .eq 5, 3) := by decide +kernel
theorem dL_law_1289 : decode cL_law 1289 = .ok (.iconst 0, 1) := by decide +kernel
theorem dL_law_1290 : decode cL_law 1290 = .ok (.ireturn, 1) := by decide +kernel
theorem dL_law_1291 : decode cL_law 1291 = .ok (.iload 5, 2) := by decide +kernel
theorem dL_law_1293 : decode cL_law 1293 = .ok (.ifCond .ne 15, 3) := by decide +kernel
theorem dL_law_1296 : decode cL_law 1296 = .ok (.aload_n 3, 1) := by decide +kernel
theorem dL_law_1297 : decode cL_law 1297 = .ok (.iconst 0, 1) := by decide +kernel
theorem dL_law_1298 : decode cL_law 1298 = .ok (.laload, 1) := by decide +kernel
theorem dL_law_1299 : decode cL_law 1299 = .ok (.iload 6, 2) := by decide +kernel
theorem dL_law_1301 : decode cL_law 1301 = .ok (.i2l, 1) := by decide +kernel
theorem dL_law_1302 : decode cL_law 1302 = .ok (.lcmp, 1) := by decide +kernel
theorem dL_law_1303 : decode cL_law 1303 = .ok (.ifCond .eq 5, 3) := by decide +kernel
theorem dL_law_1306 : decode cL_law 1306 = .ok (.iconst 0, 1) := by decide +kernel
theorem dL_law_1307 : decode cL_law 1307 = .ok (.ireturn, 1) := by decide +kernel
theorem dL_law_1308 : decode cL_law 1308 = .ok (.goto 600, 3) := by decide +kernel
theorem dL_law_1311 : decode cL_law 1311 = .ok (.aload_n 1, 1) := by decide +kernel
theorem dL_law_1312 : decode cL_law 1312 = .ok (.aload_n 0, 1) := by decide +kernel
theorem dL_law_1313 : decode cL_law 1313 = .ok (.iload 4, 2) := by decide +kernel
theorem dL_law_1315 : decode cL_law 1315 = .ok (.iconst 1, 1) := by decide +kernel
theorem dL_law_1316 : decode cL_law 1316 = .ok (.iadd, 1) := by decide +kernel
theorem dL_law_1317 : decode cL_law 1317 = .ok (.iaload, 1) := by decide +kernel
theorem dL_law_1318 : decode cL_law 1318 = .ok (.aload_n 3, 1) := by decide +kernel
theorem dL_law_1319 : decode cL_law 1319 = .ok (.invokestatic 158, 3) := by decide +kernel
theorem dL_law_1322 : decode cL_law 1322 = .ok (.istore 5, 2) := by decide +kernel
theorem dL_law_1324 : decode cL_law 1324 = .ok (.aload_n 2, 1) := by decide +kernel
theorem dL_law_1325 : decode cL_law 1325 = .ok (.aload_n 0, 1) := by decide +kernel
theorem dL_law_1326 : decode cL_law 1326 = .ok (.iload 4, 2) := by decide +kernel
theorem dL_law_1328 : decode cL_law 1328 = .ok (.iconst 1, 1) := by decide +kernel
theorem dL_law_1329 : decode cL_law 1329 = .ok (.iadd, 1) := by decide +kernel
theorem dL_law_1330 : decode cL_law 1330 = .ok (.iaload, 1) := by decide +kernel
theorem dL_law_1331 : decode cL_law 1331 = .ok (.invokevirtual 160, 3) := by decide +kernel
theorem dL_law_1334 : decode cL_law 1334 = .ok (.istore 6, 2) := by decide +kernel
theorem dL_law_1336 : decode cL_law 1336 = .ok (.aload_n 2, 1) := by decide +kernel
theorem dL_law_1337 : decode cL_law 1337 = .ok (.invokevirtual 105, 3) := by decide +kernel
theorem dL_law_1340 : decode cL_law 1340 = .ok (.iload 5, 2) := by decide +kernel
theorem dL_law_1342 : decode cL_law 1342 = .ok (.if_icmp .eq 5, 3) := by decide +kernel
theorem dL_law_1345 : decode cL_law 1345 = .ok (.iconst 0, 1) := by decide +kernel
theorem dL_law_1346 : decode cL_law 1346 = .ok (.ireturn, 1) := by decide +kernel
theorem dL_law_1347 : decode cL_law 1347 = .ok (.iload 5, 2) := by decide +kernel
theorem dL_law_1349 : decode cL_law 1349 = .ok (.ifCond .ne 15, 3) := by decide +kernel
theorem dL_law_1352 : decode cL_law 1352 = .ok (.aload_n 3, 1) := by decide +kernel
theorem dL_law_1353 : decode cL_law 1353 = .ok (.iconst 0, 1) := by decide +kernel
theorem dL_law_1354 : decode cL_law 1354 = .ok (.laload, 1) := by decide +kernel
theorem dL_law_1355 : decode cL_law 1355 = .ok (.iload 6, 2) := by decide +kernel
theorem dL_law_1357 : decode cL_law 1357 = .ok (.i2l, 1) := by decide +kernel
theorem dL_law_1358 : decode cL_law 1358 = .ok (.lcmp, 1) := by decide +kernel
theorem dL_law_1359 : decode cL_law 1359 = .ok (.ifCond .eq 5, 3) := by decide +kernel
theorem dL_law_1362 : decode cL_law 1362 = .ok (.iconst 0, 1) := by decide +kernel
theorem dL_law_1363 : decode cL_law 1363 = .ok (.ireturn, 1) := by decide +kernel
theorem dL_law_1364 : decode cL_law 1364 = .ok (.goto 544, 3) := by decide +kernel
theorem dL_law_1367 : decode cL_law 1367 = .ok (.aload_n 1, 1) := by decide +kernel
theorem dL_law_1368 : decode cL_law 1368 = .ok (.aload_n 0, 1) := by decide +kernel
theorem dL_law_1369 : decode cL_law 1369 = .ok (.iload 4, 2) := by decide +kernel
theorem dL_law_1371 : decode cL_law 1371 = .ok (.iconst 1, 1) := by decide +kernel
theorem dL_law_1372 : decode cL_law 1372 = .ok (.iadd, 1) := by decide +kernel
theorem dL_law_1373 : decode cL_law 1373 = .ok (.iaload, 1) := by decide +kernel
theorem dL_law_1374 : decode cL_law 1374 = .ok (.aload_n 0, 1) := by decide +kernel
theorem dL_law_1375 : decode cL_law 1375 = .ok (.iload 4, 2) := by decide +kernel
theorem dL_law_1377 : decode cL_law 1377 = .ok (.iconst 2, 1) := by decide +kernel
theorem dL_law_1378 : decode cL_law 1378 = .ok (.iadd, 1) := by decide +kernel
theorem dL_law_1379 : decode cL_law 1379 = .ok (.iaload, 1) := by decide +kernel
theorem dL_law_1380 : decode cL_law 1380 = .ok (.aload_n 3, 1) := by decide +kernel
theorem dL_law_1381 : decode cL_law 1381 = .ok (.invokestatic 161, 3) := by decide +kernel
theorem dL_law_1384 : decode cL_law 1384 = .ok (.istore 5, 2) := by decide +kernel
theorem dL_law_1386 : decode cL_law 1386 = .ok (.aload_n 2, 1) := by decide +kernel
theorem dL_law_1387 : decode cL_law 1387 = .ok (.aload_n 0, 1) := by decide +kernel
theorem dL_law_1388 : decode cL_law 1388 = .ok (.iload 4, 2) := by decide +kernel
theorem dL_law_1390 : decode cL_law 1390 = .ok (.iconst 1, 1) := by decide +kernel
theorem dL_law_1391 : decode cL_law 1391 = .ok (.iadd, 1) := by decide +kernel
theorem dL_law_1392 : decode cL_law 1392 = .ok (.iaload, 1) := by decide +kernel
theorem dL_law_1393 : decode cL_law 1393 = .ok (.aload_n 0, 1) := by decide +kernel
theorem dL_law_1394 : decode cL_law 1394 = .ok (.iload 4, 2) := by decide +kernel
theorem dL_law_1396 : decode cL_law 1396 = .ok (.iconst 2, 1) := by decide +kernel
theorem dL_law_1397 : decode cL_law 1397 = .ok (.iadd, 1) := by decide +kernel
theorem dL_law_1398 : decode cL_law 1398 = .ok (.iaload, 1) := by decide +kernel
theorem dL_law_1399 : decode cL_law 1399 = .ok (.invokevirtual 163, 3) := by decide +kernel
theorem dL_law_1402 : decode cL_law 1402 = .ok (.istore 6, 2) := by decide +kernel
theorem dL_law_1404 : decode cL_law 1404 = .ok (.aload_n 2, 1) := by decide +kernel
theorem dL_law_1405 : decode cL_law 1405 = .ok (.invokevirtual 105, 3) := by decide +kernel
theorem dL_law_1408 : decode cL_law 1408 = .ok (.iload 5, 2) := by decide +kernel
theorem dL_law_1410 : decode cL_law 1410 = .ok (.if_icmp .eq 5, 3) := by decide +kernel
theorem dL_law_1413 : decode cL_law 1413 = .ok (.iconst 0, 1) := by decide +kernel
theorem dL_law_1414 : decode cL_law 1414 = .ok (.ireturn, 1) := by decide +kernel
theorem dL_law_1415 : decode cL_law 1415 = .ok (.iload 5, 2) := by decide +kernel
theorem dL_law_1417 : decode cL_law 1417 = .ok (.ifCond .ne 22, 3) := by decide +kernel
theorem dL_law_1420 : decode cL_law 1420 = .ok (.aload_n 3, 1) := by decide +kernel
theorem dL_law_1421 : decode cL_law 1421 = .ok (.iconst 0, 1) := by decide +kernel
theorem dL_law_1422 : decode cL_law 1422 = .ok (.laload, 1) := by decide +kernel
theorem dL_law_1423 : decode cL_law 1423 = .ok (.iload 6, 2) := by decide +kernel
theorem dL_law_1425 : decode cL_law 1425 = .ok (.ifCond .eq 7, 3) := by decide +kernel
theorem dL_law_1428 : decode cL_law 1428 = .ok (.lconst 1, 1) := by decide +kernel
theorem dL_law_1429 : decode cL_law 1429 = .ok (.goto 4, 3) := by decide +kernel
theorem dL_law_1432 : decode cL_law 1432 = .ok (.lconst 0, 1) := by decide +kernel
theorem dL_law_1433 : decode cL_law 1433 = .ok (.lcmp, 1) := by decide +kernel
theorem dL_law_1434 : decode cL_law 1434 = .ok (.ifCond .eq 5, 3) := by decide +kernel
theorem dL_law_1437 : decode cL_law 1437 = .ok (.iconst 0, 1) := by decide +kernel
theorem dL_law_1438 : decode cL_law 1438 = .ok (.ireturn, 1) := by decide +kernel
theorem dL_law_1439 : decode cL_law 1439 = .ok (.goto 469, 3) := by decide +kernel
theorem dL_law_1442 : decode cL_law 1442 = .ok (.aload_n 1, 1) := by decide +kernel
theorem dL_law_1443 : decode cL_law 1443 = .ok (.aload_n 0, 1) := by decide +kernel
theorem dL_law_1444 : decode cL_law 1444 = .ok (.iload 4, 2) := by decide +kernel
theorem dL_law_1446 : decode cL_law 1446 = .ok (.iconst 1, 1) := by decide +kernel
theorem dL_law_1447 : decode cL_law 1447 = .ok (.iadd, 1) := by decide +kernel
theorem dL_law_1448 : decode cL_law 1448 = .ok (.iaload, 1) := by decide +kernel
theorem dL_law_1449 : decode cL_law 1449 = .ok (.aload_n 0, 1) := by decide +kernel
theorem dL_law_1450 : decode cL_law 1450 = .ok (.iload 4, 2) := by decide +kernel
theorem dL_law_1452 : decode cL_law 1452 = .ok (.iconst 2, 1) := by decide +kernel
theorem dL_law_1453 : decode cL_law 1453 = .ok (.iadd, 1) := by decide +kernel
theorem dL_law_1454 : decode cL_law 1454 = .ok (.iaload, 1) := by decide +kernel
theorem dL_law_1455 : decode cL_law 1455 = .ok (.aload_n 3, 1) := by decide +kernel
theorem dL_law_1456 : decode cL_law 1456 = .ok (.invokestatic 164, 3) := by decide +kernel
theorem dL_law_1459 : decode cL_law 1459 = .ok (.istore 5, 2) := by decide +kernel
theorem dL_law_1461 : decode cL_law 1461 = .ok (.aload_n 2, 1) := by decide +kernel
theorem dL_law_1462 : decode cL_law 1462 = .ok (.aload_n 0, 1) := by decide +kernel
theorem dL_law_1463 : decode cL_law 1463 = .ok (.iload 4, 2) := by decide +kernel
theorem dL_law_1465 : decode cL_law 1465 = .ok (.iconst 1, 1) := by decide +kernel
theorem dL_law_1466 : decode cL_law 1466 = .ok (.iadd, 1) := by decide +kernel
theorem dL_law_1467 : decode cL_law 1467 = .ok (.iaload, 1) := by decide +kernel
theorem dL_law_1468 : decode cL_law 1468 = .ok (.aload_n 0, 1) := by decide +kernel
theorem dL_law_1469 : decode cL_law 1469 = .ok (.iload 4, 2) := by decide +kernel
theorem dL_law_1471 : decode cL_law 1471 = .ok (.iconst 2, 1) := by decide +kernel
theorem dL_law_1472 : decode cL_law 1472 = .ok (.iadd, 1) := by decide +kernel
theorem dL_law_1473 : decode cL_law 1473 = .ok (.iaload, 1) := by decide +kernel
theorem dL_law_1474 : decode cL_law 1474 = .ok (.invokevirtual 166, 3) := by decide +kernel
theorem dL_law_1477 : decode cL_law 1477 = .ok (.istore 6, 2) := by decide +kernel
theorem dL_law_1479 : decode cL_law 1479 = .ok (.aload_n 2, 1) := by decide +kernel
theorem dL_law_1480 : decode cL_law 1480 = .ok (.invokevirtual 105, 3) := by decide +kernel
theorem dL_law_1483 : decode cL_law 1483 = .ok (.iload 5, 2) := by decide +kernel
theorem dL_law_1485 : decode cL_law 1485 = .ok (.if_icmp .eq 5, 3) := by decide +kernel
theorem dL_law_1488 : decode cL_law 1488 = .ok (.iconst 0, 1) := by decide +kernel
theorem dL_law_1489 : decode cL_law 1489 = .ok (.ireturn, 1) := by decide +kernel
theorem dL_law_1490 : decode cL_law 1490 = .ok (.iload 5, 2) := by decide +kernel
theorem dL_law_1492 : decode cL_law 1492 = .ok (.ifCond .ne 15, 3) := by decide +kernel
theorem dL_law_1495 : decode cL_law 1495 = .ok (.aload_n 3, 1) := by decide +kernel
theorem dL_law_1496 : decode cL_law 1496 = .ok (.iconst 0, 1) := by decide +kernel
theorem dL_law_1497 : decode cL_law 1497 = .ok (.laload, 1) := by decide +kernel
theorem dL_law_1498 : decode cL_law 1498 = .ok (.iload 6, 2) := by decide +kernel
theorem dL_law_1500 : decode cL_law 1500 = .ok (.i2l, 1) := by decide +kernel
theorem dL_law_1501 : decode cL_law 1501 = .ok (.lcmp, 1) := by decide +kernel
theorem dL_law_1502 : decode cL_law 1502 = .ok (.ifCond .eq 5, 3) := by decide +kernel
theorem dL_law_1505 : decode cL_law 1505 = .ok (.iconst 0, 1) := by decide +kernel
theorem dL_law_1506 : decode cL_law 1506 = .ok (.ireturn, 1) := by decide +kernel
theorem dL_law_1507 : decode cL_law 1507 = .ok (.goto 401, 3) := by decide +kernel
theorem dL_law_1510 : decode cL_law 1510 = .ok (.aload_n 1, 1) := by decide +kernel
theorem dL_law_1511 : decode cL_law 1511 = .ok (.aload_n 0, 1) := by decide +kernel
theorem dL_law_1512 : decode cL_law 1512 = .ok (.iload 4, 2) := by decide +kernel
theorem dL_law_1514 : decode cL_law 1514 = .ok (.iconst 1, 1) := by decide +kernel
theorem dL_law_1515 : decode cL_law 1515 = .ok (.iadd, 1) := by decide +kernel
theorem dL_law_1516 : decode cL_law 1516 = .ok (.iaload, 1) := by decide +kernel
theorem dL_law_1517 : decode cL_law 1517 = .ok (.aload_n 0, 1) := by decide +kernel
theorem dL_law_1518 : decode cL_law 1518 = .ok (.iload 4, 2) := by decide +kernel
theorem dL_law_1520 : decode cL_law 1520 = .ok (.iconst 2, 1) := by decide +kernel
theorem dL_law_1521 : decode cL_law 1521 = .ok (.iadd, 1) := by decide +kernel
theorem dL_law_1522 : decode cL_law 1522 = .ok (.iaload, 1) := by decide +kernel
theorem dL_law_1523 : decode cL_law 1523 = .ok (.aload_n 3, 1) := by decide +kernel
theorem dL_law_1524 : decode cL_law 1524 = .ok (.invokestatic 167, 3) := by decide +kernel
theorem dL_law_1527 : decode cL_law 1527 = .ok (.istore 5, 2) := by decide +kernel
theorem dL_law_1529 : decode cL_law 1529 = .ok (.aload_n 2, 1) := by decide +kernel
theorem dL_law_1530 : decode cL_law 1530 = .ok (.aload_n 0, 1) := by decide +kernel
theorem dL_law_1531 : decode cL_law 1531 = .ok (.iload 4, 2) := by decide +kernel
theorem dL_law_1533 : decode cL_law 1533 = .ok (.iconst 1, 1) := by decide +kernel
theorem dL_law_1534 : decode cL_law 1534 = .ok (.iadd, 1) := by decide +kernel
theorem dL_law_1535 : decode cL_law 1535 = .ok (.iaload, 1) := by decide +kernel
theorem dL_law_1536 : decode cL_law 1536 = .ok (.aload_n 0, 1) := by decide +kernel
theorem dL_law_1537 : decode cL_law 1537 = .ok (.iload 4, 2) := by decide +kernel
theorem dL_law_1539 : decode cL_law 1539 = .ok (.iconst 2, 1) := by decide +kernel
theorem dL_law_1540 : decode cL_law 1540 = .ok (.iadd, 1) := by decide +kernel
theorem dL_law_1541 : decode cL_law 1541 = .ok (.iaload, 1) := by decide +kernel
theorem dL_law_1542 : decode cL_law 1542 = .ok (.invokevirtual 169, 3) := by decide +kernel
theorem dL_law_1545 : decode cL_law 1545 = .ok (.istore 6, 2) := by decide +kernel
theorem dL_law_1547 : decode cL_law 1547 = .ok (.aload_n 2, 1) := by decide +kernel
theorem dL_law_1548 : decode cL_law 1548 = .ok (.invokevirtual 105, 3) := by decide +kernel
theorem dL_law_1551 : decode cL_law 1551 = .ok (.iload 5, 2) := by decide +kernel
theorem dL_law_1553 : decode cL_law 1553 = .ok (.if_icmp .eq 5, 3) := by decide +kernel
theorem dL_law_1556 : decode cL_law 1556 = .ok (.iconst 0, 1) := by decide +kernel
theorem dL_law_1557 : decode cL_law 1557 = .ok (.ireturn, 1) := by decide +kernel
theorem dL_law_1558 : decode cL_law 1558 = .ok (.iload 5, 2) := by decide +kernel
theorem dL_law_1560 : decode cL_law 1560 = .ok (.ifCond .ne 15, 3) := by decide +kernel
theorem dL_law_1563 : decode cL_law 1563 = .ok (.aload_n 3, 1) := by decide +kernel
theorem dL_law_1564 : decode cL_law 1564 = .ok (.iconst 0, 1) := by decide +kernel
theorem dL_law_1565 : decode cL_law 1565 = .ok (.laload, 1) := by decide +kernel
theorem dL_law_1566 : decode cL_law 1566 = .ok (.iload 6, 2) := by decide +kernel
theorem dL_law_1568 : decode cL_law 1568 = .ok (.i2l, 1) := by decide +kernel
theorem dL_law_1569 : decode cL_law 1569 = .ok (.lcmp, 1) := by decide +kernel
theorem dL_law_1570 : decode cL_law 1570 = .ok (.ifCond .eq 5, 3) := by decide +kernel
theorem dL_law_1573 : decode cL_law 1573 = .ok (.iconst 0, 1) := by decide +kernel
theorem dL_law_1574 : decode cL_law 1574 = .ok (.ireturn, 1) := by decide +kernel
theorem dL_law_1575 : decode cL_law 1575 = .ok (.goto 333, 3) := by decide +kernel
theorem dL_law_1578 : decode cL_law 1578 = .ok (.aload_n 1, 1) := by decide +kernel
theorem dL_law_1579 : decode cL_law 1579 = .ok (.aload_n 0, 1) := by decide +kernel
theorem dL_law_1580 : decode cL_law 1580 = .ok (.iload 4, 2) := by decide +kernel
theorem dL_law_1582 : decode cL_law 1582 = .ok (.iconst 1, 1) := by decide +kernel
theorem dL_law_1583 : decode cL_law 1583 = .ok (.iadd, 1) := by decide +kernel
theorem dL_law_1584 : decode cL_law 1584 = .ok (.iaload, 1) := by decide +kernel
theorem dL_law_1585 : decode cL_law 1585 = .ok (.aload_n 3, 1) := by decide +kernel
theorem dL_law_1586 : decode cL_law 1586 = .ok (.invokestatic 170, 3) := by decide +kernel
theorem dL_law_1589 : decode cL_law 1589 = .ok (.istore 5, 2) := by decide +kernel
theorem dL_law_1591 : decode cL_law 1591 = .ok (.aload_n 2, 1) := by decide +kernel
theorem dL_law_1592 : decode cL_law 1592 = .ok (.aload_n 0, 1) := by decide +kernel
theorem dL_law_1593 : decode cL_law 1593 = .ok (.iload 4, 2) := by decide +kernel
theorem dL_law_1595 : decode cL_law 1595 = .ok (.iconst 1, 1) := by decide +kernel
theorem dL_law_1596 : decode cL_law 1596 = .ok (.iadd, 1) := by decide +kernel
theorem dL_law_1597 : decode cL_law 1597 = .ok (.iaload, 1) := by decide +kernel
theorem dL_law_1598 : decode cL_law 1598 = .ok (.invokevirtual 172, 3) := by decide +kernel
theorem dL_law_1601 : decode cL_law 1601 = .ok (.istore 6, 2) := by decide +kernel
theorem dL_law_1603 : decode cL_law 1603 = .ok (.aload_n 2, 1) := by decide +kernel
theorem dL_law_1604 : decode cL_law 1604 = .ok (.invokevirtual 105, 3) := by decide +kernel
theorem dL_law_1607 : decode cL_law 1607 = .ok (.iload 5, 2) := by decide +kernel
theorem dL_law_1609 : decode cL_law 1609 = .ok (.if_icmp .eq 5, 3) := by decide +kernel
theorem dL_law_1612 : decode cL_law 1612 = .ok (.iconst 0, 1) := by decide +kernel
theorem dL_law_1613 : decode cL_law 1613 = .ok (.ireturn, 1) := by decide +kernel
theorem dL_law_1614 : decode cL_law 1614 = .ok (.iload 5, 2) := by decide +kernel
theorem dL_law_1616 : decode cL_law 1616 = .ok (.ifCond .ne 15, 3) := by decide +kernel
theorem dL_law_1619 : decode cL_law 1619 = .ok (.aload_n 3, 1) := by decide +kernel
theorem dL_law_1620 : decode cL_law 1620 = .ok (.iconst 0, 1) := by decide +kernel
theorem dL_law_1621 : decode cL_law 1621 = .ok (.laload, 1) := by decide +kernel
theorem dL_law_1622 : decode cL_law 1622 = .ok (.iload 6, 2) := by decide +kernel
theorem dL_law_1624 : decode cL_law 1624 = .ok (.i2l, 1) := by decide +kernel
theorem dL_law_1625 : decode cL_law 1625 = .ok (.lcmp, 1) := by decide +kernel
theorem dL_law_1626 : decode cL_law 1626 = .ok (.ifCond .eq 5, 3) := by decide +kernel
theorem dL_law_1629 : decode cL_law 1629 = .ok (.iconst 0, 1) := by decide +kernel
theorem dL_law_1630 : decode cL_law 1630 = .ok (.ireturn, 1) := by decide +kernel
theorem dL_law_1631 : decode cL_law 1631 = .ok (.goto 277, 3) := by decide +kernel
theorem dL_law_1634 : decode cL_law 1634 = .ok (.aload_n 1, 1) := by decide +kernel
theorem dL_law_1635 : decode cL_law 1635 = .ok (.aload_n 0, 1) := by decide +kernel
theorem dL_law_1636 : decode cL_law 1636 = .ok (.iload 4, 2) := by decide +kernel
theorem dL_law_1638 : decode cL_law 1638 = .ok (.iconst 1, 1) := by decide +kernel
theorem dL_law_1639 : decode cL_law 1639 = .ok (.iadd, 1) := by decide +kernel
theorem dL_law_1640 : decode cL_law 1640 = .ok (.iaload, 1) := by decide +kernel
theorem dL_law_1641 : decode cL_law 1641 = .ok (.aload_n 3, 1) := by decide +kernel
theorem dL_law_1642 : decode cL_law 1642 = .ok (.invokestatic 173, 3) := by decide +kernel
theorem dL_law_1645 : decode cL_law 1645 = .ok (.istore 5, 2) := by decide +kernel
theorem dL_law_1647 : decode cL_law 1647 = .ok (.aload_n 2, 1) := by decide +kernel
theorem dL_law_1648 : decode cL_law 1648 = .ok (.aload_n 0, 1) := by decide +kernel
theorem dL_law_1649 : decode cL_law 1649 = .ok (.iload 4, 2) := by decide +kernel
theorem dL_law_1651 : decode cL_law 1651 = .ok (.iconst 1, 1) := by decide +kernel
theorem dL_law_1652 : decode cL_law 1652 = .ok (.iadd, 1) := by decide +kernel
theorem dL_law_1653 : decode cL_law 1653 = .ok (.iaload, 1) := by decide +kernel
theorem dL_law_1654 : decode cL_law 1654 = .ok (.invokevirtual 175, 3) := by decide +kernel
theorem dL_law_1657 : decode cL_law 1657 = .ok (.istore 6, 2) := by decide +kernel
theorem dL_law_1659 : decode cL_law 1659 = .ok (.aload_n 2, 1) := by decide +kernel
theorem dL_law_1660 : decode cL_law 1660 = .ok (.invokevirtual 105, 3) := by decide +kernel
theorem dL_law_1663 : decode cL_law 1663 = .ok (.iload 5, 2) := by decide +kernel
theorem dL_law_1665 : decode cL_law 1665 = .ok (.if_icmp .eq 5, 3) := by decide +kernel
theorem dL_law_1668 : decode cL_law 1668 = .ok (.iconst 0, 1) := by decide +kernel
theorem dL_law_1669 : decode cL_law 1669 = .ok (.ireturn, 1) := by decide +kernel
theorem dL_law_1670 : decode cL_law 1670 = .ok (.iload 5, 2) := by decide +kernel
theorem dL_law_1672 : decode cL_law 1672 = .ok (.ifCond .ne 15, 3) := by decide +kernel
theorem dL_law_1675 : decode cL_law 1675 = .ok (.aload_n 3, 1) := by decide +kernel
theorem dL_law_1676 : decode cL_law 1676 = .ok (.iconst 0, 1) := by decide +kernel
theorem dL_law_1677 : decode cL_law 1677 = .ok (.laload, 1) := by decide +kernel
theorem dL_law_1678 : decode cL_law 1678 = .ok (.iload 6, 2) := by decide +kernel
theorem dL_law_1680 : decode cL_law 1680 = .ok (.i2l, 1) := by decide +kernel
theorem dL_law_1681 : decode cL_law 1681 = .ok (.lcmp, 1) := by decide +kernel
theorem dL_law_1682 : decode cL_law 1682 = .ok (.ifCond .eq 5, 3) := by decide +kernel
theorem dL_law_1685 : decode cL_law 1685 = .ok (.iconst 0, 1) := by decide +kernel
theorem dL_law_1686 : decode cL_law 1686 = .ok (.ireturn, 1) := by decide +kernel
theorem dL_law_1687 : decode cL_law 1687 = .ok (.goto 221, 3) := by decide +kernel
theorem dL_law_1690 : decode cL_law 1690 = .ok (.aload_n 1, 1) := by decide +kernel
theorem dL_law_1691 : decode cL_law 1691 = .ok (.aload_n 0, 1) := by decide +kernel
theorem dL_law_1692 : decode cL_law 1692 = .ok (.iload 4, 2) := by decide +kernel
theorem dL_law_1694 : decode cL_law 1694 = .ok (.iconst 1, 1) := by decide +kernel
theorem dL_law_1695 : decode cL_law 1695 = .ok (.iadd, 1) := by decide +kernel
theorem dL_law_1696 : decode cL_law 1696 = .ok (.iaload, 1) := by decide +kernel
theorem dL_law_1697 : decode cL_law 1697 = .ok (.aload_n 3, 1) := by decide +kernel
theorem dL_law_1698 : decode cL_law 1698 = .ok (.invokestatic 176, 3) := by decide +kernel
theorem dL_law_1701 : decode cL_law 1701 = .ok (.istore 5, 2) := by decide +kernel
theorem dL_law_1703 : decode cL_law 1703 = .ok (.aload_n 2, 1) := by decide +kernel
theorem dL_law_1704 : decode cL_law 1704 = .ok (.aload_n 0, 1) := by decide +kernel
theorem dL_law_1705 : decode cL_law 1705 = .ok (.iload 4, 2) := by decide +kernel
theorem dL_law_1707 : decode cL_law 1707 = .ok (.iconst 1, 1) := by decide +kernel
theorem dL_law_1708 : decode cL_law 1708 = .ok (.iadd, 1) := by decide +kernel
theorem dL_law_1709 : decode cL_law 1709 = .ok (.iaload, 1) := by decide +kernel
theorem dL_law_1710 : decode cL_law 1710 = .ok (.invokevirtual 178, 3) := by decide +kernel
theorem dL_law_1713 : decode cL_law 1713 = .ok (.istore 6, 2) := by decide +kernel
theorem dL_law_1715 : decode cL_law 1715 = .ok (.aload_n 2, 1) := by decide +kernel
theorem dL_law_1716 : decode cL_law 1716 = .ok (.invokevirtual 105, 3) := by decide +kernel
theorem dL_law_1719 : decode cL_law 1719 = .ok (.iload 5, 2) := by decide +kernel
theorem dL_law_1721 : decode cL_law 1721 = .ok (.if_icmp .eq 5, 3) := by decide +kernel
theorem dL_law_1724 : decode cL_law 1724 = .ok (.iconst 0, 1) := by decide +kernel
theorem dL_law_1725 : decode cL_law 1725 = .ok (.ireturn, 1) := by decide +kernel
theorem dL_law_1726 : decode cL_law 1726 = .ok (.iload 5, 2) := by decide +kernel
theorem dL_law_1728 : decode cL_law 1728 = .ok (.ifCond .ne 15, 3) := by decide +kernel
theorem dL_law_1731 : decode cL_law 1731 = .ok (.aload_n 3, 1) := by decide +kernel
theorem dL_law_1732 : decode cL_law 1732 = .ok (.iconst 0, 1) := by decide +kernel
theorem dL_law_1733 : decode cL_law 1733 = .ok (.laload, 1) := by decide +kernel
theorem dL_law_1734 : decode cL_law 1734 = .ok (.iload 6, 2) := by decide +kernel
theorem dL_law_1736 : decode cL_law 1736 = .ok (.i2l, 1) := by decide +kernel
theorem dL_law_1737 : decode cL_law 1737 = .ok (.lcmp, 1) := by decide +kernel
theorem dL_law_1738 : decode cL_law 1738 = .ok (.ifCond .eq 5, 3) := by decide +kernel
theorem dL_law_1741 : decode cL_law 1741 = .ok (.iconst 0, 1) := by decide +kernel
theorem dL_law_1742 : decode cL_law 1742 = .ok (.ireturn, 1) := by decide +kernel
theorem dL_law_1743 : decode cL_law 1743 = .ok (.goto 165, 3) := by decide +kernel
theorem dL_law_1746 : decode cL_law 1746 = .ok (.aload_n 1, 1) := by decide +kernel
theorem dL_law_1747 : decode cL_law 1747 = .ok (.invokevirtual 179, 3) := by decide +kernel
theorem dL_law_1750 : decode cL_law 1750 = .ok (.dstore 5, 2) := by decide +kernel
theorem dL_law_1752 : decode cL_law 1752 = .ok (.aload_n 2, 1) := by decide +kernel
theorem dL_law_1753 : decode cL_law 1753 = .ok (.invokevirtual 183, 3) := by decide +kernel
theorem dL_law_1756 : decode cL_law 1756 = .ok (.dstore 7, 2) := by decide +kernel
theorem dL_law_1758 : decode cL_law 1758 = .ok (.dload 5, 2) := by decide +kernel
theorem dL_law_1760 : decode cL_law 1760 = .ok (.dload 7, 2) := by decide +kernel
theorem dL_law_1762 : decode cL_law 1762 = .ok (.dcmp .l, 1) := by decide +kernel
theorem dL_law_1763 : decode cL_law 1763 = .ok (.ifCond .eq 21, 3) := by decide +kernel
theorem dL_law_1766 : decode cL_law 1766 = .ok (.dload 5, 2) := by decide +kernel
theorem dL_law_1768 : decode cL_law 1768 = .ok (.dload 5, 2) := by decide +kernel
theorem dL_law_1770 : decode cL_law 1770 = .ok (.dcmp .l, 1) := by decide +kernel
theorem dL_law_1771 : decode cL_law 1771 = .ok (.ifCond .eq 11, 3) := by decide +kernel
theorem dL_law_1774 : decode cL_law 1774 = .ok (.dload 7, 2) := by decide +kernel
theorem dL_law_1776 : decode cL_law 1776 = .ok (.dload 7, 2) := by decide +kernel
theorem dL_law_1778 : decode cL_law 1778 = .ok (.dcmp .l, 1) := by decide +kernel
theorem dL_law_1779 : decode cL_law 1779 = .ok (.ifCond .ne 5, 3) := by decide +kernel
theorem dL_law_1782 : decode cL_law 1782 = .ok (.iconst 0, 1) := by decide +kernel
theorem dL_law_1783 : decode cL_law 1783 = .ok (.ireturn, 1) := by decide +kernel
theorem dL_law_1784 : decode cL_law 1784 = .ok (.goto 124, 3) := by decide +kernel
theorem dL_law_1787 : decode cL_law 1787 = .ok (.aload_n 1, 1) := by decide +kernel
theorem dL_law_1788 : decode cL_law 1788 = .ok (.invokevirtual 184, 3) := by decide +kernel
theorem dL_law_1791 : decode cL_law 1791 = .ok (.aload_n 2, 1) := by decide +kernel
theorem dL_law_1792 : decode cL_law 1792 = .ok (.invokevirtual 187, 3) := by decide +kernel
theorem dL_law_1795 : decode cL_law 1795 = .ok (.if_icmp .eq 113, 3) := by decide +kernel
theorem dL_law_1798 : decode cL_law 1798 = .ok (.iconst 0, 1) := by decide +kernel
theorem dL_law_1799 : decode cL_law 1799 = .ok (.ireturn, 1) := by decide +kernel
theorem dL_law_1800 : decode cL_law 1800 = .ok (.aload_n 1, 1) := by decide +kernel
theorem dL_law_1801 : decode cL_law 1801 = .ok (.invokevirtual 188, 3) := by decide +kernel
theorem dL_law_1804 : decode cL_law 1804 = .ok (.aload_n 2, 1) := by decide +kernel
theorem dL_law_1805 : decode cL_law 1805 = .ok (.invokevirtual 191, 3) := by decide +kernel
theorem dL_law_1808 : decode cL_law 1808 = .ok (.if_icmp .eq 100, 3) := by decide +kernel
theorem dL_law_1811 : decode cL_law 1811 = .ok (.iconst 0, 1) := by decide +kernel
theorem dL_law_1812 : decode cL_law 1812 = .ok (.ireturn, 1) := by decide +kernel
theorem dL_law_1813 : decode cL_law 1813 = .ok (.aload_n 1, 1) := by decide +kernel
theorem dL_law_1814 : decode cL_law 1814 = .ok (.aload_n 0, 1) := by decide +kernel
theorem dL_law_1815 : decode cL_law 1815 = .ok (.iload 4, 2) := by decide +kernel
theorem dL_law_1817 : decode cL_law 1817 = .ok (.iconst 1, 1) := by decide +kernel
theorem dL_law_1818 : decode cL_law 1818 = .ok (.iadd, 1) := by decide +kernel
theorem dL_law_1819 : decode cL_law 1819 = .ok (.iaload, 1) := by decide +kernel
theorem dL_law_1820 : decode cL_law 1820 = .ok (.aload_n 0, 1) := by decide +kernel
theorem dL_law_1821 : decode cL_law 1821 = .ok (.iload 4, 2) := by decide +kernel
theorem dL_law_1823 : decode cL_law 1823 = .ok (.iconst 2, 1) := by decide +kernel
theorem dL_law_1824 : decode cL_law 1824 = .ok (.iadd, 1) := by decide +kernel
theorem dL_law_1825 : decode cL_law 1825 = .ok (.iaload, 1) := by decide +kernel
theorem dL_law_1826 : decode cL_law 1826 = .ok (.aload_n 3, 1) := by decide +kernel
theorem dL_law_1827 : decode cL_law 1827 = .ok (.invokestatic 192, 3) := by decide +kernel
theorem dL_law_1830 : decode cL_law 1830 = .ok (.istore 5, 2) := by decide +kernel
theorem dL_law_1832 : decode cL_law 1832 = .ok (.aload_n 2, 1) := by decide +kernel
theorem dL_law_1833 : decode cL_law 1833 = .ok (.aload_n 0, 1) := by decide +kernel
theorem dL_law_1834 : decode cL_law 1834 = .ok (.iload 4, 2) := by decide +kernel
theorem dL_law_1836 : decode cL_law 1836 = .ok (.iconst 1, 1) := by decide +kernel
theorem dL_law_1837 : decode cL_law 1837 = .ok (.iadd, 1) := by decide +kernel
theorem dL_law_1838 : decode cL_law 1838 = .ok (.iaload, 1) := by decide +kernel
theorem dL_law_1839 : decode cL_law 1839 = .ok (.aload_n 0, 1) := by decide +kernel
theorem dL_law_1840 : decode cL_law 1840 = .ok (.iload 4, 2) := by decide +kernel
theorem dL_law_1842 : decode cL_law 1842 = .ok (.iconst 2, 1) := by decide +kernel
theorem dL_law_1843 : decode cL_law 1843 = .ok (.iadd, 1) := by decide +kernel
theorem dL_law_1844 : decode cL_law 1844 = .ok (.iaload, 1) := by decide +kernel
theorem dL_law_1845 : decode cL_law 1845 = .ok (.invokevirtual 194, 3) := by decide +kernel
theorem dL_law_1848 : decode cL_law 1848 = .ok (.istore 6, 2) := by decide +kernel
theorem dL_law_1850 : decode cL_law 1850 = .ok (.aload_n 2, 1) := by decide +kernel
theorem dL_law_1851 : decode cL_law 1851 = .ok (.invokevirtual 105, 3) := by decide +kernel
theorem dL_law_1854 : decode cL_law 1854 = .ok (.iload 5, 2) := by decide +kernel
theorem dL_law_1856 : decode cL_law 1856 = .ok (.if_icmp .eq 5, 3) := by decide +kernel
theorem dL_law_1859 : decode cL_law 1859 = .ok (.iconst 0, 1) := by decide +kernel
theorem dL_law_1860 : decode cL_law 1860 = .ok (.ireturn, 1) := by decide +kernel
theorem dL_law_1861 : decode cL_law 1861 = .ok (.iload 5, 2) := by decide +kernel
theorem dL_law_1863 : decode cL_law 1863 = .ok (.ifCond .ne 15, 3) := by decide +kernel
theorem dL_law_1866 : decode cL_law 1866 = .ok (.aload_n 3, 1) := by decide +kernel
theorem dL_law_1867 : decode cL_law 1867 = .ok (.iconst 0, 1) := by decide +kernel
theorem dL_law_1868 : decode cL_law 1868 = .ok (.laload, 1) := by decide +kernel
theorem dL_law_1869 : decode cL_law 1869 = .ok (.iload 6, 2) := by decide +kernel
theorem dL_law_1871 : decode cL_law 1871 = .ok (.i2l, 1) := by decide +kernel
theorem dL_law_1872 : decode cL_law 1872 = .ok (.lcmp, 1) := by decide +kernel
theorem dL_law_1873 : decode cL_law 1873 = .ok (.ifCond .eq 5, 3) := by decide +kernel
theorem dL_law_1876 : decode cL_law 1876 = .ok (.iconst 0, 1) := by decide +kernel
theorem dL_law_1877 : decode cL_law 1877 = .ok (.ireturn, 1) := by decide +kernel
theorem dL_law_1878 : decode cL_law 1878 = .ok (.goto 30, 3) := by decide +kernel
theorem dL_law_1881 : decode cL_law 1881 = .ok (.aload_n 1, 1) := by decide +kernel
theorem dL_law_1882 : decode cL_law 1882 = .ok (.invokevirtual 195, 3) := by decide +kernel
theorem dL_law_1885 : decode cL_law 1885 = .ok (.aload_n 2, 1) := by decide +kernel
theorem dL_law_1886 : decode cL_law 1886 = .ok (.invokevirtual 198, 3) := by decide +kernel
theorem dL_law_1889 : decode cL_law 1889 = .ok (.if_icmp .eq 19, 3) := by decide +kernel
theorem dL_law_1892 : decode cL_law 1892 = .ok (.iconst 0, 1) := by decide +kernel
theorem dL_law_1893 : decode cL_law 1893 = .ok (.ireturn, 1) := by decide +kernel
theorem dL_law_1894 : decode cL_law 1894 = .ok (.aload_n 1, 1) := by decide +kernel
theorem dL_law_1895 : decode cL_law 1895 = .ok (.invokevirtual 199, 3) := by decide +kernel
theorem dL_law_1898 : decode cL_law 1898 = .ok (.aload_n 2, 1) := by decide +kernel
theorem dL_law_1899 : decode cL_law 1899 = .ok (.invokevirtual 203, 3) := by decide +kernel
theorem dL_law_1902 : decode cL_law 1902 = .ok (.lcmp, 1) := by decide +kernel
theorem dL_law_1903 : decode cL_law 1903 = .ok (.ifCond .eq 5, 3) := by decide +kernel
theorem dL_law_1906 : decode cL_law 1906 = .ok (.iconst 0, 1) := by decide +kernel
theorem dL_law_1907 : decode cL_law 1907 = .ok (.ireturn, 1) := by decide +kernel
theorem dL_law_1908 : decode cL_law 1908 = .ok (.iinc 4 7, 3) := by decide +kernel
theorem dL_law_1911 : decode cL_law 1911 = .ok (.goto (-1888), 3) := by decide +kernel
theorem dL_law_1914 : decode cL_law 1914 = .ok (.iconst 1, 1) := by decide +kernel
theorem dL_law_1915 : decode cL_law 1915 = .ok (.ireturn, 1) := by decide +kernel
end
section
/-! THE ABSTRACT STORE: a heap as a function of addresses (tag 0: only read; other tags: who made it), and one judgement AW over it: each row of the kit once, over any store. -/
abbrev AE : Type := (Nat × vp_A) ⊕ (Nat × List Value)
abbrev AC : Type := Nat × AE
abbrev AH : Type := Nat → Option AC
/-- the launch's numbers: the classes' and their fields' places; the classes of arrays (0 [I, 1 [J, 2 [[I, 3 [Object); addresses of statics' values -/
abbrev GG : Type := va_G × (Nat → ClassId) × (Nat → Nat)
def cvE (G : GG) (x : AE) : va_E := match x with
  | .inl a => .inl (G.2.1 a.1, a.2)
  | .inr o => .inr o
def Rep (G : GG) (B : Nat) (h : AH) (H : Heap) : Prop := ∀ (a t : Nat) (x : AE), h a = some (t, x) → va_at G.1 vwCl (a, cvE G x) H ∧ (t ≠ 0 → B ≤ a)
def hu (h : AH) (a : Nat) (x : AC) : AH := fun b => if b = a then some x else h b
theorem hu_s {h : AH} {a : Nat} {x : AC} : hu h a x a = some x := if_pos rfl
theorem hu_n {h : AH} {a b : Nat} {x : AC} (e : b ≠ a) : hu h a x b = h b := if_neg e
/-- what a method with the tag tg leaves: cells of other tags as they were; none is lost -/
def FrT (tg : Nat) (h0 h : AH) : Prop := (∀ (a t : Nat) (x : AE), h0 a = some (t, x) → t ≠ tg → h a = some (t, x)) ∧ ∀ a : Nat, h0 a ≠ none → h a ≠ none
theorem FrT.rf {tg : Nat} {h : AH} : FrT tg h h := ⟨fun _ _ _ e _ => e, fun _ e => e⟩
theorem FrT.trans {tg : Nat} {h0 h1 h2 : AH} (a : FrT tg h0 h1) (b : FrT tg h1 h2) : FrT tg h0 h2 := ⟨fun x t y e n => b.1 x t y (a.1 x t y e n) n, fun x e => b.2 x (a.2 x e)⟩
theorem FrT.put {tg a : Nat} {h0 h : AH} {x y : AE} (f : FrT tg h0 h) (e : h a = some (tg, x)) : FrT tg h0 (hu h a (tg, y)) := by
  refine ⟨fun b t z hb n => ?_, fun b hb => ?_⟩
  · by_cases q : b = a
    · subst q
      have h9 := f.1 b t z hb n
      rw [e] at h9
      cases h9
      exact absurd rfl n
    · rw [hu_n q]
      exact f.1 b t z hb n
  · by_cases q : b = a
    · subst q
      rw [hu_s]
      exact fun z => by cases z
    · rw [hu_n q]
      exact f.2 b hb
theorem FrT.new {tg a : Nat} {h0 h : AH} {y : AC} (f : FrT tg h0 h) (e : h a = none) : FrT tg h0 (hu h a y) := by
  refine ⟨fun b t z hb n => ?_, fun b hb => ?_⟩
  · by_cases q : b = a
    · subst q
      have h9 := f.1 b t z hb n
      rw [e] at h9
      cases h9
    · rw [hu_n q]
      exact f.1 b t z hb n
  · by_cases q : b = a
    · subst q
      rw [hu_s]
      exact fun z => by cases z
    · rw [hu_n q]
      exact f.2 b hb
theorem Rep.lt {G : GG} {B : Nat} {h : AH} {H : Heap} (r : Rep G B h H) {a : Nat} {x : AC} (e : h a = some x) : a < H.size := (r a x.1 x.2 e).1.lt
theorem Rep.fresh {G : GG} {B : Nat} {h : AH} {H : Heap} (r : Rep G B h H) : h H.size = none := by
  cases e : h H.size with
  | none => rfl
  | some x => exact absurd (r.lt e) (Nat.lt_irrefl _)
theorem Rep.put {G : GG} {B : Nat} {h : AH} {H H1 : Heap} (r : Rep G B h H) {a tg : Nat} {x y : AE} (e : h a = some (tg, x)) (hy : va_at G.1 vwCl (a, cvE G y) H1) (o : ∀ q : Nat, q ≠ a → H1[q]? = H[q]?) : Rep G B (hu h a (tg, y)) H1 := by
  intro b t z hb
  by_cases q : b = a
  · subst q
    rw [hu_s] at hb
    cases hb
    exact ⟨hy, (r b _ _ e).2⟩
  · rw [hu_n q] at hb
    exact ⟨(r b t z hb).1.kept (o b q), (r b t z hb).2⟩
theorem Rep.new {G : GG} {B : Nat} {h : AH} {H H1 : Heap} (r : Rep G B h H) {tg : Nat} {y : AE} (hB : B ≤ H.size) (hy : va_at G.1 vwCl (H.size, cvE G y) H1) (o : ∀ q : Nat, q < H.size → H1[q]? = H[q]?) : Rep G B (hu h H.size (tg, y)) H1 := by
  intro b t z hb
  by_cases q : b = H.size
  · subst q
    rw [hu_s] at hb
    cases hb
    exact ⟨hy, fun _ => hB⟩
  · rw [hu_n q] at hb
    have h1 := r b t z hb
    exact ⟨h1.1.kept (o b h1.1.lt), h1.2⟩
/-! locals by their places -/
def asc : List (Option Value) → Nat → List (Nat × Value)
  | [], _ => []
  | none :: r, k => asc r (k + 1)
  | some v :: r, k => (k, v) :: asc r (k + 1)
theorem asc_mem : ∀ {L : List (Option Value)} {k : Nat} {q : Nat × Value}, q ∈ asc L k → ∃ j : Nat, q.1 = k + j ∧ L[j]? = some (some q.2) := by
  intro L
  induction L with
  | nil => intro k q h; exact absurd h List.not_mem_nil
  | cons x r ih =>
    intro k q h
    cases x with
    | none =>
      obtain ⟨j, e1, e2⟩ := ih (show q ∈ asc r (k + 1) from h)
      exact ⟨j + 1, by omega, by simpa using e2⟩
    | some v =>
      rcases List.mem_cons.mp (show q ∈ (k, v) :: asc r (k + 1) from h) with e | h
      · subst e
        exact ⟨0, rfl, rfl⟩
      · obtain ⟨j, e1, e2⟩ := ih h
        exact ⟨j + 1, by omega, by simpa using e2⟩
theorem asc_in : ∀ {L : List (Option Value)} {k j : Nat} {v : Value}, L[j]? = some (some v) → (k + j, v) ∈ asc L k := by
  intro L
  induction L with
  | nil => intro k j v h; simp at h
  | cons x r ih =>
    intro k j v h
    cases j with
    | zero =>
      simp at h
      subst h
      exact List.mem_cons_self
    | succ j =>
      have h1 : r[j]? = some (some v) := by simpa using h
      have h2 := ih (k := k + 1) h1
      rw [show k + 1 + j = k + (j + 1) by omega] at h2
      cases x with
      | none => exact h2
      | some y => exact List.mem_cons_of_mem _ h2
theorem asc_at {ls : Array Slot} {nL : Nat} {L : List (Option Value)} (h : lv_has ls nL (asc L 0)) {i : Nat} {v : Value} (e : L[i]? = some (some v)) : ls[i]? = some (.val v) := by
  have h1 := asc_in (k := 0) e
  rw [Nat.zero_add] at h1
  exact h.2.2 (i, v) h1
/-- ahead of the place no value of two places begins -/
def c1 (L : List (Option Value)) (i : Nat) : Bool := match i with
  | 0 => true
  | j + 1 => match L[j]? with
    | some (some v) => v.category == 1
    | _ => true
theorem asc_set1 {ls : Array Slot} {nL : Nat} {L : List (Option Value)} {i : Nat} {v : Value} (hc : c1 L i = true) (h : lv_has ls nL ((i, v) :: (asc L 0).filter (fun q => !(q.1 == i) && !(q.1 + 1 == i && q.2.category == 2)))) : lv_has ls nL (asc (L.set i (some v)) 0) := by
  refine ⟨h.1, h.2.1, fun q hq => ?_⟩
  obtain ⟨j, e1, e2⟩ := asc_mem hq
  rw [Nat.zero_add] at e1
  rw [List.getElem?_set] at e2
  by_cases hj : i = j
  · rw [if_pos hj] at e2
    by_cases hl : i < L.length
    · rw [if_pos hl] at e2
      have e3 : q.2 = v := by simpa using e2.symm
      have : q = (i, v) := by rw [← e3, hj, ← e1]
      rw [this]
      exact h.2.2 _ List.mem_cons_self
    · rw [if_neg hl] at e2
      cases e2
  · rw [if_neg hj] at e2
    refine h.2.2 q (List.mem_cons_of_mem _ (List.mem_filter.mpr ⟨?_, ?_⟩))
    · have h1 := asc_in (k := 0) e2
      rw [Nat.zero_add, ← e1] at h1
      exact h1
    · have n1 : ¬ q.1 = i := fun z => hj (by omega)
      have n2 : ¬ (q.1 + 1 = i ∧ q.2.category = 2) := by
        rintro ⟨z1, z2⟩
        subst z1
        rw [e1] at hc
        simp only [c1, e2] at hc
        rw [z2] at hc
        cases hc
      simp only [Bool.and_eq_true, Bool.not_eq_true', beq_eq_false_iff_ne, ne_eq, Bool.and_eq_false_iff]
      refine ⟨n1, ?_⟩
      by_cases z1 : q.1 + 1 = i
      · exact Or.inr (fun z2 => n2 ⟨z1, z2⟩)
      · exact Or.inl z1
theorem asc_set2 {ls : Array Slot} {nL : Nat} {L : List (Option Value)} {i : Nat} {v : Value} (hc : c1 L i = true) (h : lv_has ls nL ((i, v) :: (asc L 0).filter (fun q => !(q.1 == i) && (!(q.1 == i + 1) && !(q.1 + 1 == i && q.2.category == 2))))) : lv_has ls nL (asc ((L.set i (some v)).set (i + 1) none) 0) := by
  refine ⟨h.1, h.2.1, fun q hq => ?_⟩
  obtain ⟨j, e1, e2⟩ := asc_mem hq
  rw [Nat.zero_add] at e1
  rw [List.getElem?_set] at e2
  by_cases hj2 : i + 1 = j
  · rw [if_pos hj2] at e2
    split at e2
    · simp at e2
    · cases e2
  · rw [if_neg hj2, List.getElem?_set] at e2
    by_cases hj : i = j
    · rw [if_pos hj] at e2
      by_cases hl : i < L.length
      · rw [if_pos hl] at e2
        have e3 : q.2 = v := by simpa using e2.symm
        have : q = (i, v) := by rw [← e3, hj, ← e1]
        rw [this]
        exact h.2.2 _ List.mem_cons_self
      · rw [if_neg hl] at e2
        cases e2
    · rw [if_neg hj] at e2
      refine h.2.2 q (List.mem_cons_of_mem _ (List.mem_filter.mpr ⟨?_, ?_⟩))
      · have h1 := asc_in (k := 0) e2
        rw [Nat.zero_add, ← e1] at h1
        exact h1
      · have n1 : ¬ q.1 = i := fun z => hj (by omega)
        have n3 : ¬ q.1 = i + 1 := fun z => hj2 (by omega)
        have n2 : ¬ (q.1 + 1 = i ∧ q.2.category = 2) := by
          rintro ⟨z1, z2⟩
          subst z1
          rw [e1] at hc
          simp only [c1, e2] at hc
          rw [z2] at hc
          cases hc
        simp only [Bool.and_eq_true, Bool.not_eq_true', beq_eq_false_iff_ne, ne_eq, Bool.and_eq_false_iff]
        refine ⟨n1, n3, ?_⟩
        by_cases z1 : q.1 + 1 = i
        · exact Or.inr (fun z2 => n2 ⟨z1, z2⟩)
        · exact Or.inl z1
/-! what is known of the launch, at the law's own start s0 -/
def tyG (G : GG) : List (ClassId × FieldType) := [(G.2.1 0, .int), (G.2.1 1, .long), (G.2.1 2, .array .int), (G.2.1 3, .object "java/lang/Object")]
/-- a word of the tables that stays -/
def TW (w : Cond) : Prop := w ∈ lw_tbl ∧ goodWord w = true
/-- statics that hold a cell that isn't written: by their class, name, descriptor, and the address that they hold -/
def CX (l : Launch) (s0 : State) (a0 : Array Value) (G : GG) : Prop :=
  l.stackTraces = false ∧ (∀ w ∈ lw_tbl, w.before a0 s0 = true) ∧ va_K G.1 vwCl (tyG G) s0 ∧
  va_Z "java/util/ArrayList" "DEFAULTCAPACITY_EMPTY_ELEMENTDATA" "[Ljava/lang/Object;" (.ref (G.2.2 0)) (fun q => s0.heap.size ≤ q) s0 s0.heap ∧
  va_Z "java/util/ArrayList" "EMPTY_ELEMENTDATA" "[Ljava/lang/Object;" (.ref (G.2.2 1)) (fun q => s0.heap.size ≤ q) s0 s0.heap ∧
  vx_Zq Bundle.tN "UNASSIGNED_STACK" Bundle.steD (fun q => s0.heap.size ≤ q) s0 s0.heap ∧ vx_Zq Bundle.tN "SUPPRESSED_SENTINEL" Bundle.listD (fun q => s0.heap.size ≤ q) s0 s0.heap ∧
  va_AO "java/lang/Object" s0
/-- a state that the law has come to -/
def At0 (s0 U : State) : Prop := s0.WarmedH U.vm ∧ (∀ q : Nat, q < s0.heap.size → U.heap[q]? = s0.heap[q]?) ∧ s0.heap.size ≤ U.heap.size
/-- a method's frame: its code, its class, its start -/
def MX (p : Program) (l : Launch) (s : State) (m : MethodId) (meth : Method) (c : Code) (s0 : State) (a0 : Array Value) (G : GG) (cc : ByteArray) (own : String) (nL : Nat) : Prop :=
  CX l s0 a0 G ∧ p.tables.exec = Jvm.exec ∧ c.code = cc ∧ c.maxLocals = nL ∧ s.vm.findClass own = some m.cls ∧ At0 s0 s ∧ meth.locks = false
/-- from here, with bc cells and bs slots of room left, the machine comes to Q -/
def AW (p : Program) (l : Launch) (e : Env) (R : Room) (s : State) (m : MethodId) (args : Array Value) (below : List Frame) (meth : Method) (c : Code) (Q : State → Prop) (s0 : State) (G : GG) (nL tg : Nat) (h0 h : AH) (bc bs pc : Nat) (L : List (Option Value)) (st : List Value) : Prop :=
  ∀ (H : Heap) (locs : List Loc) (cells slots : Nat) (ls : Array Slot), Rep G s0.heap.size h H → FrT tg h0 h → va_S (fun q => s0.heap.size ≤ q) s.heap H locs → cells + bc ≤ R.cells → slots + bs ≤ R.slots → lv_has ls nL (asc L 0) →
    W p l e R s m args below meth c H locs cells slots Q (F0 m pc ls st)

section AWR
variable {p : Program} {l : Launch} {e : Env} {R : Room} {s : State} {m : MethodId} {args : Array Value} {below : List Frame} {meth : Method} {c : Code} {Q : State → Prop} {s0 : State} {a0 : Array Value} {G : GG} {cc : ByteArray} {own : String} {nL tg : Nat} {h0 h : AH} {bc bs pc n : Nat} {L : List (Option Value)} {st : List Value}
theorem AW.mono {bc2 bs2 : Nat} (h1 : bc2 ≤ bc) (h2 : bs2 ≤ bs) (k : AW p l e R s m args below meth c Q s0 G nL tg h0 h bc2 bs2 pc L st) : AW p l e R s m args below meth c Q s0 G nL tg h0 h bc bs pc L st := fun H locs cells slots ls r f z hc hs hl => k H locs cells slots ls r f z (by omega) (by omega) hl
theorem AW.goto9 (e9 : pc = n) (k : AW p l e R s m args below meth c Q s0 G nL tg h0 h bc bs n L st) : AW p l e R s m args below meth c Q s0 G nL tg h0 h bc bs pc L st := e9 ▸ k
theorem MX.tw (X : MX p l s m meth c s0 a0 G cc own nL) {w : Cond} (t : TW w) : w.before args s = true := word_at X.2.2.2.2.2.1.1 (good_of_word t.2) (X.1.2.1 w t.1)
theorem MX.kk (X : MX p l s m meth c s0 a0 G cc own nL) : va_K G.1 vwCl (tyG G) s := va_K.moved X.2.2.2.2.2.1.1.alike X.1.2.2.1
theorem aw_iconst (X : MX p l s m meth c s0 a0 G cc own nL) {i : Int} (v : Int32) (hd : decode cc pc = .ok (.iconst i, 1)) (hv : Int32.ofInt i = v) (hn : pc + 1 = n) (k : AW p l e R s m args below meth c Q s0 G nL tg h0 h bc bs n L (.int v :: st)) : AW p l e R s m args below meth c Q s0 G nL tg h0 h bc bs pc L st := fun H locs cells slots ls r f z hc hs hl => lv_iconst X.2.1 X.2.2.1 hd hv (by rw [hn]; exact k H locs cells slots ls r f z hc hs hl)
theorem aw_bipush (X : MX p l s m meth c s0 a0 G cc own nL) {i : Int} (v : Int32) (hd : decode cc pc = .ok (.bipush i, 2)) (hv : (Int8.ofInt i).toInt32 = v) (hn : pc + 2 = n) (k : AW p l e R s m args below meth c Q s0 G nL tg h0 h bc bs n L (.int v :: st)) : AW p l e R s m args below meth c Q s0 G nL tg h0 h bc bs pc L st := fun H locs cells slots ls r f z hc hs hl => lv_bipush X.2.1 X.2.2.1 hd hv (by rw [hn]; exact k H locs cells slots ls r f z hc hs hl)
theorem aw_sipush (X : MX p l s m meth c s0 a0 G cc own nL) {i : Int} (v : Int32) (hd : decode cc pc = .ok (.sipush i, 3)) (hv : (Int16.ofInt i).toInt32 = v) (hn : pc + 3 = n) (k : AW p l e R s m args below meth c Q s0 G nL tg h0 h bc bs n L (.int v :: st)) : AW p l e R s m args below meth c Q s0 G nL tg h0 h bc bs pc L st := fun H locs cells slots ls r f z hc hs hl => lv_sipush X.2.1 X.2.2.1 hd hv (by rw [hn]; exact k H locs cells slots ls r f z hc hs hl)
theorem aw_lconst (X : MX p l s m meth c s0 a0 G cc own nL) {i : Fin 2} (v : Int64) (hd : decode cc pc = .ok (.lconst i, 1)) (hv : Int64.ofNat (i : Nat) = v) (hn : pc + 1 = n) (k : AW p l e R s m args below meth c Q s0 G nL tg h0 h bc bs n L (.long v :: st)) : AW p l e R s m args below meth c Q s0 G nL tg h0 h bc bs pc L st := fun H locs cells slots ls r f z hc hs hl => lv_lconst X.2.1 X.2.2.1 hd hv (by rw [hn]; exact k H locs cells slots ls r f z hc hs hl)
theorem aw_dconst0 (X : MX p l s m meth c s0 a0 G cc own nL) (hd : decode cc pc = .ok (.dconst 0, 1)) (hn : pc + 1 = n) (k : AW p l e R s m args below meth c Q s0 G nL tg h0 h bc bs n L (.double FP.dconst0 :: st)) : AW p l e R s m args below meth c Q s0 G nL tg h0 h bc bs pc L st := fun H locs cells slots ls r f z hc hs hl => lv_dconst0 X.2.1 X.2.2.1 hd (by rw [hn]; exact k H locs cells slots ls r f z hc hs hl)
theorem aw_null (X : MX p l s m meth c s0 a0 G cc own nL) (hd : decode cc pc = .ok (.aconst_null, 1)) (hn : pc + 1 = n) (k : AW p l e R s m args below meth c Q s0 G nL tg h0 h bc bs n L (.null :: st)) : AW p l e R s m args below meth c Q s0 G nL tg h0 h bc bs pc L st := fun H locs cells slots ls r f z hc hs hl => lv_null X.2.1 X.2.2.1 hd (by rw [hn]; exact k H locs cells slots ls r f z hc hs hl)
theorem aw_iadd (X : MX p l s m meth c s0 a0 G cc own nL) {x y : Int32} (hd : decode cc pc = .ok (.iadd, 1)) (hn : pc + 1 = n) (k : AW p l e R s m args below meth c Q s0 G nL tg h0 h bc bs n L (.int (x + y) :: st)) : AW p l e R s m args below meth c Q s0 G nL tg h0 h bc bs pc L (.int y :: .int x :: st) := fun H locs cells slots ls r f z hc hs hl => lv_iadd X.2.1 X.2.2.1 hd (by rw [hn]; exact k H locs cells slots ls r f z hc hs hl)
theorem aw_isub (X : MX p l s m meth c s0 a0 G cc own nL) {x y : Int32} (hd : decode cc pc = .ok (.isub, 1)) (hn : pc + 1 = n) (k : AW p l e R s m args below meth c Q s0 G nL tg h0 h bc bs n L (.int (x - y) :: st)) : AW p l e R s m args below meth c Q s0 G nL tg h0 h bc bs pc L (.int y :: .int x :: st) := fun H locs cells slots ls r f z hc hs hl => lv_isub X.2.1 X.2.2.1 hd (by rw [hn]; exact k H locs cells slots ls r f z hc hs hl)
theorem aw_imul (X : MX p l s m meth c s0 a0 G cc own nL) {x y : Int32} (hd : decode cc pc = .ok (.imul, 1)) (hn : pc + 1 = n) (k : AW p l e R s m args below meth c Q s0 G nL tg h0 h bc bs n L (.int (x * y) :: st)) : AW p l e R s m args below meth c Q s0 G nL tg h0 h bc bs pc L (.int y :: .int x :: st) := fun H locs cells slots ls r f z hc hs hl => lv_imul X.2.1 X.2.2.1 hd (by rw [hn]; exact k H locs cells slots ls r f z hc hs hl)
theorem aw_iand (X : MX p l s m meth c s0 a0 G cc own nL) {x y : Int32} (hd : decode cc pc = .ok (.iand, 1)) (hn : pc + 1 = n) (k : AW p l e R s m args below meth c Q s0 G nL tg h0 h bc bs n L (.int (x &&& y) :: st)) : AW p l e R s m args below meth c Q s0 G nL tg h0 h bc bs pc L (.int y :: .int x :: st) := fun H locs cells slots ls r f z hc hs hl => lv_iand X.2.1 X.2.2.1 hd (by rw [hn]; exact k H locs cells slots ls r f z hc hs hl)
theorem aw_ior (X : MX p l s m meth c s0 a0 G cc own nL) {x y : Int32} (hd : decode cc pc = .ok (.ior, 1)) (hn : pc + 1 = n) (k : AW p l e R s m args below meth c Q s0 G nL tg h0 h bc bs n L (.int (x ||| y) :: st)) : AW p l e R s m args below meth c Q s0 G nL tg h0 h bc bs pc L (.int y :: .int x :: st) := fun H locs cells slots ls r f z hc hs hl => lv_ior X.2.1 X.2.2.1 hd (by rw [hn]; exact k H locs cells slots ls r f z hc hs hl)
theorem aw_ixor (X : MX p l s m meth c s0 a0 G cc own nL) {x y : Int32} (hd : decode cc pc = .ok (.ixor, 1)) (hn : pc + 1 = n) (k : AW p l e R s m args below meth c Q s0 G nL tg h0 h bc bs n L (.int (x ^^^ y) :: st)) : AW p l e R s m args below meth c Q s0 G nL tg h0 h bc bs pc L (.int y :: .int x :: st) := fun H locs cells slots ls r f z hc hs hl => lv_ixor X.2.1 X.2.2.1 hd (by rw [hn]; exact k H locs cells slots ls r f z hc hs hl)
theorem aw_idiv (X : MX p l s m meth c s0 a0 G cc own nL) {x y : Int32} (hd : decode cc pc = .ok (.idiv, 1)) (hz : ¬ y = 0) (hn : pc + 1 = n) (k : AW p l e R s m args below meth c Q s0 G nL tg h0 h bc bs n L (.int (x / y) :: st)) : AW p l e R s m args below meth c Q s0 G nL tg h0 h bc bs pc L (.int y :: .int x :: st) := fun H locs cells slots ls r f z hc hs hl => lv_idiv X.2.1 X.2.2.1 hd hz (by rw [hn]; exact k H locs cells slots ls r f z hc hs hl)
theorem aw_irem (X : MX p l s m meth c s0 a0 G cc own nL) {x y : Int32} (hd : decode cc pc = .ok (.irem, 1)) (hz : ¬ y = 0) (hn : pc + 1 = n) (k : AW p l e R s m args below meth c Q s0 G nL tg h0 h bc bs n L (.int (x - x / y * y) :: st)) : AW p l e R s m args below meth c Q s0 G nL tg h0 h bc bs pc L (.int y :: .int x :: st) := fun H locs cells slots ls r f z hc hs hl => lv_irem X.2.1 X.2.2.1 hd hz (by rw [hn]; exact k H locs cells slots ls r f z hc hs hl)
theorem aw_ineg (X : MX p l s m meth c s0 a0 G cc own nL) {x : Int32} (hd : decode cc pc = .ok (.ineg, 1)) (hn : pc + 1 = n) (k : AW p l e R s m args below meth c Q s0 G nL tg h0 h bc bs n L (.int (-x) :: st)) : AW p l e R s m args below meth c Q s0 G nL tg h0 h bc bs pc L (.int x :: st) := fun H locs cells slots ls r f z hc hs hl => lv_ineg X.2.1 X.2.2.1 hd (by rw [hn]; exact k H locs cells slots ls r f z hc hs hl)
theorem aw_ishl (X : MX p l s m meth c s0 a0 G cc own nL) {x y : Int32} (hd : decode cc pc = .ok (.ishl, 1)) (hn : pc + 1 = n) (k : AW p l e R s m args below meth c Q s0 G nL tg h0 h bc bs n L (.int (x <<< (y &&& 31)) :: st)) : AW p l e R s m args below meth c Q s0 G nL tg h0 h bc bs pc L (.int y :: .int x :: st) := fun H locs cells slots ls r f z hc hs hl => lv_ishl X.2.1 X.2.2.1 hd (by rw [hn]; exact k H locs cells slots ls r f z hc hs hl)
theorem aw_ishr (X : MX p l s m meth c s0 a0 G cc own nL) {x y : Int32} (hd : decode cc pc = .ok (.ishr, 1)) (hn : pc + 1 = n) (k : AW p l e R s m args below meth c Q s0 G nL tg h0 h bc bs n L (.int (x >>> (y &&& 31)) :: st)) : AW p l e R s m args below meth c Q s0 G nL tg h0 h bc bs pc L (.int y :: .int x :: st) := fun H locs cells slots ls r f z hc hs hl => lv_ishr X.2.1 X.2.2.1 hd (by rw [hn]; exact k H locs cells slots ls r f z hc hs hl)
theorem aw_iushr (X : MX p l s m meth c s0 a0 G cc own nL) {x y : Int32} (hd : decode cc pc = .ok (.iushr, 1)) (hn : pc + 1 = n) (k : AW p l e R s m args below meth c Q s0 G nL tg h0 h bc bs n L (.int ((x.toUInt32 >>> (y.toUInt32 &&& Int32.toUInt32 31)).toInt32) :: st)) : AW p l e R s m args below meth c Q s0 G nL tg h0 h bc bs pc L (.int y :: .int x :: st) := fun H locs cells slots ls r f z hc hs hl => lv_iushr X.2.1 X.2.2.1 hd rfl (by rw [hn]; exact k H locs cells slots ls r f z hc hs hl)
theorem aw_ladd (X : MX p l s m meth c s0 a0 G cc own nL) {x y : Int64} (hd : decode cc pc = .ok (.ladd, 1)) (hn : pc + 1 = n) (k : AW p l e R s m args below meth c Q s0 G nL tg h0 h bc bs n L (.long (x + y) :: st)) : AW p l e R s m args below meth c Q s0 G nL tg h0 h bc bs pc L (.long y :: .long x :: st) := fun H locs cells slots ls r f z hc hs hl => lv_ladd X.2.1 X.2.2.1 hd (by rw [hn]; exact k H locs cells slots ls r f z hc hs hl)
theorem aw_lmul (X : MX p l s m meth c s0 a0 G cc own nL) {x y : Int64} (hd : decode cc pc = .ok (.lmul, 1)) (hn : pc + 1 = n) (k : AW p l e R s m args below meth c Q s0 G nL tg h0 h bc bs n L (.long (x * y) :: st)) : AW p l e R s m args below meth c Q s0 G nL tg h0 h bc bs pc L (.long y :: .long x :: st) := fun H locs cells slots ls r f z hc hs hl => lv_lmul X.2.1 X.2.2.1 hd (by rw [hn]; exact k H locs cells slots ls r f z hc hs hl)
theorem aw_i2l (X : MX p l s m meth c s0 a0 G cc own nL) {x : Int32} (hd : decode cc pc = .ok (.i2l, 1)) (hn : pc + 1 = n) (k : AW p l e R s m args below meth c Q s0 G nL tg h0 h bc bs n L (.long x.toInt64 :: st)) : AW p l e R s m args below meth c Q s0 G nL tg h0 h bc bs pc L (.int x :: st) := fun H locs cells slots ls r f z hc hs hl => lv_i2l X.2.1 X.2.2.1 hd rfl (by rw [hn]; exact k H locs cells slots ls r f z hc hs hl)
theorem aw_i2d (X : MX p l s m meth c s0 a0 G cc own nL) {x : Int32} (hd : decode cc pc = .ok (.i2d, 1)) (hn : pc + 1 = n) (k : AW p l e R s m args below meth c Q s0 G nL tg h0 h bc bs n L (.double (FP.i2d x) :: st)) : AW p l e R s m args below meth c Q s0 G nL tg h0 h bc bs pc L (.int x :: st) := fun H locs cells slots ls r f z hc hs hl => lv_i2d X.2.1 X.2.2.1 hd (by rw [hn]; exact k H locs cells slots ls r f z hc hs hl)
theorem aw_ddiv (X : MX p l s m meth c s0 a0 G cc own nL) {x y : UInt64} (hd : decode cc pc = .ok (.ddiv, 1)) (hz : vf_n64 (FP.ddiv x y)) (hn : pc + 1 = n) (k : AW p l e R s m args below meth c Q s0 G nL tg h0 h bc bs n L (.double (FP.ddiv x y) :: st)) : AW p l e R s m args below meth c Q s0 G nL tg h0 h bc bs pc L (.double y :: .double x :: st) := fun H locs cells slots ls r f z hc hs hl => lv_ddiv X.2.1 X.2.2.1 hd hz (by rw [hn]; exact k H locs cells slots ls r f z hc hs hl)
theorem aw_dcmp (X : MX p l s m meth c s0 a0 G cc own nL) {x y : UInt64} {op : CmpOp} (hd : decode cc pc = .ok (.dcmp op, 1)) (hn : pc + 1 = n) (k : AW p l e R s m args below meth c Q s0 G nL tg h0 h bc bs n L (.int (Op.cmpValue (FP.dcmp x y) op) :: st)) : AW p l e R s m args below meth c Q s0 G nL tg h0 h bc bs pc L (.double y :: .double x :: st) := fun H locs cells slots ls r f z hc hs hl => lv_dcmp X.2.1 X.2.2.1 hd (by rw [hn]; exact k H locs cells slots ls r f z hc hs hl)
theorem aw_dup (X : MX p l s m meth c s0 a0 G cc own nL) {v : Value} (hd : decode cc pc = .ok (.dup, 1)) (hv : v.category = 1) (hn : pc + 1 = n) (k : AW p l e R s m args below meth c Q s0 G nL tg h0 h bc bs n L (v :: v :: st)) : AW p l e R s m args below meth c Q s0 G nL tg h0 h bc bs pc L (v :: st) := fun H locs cells slots ls r f z hc hs hl => lv_dup X.2.1 X.2.2.1 hd hv (by rw [hn]; exact k H locs cells slots ls r f z hc hs hl)
theorem aw_dup_x1 (X : MX p l s m meth c s0 a0 G cc own nL) {v u : Value} (hd : decode cc pc = .ok (.dup_x1, 1)) (hv : v.category = 1) (hu : u.category = 1) (hn : pc + 1 = n) (k : AW p l e R s m args below meth c Q s0 G nL tg h0 h bc bs n L (v :: u :: v :: st)) : AW p l e R s m args below meth c Q s0 G nL tg h0 h bc bs pc L (v :: u :: st) := fun H locs cells slots ls r f z hc hs hl => lv_dup_x1 X.2.1 X.2.2.1 hd hv hu (by rw [hn]; exact k H locs cells slots ls r f z hc hs hl)
theorem aw_pop (X : MX p l s m meth c s0 a0 G cc own nL) {v : Value} (hd : decode cc pc = .ok (.pop, 1)) (hv : v.category = 1) (hn : pc + 1 = n) (k : AW p l e R s m args below meth c Q s0 G nL tg h0 h bc bs n L st) : AW p l e R s m args below meth c Q s0 G nL tg h0 h bc bs pc L (v :: st) := fun H locs cells slots ls r f z hc hs hl => lv_pop X.2.1 X.2.2.1 hd hv (by rw [hn]; exact k H locs cells slots ls r f z hc hs hl)
theorem aw_goto (X : MX p l s m meth c s0 a0 G cc own nL) {off : Int} (hd : decode cc pc = .ok (.goto off, 3)) (hn : (pc : Int) + off = (n : Int)) (k : AW p l e R s m args below meth c Q s0 G nL tg h0 h bc bs n L st) : AW p l e R s m args below meth c Q s0 G nL tg h0 h bc bs pc L st := fun H locs cells slots ls r f z hc hs hl => lv_goto X.2.1 X.2.2.1 hd hn (k H locs cells slots ls r f z hc hs hl)
theorem aw_if_eq (X : MX p l s m meth c s0 a0 G cc own nL) {x : Int32} {off : Int} {n2 : Nat} (hd : decode cc pc = .ok (.ifCond .eq off, 3)) (ht : (pc : Int) + off = (n2 : Int)) (hn : pc + 3 = n) (kt : x = 0 → AW p l e R s m args below meth c Q s0 G nL tg h0 h bc bs n2 L st) (kf : ¬ x = 0 → AW p l e R s m args below meth c Q s0 G nL tg h0 h bc bs n L st) : AW p l e R s m args below meth c Q s0 G nL tg h0 h bc bs pc L (.int x :: st) := fun H locs cells slots ls r f z hc hs hl => lv_if_eq X.2.1 X.2.2.1 hd ht (fun q => kt q H locs cells slots ls r f z hc hs hl) (fun q => by rw [hn]; exact kf q H locs cells slots ls r f z hc hs hl)
theorem aw_if_ne (X : MX p l s m meth c s0 a0 G cc own nL) {x : Int32} {off : Int} {n2 : Nat} (hd : decode cc pc = .ok (.ifCond .ne off, 3)) (ht : (pc : Int) + off = (n2 : Int)) (hn : pc + 3 = n) (kt : ¬ x = 0 → AW p l e R s m args below meth c Q s0 G nL tg h0 h bc bs n2 L st) (kf : x = 0 → AW p l e R s m args below meth c Q s0 G nL tg h0 h bc bs n L st) : AW p l e R s m args below meth c Q s0 G nL tg h0 h bc bs pc L (.int x :: st) := fun H locs cells slots ls r f z hc hs hl => lv_if_ne X.2.1 X.2.2.1 hd ht (fun q => kt q H locs cells slots ls r f z hc hs hl) (fun q => by rw [hn]; exact kf q H locs cells slots ls r f z hc hs hl)
theorem aw_if_lt (X : MX p l s m meth c s0 a0 G cc own nL) {x : Int32} {off : Int} {n2 : Nat} (hd : decode cc pc = .ok (.ifCond .lt off, 3)) (ht : (pc : Int) + off = (n2 : Int)) (hn : pc + 3 = n) (kt : x < 0 → AW p l e R s m args below meth c Q s0 G nL tg h0 h bc bs n2 L st) (kf : ¬ x < 0 → AW p l e R s m args below meth c Q s0 G nL tg h0 h bc bs n L st) : AW p l e R s m args below meth c Q s0 G nL tg h0 h bc bs pc L (.int x :: st) := fun H locs cells slots ls r f z hc hs hl => lv_if_lt X.2.1 X.2.2.1 hd ht (fun q => kt q H locs cells slots ls r f z hc hs hl) (fun q => by rw [hn]; exact kf q H locs cells slots ls r f z hc hs hl)
theorem aw_if_ge (X : MX p l s m meth c s0 a0 G cc own nL) {x : Int32} {off : Int} {n2 : Nat} (hd : decode cc pc = .ok (.ifCond .ge off, 3)) (ht : (pc : Int) + off = (n2 : Int)) (hn : pc + 3 = n) (kt : 0 ≤ x → AW p l e R s m args below meth c Q s0 G nL tg h0 h bc bs n2 L st) (kf : ¬ 0 ≤ x → AW p l e R s m args below meth c Q s0 G nL tg h0 h bc bs n L st) : AW p l e R s m args below meth c Q s0 G nL tg h0 h bc bs pc L (.int x :: st) := fun H locs cells slots ls r f z hc hs hl => lv_if_ge X.2.1 X.2.2.1 hd ht (fun q => kt q H locs cells slots ls r f z hc hs hl) (fun q => by rw [hn]; exact kf q H locs cells slots ls r f z hc hs hl)
theorem aw_if_gt (X : MX p l s m meth c s0 a0 G cc own nL) {x : Int32} {off : Int} {n2 : Nat} (hd : decode cc pc = .ok (.ifCond .gt off, 3)) (ht : (pc : Int) + off = (n2 : Int)) (hn : pc + 3 = n) (kt : 0 < x → AW p l e R s m args below meth c Q s0 G nL tg h0 h bc bs n2 L st) (kf : ¬ 0 < x → AW p l e R s m args below meth c Q s0 G nL tg h0 h bc bs n L st) : AW p l e R s m args below meth c Q s0 G nL tg h0 h bc bs pc L (.int x :: st) := fun H locs cells slots ls r f z hc hs hl => lv_if_gt X.2.1 X.2.2.1 hd ht (fun q => kt q H locs cells slots ls r f z hc hs hl) (fun q => by rw [hn]; exact kf q H locs cells slots ls r f z hc hs hl)
theorem aw_if_le (X : MX p l s m meth c s0 a0 G cc own nL) {x : Int32} {off : Int} {n2 : Nat} (hd : decode cc pc = .ok (.ifCond .le off, 3)) (ht : (pc : Int) + off = (n2 : Int)) (hn : pc + 3 = n) (kt : x ≤ 0 → AW p l e R s m args below meth c Q s0 G nL tg h0 h bc bs n2 L st) (kf : ¬ x ≤ 0 → AW p l e R s m args below meth c Q s0 G nL tg h0 h bc bs n L st) : AW p l e R s m args below meth c Q s0 G nL tg h0 h bc bs pc L (.int x :: st) := fun H locs cells slots ls r f z hc hs hl => lv_if_le X.2.1 X.2.2.1 hd ht (fun q => kt q H locs cells slots ls r f z hc hs hl) (fun q => by rw [hn]; exact kf q H locs cells slots ls r f z hc hs hl)
theorem aw_icmp_eq (X : MX p l s m meth c s0 a0 G cc own nL) {x y : Int32} {off : Int} {n2 : Nat} (hd : decode cc pc = .ok (.if_icmp .eq off, 3)) (ht : (pc : Int) + off = (n2 : Int)) (hn : pc + 3 = n) (kt : x = y → AW p l e R s m args below meth c Q s0 G nL tg h0 h bc bs n2 L st) (kf : ¬ x = y → AW p l e R s m args below meth c Q s0 G nL tg h0 h bc bs n L st) : AW p l e R s m args below meth c Q s0 G nL tg h0 h bc bs pc L (.int y :: .int x :: st) := fun H locs cells slots ls r f z hc hs hl => lv_icmp_eq X.2.1 X.2.2.1 hd ht (fun q => kt q H locs cells slots ls r f z hc hs hl) (fun q => by rw [hn]; exact kf q H locs cells slots ls r f z hc hs hl)
theorem aw_icmp_ne (X : MX p l s m meth c s0 a0 G cc own nL) {x y : Int32} {off : Int} {n2 : Nat} (hd : decode cc pc = .ok (.if_icmp .ne off, 3)) (ht : (pc : Int) + off = (n2 : Int)) (hn : pc + 3 = n) (kt : ¬ x = y → AW p l e R s m args below meth c Q s0 G nL tg h0 h bc bs n2 L st) (kf : x = y → AW p l e R s m args below meth c Q s0 G nL tg h0 h bc bs n L st) : AW p l e R s m args below meth c Q s0 G nL tg h0 h bc bs pc L (.int y :: .int x :: st) := fun H locs cells slots ls r f z hc hs hl => lv_icmp_ne X.2.1 X.2.2.1 hd ht (fun q => kt q H locs cells slots ls r f z hc hs hl) (fun q => by rw [hn]; exact kf q H locs cells slots ls r f z hc hs hl)
theorem aw_icmp_lt (X : MX p l s m meth c s0 a0 G cc own nL) {x y : Int32} {off : Int} {n2 : Nat} (hd : decode cc pc = .ok (.if_icmp .lt off, 3)) (ht : (pc : Int) + off = (n2 : Int)) (hn : pc + 3 = n) (kt : x < y → AW p l e R s m args below meth c Q s0 G nL tg h0 h bc bs n2 L st) (kf : ¬ x < y → AW p l e R s m args below meth c Q s0 G nL tg h0 h bc bs n L st) : AW p l e R s m args below meth c Q s0 G nL tg h0 h bc bs pc L (.int y :: .int x :: st) := fun H locs cells slots ls r f z hc hs hl => lv_icmp_lt X.2.1 X.2.2.1 hd ht (fun q => kt q H locs cells slots ls r f z hc hs hl) (fun q => by rw [hn]; exact kf q H locs cells slots ls r f z hc hs hl)
theorem aw_icmp_ge (X : MX p l s m meth c s0 a0 G cc own nL) {x y : Int32} {off : Int} {n2 : Nat} (hd : decode cc pc = .ok (.if_icmp .ge off, 3)) (ht : (pc : Int) + off = (n2 : Int)) (hn : pc + 3 = n) (kt : y ≤ x → AW p l e R s m args below meth c Q s0 G nL tg h0 h bc bs n2 L st) (kf : ¬ y ≤ x → AW p l e R s m args below meth c Q s0 G nL tg h0 h bc bs n L st) : AW p l e R s m args below meth c Q s0 G nL tg h0 h bc bs pc L (.int y :: .int x :: st) := fun H locs cells slots ls r f z hc hs hl => lv_icmp_ge X.2.1 X.2.2.1 hd ht (fun q => kt q H locs cells slots ls r f z hc hs hl) (fun q => by rw [hn]; exact kf q H locs cells slots ls r f z hc hs hl)
theorem aw_icmp_gt (X : MX p l s m meth c s0 a0 G cc own nL) {x y : Int32} {off : Int} {n2 : Nat} (hd : decode cc pc = .ok (.if_icmp .gt off, 3)) (ht : (pc : Int) + off = (n2 : Int)) (hn : pc + 3 = n) (kt : y < x → AW p l e R s m args below meth c Q s0 G nL tg h0 h bc bs n2 L st) (kf : ¬ y < x → AW p l e R s m args below meth c Q s0 G nL tg h0 h bc bs n L st) : AW p l e R s m args below meth c Q s0 G nL tg h0 h bc bs pc L (.int y :: .int x :: st) := fun H locs cells slots ls r f z hc hs hl => lv_icmp_gt X.2.1 X.2.2.1 hd ht (fun q => kt q H locs cells slots ls r f z hc hs hl) (fun q => by rw [hn]; exact kf q H locs cells slots ls r f z hc hs hl)
theorem aw_icmp_le (X : MX p l s m meth c s0 a0 G cc own nL) {x y : Int32} {off : Int} {n2 : Nat} (hd : decode cc pc = .ok (.if_icmp .le off, 3)) (ht : (pc : Int) + off = (n2 : Int)) (hn : pc + 3 = n) (kt : x ≤ y → AW p l e R s m args below meth c Q s0 G nL tg h0 h bc bs n2 L st) (kf : ¬ x ≤ y → AW p l e R s m args below meth c Q s0 G nL tg h0 h bc bs n L st) : AW p l e R s m args below meth c Q s0 G nL tg h0 h bc bs pc L (.int y :: .int x :: st) := fun H locs cells slots ls r f z hc hs hl => lv_icmp_le X.2.1 X.2.2.1 hd ht (fun q => kt q H locs cells slots ls r f z hc hs hl) (fun q => by rw [hn]; exact kf q H locs cells slots ls r f z hc hs hl)
theorem aw_switch (X : MX p l s m meth c s0 a0 G cc own nL) {dflt lo hi : Int} {offs : Array Int} {len : Nat} {x : Int32} (hd : decode cc pc = .ok (.tableswitch dflt lo hi offs, len)) (ko : (x.toInt < lo ∨ hi < x.toInt) → ∀ n : Nat, (pc : Int) + dflt = (n : Int) → AW p l e R s m args below meth c Q s0 G nL tg h0 h bc bs n L st) (ki : ¬ x.toInt < lo → ¬ hi < x.toInt → ∀ (off : Int) (n : Nat), offs[(x.toInt - lo).toNat]? = some off → (pc : Int) + off = (n : Int) → AW p l e R s m args below meth c Q s0 G nL tg h0 h bc bs n L st) (hin : ∀ i : Nat, (i : Int) ≤ hi - lo → ∃ (off : Int) (n : Nat), offs[i]? = some off ∧ (pc : Int) + off = (n : Int)) (hdf : ∃ n : Nat, (pc : Int) + dflt = (n : Int)) : AW p l e R s m args below meth c Q s0 G nL tg h0 h bc bs pc L (.int x :: st) := by
  intro H locs cells slots ls r f z hc hs hl
  by_cases h1 : x.toInt < lo ∨ hi < x.toInt
  · obtain ⟨n, hn⟩ := hdf
    exact lv_tableOut X.2.1 X.2.2.1 hd h1 hn (ko h1 n hn H locs cells slots ls r f z hc hs hl)
  · have h2 : ¬ x.toInt < lo := fun q => h1 (Or.inl q)
    have h3 : ¬ hi < x.toInt := fun q => h1 (Or.inr q)
    obtain ⟨off, n, e1, e2⟩ := hin (x.toInt - lo).toNat (by omega)
    exact lv_tableIn X.2.1 X.2.2.1 hd h2 h3 e1 e2 (ki h2 h3 off n e1 e2 H locs cells slots ls r f z hc hs hl)
theorem aw_ild0 (X : MX p l s m meth c s0 a0 G cc own nL) {r : List (Option Value)} {x : Int32} (hd : decode cc pc = .ok (.iload_n 0, 1)) (hn : pc + 1 = n) (k : AW p l e R s m args below meth c Q s0 G nL tg h0 h bc bs n (some (.int x) :: r) (.int x :: st)) : AW p l e R s m args below meth c Q s0 G nL tg h0 h bc bs pc (some (.int x) :: r) st := fun H locs cells slots ls r9 f z hc hs hl => lv_iload_n X.2.1 X.2.2.1 hd rfl (asc_at hl rfl) (by rw [hn]; exact k H locs cells slots ls r9 f z hc hs hl)
theorem aw_ist0 (X : MX p l s m meth c s0 a0 G cc own nL) {y : Option Value} {r : List (Option Value)} {x : Int32} (hd : decode cc pc = .ok (.istore_n 0, 1)) (hn : pc + 1 = n) (hL : 0 < nL) (hc1 : c1 (y :: r) 0 = true) (k : AW p l e R s m args below meth c Q s0 G nL tg h0 h bc bs n (some (.int x) :: r) st) : AW p l e R s m args below meth c Q s0 G nL tg h0 h bc bs pc (y :: r) (.int x :: st) := fun H locs cells slots ls r9 f z hc hs hl => lv_istore_n X.2.1 X.2.2.1 hd rfl hl hL rfl (fun ls9 hl9 => by rw [hn]; exact k H locs cells slots ls9 r9 f z hc hs (asc_set1 (L := y :: r) (i := 0) hc1 hl9))
theorem aw_ild1 (X : MX p l s m meth c s0 a0 G cc own nL) {x0 : Option Value} {r : List (Option Value)} {x : Int32} (hd : decode cc pc = .ok (.iload_n 1, 1)) (hn : pc + 1 = n) (k : AW p l e R s m args below meth c Q s0 G nL tg h0 h bc bs n (x0 :: some (.int x) :: r) (.int x :: st)) : AW p l e R s m args below meth c Q s0 G nL tg h0 h bc bs pc (x0 :: some (.int x) :: r) st := fun H locs cells slots ls r9 f z hc hs hl => lv_iload_n X.2.1 X.2.2.1 hd rfl (asc_at hl rfl) (by rw [hn]; exact k H locs cells slots ls r9 f z hc hs hl)
theorem aw_ist1 (X : MX p l s m meth c s0 a0 G cc own nL) {x0 : Option Value} {y : Option Value} {r : List (Option Value)} {x : Int32} (hd : decode cc pc = .ok (.istore_n 1, 1)) (hn : pc + 1 = n) (hL : 1 < nL) (hc1 : c1 (x0 :: y :: r) 1 = true) (k : AW p l e R s m args below meth c Q s0 G nL tg h0 h bc bs n (x0 :: some (.int x) :: r) st) : AW p l e R s m args below meth c Q s0 G nL tg h0 h bc bs pc (x0 :: y :: r) (.int x :: st) := fun H locs cells slots ls r9 f z hc hs hl => lv_istore_n X.2.1 X.2.2.1 hd rfl hl hL rfl (fun ls9 hl9 => by rw [hn]; exact k H locs cells slots ls9 r9 f z hc hs (asc_set1 (L := x0 :: y :: r) (i := 1) hc1 hl9))
theorem aw_ild2 (X : MX p l s m meth c s0 a0 G cc own nL) {x0 x1 : Option Value} {r : List (Option Value)} {x : Int32} (hd : decode cc pc = .ok (.iload_n 2, 1)) (hn : pc + 1 = n) (k : AW p l e R s m args below meth c Q s0 G nL tg h0 h bc bs n (x0 :: x1 :: some (.int x) :: r) (.int x :: st)) : AW p l e R s m args below meth c Q s0 G nL tg h0 h bc bs pc (x0 :: x1 :: some (.int x) :: r) st := fun H locs cells slots ls r9 f z hc hs hl => lv_iload_n X.2.1 X.2.2.1 hd rfl (asc_at hl rfl) (by rw [hn]; exact k H locs cells slots ls r9 f z hc hs hl)
theorem aw_ist2 (X : MX p l s m meth c s0 a0 G cc own nL) {x0 x1 : Option Value} {y : Option Value} {r : List (Option Value)} {x : Int32} (hd : decode cc pc = .ok (.istore_n 2, 1)) (hn : pc + 1 = n) (hL : 2 < nL) (hc1 : c1 (x0 :: x1 :: y :: r) 2 = true) (k : AW p l e R s m args below meth c Q s0 G nL tg h0 h bc bs n (x0 :: x1 :: some (.int x) :: r) st) : AW p l e R s m args below meth c Q s0 G nL tg h0 h bc bs pc (x0 :: x1 :: y :: r) (.int x :: st) := fun H locs cells slots ls r9 f z hc hs hl => lv_istore_n X.2.1 X.2.2.1 hd rfl hl hL rfl (fun ls9 hl9 => by rw [hn]; exact k H locs cells slots ls9 r9 f z hc hs (asc_set1 (L := x0 :: x1 :: y :: r) (i := 2) hc1 hl9))
theorem aw_ild3 (X : MX p l s m meth c s0 a0 G cc own nL) {x0 x1 x2 : Option Value} {r : List (Option Value)} {x : Int32} (hd : decode cc pc = .ok (.iload_n 3, 1)) (hn : pc + 1 = n) (k : AW p l e R s m args below meth c Q s0 G nL tg h0 h bc bs n (x0 :: x1 :: x2 :: some (.int x) :: r) (.int x :: st)) : AW p l e R s m args below meth c Q s0 G nL tg h0 h bc bs pc (x0 :: x1 :: x2 :: some (.int x) :: r) st := fun H locs cells slots ls r9 f z hc hs hl => lv_iload_n X.2.1 X.2.2.1 hd rfl (asc_at hl rfl) (by rw [hn]; exact k H locs cells slots ls r9 f z hc hs hl)
theorem aw_ist3 (X : MX p l s m meth c s0 a0 G cc own nL) {x0 x1 x2 : Option Value} {y : Option Value} {r : List (Option Value)} {x : Int32} (hd : decode cc pc = .ok (.istore_n 3, 1)) (hn : pc + 1 = n) (hL : 3 < nL) (hc1 : c1 (x0 :: x1 :: x2 :: y :: r) 3 = true) (k : AW p l e R s m args below meth c Q s0 G nL tg h0 h bc bs n (x0 :: x1 :: x2 :: some (.int x) :: r) st) : AW p l e R s m args below meth c Q s0 G nL tg h0 h bc bs pc (x0 :: x1 :: x2 :: y :: r) (.int x :: st) := fun H locs cells slots ls r9 f z hc hs hl => lv_istore_n X.2.1 X.2.2.1 hd rfl hl hL rfl (fun ls9 hl9 => by rw [hn]; exact k H locs cells slots ls9 r9 f z hc hs (asc_set1 (L := x0 :: x1 :: x2 :: y :: r) (i := 3) hc1 hl9))
theorem aw_ild4 (X : MX p l s m meth c s0 a0 G cc own nL) {x0 x1 x2 x3 : Option Value} {r : List (Option Value)} {x : Int32} (hd : decode cc pc = .ok (.iload 4, 2)) (hn : pc + 2 = n) (k : AW p l e R s m args below meth c Q s0 G nL tg h0 h bc bs n (x0 :: x1 :: x2 :: x3 :: some (.int x) :: r) (.int x :: st)) : AW p l e R s m args below meth c Q s0 G nL tg h0 h bc bs pc (x0 :: x1 :: x2 :: x3 :: some (.int x) :: r) st := fun H locs cells slots ls r9 f z hc hs hl => lv_iload X.2.1 X.2.2.1 hd (asc_at hl rfl) (by rw [hn]; exact k H locs cells slots ls r9 f z hc hs hl)
theorem aw_ist4 (X : MX p l s m meth c s0 a0 G cc own nL) {x0 x1 x2 x3 : Option Value} {y : Option Value} {r : List (Option Value)} {x : Int32} (hd : decode cc pc = .ok (.istore 4, 2)) (hn : pc + 2 = n) (hL : 4 < nL) (hc1 : c1 (x0 :: x1 :: x2 :: x3 :: y :: r) 4 = true) (k : AW p l e R s m args below meth c Q s0 G nL tg h0 h bc bs n (x0 :: x1 :: x2 :: x3 :: some (.int x) :: r) st) : AW p l e R s m args below meth c Q s0 G nL tg h0 h bc bs pc (x0 :: x1 :: x2 :: x3 :: y :: r) (.int x :: st) := fun H locs cells slots ls r9 f z hc hs hl => lv_istore X.2.1 X.2.2.1 hd hl hL rfl (fun ls9 hl9 => by rw [hn]; exact k H locs cells slots ls9 r9 f z hc hs (asc_set1 (L := x0 :: x1 :: x2 :: x3 :: y :: r) (i := 4) hc1 hl9))
theorem aw_ild5 (X : MX p l s m meth c s0 a0 G cc own nL) {x0 x1 x2 x3 x4 : Option Value} {r : List (Option Value)} {x : Int32} (hd : decode cc pc = .ok (.iload 5, 2)) (hn : pc + 2 = n) (k : AW p l e R s m args below meth c Q s0 G nL tg h0 h bc bs n (x0 :: x1 :: x2 :: x3 :: x4 :: some (.int x) :: r) (.int x :: st)) : AW p l e R s m args below meth c Q s0 G nL tg h0 h bc bs pc (x0 :: x1 :: x2 :: x3 :: x4 :: some (.int x) :: r) st := fun H locs cells slots ls r9 f z hc hs hl => lv_iload X.2.1 X.2.2.1 hd (asc_at hl rfl) (by rw [hn]; exact k H locs cells slots ls r9 f z hc hs hl)
theorem aw_ist5 (X : MX p l s m meth c s0 a0 G cc own nL) {x0 x1 x2 x3 x4 : Option Value} {y : Option Value} {r : List (Option Value)} {x : Int32} (hd : decode cc pc = .ok (.istore 5, 2)) (hn : pc + 2 = n) (hL : 5 < nL) (hc1 : c1 (x0 :: x1 :: x2 :: x3 :: x4 :: y :: r) 5 = true) (k : AW p l e R s m args below meth c Q s0 G nL tg h0 h bc bs n (x0 :: x1 :: x2 :: x3 :: x4 :: some (.int x) :: r) st) : AW p l e R s m args below meth c Q s0 G nL tg h0 h bc bs pc (x0 :: x1 :: x2 :: x3 :: x4 :: y :: r) (.int x :: st) := fun H locs cells slots ls r9 f z hc hs hl => lv_istore X.2.1 X.2.2.1 hd hl hL rfl (fun ls9 hl9 => by rw [hn]; exact k H locs cells slots ls9 r9 f z hc hs (asc_set1 (L := x0 :: x1 :: x2 :: x3 :: x4 :: y :: r) (i := 5) hc1 hl9))
theorem aw_ild6 (X : MX p l s m meth c s0 a0 G cc own nL) {x0 x1 x2 x3 x4 x5 : Option Value} {r : List (Option Value)} {x : Int32} (hd : decode cc pc = .ok (.iload 6, 2)) (hn : pc + 2 = n) (k : AW p l e R s m args below meth c Q s0 G nL tg h0 h bc bs n (x0 :: x1 :: x2 :: x3 :: x4 :: x5 :: some (.int x) :: r) (.int x :: st)) : AW p l e R s m args below meth c Q s0 G nL tg h0 h bc bs pc (x0 :: x1 :: x2 :: x3 :: x4 :: x5 :: some (.int x) :: r) st := fun H locs cells slots ls r9 f z hc hs hl => lv_iload X.2.1 X.2.2.1 hd (asc_at hl rfl) (by rw [hn]; exact k H locs cells slots ls r9 f z hc hs hl)
theorem aw_ist6 (X : MX p l s m meth c s0 a0 G cc own nL) {x0 x1 x2 x3 x4 x5 : Option Value} {y : Option Value} {r : List (Option Value)} {x : Int32} (hd : decode cc pc = .ok (.istore 6, 2)) (hn : pc + 2 = n) (hL : 6 < nL) (hc1 : c1 (x0 :: x1 :: x2 :: x3 :: x4 :: x5 :: y :: r) 6 = true) (k : AW p l e R s m args below meth c Q s0 G nL tg h0 h bc bs n (x0 :: x1 :: x2 :: x3 :: x4 :: x5 :: some (.int x) :: r) st) : AW p l e R s m args below meth c Q s0 G nL tg h0 h bc bs pc (x0 :: x1 :: x2 :: x3 :: x4 :: x5 :: y :: r) (.int x :: st) := fun H locs cells slots ls r9 f z hc hs hl => lv_istore X.2.1 X.2.2.1 hd hl hL rfl (fun ls9 hl9 => by rw [hn]; exact k H locs cells slots ls9 r9 f z hc hs (asc_set1 (L := x0 :: x1 :: x2 :: x3 :: x4 :: x5 :: y :: r) (i := 6) hc1 hl9))
theorem aw_ild7 (X : MX p l s m meth c s0 a0 G cc own nL) {x0 x1 x2 x3 x4 x5 x6 : Option Value} {r : List (Option Value)} {x : Int32} (hd : decode cc pc = .ok (.iload 7, 2)) (hn : pc + 2 = n) (k : AW p l e R s m args below meth c Q s0 G nL tg h0 h bc bs n (x0 :: x1 :: x2 :: x3 :: x4 :: x5 :: x6 :: some (.int x) :: r) (.int x :: st)) : AW p l e R s m args below meth c Q s0 G nL tg h0 h bc bs pc (x0 :: x1 :: x2 :: x3 :: x4 :: x5 :: x6 :: some (.int x) :: r) st := fun H locs cells slots ls r9 f z hc hs hl => lv_iload X.2.1 X.2.2.1 hd (asc_at hl rfl) (by rw [hn]; exact k H locs cells slots ls r9 f z hc hs hl)
theorem aw_ist7 (X : MX p l s m meth c s0 a0 G cc own nL) {x0 x1 x2 x3 x4 x5 x6 : Option Value} {y : Option Value} {r : List (Option Value)} {x : Int32} (hd : decode cc pc = .ok (.istore 7, 2)) (hn : pc + 2 = n) (hL : 7 < nL) (hc1 : c1 (x0 :: x1 :: x2 :: x3 :: x4 :: x5 :: x6 :: y :: r) 7 = true) (k : AW p l e R s m args below meth c Q s0 G nL tg h0 h bc bs n (x0 :: x1 :: x2 :: x3 :: x4 :: x5 :: x6 :: some (.int x) :: r) st) : AW p l e R s m args below meth c Q s0 G nL tg h0 h bc bs pc (x0 :: x1 :: x2 :: x3 :: x4 :: x5 :: x6 :: y :: r) (.int x :: st) := fun H locs cells slots ls r9 f z hc hs hl => lv_istore X.2.1 X.2.2.1 hd hl hL rfl (fun ls9 hl9 => by rw [hn]; exact k H locs cells slots ls9 r9 f z hc hs (asc_set1 (L := x0 :: x1 :: x2 :: x3 :: x4 :: x5 :: x6 :: y :: r) (i := 7) hc1 hl9))
theorem aw_ild8 (X : MX p l s m meth c s0 a0 G cc own nL) {x0 x1 x2 x3 x4 x5 x6 x7 : Option Value} {r : List (Option Value)} {x : Int32} (hd : decode cc pc = .ok (.iload 8, 2)) (hn : pc + 2 = n) (k : AW p l e R s m args below meth c Q s0 G nL tg h0 h bc bs n (x0 :: x1 :: x2 :: x3 :: x4 :: x5 :: x6 :: x7 :: some (.int x) :: r) (.int x :: st)) : AW p l e R s m args below meth c Q s0 G nL tg h0 h bc bs pc (x0 :: x1 :: x2 :: x3 :: x4 :: x5 :: x6 :: x7 :: some (.int x) :: r) st := fun H locs cells slots ls r9 f z hc hs hl => lv_iload X.2.1 X.2.2.1 hd (asc_at hl rfl) (by rw [hn]; exact k H locs cells slots ls r9 f z hc hs hl)
theorem aw_ist8 (X : MX p l s m meth c s0 a0 G cc own nL) {x0 x1 x2 x3 x4 x5 x6 x7 : Option Value} {y : Option Value} {r : List (Option Value)} {x : Int32} (hd : decode cc pc = .ok (.istore 8, 2)) (hn : pc + 2 = n) (hL : 8 < nL) (hc1 : c1 (x0 :: x1 :: x2 :: x3 :: x4 :: x5 :: x6 :: x7 :: y :: r) 8 = true) (k : AW p l e R s m args below meth c Q s0 G nL tg h0 h bc bs n (x0 :: x1 :: x2 :: x3 :: x4 :: x5 :: x6 :: x7 :: some (.int x) :: r) st) : AW p l e R s m args below meth c Q s0 G nL tg h0 h bc bs pc (x0 :: x1 :: x2 :: x3 :: x4 :: x5 :: x6 :: x7 :: y :: r) (.int x :: st) := fun H locs cells slots ls r9 f z hc hs hl => lv_istore X.2.1 X.2.2.1 hd hl hL rfl (fun ls9 hl9 => by rw [hn]; exact k H locs cells slots ls9 r9 f z hc hs (asc_set1 (L := x0 :: x1 :: x2 :: x3 :: x4 :: x5 :: x6 :: x7 :: y :: r) (i := 8) hc1 hl9))
theorem aw_ild9 (X : MX p l s m meth c s0 a0 G cc own nL) {x0 x1 x2 x3 x4 x5 x6 x7 x8 : Option Value} {r : List (Option Value)} {x : Int32} (hd : decode cc pc = .ok (.iload 9, 2)) (hn : pc + 2 = n) (k : AW p l e R s m args below meth c Q s0 G nL tg h0 h bc bs n (x0 :: x1 :: x2 :: x3 :: x4 :: x5 :: x6 :: x7 :: x8 :: some (.int x) :: r) (.int x :: st)) : AW p l e R s m args below meth c Q s0 G nL tg h0 h bc bs pc (x0 :: x1 :: x2 :: x3 :: x4 :: x5 :: x6 :: x7 :: x8 :: some (.int x) :: r) st := fun H locs cells slots ls r9 f z hc hs hl => lv_iload X.2.1 X.2.2.1 hd (asc_at hl rfl) (by rw [hn]; exact k H locs cells slots ls r9 f z hc hs hl)
theorem aw_ist9 (X : MX p l s m meth c s0 a0 G cc own nL) {x0 x1 x2 x3 x4 x5 x6 x7 x8 : Option Value} {y : Option Value} {r : List (Option Value)} {x : Int32} (hd : decode cc pc = .ok (.istore 9, 2)) (hn : pc + 2 = n) (hL : 9 < nL) (hc1 : c1 (x0 :: x1 :: x2 :: x3 :: x4 :: x5 :: x6 :: x7 :: x8 :: y :: r) 9 = true) (k : AW p l e R s m args below meth c Q s0 G nL tg h0 h bc bs n (x0 :: x1 :: x2 :: x3 :: x4 :: x5 :: x6 :: x7 :: x8 :: some (.int x) :: r) st) : AW p l e R s m args below meth c Q s0 G nL tg h0 h bc bs pc (x0 :: x1 :: x2 :: x3 :: x4 :: x5 :: x6 :: x7 :: x8 :: y :: r) (.int x :: st) := fun H locs cells slots ls r9 f z hc hs hl => lv_istore X.2.1 X.2.2.1 hd hl hL rfl (fun ls9 hl9 => by rw [hn]; exact k H locs cells slots ls9 r9 f z hc hs (asc_set1 (L := x0 :: x1 :: x2 :: x3 :: x4 :: x5 :: x6 :: x7 :: x8 :: y :: r) (i := 9) hc1 hl9))
theorem aw_ild10 (X : MX p l s m meth c s0 a0 G cc own nL) {x0 x1 x2 x3 x4 x5 x6 x7 x8 x9 : Option Value} {r : List (Option Value)} {x : Int32} (hd : decode cc pc = .ok (.iload 10, 2)) (hn : pc + 2 = n) (k : AW p l e R s m args below meth c Q s0 G nL tg h0 h bc bs n (x0 :: x1 :: x2 :: x3 :: x4 :: x5 :: x6 :: x7 :: x8 :: x9 :: some (.int x) :: r) (.int x :: st)) : AW p l e R s m args below meth c Q s0 G nL tg h0 h bc bs pc (x0 :: x1 :: x2 :: x3 :: x4 :: x5 :: x6 :: x7 :: x8 :: x9 :: some (.int x) :: r) st := fun H locs cells slots ls r9 f z hc hs hl => lv_iload X.2.1 X.2.2.1 hd (asc_at hl rfl) (by rw [hn]; exact k H locs cells slots ls r9 f z hc hs hl)
theorem aw_ist10 (X : MX p l s m meth c s0 a0 G cc own nL) {x0 x1 x2 x3 x4 x5 x6 x7 x8 x9 : Option Value} {y : Option Value} {r : List (Option Value)} {x : Int32} (hd : decode cc pc = .ok (.istore 10, 2)) (hn : pc + 2 = n) (hL : 10 < nL) (hc1 : c1 (x0 :: x1 :: x2 :: x3 :: x4 :: x5 :: x6 :: x7 :: x8 :: x9 :: y :: r) 10 = true) (k : AW p l e R s m args below meth c Q s0 G nL tg h0 h bc bs n (x0 :: x1 :: x2 :: x3 :: x4 :: x5 :: x6 :: x7 :: x8 :: x9 :: some (.int x) :: r) st) : AW p l e R s m args below meth c Q s0 G nL tg h0 h bc bs pc (x0 :: x1 :: x2 :: x3 :: x4 :: x5 :: x6 :: x7 :: x8 :: x9 :: y :: r) (.int x :: st) := fun H locs cells slots ls r9 f z hc hs hl => lv_istore X.2.1 X.2.2.1 hd hl hL rfl (fun ls9 hl9 => by rw [hn]; exact k H locs cells slots ls9 r9 f z hc hs (asc_set1 (L := x0 :: x1 :: x2 :: x3 :: x4 :: x5 :: x6 :: x7 :: x8 :: x9 :: y :: r) (i := 10) hc1 hl9))
theorem aw_ald0 (X : MX p l s m meth c s0 a0 G cc own nL) {r : List (Option Value)} {x : Nat} (hd : decode cc pc = .ok (.aload_n 0, 1)) (hn : pc + 1 = n) (k : AW p l e R s m args below meth c Q s0 G nL tg h0 h bc bs n (some (.ref x) :: r) (.ref x :: st)) : AW p l e R s m args below meth c Q s0 G nL tg h0 h bc bs pc (some (.ref x) :: r) st := fun H locs cells slots ls r9 f z hc hs hl => lv_aload_n X.2.1 X.2.2.1 hd rfl (asc_at hl rfl) (by rw [hn]; exact k H locs cells slots ls r9 f z hc hs hl)
theorem aw_ast0 (X : MX p l s m meth c s0 a0 G cc own nL) {y : Option Value} {r : List (Option Value)} {x : Nat} (hd : decode cc pc = .ok (.astore_n 0, 1)) (hn : pc + 1 = n) (hL : 0 < nL) (hc1 : c1 (y :: r) 0 = true) (k : AW p l e R s m args below meth c Q s0 G nL tg h0 h bc bs n (some (.ref x) :: r) st) : AW p l e R s m args below meth c Q s0 G nL tg h0 h bc bs pc (y :: r) (.ref x :: st) := fun H locs cells slots ls r9 f z hc hs hl => lv_astore_n X.2.1 X.2.2.1 hd rfl hl hL rfl (fun ls9 hl9 => by rw [hn]; exact k H locs cells slots ls9 r9 f z hc hs (asc_set1 (L := y :: r) (i := 0) hc1 hl9))
theorem aw_ald1 (X : MX p l s m meth c s0 a0 G cc own nL) {x0 : Option Value} {r : List (Option Value)} {x : Nat} (hd : decode cc pc = .ok (.aload_n 1, 1)) (hn : pc + 1 = n) (k : AW p l e R s m args below meth c Q s0 G nL tg h0 h bc bs n (x0 :: some (.ref x) :: r) (.ref x :: st)) : AW p l e R s m args below meth c Q s0 G nL tg h0 h bc bs pc (x0 :: some (.ref x) :: r) st := fun H locs cells slots ls r9 f z hc hs hl => lv_aload_n X.2.1 X.2.2.1 hd rfl (asc_at hl rfl) (by rw [hn]; exact k H locs cells slots ls r9 f z hc hs hl)
theorem aw_ast1 (X : MX p l s m meth c s0 a0 G cc own nL) {x0 : Option Value} {y : Option Value} {r : List (Option Value)} {x : Nat} (hd : decode cc pc = .ok (.astore_n 1, 1)) (hn : pc + 1 = n) (hL : 1 < nL) (hc1 : c1 (x0 :: y :: r) 1 = true) (k : AW p l e R s m args below meth c Q s0 G nL tg h0 h bc bs n (x0 :: some (.ref x) :: r) st) : AW p l e R s m args below meth c Q s0 G nL tg h0 h bc bs pc (x0 :: y :: r) (.ref x :: st) := fun H locs cells slots ls r9 f z hc hs hl => lv_astore_n X.2.1 X.2.2.1 hd rfl hl hL rfl (fun ls9 hl9 => by rw [hn]; exact k H locs cells slots ls9 r9 f z hc hs (asc_set1 (L := x0 :: y :: r) (i := 1) hc1 hl9))
theorem aw_ald2 (X : MX p l s m meth c s0 a0 G cc own nL) {x0 x1 : Option Value} {r : List (Option Value)} {x : Nat} (hd : decode cc pc = .ok (.aload_n 2, 1)) (hn : pc + 1 = n) (k : AW p l e R s m args below meth c Q s0 G nL tg h0 h bc bs n (x0 :: x1 :: some (.ref x) :: r) (.ref x :: st)) : AW p l e R s m args below meth c Q s0 G nL tg h0 h bc bs pc (x0 :: x1 :: some (.ref x) :: r) st := fun H locs cells slots ls r9 f z hc hs hl => lv_aload_n X.2.1 X.2.2.1 hd rfl (asc_at hl rfl) (by rw [hn]; exact k H locs cells slots ls r9 f z hc hs hl)
theorem aw_ast2 (X : MX p l s m meth c s0 a0 G cc own nL) {x0 x1 : Option Value} {y : Option Value} {r : List (Option Value)} {x : Nat} (hd : decode cc pc = .ok (.astore_n 2, 1)) (hn : pc + 1 = n) (hL : 2 < nL) (hc1 : c1 (x0 :: x1 :: y :: r) 2 = true) (k : AW p l e R s m args below meth c Q s0 G nL tg h0 h bc bs n (x0 :: x1 :: some (.ref x) :: r) st) : AW p l e R s m args below meth c Q s0 G nL tg h0 h bc bs pc (x0 :: x1 :: y :: r) (.ref x :: st) := fun H locs cells slots ls r9 f z hc hs hl => lv_astore_n X.2.1 X.2.2.1 hd rfl hl hL rfl (fun ls9 hl9 => by rw [hn]; exact k H locs cells slots ls9 r9 f z hc hs (asc_set1 (L := x0 :: x1 :: y :: r) (i := 2) hc1 hl9))
theorem aw_ald3 (X : MX p l s m meth c s0 a0 G cc own nL) {x0 x1 x2 : Option Value} {r : List (Option Value)} {x : Nat} (hd : decode cc pc = .ok (.aload_n 3, 1)) (hn : pc + 1 = n) (k : AW p l e R s m args below meth c Q s0 G nL tg h0 h bc bs n (x0 :: x1 :: x2 :: some (.ref x) :: r) (.ref x :: st)) : AW p l e R s m args below meth c Q s0 G nL tg h0 h bc bs pc (x0 :: x1 :: x2 :: some (.ref x) :: r) st := fun H locs cells slots ls r9 f z hc hs hl => lv_aload_n X.2.1 X.2.2.1 hd rfl (asc_at hl rfl) (by rw [hn]; exact k H locs cells slots ls r9 f z hc hs hl)
theorem aw_ast3 (X : MX p l s m meth c s0 a0 G cc own nL) {x0 x1 x2 : Option Value} {y : Option Value} {r : List (Option Value)} {x : Nat} (hd : decode cc pc = .ok (.astore_n 3, 1)) (hn : pc + 1 = n) (hL : 3 < nL) (hc1 : c1 (x0 :: x1 :: x2 :: y :: r) 3 = true) (k : AW p l e R s m args below meth c Q s0 G nL tg h0 h bc bs n (x0 :: x1 :: x2 :: some (.ref x) :: r) st) : AW p l e R s m args below meth c Q s0 G nL tg h0 h bc bs pc (x0 :: x1 :: x2 :: y :: r) (.ref x :: st) := fun H locs cells slots ls r9 f z hc hs hl => lv_astore_n X.2.1 X.2.2.1 hd rfl hl hL rfl (fun ls9 hl9 => by rw [hn]; exact k H locs cells slots ls9 r9 f z hc hs (asc_set1 (L := x0 :: x1 :: x2 :: y :: r) (i := 3) hc1 hl9))
theorem aw_ald4 (X : MX p l s m meth c s0 a0 G cc own nL) {x0 x1 x2 x3 : Option Value} {r : List (Option Value)} {x : Nat} (hd : decode cc pc = .ok (.aload 4, 2)) (hn : pc + 2 = n) (k : AW p l e R s m args below meth c Q s0 G nL tg h0 h bc bs n (x0 :: x1 :: x2 :: x3 :: some (.ref x) :: r) (.ref x :: st)) : AW p l e R s m args below meth c Q s0 G nL tg h0 h bc bs pc (x0 :: x1 :: x2 :: x3 :: some (.ref x) :: r) st := fun H locs cells slots ls r9 f z hc hs hl => lv_aload X.2.1 X.2.2.1 hd (asc_at hl rfl) (by rw [hn]; exact k H locs cells slots ls r9 f z hc hs hl)
theorem aw_ast4 (X : MX p l s m meth c s0 a0 G cc own nL) {x0 x1 x2 x3 : Option Value} {y : Option Value} {r : List (Option Value)} {x : Nat} (hd : decode cc pc = .ok (.astore 4, 2)) (hn : pc + 2 = n) (hL : 4 < nL) (hc1 : c1 (x0 :: x1 :: x2 :: x3 :: y :: r) 4 = true) (k : AW p l e R s m args below meth c Q s0 G nL tg h0 h bc bs n (x0 :: x1 :: x2 :: x3 :: some (.ref x) :: r) st) : AW p l e R s m args below meth c Q s0 G nL tg h0 h bc bs pc (x0 :: x1 :: x2 :: x3 :: y :: r) (.ref x :: st) := fun H locs cells slots ls r9 f z hc hs hl => lv_astore X.2.1 X.2.2.1 hd hl hL rfl (fun ls9 hl9 => by rw [hn]; exact k H locs cells slots ls9 r9 f z hc hs (asc_set1 (L := x0 :: x1 :: x2 :: x3 :: y :: r) (i := 4) hc1 hl9))
theorem aw_ald5 (X : MX p l s m meth c s0 a0 G cc own nL) {x0 x1 x2 x3 x4 : Option Value} {r : List (Option Value)} {x : Nat} (hd : decode cc pc = .ok (.aload 5, 2)) (hn : pc + 2 = n) (k : AW p l e R s m args below meth c Q s0 G nL tg h0 h bc bs n (x0 :: x1 :: x2 :: x3 :: x4 :: some (.ref x) :: r) (.ref x :: st)) : AW p l e R s m args below meth c Q s0 G nL tg h0 h bc bs pc (x0 :: x1 :: x2 :: x3 :: x4 :: some (.ref x) :: r) st := fun H locs cells slots ls r9 f z hc hs hl => lv_aload X.2.1 X.2.2.1 hd (asc_at hl rfl) (by rw [hn]; exact k H locs cells slots ls r9 f z hc hs hl)
theorem aw_ast5 (X : MX p l s m meth c s0 a0 G cc own nL) {x0 x1 x2 x3 x4 : Option Value} {y : Option Value} {r : List (Option Value)} {x : Nat} (hd : decode cc pc = .ok (.astore 5, 2)) (hn : pc + 2 = n) (hL : 5 < nL) (hc1 : c1 (x0 :: x1 :: x2 :: x3 :: x4 :: y :: r) 5 = true) (k : AW p l e R s m args below meth c Q s0 G nL tg h0 h bc bs n (x0 :: x1 :: x2 :: x3 :: x4 :: some (.ref x) :: r) st) : AW p l e R s m args below meth c Q s0 G nL tg h0 h bc bs pc (x0 :: x1 :: x2 :: x3 :: x4 :: y :: r) (.ref x :: st) := fun H locs cells slots ls r9 f z hc hs hl => lv_astore X.2.1 X.2.2.1 hd hl hL rfl (fun ls9 hl9 => by rw [hn]; exact k H locs cells slots ls9 r9 f z hc hs (asc_set1 (L := x0 :: x1 :: x2 :: x3 :: x4 :: y :: r) (i := 5) hc1 hl9))
theorem aw_ald6 (X : MX p l s m meth c s0 a0 G cc own nL) {x0 x1 x2 x3 x4 x5 : Option Value} {r : List (Option Value)} {x : Nat} (hd : decode cc pc = .ok (.aload 6, 2)) (hn : pc + 2 = n) (k : AW p l e R s m args below meth c Q s0 G nL tg h0 h bc bs n (x0 :: x1 :: x2 :: x3 :: x4 :: x5 :: some (.ref x) :: r) (.ref x :: st)) : AW p l e R s m args below meth c Q s0 G nL tg h0 h bc bs pc (x0 :: x1 :: x2 :: x3 :: x4 :: x5 :: some (.ref x) :: r) st := fun H locs cells slots ls r9 f z hc hs hl => lv_aload X.2.1 X.2.2.1 hd (asc_at hl rfl) (by rw [hn]; exact k H locs cells slots ls r9 f z hc hs hl)
theorem aw_ast6 (X : MX p l s m meth c s0 a0 G cc own nL) {x0 x1 x2 x3 x4 x5 : Option Value} {y : Option Value} {r : List (Option Value)} {x : Nat} (hd : decode cc pc = .ok (.astore 6, 2)) (hn : pc + 2 = n) (hL : 6 < nL) (hc1 : c1 (x0 :: x1 :: x2 :: x3 :: x4 :: x5 :: y :: r) 6 = true) (k : AW p l e R s m args below meth c Q s0 G nL tg h0 h bc bs n (x0 :: x1 :: x2 :: x3 :: x4 :: x5 :: some (.ref x) :: r) st) : AW p l e R s m args below meth c Q s0 G nL tg h0 h bc bs pc (x0 :: x1 :: x2 :: x3 :: x4 :: x5 :: y :: r) (.ref x :: st) := fun H locs cells slots ls r9 f z hc hs hl => lv_astore X.2.1 X.2.2.1 hd hl hL rfl (fun ls9 hl9 => by rw [hn]; exact k H locs cells slots ls9 r9 f z hc hs (asc_set1 (L := x0 :: x1 :: x2 :: x3 :: x4 :: x5 :: y :: r) (i := 6) hc1 hl9))
theorem aw_ald7 (X : MX p l s m meth c s0 a0 G cc own nL) {x0 x1 x2 x3 x4 x5 x6 : Option Value} {r : List (Option Value)} {x : Nat} (hd : decode cc pc = .ok (.aload 7, 2)) (hn : pc + 2 = n) (k : AW p l e R s m args below meth c Q s0 G nL tg h0 h bc bs n (x0 :: x1 :: x2 :: x3 :: x4 :: x5 :: x6 :: some (.ref x) :: r) (.ref x :: st)) : AW p l e R s m args below meth c Q s0 G nL tg h0 h bc bs pc (x0 :: x1 :: x2 :: x3 :: x4 :: x5 :: x6 :: some (.ref x) :: r) st := fun H locs cells slots ls r9 f z hc hs hl => lv_aload X.2.1 X.2.2.1 hd (asc_at hl rfl) (by rw [hn]; exact k H locs cells slots ls r9 f z hc hs hl)
theorem aw_ast7 (X : MX p l s m meth c s0 a0 G cc own nL) {x0 x1 x2 x3 x4 x5 x6 : Option Value} {y : Option Value} {r : List (Option Value)} {x : Nat} (hd : decode cc pc = .ok (.astore 7, 2)) (hn : pc + 2 = n) (hL : 7 < nL) (hc1 : c1 (x0 :: x1 :: x2 :: x3 :: x4 :: x5 :: x6 :: y :: r) 7 = true) (k : AW p l e R s m args below meth c Q s0 G nL tg h0 h bc bs n (x0 :: x1 :: x2 :: x3 :: x4 :: x5 :: x6 :: some (.ref x) :: r) st) : AW p l e R s m args below meth c Q s0 G nL tg h0 h bc bs pc (x0 :: x1 :: x2 :: x3 :: x4 :: x5 :: x6 :: y :: r) (.ref x :: st) := fun H locs cells slots ls r9 f z hc hs hl => lv_astore X.2.1 X.2.2.1 hd hl hL rfl (fun ls9 hl9 => by rw [hn]; exact k H locs cells slots ls9 r9 f z hc hs (asc_set1 (L := x0 :: x1 :: x2 :: x3 :: x4 :: x5 :: x6 :: y :: r) (i := 7) hc1 hl9))
theorem aw_ald8 (X : MX p l s m meth c s0 a0 G cc own nL) {x0 x1 x2 x3 x4 x5 x6 x7 : Option Value} {r : List (Option Value)} {x : Nat} (hd : decode cc pc = .ok (.aload 8, 2)) (hn : pc + 2 = n) (k : AW p l e R s m args below meth c Q s0 G nL tg h0 h bc bs n (x0 :: x1 :: x2 :: x3 :: x4 :: x5 :: x6 :: x7 :: some (.ref x) :: r) (.ref x :: st)) : AW p l e R s m args below meth c Q s0 G nL tg h0 h bc bs pc (x0 :: x1 :: x2 :: x3 :: x4 :: x5 :: x6 :: x7 :: some (.ref x) :: r) st := fun H locs cells slots ls r9 f z hc hs hl => lv_aload X.2.1 X.2.2.1 hd (asc_at hl rfl) (by rw [hn]; exact k H locs cells slots ls r9 f z hc hs hl)
theorem aw_ast8 (X : MX p l s m meth c s0 a0 G cc own nL) {x0 x1 x2 x3 x4 x5 x6 x7 : Option Value} {y : Option Value} {r : List (Option Value)} {x : Nat} (hd : decode cc pc = .ok (.astore 8, 2)) (hn : pc + 2 = n) (hL : 8 < nL) (hc1 : c1 (x0 :: x1 :: x2 :: x3 :: x4 :: x5 :: x6 :: x7 :: y :: r) 8 = true) (k : AW p l e R s m args below meth c Q s0 G nL tg h0 h bc bs n (x0 :: x1 :: x2 :: x3 :: x4 :: x5 :: x6 :: x7 :: some (.ref x) :: r) st) : AW p l e R s m args below meth c Q s0 G nL tg h0 h bc bs pc (x0 :: x1 :: x2 :: x3 :: x4 :: x5 :: x6 :: x7 :: y :: r) (.ref x :: st) := fun H locs cells slots ls r9 f z hc hs hl => lv_astore X.2.1 X.2.2.1 hd hl hL rfl (fun ls9 hl9 => by rw [hn]; exact k H locs cells slots ls9 r9 f z hc hs (asc_set1 (L := x0 :: x1 :: x2 :: x3 :: x4 :: x5 :: x6 :: x7 :: y :: r) (i := 8) hc1 hl9))
theorem aw_ald9 (X : MX p l s m meth c s0 a0 G cc own nL) {x0 x1 x2 x3 x4 x5 x6 x7 x8 : Option Value} {r : List (Option Value)} {x : Nat} (hd : decode cc pc = .ok (.aload 9, 2)) (hn : pc + 2 = n) (k : AW p l e R s m args below meth c Q s0 G nL tg h0 h bc bs n (x0 :: x1 :: x2 :: x3 :: x4 :: x5 :: x6 :: x7 :: x8 :: some (.ref x) :: r) (.ref x :: st)) : AW p l e R s m args below meth c Q s0 G nL tg h0 h bc bs pc (x0 :: x1 :: x2 :: x3 :: x4 :: x5 :: x6 :: x7 :: x8 :: some (.ref x) :: r) st := fun H locs cells slots ls r9 f z hc hs hl => lv_aload X.2.1 X.2.2.1 hd (asc_at hl rfl) (by rw [hn]; exact k H locs cells slots ls r9 f z hc hs hl)
theorem aw_ast9 (X : MX p l s m meth c s0 a0 G cc own nL) {x0 x1 x2 x3 x4 x5 x6 x7 x8 : Option Value} {y : Option Value} {r : List (Option Value)} {x : Nat} (hd : decode cc pc = .ok (.astore 9, 2)) (hn : pc + 2 = n) (hL : 9 < nL) (hc1 : c1 (x0 :: x1 :: x2 :: x3 :: x4 :: x5 :: x6 :: x7 :: x8 :: y :: r) 9 = true) (k : AW p l e R s m args below meth c Q s0 G nL tg h0 h bc bs n (x0 :: x1 :: x2 :: x3 :: x4 :: x5 :: x6 :: x7 :: x8 :: some (.ref x) :: r) st) : AW p l e R s m args below meth c Q s0 G nL tg h0 h bc bs pc (x0 :: x1 :: x2 :: x3 :: x4 :: x5 :: x6 :: x7 :: x8 :: y :: r) (.ref x :: st) := fun H locs cells slots ls r9 f z hc hs hl => lv_astore X.2.1 X.2.2.1 hd hl hL rfl (fun ls9 hl9 => by rw [hn]; exact k H locs cells slots ls9 r9 f z hc hs (asc_set1 (L := x0 :: x1 :: x2 :: x3 :: x4 :: x5 :: x6 :: x7 :: x8 :: y :: r) (i := 9) hc1 hl9))
theorem aw_ald10 (X : MX p l s m meth c s0 a0 G cc own nL) {x0 x1 x2 x3 x4 x5 x6 x7 x8 x9 : Option Value} {r : List (Option Value)} {x : Nat} (hd : decode cc pc = .ok (.aload 10, 2)) (hn : pc + 2 = n) (k : AW p l e R s m args below meth c Q s0 G nL tg h0 h bc bs n (x0 :: x1 :: x2 :: x3 :: x4 :: x5 :: x6 :: x7 :: x8 :: x9 :: some (.ref x) :: r) (.ref x :: st)) : AW p l e R s m args below meth c Q s0 G nL tg h0 h bc bs pc (x0 :: x1 :: x2 :: x3 :: x4 :: x5 :: x6 :: x7 :: x8 :: x9 :: some (.ref x) :: r) st := fun H locs cells slots ls r9 f z hc hs hl => lv_aload X.2.1 X.2.2.1 hd (asc_at hl rfl) (by rw [hn]; exact k H locs cells slots ls r9 f z hc hs hl)
theorem aw_ast10 (X : MX p l s m meth c s0 a0 G cc own nL) {x0 x1 x2 x3 x4 x5 x6 x7 x8 x9 : Option Value} {y : Option Value} {r : List (Option Value)} {x : Nat} (hd : decode cc pc = .ok (.astore 10, 2)) (hn : pc + 2 = n) (hL : 10 < nL) (hc1 : c1 (x0 :: x1 :: x2 :: x3 :: x4 :: x5 :: x6 :: x7 :: x8 :: x9 :: y :: r) 10 = true) (k : AW p l e R s m args below meth c Q s0 G nL tg h0 h bc bs n (x0 :: x1 :: x2 :: x3 :: x4 :: x5 :: x6 :: x7 :: x8 :: x9 :: some (.ref x) :: r) st) : AW p l e R s m args below meth c Q s0 G nL tg h0 h bc bs pc (x0 :: x1 :: x2 :: x3 :: x4 :: x5 :: x6 :: x7 :: x8 :: x9 :: y :: r) (.ref x :: st) := fun H locs cells slots ls r9 f z hc hs hl => lv_astore X.2.1 X.2.2.1 hd hl hL rfl (fun ls9 hl9 => by rw [hn]; exact k H locs cells slots ls9 r9 f z hc hs (asc_set1 (L := x0 :: x1 :: x2 :: x3 :: x4 :: x5 :: x6 :: x7 :: x8 :: x9 :: y :: r) (i := 10) hc1 hl9))
theorem aw_lld0 (X : MX p l s m meth c s0 a0 G cc own nL) {r : List (Option Value)} {x : Int64} (hd : decode cc pc = .ok (.lload_n 0, 1)) (hn : pc + 1 = n) (k : AW p l e R s m args below meth c Q s0 G nL tg h0 h bc bs n (some (.long x) :: r) (.long x :: st)) : AW p l e R s m args below meth c Q s0 G nL tg h0 h bc bs pc (some (.long x) :: r) st := fun H locs cells slots ls r9 f z hc hs hl => lv_lload_n X.2.1 X.2.2.1 hd rfl (asc_at hl rfl) (by rw [hn]; exact k H locs cells slots ls r9 f z hc hs hl)
theorem aw_lst0 (X : MX p l s m meth c s0 a0 G cc own nL) {y y2 : Option Value} {r : List (Option Value)} {x : Int64} (hd : decode cc pc = .ok (.lstore_n 0, 1)) (hn : pc + 1 = n) (hL : 1 < nL) (hc1 : c1 (y :: y2 :: r) 0 = true) (k : AW p l e R s m args below meth c Q s0 G nL tg h0 h bc bs n (some (.long x) :: none :: r) st) : AW p l e R s m args below meth c Q s0 G nL tg h0 h bc bs pc (y :: y2 :: r) (.long x :: st) := fun H locs cells slots ls r9 f z hc hs hl => lv_lstore_n X.2.1 X.2.2.1 hd rfl hl hL rfl (fun ls9 hl9 => by rw [hn]; exact k H locs cells slots ls9 r9 f z hc hs (asc_set2 (L := y :: y2 :: r) (i := 0) hc1 hl9))
theorem aw_lld1 (X : MX p l s m meth c s0 a0 G cc own nL) {x0 : Option Value} {r : List (Option Value)} {x : Int64} (hd : decode cc pc = .ok (.lload_n 1, 1)) (hn : pc + 1 = n) (k : AW p l e R s m args below meth c Q s0 G nL tg h0 h bc bs n (x0 :: some (.long x) :: r) (.long x :: st)) : AW p l e R s m args below meth c Q s0 G nL tg h0 h bc bs pc (x0 :: some (.long x) :: r) st := fun H locs cells slots ls r9 f z hc hs hl => lv_lload_n X.2.1 X.2.2.1 hd rfl (asc_at hl rfl) (by rw [hn]; exact k H locs cells slots ls r9 f z hc hs hl)
theorem aw_lst1 (X : MX p l s m meth c s0 a0 G cc own nL) {x0 : Option Value} {y y2 : Option Value} {r : List (Option Value)} {x : Int64} (hd : decode cc pc = .ok (.lstore_n 1, 1)) (hn : pc + 1 = n) (hL : 2 < nL) (hc1 : c1 (x0 :: y :: y2 :: r) 1 = true) (k : AW p l e R s m args below meth c Q s0 G nL tg h0 h bc bs n (x0 :: some (.long x) :: none :: r) st) : AW p l e R s m args below meth c Q s0 G nL tg h0 h bc bs pc (x0 :: y :: y2 :: r) (.long x :: st) := fun H locs cells slots ls r9 f z hc hs hl => lv_lstore_n X.2.1 X.2.2.1 hd rfl hl hL rfl (fun ls9 hl9 => by rw [hn]; exact k H locs cells slots ls9 r9 f z hc hs (asc_set2 (L := x0 :: y :: y2 :: r) (i := 1) hc1 hl9))
theorem aw_lld2 (X : MX p l s m meth c s0 a0 G cc own nL) {x0 x1 : Option Value} {r : List (Option Value)} {x : Int64} (hd : decode cc pc = .ok (.lload_n 2, 1)) (hn : pc + 1 = n) (k : AW p l e R s m args below meth c Q s0 G nL tg h0 h bc bs n (x0 :: x1 :: some (.long x) :: r) (.long x :: st)) : AW p l e R s m args below meth c Q s0 G nL tg h0 h bc bs pc (x0 :: x1 :: some (.long x) :: r) st := fun H locs cells slots ls r9 f z hc hs hl => lv_lload_n X.2.1 X.2.2.1 hd rfl (asc_at hl rfl) (by rw [hn]; exact k H locs cells slots ls r9 f z hc hs hl)
theorem aw_lst2 (X : MX p l s m meth c s0 a0 G cc own nL) {x0 x1 : Option Value} {y y2 : Option Value} {r : List (Option Value)} {x : Int64} (hd : decode cc pc = .ok (.lstore_n 2, 1)) (hn : pc + 1 = n) (hL : 3 < nL) (hc1 : c1 (x0 :: x1 :: y :: y2 :: r) 2 = true) (k : AW p l e R s m args below meth c Q s0 G nL tg h0 h bc bs n (x0 :: x1 :: some (.long x) :: none :: r) st) : AW p l e R s m args below meth c Q s0 G nL tg h0 h bc bs pc (x0 :: x1 :: y :: y2 :: r) (.long x :: st) := fun H locs cells slots ls r9 f z hc hs hl => lv_lstore_n X.2.1 X.2.2.1 hd rfl hl hL rfl (fun ls9 hl9 => by rw [hn]; exact k H locs cells slots ls9 r9 f z hc hs (asc_set2 (L := x0 :: x1 :: y :: y2 :: r) (i := 2) hc1 hl9))
theorem aw_lld3 (X : MX p l s m meth c s0 a0 G cc own nL) {x0 x1 x2 : Option Value} {r : List (Option Value)} {x : Int64} (hd : decode cc pc = .ok (.lload_n 3, 1)) (hn : pc + 1 = n) (k : AW p l e R s m args below meth c Q s0 G nL tg h0 h bc bs n (x0 :: x1 :: x2 :: some (.long x) :: r) (.long x :: st)) : AW p l e R s m args below meth c Q s0 G nL tg h0 h bc bs pc (x0 :: x1 :: x2 :: some (.long x) :: r) st := fun H locs cells slots ls r9 f z hc hs hl => lv_lload_n X.2.1 X.2.2.1 hd rfl (asc_at hl rfl) (by rw [hn]; exact k H locs cells slots ls r9 f z hc hs hl)
theorem aw_lst3 (X : MX p l s m meth c s0 a0 G cc own nL) {x0 x1 x2 : Option Value} {y y2 : Option Value} {r : List (Option Value)} {x : Int64} (hd : decode cc pc = .ok (.lstore_n 3, 1)) (hn : pc + 1 = n) (hL : 4 < nL) (hc1 : c1 (x0 :: x1 :: x2 :: y :: y2 :: r) 3 = true) (k : AW p l e R s m args below meth c Q s0 G nL tg h0 h bc bs n (x0 :: x1 :: x2 :: some (.long x) :: none :: r) st) : AW p l e R s m args below meth c Q s0 G nL tg h0 h bc bs pc (x0 :: x1 :: x2 :: y :: y2 :: r) (.long x :: st) := fun H locs cells slots ls r9 f z hc hs hl => lv_lstore_n X.2.1 X.2.2.1 hd rfl hl hL rfl (fun ls9 hl9 => by rw [hn]; exact k H locs cells slots ls9 r9 f z hc hs (asc_set2 (L := x0 :: x1 :: x2 :: y :: y2 :: r) (i := 3) hc1 hl9))
theorem aw_lld4 (X : MX p l s m meth c s0 a0 G cc own nL) {x0 x1 x2 x3 : Option Value} {r : List (Option Value)} {x : Int64} (hd : decode cc pc = .ok (.lload 4, 2)) (hn : pc + 2 = n) (k : AW p l e R s m args below meth c Q s0 G nL tg h0 h bc bs n (x0 :: x1 :: x2 :: x3 :: some (.long x) :: r) (.long x :: st)) : AW p l e R s m args below meth c Q s0 G nL tg h0 h bc bs pc (x0 :: x1 :: x2 :: x3 :: some (.long x) :: r) st := fun H locs cells slots ls r9 f z hc hs hl => lv_lload X.2.1 X.2.2.1 hd (asc_at hl rfl) (by rw [hn]; exact k H locs cells slots ls r9 f z hc hs hl)
theorem aw_lst4 (X : MX p l s m meth c s0 a0 G cc own nL) {x0 x1 x2 x3 : Option Value} {y y2 : Option Value} {r : List (Option Value)} {x : Int64} (hd : decode cc pc = .ok (.lstore 4, 2)) (hn : pc + 2 = n) (hL : 5 < nL) (hc1 : c1 (x0 :: x1 :: x2 :: x3 :: y :: y2 :: r) 4 = true) (k : AW p l e R s m args below meth c Q s0 G nL tg h0 h bc bs n (x0 :: x1 :: x2 :: x3 :: some (.long x) :: none :: r) st) : AW p l e R s m args below meth c Q s0 G nL tg h0 h bc bs pc (x0 :: x1 :: x2 :: x3 :: y :: y2 :: r) (.long x :: st) := fun H locs cells slots ls r9 f z hc hs hl => lv_lstore X.2.1 X.2.2.1 hd hl hL rfl (fun ls9 hl9 => by rw [hn]; exact k H locs cells slots ls9 r9 f z hc hs (asc_set2 (L := x0 :: x1 :: x2 :: x3 :: y :: y2 :: r) (i := 4) hc1 hl9))
theorem aw_lld5 (X : MX p l s m meth c s0 a0 G cc own nL) {x0 x1 x2 x3 x4 : Option Value} {r : List (Option Value)} {x : Int64} (hd : decode cc pc = .ok (.lload 5, 2)) (hn : pc + 2 = n) (k : AW p l e R s m args below meth c Q s0 G nL tg h0 h bc bs n (x0 :: x1 :: x2 :: x3 :: x4 :: some (.long x) :: r) (.long x :: st)) : AW p l e R s m args below meth c Q s0 G nL tg h0 h bc bs pc (x0 :: x1 :: x2 :: x3 :: x4 :: some (.long x) :: r) st := fun H locs cells slots ls r9 f z hc hs hl => lv_lload X.2.1 X.2.2.1 hd (asc_at hl rfl) (by rw [hn]; exact k H locs cells slots ls r9 f z hc hs hl)
theorem aw_lst5 (X : MX p l s m meth c s0 a0 G cc own nL) {x0 x1 x2 x3 x4 : Option Value} {y y2 : Option Value} {r : List (Option Value)} {x : Int64} (hd : decode cc pc = .ok (.lstore 5, 2)) (hn : pc + 2 = n) (hL : 6 < nL) (hc1 : c1 (x0 :: x1 :: x2 :: x3 :: x4 :: y :: y2 :: r) 5 = true) (k : AW p l e R s m args below meth c Q s0 G nL tg h0 h bc bs n (x0 :: x1 :: x2 :: x3 :: x4 :: some (.long x) :: none :: r) st) : AW p l e R s m args below meth c Q s0 G nL tg h0 h bc bs pc (x0 :: x1 :: x2 :: x3 :: x4 :: y :: y2 :: r) (.long x :: st) := fun H locs cells slots ls r9 f z hc hs hl => lv_lstore X.2.1 X.2.2.1 hd hl hL rfl (fun ls9 hl9 => by rw [hn]; exact k H locs cells slots ls9 r9 f z hc hs (asc_set2 (L := x0 :: x1 :: x2 :: x3 :: x4 :: y :: y2 :: r) (i := 5) hc1 hl9))
theorem aw_lld6 (X : MX p l s m meth c s0 a0 G cc own nL) {x0 x1 x2 x3 x4 x5 : Option Value} {r : List (Option Value)} {x : Int64} (hd : decode cc pc = .ok (.lload 6, 2)) (hn : pc + 2 = n) (k : AW p l e R s m args below meth c Q s0 G nL tg h0 h bc bs n (x0 :: x1 :: x2 :: x3 :: x4 :: x5 :: some (.long x) :: r) (.long x :: st)) : AW p l e R s m args below meth c Q s0 G nL tg h0 h bc bs pc (x0 :: x1 :: x2 :: x3 :: x4 :: x5 :: some (.long x) :: r) st := fun H locs cells slots ls r9 f z hc hs hl => lv_lload X.2.1 X.2.2.1 hd (asc_at hl rfl) (by rw [hn]; exact k H locs cells slots ls r9 f z hc hs hl)
theorem aw_lst6 (X : MX p l s m meth c s0 a0 G cc own nL) {x0 x1 x2 x3 x4 x5 : Option Value} {y y2 : Option Value} {r : List (Option Value)} {x : Int64} (hd : decode cc pc = .ok (.lstore 6, 2)) (hn : pc + 2 = n) (hL : 7 < nL) (hc1 : c1 (x0 :: x1 :: x2 :: x3 :: x4 :: x5 :: y :: y2 :: r) 6 = true) (k : AW p l e R s m args below meth c Q s0 G nL tg h0 h bc bs n (x0 :: x1 :: x2 :: x3 :: x4 :: x5 :: some (.long x) :: none :: r) st) : AW p l e R s m args below meth c Q s0 G nL tg h0 h bc bs pc (x0 :: x1 :: x2 :: x3 :: x4 :: x5 :: y :: y2 :: r) (.long x :: st) := fun H locs cells slots ls r9 f z hc hs hl => lv_lstore X.2.1 X.2.2.1 hd hl hL rfl (fun ls9 hl9 => by rw [hn]; exact k H locs cells slots ls9 r9 f z hc hs (asc_set2 (L := x0 :: x1 :: x2 :: x3 :: x4 :: x5 :: y :: y2 :: r) (i := 6) hc1 hl9))
theorem aw_lld7 (X : MX p l s m meth c s0 a0 G cc own nL) {x0 x1 x2 x3 x4 x5 x6 : Option Value} {r : List (Option Value)} {x : Int64} (hd : decode cc pc = .ok (.lload 7, 2)) (hn : pc + 2 = n) (k : AW p l e R s m args below meth c Q s0 G nL tg h0 h bc bs n (x0 :: x1 :: x2 :: x3 :: x4 :: x5 :: x6 :: some (.long x) :: r) (.long x :: st)) : AW p l e R s m args below meth c Q s0 G nL tg h0 h bc bs pc (x0 :: x1 :: x2 :: x3 :: x4 :: x5 :: x6 :: some (.long x) :: r) st := fun H locs cells slots ls r9 f z hc hs hl => lv_lload X.2.1 X.2.2.1 hd (asc_at hl rfl) (by rw [hn]; exact k H locs cells slots ls r9 f z hc hs hl)
theorem aw_lst7 (X : MX p l s m meth c s0 a0 G cc own nL) {x0 x1 x2 x3 x4 x5 x6 : Option Value} {y y2 : Option Value} {r : List (Option Value)} {x : Int64} (hd : decode cc pc = .ok (.lstore 7, 2)) (hn : pc + 2 = n) (hL : 8 < nL) (hc1 : c1 (x0 :: x1 :: x2 :: x3 :: x4 :: x5 :: x6 :: y :: y2 :: r) 7 = true) (k : AW p l e R s m args below meth c Q s0 G nL tg h0 h bc bs n (x0 :: x1 :: x2 :: x3 :: x4 :: x5 :: x6 :: some (.long x) :: none :: r) st) : AW p l e R s m args below meth c Q s0 G nL tg h0 h bc bs pc (x0 :: x1 :: x2 :: x3 :: x4 :: x5 :: x6 :: y :: y2 :: r) (.long x :: st) := fun H locs cells slots ls r9 f z hc hs hl => lv_lstore X.2.1 X.2.2.1 hd hl hL rfl (fun ls9 hl9 => by rw [hn]; exact k H locs cells slots ls9 r9 f z hc hs (asc_set2 (L := x0 :: x1 :: x2 :: x3 :: x4 :: x5 :: x6 :: y :: y2 :: r) (i := 7) hc1 hl9))
theorem aw_lld8 (X : MX p l s m meth c s0 a0 G cc own nL) {x0 x1 x2 x3 x4 x5 x6 x7 : Option Value} {r : List (Option Value)} {x : Int64} (hd : decode cc pc = .ok (.lload 8, 2)) (hn : pc + 2 = n) (k : AW p l e R s m args below meth c Q s0 G nL tg h0 h bc bs n (x0 :: x1 :: x2 :: x3 :: x4 :: x5 :: x6 :: x7 :: some (.long x) :: r) (.long x :: st)) : AW p l e R s m args below meth c Q s0 G nL tg h0 h bc bs pc (x0 :: x1 :: x2 :: x3 :: x4 :: x5 :: x6 :: x7 :: some (.long x) :: r) st := fun H locs cells slots ls r9 f z hc hs hl => lv_lload X.2.1 X.2.2.1 hd (asc_at hl rfl) (by rw [hn]; exact k H locs cells slots ls r9 f z hc hs hl)
theorem aw_lst8 (X : MX p l s m meth c s0 a0 G cc own nL) {x0 x1 x2 x3 x4 x5 x6 x7 : Option Value} {y y2 : Option Value} {r : List (Option Value)} {x : Int64} (hd : decode cc pc = .ok (.lstore 8, 2)) (hn : pc + 2 = n) (hL : 9 < nL) (hc1 : c1 (x0 :: x1 :: x2 :: x3 :: x4 :: x5 :: x6 :: x7 :: y :: y2 :: r) 8 = true) (k : AW p l e R s m args below meth c Q s0 G nL tg h0 h bc bs n (x0 :: x1 :: x2 :: x3 :: x4 :: x5 :: x6 :: x7 :: some (.long x) :: none :: r) st) : AW p l e R s m args below meth c Q s0 G nL tg h0 h bc bs pc (x0 :: x1 :: x2 :: x3 :: x4 :: x5 :: x6 :: x7 :: y :: y2 :: r) (.long x :: st) := fun H locs cells slots ls r9 f z hc hs hl => lv_lstore X.2.1 X.2.2.1 hd hl hL rfl (fun ls9 hl9 => by rw [hn]; exact k H locs cells slots ls9 r9 f z hc hs (asc_set2 (L := x0 :: x1 :: x2 :: x3 :: x4 :: x5 :: x6 :: x7 :: y :: y2 :: r) (i := 8) hc1 hl9))
theorem aw_lld9 (X : MX p l s m meth c s0 a0 G cc own nL) {x0 x1 x2 x3 x4 x5 x6 x7 x8 : Option Value} {r : List (Option Value)} {x : Int64} (hd : decode cc pc = .ok (.lload 9, 2)) (hn : pc + 2 = n) (k : AW p l e R s m args below meth c Q s0 G nL tg h0 h bc bs n (x0 :: x1 :: x2 :: x3 :: x4 :: x5 :: x6 :: x7 :: x8 :: some (.long x) :: r) (.long x :: st)) : AW p l e R s m args below meth c Q s0 G nL tg h0 h bc bs pc (x0 :: x1 :: x2 :: x3 :: x4 :: x5 :: x6 :: x7 :: x8 :: some (.long x) :: r) st := fun H locs cells slots ls r9 f z hc hs hl => lv_lload X.2.1 X.2.2.1 hd (asc_at hl rfl) (by rw [hn]; exact k H locs cells slots ls r9 f z hc hs hl)
theorem aw_lst9 (X : MX p l s m meth c s0 a0 G cc own nL) {x0 x1 x2 x3 x4 x5 x6 x7 x8 : Option Value} {y y2 : Option Value} {r : List (Option Value)} {x : Int64} (hd : decode cc pc = .ok (.lstore 9, 2)) (hn : pc + 2 = n) (hL : 10 < nL) (hc1 : c1 (x0 :: x1 :: x2 :: x3 :: x4 :: x5 :: x6 :: x7 :: x8 :: y :: y2 :: r) 9 = true) (k : AW p l e R s m args below meth c Q s0 G nL tg h0 h bc bs n (x0 :: x1 :: x2 :: x3 :: x4 :: x5 :: x6 :: x7 :: x8 :: some (.long x) :: none :: r) st) : AW p l e R s m args below meth c Q s0 G nL tg h0 h bc bs pc (x0 :: x1 :: x2 :: x3 :: x4 :: x5 :: x6 :: x7 :: x8 :: y :: y2 :: r) (.long x :: st) := fun H locs cells slots ls r9 f z hc hs hl => lv_lstore X.2.1 X.2.2.1 hd hl hL rfl (fun ls9 hl9 => by rw [hn]; exact k H locs cells slots ls9 r9 f z hc hs (asc_set2 (L := x0 :: x1 :: x2 :: x3 :: x4 :: x5 :: x6 :: x7 :: x8 :: y :: y2 :: r) (i := 9) hc1 hl9))
theorem aw_lld10 (X : MX p l s m meth c s0 a0 G cc own nL) {x0 x1 x2 x3 x4 x5 x6 x7 x8 x9 : Option Value} {r : List (Option Value)} {x : Int64} (hd : decode cc pc = .ok (.lload 10, 2)) (hn : pc + 2 = n) (k : AW p l e R s m args below meth c Q s0 G nL tg h0 h bc bs n (x0 :: x1 :: x2 :: x3 :: x4 :: x5 :: x6 :: x7 :: x8 :: x9 :: some (.long x) :: r) (.long x :: st)) : AW p l e R s m args below meth c Q s0 G nL tg h0 h bc bs pc (x0 :: x1 :: x2 :: x3 :: x4 :: x5 :: x6 :: x7 :: x8 :: x9 :: some (.long x) :: r) st := fun H locs cells slots ls r9 f z hc hs hl => lv_lload X.2.1 X.2.2.1 hd (asc_at hl rfl) (by rw [hn]; exact k H locs cells slots ls r9 f z hc hs hl)
theorem aw_lst10 (X : MX p l s m meth c s0 a0 G cc own nL) {x0 x1 x2 x3 x4 x5 x6 x7 x8 x9 : Option Value} {y y2 : Option Value} {r : List (Option Value)} {x : Int64} (hd : decode cc pc = .ok (.lstore 10, 2)) (hn : pc + 2 = n) (hL : 11 < nL) (hc1 : c1 (x0 :: x1 :: x2 :: x3 :: x4 :: x5 :: x6 :: x7 :: x8 :: x9 :: y :: y2 :: r) 10 = true) (k : AW p l e R s m args below meth c Q s0 G nL tg h0 h bc bs n (x0 :: x1 :: x2 :: x3 :: x4 :: x5 :: x6 :: x7 :: x8 :: x9 :: some (.long x) :: none :: r) st) : AW p l e R s m args below meth c Q s0 G nL tg h0 h bc bs pc (x0 :: x1 :: x2 :: x3 :: x4 :: x5 :: x6 :: x7 :: x8 :: x9 :: y :: y2 :: r) (.long x :: st) := fun H locs cells slots ls r9 f z hc hs hl => lv_lstore X.2.1 X.2.2.1 hd hl hL rfl (fun ls9 hl9 => by rw [hn]; exact k H locs cells slots ls9 r9 f z hc hs (asc_set2 (L := x0 :: x1 :: x2 :: x3 :: x4 :: x5 :: x6 :: x7 :: x8 :: x9 :: y :: y2 :: r) (i := 10) hc1 hl9))
theorem aw_dld0 (X : MX p l s m meth c s0 a0 G cc own nL) {r : List (Option Value)} {x : UInt64} (hd : decode cc pc = .ok (.dload_n 0, 1)) (hn : pc + 1 = n) (k : AW p l e R s m args below meth c Q s0 G nL tg h0 h bc bs n (some (.double x) :: r) (.double x :: st)) : AW p l e R s m args below meth c Q s0 G nL tg h0 h bc bs pc (some (.double x) :: r) st := fun H locs cells slots ls r9 f z hc hs hl => lv_dload_n X.2.1 X.2.2.1 hd rfl (asc_at hl rfl) (by rw [hn]; exact k H locs cells slots ls r9 f z hc hs hl)
theorem aw_dst0 (X : MX p l s m meth c s0 a0 G cc own nL) {y y2 : Option Value} {r : List (Option Value)} {x : UInt64} (hd : decode cc pc = .ok (.dstore_n 0, 1)) (hn : pc + 1 = n) (hL : 1 < nL) (hc1 : c1 (y :: y2 :: r) 0 = true) (k : AW p l e R s m args below meth c Q s0 G nL tg h0 h bc bs n (some (.double x) :: none :: r) st) : AW p l e R s m args below meth c Q s0 G nL tg h0 h bc bs pc (y :: y2 :: r) (.double x :: st) := fun H locs cells slots ls r9 f z hc hs hl => lv_dstore_n X.2.1 X.2.2.1 hd rfl hl hL rfl (fun ls9 hl9 => by rw [hn]; exact k H locs cells slots ls9 r9 f z hc hs (asc_set2 (L := y :: y2 :: r) (i := 0) hc1 hl9))
theorem aw_dld1 (X : MX p l s m meth c s0 a0 G cc own nL) {x0 : Option Value} {r : List (Option Value)} {x : UInt64} (hd : decode cc pc = .ok (.dload_n 1, 1)) (hn : pc + 1 = n) (k : AW p l e R s m args below meth c Q s0 G nL tg h0 h bc bs n (x0 :: some (.double x) :: r) (.double x :: st)) : AW p l e R s m args below meth c Q s0 G nL tg h0 h bc bs pc (x0 :: some (.double x) :: r) st := fun H locs cells slots ls r9 f z hc hs hl => lv_dload_n X.2.1 X.2.2.1 hd rfl (asc_at hl rfl) (by rw [hn]; exact k H locs cells slots ls r9 f z hc hs hl)
theorem aw_dst1 (X : MX p l s m meth c s0 a0 G cc own nL) {x0 : Option Value} {y y2 : Option Value} {r : List (Option Value)} {x : UInt64} (hd : decode cc pc = .ok (.dstore_n 1, 1)) (hn : pc + 1 = n) (hL : 2 < nL) (hc1 : c1 (x0 :: y :: y2 :: r) 1 = true) (k : AW p l e R s m args below meth c Q s0 G nL tg h0 h bc bs n (x0 :: some (.double x) :: none :: r) st) : AW p l e R s m args below meth c Q s0 G nL tg h0 h bc bs pc (x0 :: y :: y2 :: r) (.double x :: st) := fun H locs cells slots ls r9 f z hc hs hl => lv_dstore_n X.2.1 X.2.2.1 hd rfl hl hL rfl (fun ls9 hl9 => by rw [hn]; exact k H locs cells slots ls9 r9 f z hc hs (asc_set2 (L := x0 :: y :: y2 :: r) (i := 1) hc1 hl9))
theorem aw_dld2 (X : MX p l s m meth c s0 a0 G cc own nL) {x0 x1 : Option Value} {r : List (Option Value)} {x : UInt64} (hd : decode cc pc = .ok (.dload_n 2, 1)) (hn : pc + 1 = n) (k : AW p l e R s m args below meth c Q s0 G nL tg h0 h bc bs n (x0 :: x1 :: some (.double x) :: r) (.double x :: st)) : AW p l e R s m args below meth c Q s0 G nL tg h0 h bc bs pc (x0 :: x1 :: some (.double x) :: r) st := fun H locs cells slots ls r9 f z hc hs hl => lv_dload_n X.2.1 X.2.2.1 hd rfl (asc_at hl rfl) (by rw [hn]; exact k H locs cells slots ls r9 f z hc hs hl)
theorem aw_dst2 (X : MX p l s m meth c s0 a0 G cc own nL) {x0 x1 : Option Value} {y y2 : Option Value} {r : List (Option Value)} {x : UInt64} (hd : decode cc pc = .ok (.dstore_n 2, 1)) (hn : pc + 1 = n) (hL : 3 < nL) (hc1 : c1 (x0 :: x1 :: y :: y2 :: r) 2 = true) (k : AW p l e R s m args below meth c Q s0 G nL tg h0 h bc bs n (x0 :: x1 :: some (.double x) :: none :: r) st) : AW p l e R s m args below meth c Q s0 G nL tg h0 h bc bs pc (x0 :: x1 :: y :: y2 :: r) (.double x :: st) := fun H locs cells slots ls r9 f z hc hs hl => lv_dstore_n X.2.1 X.2.2.1 hd rfl hl hL rfl (fun ls9 hl9 => by rw [hn]; exact k H locs cells slots ls9 r9 f z hc hs (asc_set2 (L := x0 :: x1 :: y :: y2 :: r) (i := 2) hc1 hl9))
theorem aw_dld3 (X : MX p l s m meth c s0 a0 G cc own nL) {x0 x1 x2 : Option Value} {r : List (Option Value)} {x : UInt64} (hd : decode cc pc = .ok (.dload_n 3, 1)) (hn : pc + 1 = n) (k : AW p l e R s m args below meth c Q s0 G nL tg h0 h bc bs n (x0 :: x1 :: x2 :: some (.double x) :: r) (.double x :: st)) : AW p l e R s m args below meth c Q s0 G nL tg h0 h bc bs pc (x0 :: x1 :: x2 :: some (.double x) :: r) st := fun H locs cells slots ls r9 f z hc hs hl => lv_dload_n X.2.1 X.2.2.1 hd rfl (asc_at hl rfl) (by rw [hn]; exact k H locs cells slots ls r9 f z hc hs hl)
theorem aw_dst3 (X : MX p l s m meth c s0 a0 G cc own nL) {x0 x1 x2 : Option Value} {y y2 : Option Value} {r : List (Option Value)} {x : UInt64} (hd : decode cc pc = .ok (.dstore_n 3, 1)) (hn : pc + 1 = n) (hL : 4 < nL) (hc1 : c1 (x0 :: x1 :: x2 :: y :: y2 :: r) 3 = true) (k : AW p l e R s m args below meth c Q s0 G nL tg h0 h bc bs n (x0 :: x1 :: x2 :: some (.double x) :: none :: r) st) : AW p l e R s m args below meth c Q s0 G nL tg h0 h bc bs pc (x0 :: x1 :: x2 :: y :: y2 :: r) (.double x :: st) := fun H locs cells slots ls r9 f z hc hs hl => lv_dstore_n X.2.1 X.2.2.1 hd rfl hl hL rfl (fun ls9 hl9 => by rw [hn]; exact k H locs cells slots ls9 r9 f z hc hs (asc_set2 (L := x0 :: x1 :: x2 :: y :: y2 :: r) (i := 3) hc1 hl9))
theorem aw_dld4 (X : MX p l s m meth c s0 a0 G cc own nL) {x0 x1 x2 x3 : Option Value} {r : List (Option Value)} {x : UInt64} (hd : decode cc pc = .ok (.dload 4, 2)) (hn : pc + 2 = n) (k : AW p l e R s m args below meth c Q s0 G nL tg h0 h bc bs n (x0 :: x1 :: x2 :: x3 :: some (.double x) :: r) (.double x :: st)) : AW p l e R s m args below meth c Q s0 G nL tg h0 h bc bs pc (x0 :: x1 :: x2 :: x3 :: some (.double x) :: r) st := fun H locs cells slots ls r9 f z hc hs hl => lv_dload X.2.1 X.2.2.1 hd (asc_at hl rfl) (by rw [hn]; exact k H locs cells slots ls r9 f z hc hs hl)
theorem aw_dst4 (X : MX p l s m meth c s0 a0 G cc own nL) {x0 x1 x2 x3 : Option Value} {y y2 : Option Value} {r : List (Option Value)} {x : UInt64} (hd : decode cc pc = .ok (.dstore 4, 2)) (hn : pc + 2 = n) (hL : 5 < nL) (hc1 : c1 (x0 :: x1 :: x2 :: x3 :: y :: y2 :: r) 4 = true) (k : AW p l e R s m args below meth c Q s0 G nL tg h0 h bc bs n (x0 :: x1 :: x2 :: x3 :: some (.double x) :: none :: r) st) : AW p l e R s m args below meth c Q s0 G nL tg h0 h bc bs pc (x0 :: x1 :: x2 :: x3 :: y :: y2 :: r) (.double x :: st) := fun H locs cells slots ls r9 f z hc hs hl => lv_dstore X.2.1 X.2.2.1 hd hl hL rfl (fun ls9 hl9 => by rw [hn]; exact k H locs cells slots ls9 r9 f z hc hs (asc_set2 (L := x0 :: x1 :: x2 :: x3 :: y :: y2 :: r) (i := 4) hc1 hl9))
theorem aw_dld5 (X : MX p l s m meth c s0 a0 G cc own nL) {x0 x1 x2 x3 x4 : Option Value} {r : List (Option Value)} {x : UInt64} (hd : decode cc pc = .ok (.dload 5, 2)) (hn : pc + 2 = n) (k : AW p l e R s m args below meth c Q s0 G nL tg h0 h bc bs n (x0 :: x1 :: x2 :: x3 :: x4 :: some (.double x) :: r) (.double x :: st)) : AW p l e R s m args below meth c Q s0 G nL tg h0 h bc bs pc (x0 :: x1 :: x2 :: x3 :: x4 :: some (.double x) :: r) st := fun H locs cells slots ls r9 f z hc hs hl => lv_dload X.2.1 X.2.2.1 hd (asc_at hl rfl) (by rw [hn]; exact k H locs cells slots ls r9 f z hc hs hl)
theorem aw_dst5 (X : MX p l s m meth c s0 a0 G cc own nL) {x0 x1 x2 x3 x4 : Option Value} {y y2 : Option Value} {r : List (Option Value)} {x : UInt64} (hd : decode cc pc = .ok (.dstore 5, 2)) (hn : pc + 2 = n) (hL : 6 < nL) (hc1 : c1 (x0 :: x1 :: x2 :: x3 :: x4 :: y :: y2 :: r) 5 = true) (k : AW p l e R s m args below meth c Q s0 G nL tg h0 h bc bs n (x0 :: x1 :: x2 :: x3 :: x4 :: some (.double x) :: none :: r) st) : AW p l e R s m args below meth c Q s0 G nL tg h0 h bc bs pc (x0 :: x1 :: x2 :: x3 :: x4 :: y :: y2 :: r) (.double x :: st) := fun H locs cells slots ls r9 f z hc hs hl => lv_dstore X.2.1 X.2.2.1 hd hl hL rfl (fun ls9 hl9 => by rw [hn]; exact k H locs cells slots ls9 r9 f z hc hs (asc_set2 (L := x0 :: x1 :: x2 :: x3 :: x4 :: y :: y2 :: r) (i := 5) hc1 hl9))
theorem aw_dld6 (X : MX p l s m meth c s0 a0 G cc own nL) {x0 x1 x2 x3 x4 x5 : Option Value} {r : List (Option Value)} {x : UInt64} (hd : decode cc pc = .ok (.dload 6, 2)) (hn : pc + 2 = n) (k : AW p l e R s m args below meth c Q s0 G nL tg h0 h bc bs n (x0 :: x1 :: x2 :: x3 :: x4 :: x5 :: some (.double x) :: r) (.double x :: st)) : AW p l e R s m args below meth c Q s0 G nL tg h0 h bc bs pc (x0 :: x1 :: x2 :: x3 :: x4 :: x5 :: some (.double x) :: r) st := fun H locs cells slots ls r9 f z hc hs hl => lv_dload X.2.1 X.2.2.1 hd (asc_at hl rfl) (by rw [hn]; exact k H locs cells slots ls r9 f z hc hs hl)
theorem aw_dst6 (X : MX p l s m meth c s0 a0 G cc own nL) {x0 x1 x2 x3 x4 x5 : Option Value} {y y2 : Option Value} {r : List (Option Value)} {x : UInt64} (hd : decode cc pc = .ok (.dstore 6, 2)) (hn : pc + 2 = n) (hL : 7 < nL) (hc1 : c1 (x0 :: x1 :: x2 :: x3 :: x4 :: x5 :: y :: y2 :: r) 6 = true) (k : AW p l e R s m args below meth c Q s0 G nL tg h0 h bc bs n (x0 :: x1 :: x2 :: x3 :: x4 :: x5 :: some (.double x) :: none :: r) st) : AW p l e R s m args below meth c Q s0 G nL tg h0 h bc bs pc (x0 :: x1 :: x2 :: x3 :: x4 :: x5 :: y :: y2 :: r) (.double x :: st) := fun H locs cells slots ls r9 f z hc hs hl => lv_dstore X.2.1 X.2.2.1 hd hl hL rfl (fun ls9 hl9 => by rw [hn]; exact k H locs cells slots ls9 r9 f z hc hs (asc_set2 (L := x0 :: x1 :: x2 :: x3 :: x4 :: x5 :: y :: y2 :: r) (i := 6) hc1 hl9))
theorem aw_dld7 (X : MX p l s m meth c s0 a0 G cc own nL) {x0 x1 x2 x3 x4 x5 x6 : Option Value} {r : List (Option Value)} {x : UInt64} (hd : decode cc pc = .ok (.dload 7, 2)) (hn : pc + 2 = n) (k : AW p l e R s m args below meth c Q s0 G nL tg h0 h bc bs n (x0 :: x1 :: x2 :: x3 :: x4 :: x5 :: x6 :: some (.double x) :: r) (.double x :: st)) : AW p l e R s m args below meth c Q s0 G nL tg h0 h bc bs pc (x0 :: x1 :: x2 :: x3 :: x4 :: x5 :: x6 :: some (.double x) :: r) st := fun H locs cells slots ls r9 f z hc hs hl => lv_dload X.2.1 X.2.2.1 hd (asc_at hl rfl) (by rw [hn]; exact k H locs cells slots ls r9 f z hc hs hl)
theorem aw_dst7 (X : MX p l s m meth c s0 a0 G cc own nL) {x0 x1 x2 x3 x4 x5 x6 : Option Value} {y y2 : Option Value} {r : List (Option Value)} {x : UInt64} (hd : decode cc pc = .ok (.dstore 7, 2)) (hn : pc + 2 = n) (hL : 8 < nL) (hc1 : c1 (x0 :: x1 :: x2 :: x3 :: x4 :: x5 :: x6 :: y :: y2 :: r) 7 = true) (k : AW p l e R s m args below meth c Q s0 G nL tg h0 h bc bs n (x0 :: x1 :: x2 :: x3 :: x4 :: x5 :: x6 :: some (.double x) :: none :: r) st) : AW p l e R s m args below meth c Q s0 G nL tg h0 h bc bs pc (x0 :: x1 :: x2 :: x3 :: x4 :: x5 :: x6 :: y :: y2 :: r) (.double x :: st) := fun H locs cells slots ls r9 f z hc hs hl => lv_dstore X.2.1 X.2.2.1 hd hl hL rfl (fun ls9 hl9 => by rw [hn]; exact k H locs cells slots ls9 r9 f z hc hs (asc_set2 (L := x0 :: x1 :: x2 :: x3 :: x4 :: x5 :: x6 :: y :: y2 :: r) (i := 7) hc1 hl9))
theorem aw_dld8 (X : MX p l s m meth c s0 a0 G cc own nL) {x0 x1 x2 x3 x4 x5 x6 x7 : Option Value} {r : List (Option Value)} {x : UInt64} (hd : decode cc pc = .ok (.dload 8, 2)) (hn : pc + 2 = n) (k : AW p l e R s m args below meth c Q s0 G nL tg h0 h bc bs n (x0 :: x1 :: x2 :: x3 :: x4 :: x5 :: x6 :: x7 :: some (.double x) :: r) (.double x :: st)) : AW p l e R s m args below meth c Q s0 G nL tg h0 h bc bs pc (x0 :: x1 :: x2 :: x3 :: x4 :: x5 :: x6 :: x7 :: some (.double x) :: r) st := fun H locs cells slots ls r9 f z hc hs hl => lv_dload X.2.1 X.2.2.1 hd (asc_at hl rfl) (by rw [hn]; exact k H locs cells slots ls r9 f z hc hs hl)
theorem aw_dst8 (X : MX p l s m meth c s0 a0 G cc own nL) {x0 x1 x2 x3 x4 x5 x6 x7 : Option Value} {y y2 : Option Value} {r : List (Option Value)} {x : UInt64} (hd : decode cc pc = .ok (.dstore 8, 2)) (hn : pc + 2 = n) (hL : 9 < nL) (hc1 : c1 (x0 :: x1 :: x2 :: x3 :: x4 :: x5 :: x6 :: x7 :: y :: y2 :: r) 8 = true) (k : AW p l e R s m args below meth c Q s0 G nL tg h0 h bc bs n (x0 :: x1 :: x2 :: x3 :: x4 :: x5 :: x6 :: x7 :: some (.double x) :: none :: r) st) : AW p l e R s m args below meth c Q s0 G nL tg h0 h bc bs pc (x0 :: x1 :: x2 :: x3 :: x4 :: x5 :: x6 :: x7 :: y :: y2 :: r) (.double x :: st) := fun H locs cells slots ls r9 f z hc hs hl => lv_dstore X.2.1 X.2.2.1 hd hl hL rfl (fun ls9 hl9 => by rw [hn]; exact k H locs cells slots ls9 r9 f z hc hs (asc_set2 (L := x0 :: x1 :: x2 :: x3 :: x4 :: x5 :: x6 :: x7 :: y :: y2 :: r) (i := 8) hc1 hl9))
theorem aw_dld9 (X : MX p l s m meth c s0 a0 G cc own nL) {x0 x1 x2 x3 x4 x5 x6 x7 x8 : Option Value} {r : List (Option Value)} {x : UInt64} (hd : decode cc pc = .ok (.dload 9, 2)) (hn : pc + 2 = n) (k : AW p l e R s m args below meth c Q s0 G nL tg h0 h bc bs n (x0 :: x1 :: x2 :: x3 :: x4 :: x5 :: x6 :: x7 :: x8 :: some (.double x) :: r) (.double x :: st)) : AW p l e R s m args below meth c Q s0 G nL tg h0 h bc bs pc (x0 :: x1 :: x2 :: x3 :: x4 :: x5 :: x6 :: x7 :: x8 :: some (.double x) :: r) st := fun H locs cells slots ls r9 f z hc hs hl => lv_dload X.2.1 X.2.2.1 hd (asc_at hl rfl) (by rw [hn]; exact k H locs cells slots ls r9 f z hc hs hl)
theorem aw_dst9 (X : MX p l s m meth c s0 a0 G cc own nL) {x0 x1 x2 x3 x4 x5 x6 x7 x8 : Option Value} {y y2 : Option Value} {r : List (Option Value)} {x : UInt64} (hd : decode cc pc = .ok (.dstore 9, 2)) (hn : pc + 2 = n) (hL : 10 < nL) (hc1 : c1 (x0 :: x1 :: x2 :: x3 :: x4 :: x5 :: x6 :: x7 :: x8 :: y :: y2 :: r) 9 = true) (k : AW p l e R s m args below meth c Q s0 G nL tg h0 h bc bs n (x0 :: x1 :: x2 :: x3 :: x4 :: x5 :: x6 :: x7 :: x8 :: some (.double x) :: none :: r) st) : AW p l e R s m args below meth c Q s0 G nL tg h0 h bc bs pc (x0 :: x1 :: x2 :: x3 :: x4 :: x5 :: x6 :: x7 :: x8 :: y :: y2 :: r) (.double x :: st) := fun H locs cells slots ls r9 f z hc hs hl => lv_dstore X.2.1 X.2.2.1 hd hl hL rfl (fun ls9 hl9 => by rw [hn]; exact k H locs cells slots ls9 r9 f z hc hs (asc_set2 (L := x0 :: x1 :: x2 :: x3 :: x4 :: x5 :: x6 :: x7 :: x8 :: y :: y2 :: r) (i := 9) hc1 hl9))
theorem aw_dld10 (X : MX p l s m meth c s0 a0 G cc own nL) {x0 x1 x2 x3 x4 x5 x6 x7 x8 x9 : Option Value} {r : List (Option Value)} {x : UInt64} (hd : decode cc pc = .ok (.dload 10, 2)) (hn : pc + 2 = n) (k : AW p l e R s m args below meth c Q s0 G nL tg h0 h bc bs n (x0 :: x1 :: x2 :: x3 :: x4 :: x5 :: x6 :: x7 :: x8 :: x9 :: some (.double x) :: r) (.double x :: st)) : AW p l e R s m args below meth c Q s0 G nL tg h0 h bc bs pc (x0 :: x1 :: x2 :: x3 :: x4 :: x5 :: x6 :: x7 :: x8 :: x9 :: some (.double x) :: r) st := fun H locs cells slots ls r9 f z hc hs hl => lv_dload X.2.1 X.2.2.1 hd (asc_at hl rfl) (by rw [hn]; exact k H locs cells slots ls r9 f z hc hs hl)
theorem aw_dst10 (X : MX p l s m meth c s0 a0 G cc own nL) {x0 x1 x2 x3 x4 x5 x6 x7 x8 x9 : Option Value} {y y2 : Option Value} {r : List (Option Value)} {x : UInt64} (hd : decode cc pc = .ok (.dstore 10, 2)) (hn : pc + 2 = n) (hL : 11 < nL) (hc1 : c1 (x0 :: x1 :: x2 :: x3 :: x4 :: x5 :: x6 :: x7 :: x8 :: x9 :: y :: y2 :: r) 10 = true) (k : AW p l e R s m args below meth c Q s0 G nL tg h0 h bc bs n (x0 :: x1 :: x2 :: x3 :: x4 :: x5 :: x6 :: x7 :: x8 :: x9 :: some (.double x) :: none :: r) st) : AW p l e R s m args below meth c Q s0 G nL tg h0 h bc bs pc (x0 :: x1 :: x2 :: x3 :: x4 :: x5 :: x6 :: x7 :: x8 :: x9 :: y :: y2 :: r) (.double x :: st) := fun H locs cells slots ls r9 f z hc hs hl => lv_dstore X.2.1 X.2.2.1 hd hl hL rfl (fun ls9 hl9 => by rw [hn]; exact k H locs cells slots ls9 r9 f z hc hs (asc_set2 (L := x0 :: x1 :: x2 :: x3 :: x4 :: x5 :: x6 :: x7 :: x8 :: x9 :: y :: y2 :: r) (i := 10) hc1 hl9))
theorem aw_iinc0 (X : MX p l s m meth c s0 a0 G cc own nL) {r : List (Option Value)} {x : Int32} {i : Int} (v : Int32) (hd : decode cc pc = .ok (.iinc 0 i, 3)) (hv : Int32.ofInt i = v) (hn : pc + 3 = n) (hL : 0 < nL) (hc1 : c1 (some (.int x) :: r) 0 = true) (k : AW p l e R s m args below meth c Q s0 G nL tg h0 h bc bs n (some (.int (x + v)) :: r) st) : AW p l e R s m args below meth c Q s0 G nL tg h0 h bc bs pc (some (.int x) :: r) st := by
  intro H locs cells slots ls r9 f z hc hs hl
  subst hv
  obtain ⟨k9, hk9⟩ := List.getElem?_of_mem (asc_in (L := some (.int x) :: r) (k := 0) (j := 0) rfl)
  rw [Nat.zero_add] at hk9
  exact lv_iinc X.2.1 X.2.2.1 hd hl hk9 rfl hL rfl (fun ls9 hl9 => by rw [hn]; exact k H locs cells slots ls9 r9 f z hc hs (asc_set1 (L := some (.int x) :: r) (i := 0) hc1 hl9))
theorem aw_iinc1 (X : MX p l s m meth c s0 a0 G cc own nL) {x0 : Option Value} {r : List (Option Value)} {x : Int32} {i : Int} (v : Int32) (hd : decode cc pc = .ok (.iinc 1 i, 3)) (hv : Int32.ofInt i = v) (hn : pc + 3 = n) (hL : 1 < nL) (hc1 : c1 (x0 :: some (.int x) :: r) 1 = true) (k : AW p l e R s m args below meth c Q s0 G nL tg h0 h bc bs n (x0 :: some (.int (x + v)) :: r) st) : AW p l e R s m args below meth c Q s0 G nL tg h0 h bc bs pc (x0 :: some (.int x) :: r) st := by
  intro H locs cells slots ls r9 f z hc hs hl
  subst hv
  obtain ⟨k9, hk9⟩ := List.getElem?_of_mem (asc_in (L := x0 :: some (.int x) :: r) (k := 0) (j := 1) rfl)
  rw [Nat.zero_add] at hk9
  exact lv_iinc X.2.1 X.2.2.1 hd hl hk9 rfl hL rfl (fun ls9 hl9 => by rw [hn]; exact k H locs cells slots ls9 r9 f z hc hs (asc_set1 (L := x0 :: some (.int x) :: r) (i := 1) hc1 hl9))
theorem aw_iinc2 (X : MX p l s m meth c s0 a0 G cc own nL) {x0 x1 : Option Value} {r : List (Option Value)} {x : Int32} {i : Int} (v : Int32) (hd : decode cc pc = .ok (.iinc 2 i, 3)) (hv : Int32.ofInt i = v) (hn : pc + 3 = n) (hL : 2 < nL) (hc1 : c1 (x0 :: x1 :: some (.int x) :: r) 2 = true) (k : AW p l e R s m args below meth c Q s0 G nL tg h0 h bc bs n (x0 :: x1 :: some (.int (x + v)) :: r) st) : AW p l e R s m args below meth c Q s0 G nL tg h0 h bc bs pc (x0 :: x1 :: some (.int x) :: r) st := by
  intro H locs cells slots ls r9 f z hc hs hl
  subst hv
  obtain ⟨k9, hk9⟩ := List.getElem?_of_mem (asc_in (L := x0 :: x1 :: some (.int x) :: r) (k := 0) (j := 2) rfl)
  rw [Nat.zero_add] at hk9
  exact lv_iinc X.2.1 X.2.2.1 hd hl hk9 rfl hL rfl (fun ls9 hl9 => by rw [hn]; exact k H locs cells slots ls9 r9 f z hc hs (asc_set1 (L := x0 :: x1 :: some (.int x) :: r) (i := 2) hc1 hl9))
theorem aw_iinc3 (X : MX p l s m meth c s0 a0 G cc own nL) {x0 x1 x2 : Option Value} {r : List (Option Value)} {x : Int32} {i : Int} (v : Int32) (hd : decode cc pc = .ok (.iinc 3 i, 3)) (hv : Int32.ofInt i = v) (hn : pc + 3 = n) (hL : 3 < nL) (hc1 : c1 (x0 :: x1 :: x2 :: some (.int x) :: r) 3 = true) (k : AW p l e R s m args below meth c Q s0 G nL tg h0 h bc bs n (x0 :: x1 :: x2 :: some (.int (x + v)) :: r) st) : AW p l e R s m args below meth c Q s0 G nL tg h0 h bc bs pc (x0 :: x1 :: x2 :: some (.int x) :: r) st := by
  intro H locs cells slots ls r9 f z hc hs hl
  subst hv
  obtain ⟨k9, hk9⟩ := List.getElem?_of_mem (asc_in (L := x0 :: x1 :: x2 :: some (.int x) :: r) (k := 0) (j := 3) rfl)
  rw [Nat.zero_add] at hk9
  exact lv_iinc X.2.1 X.2.2.1 hd hl hk9 rfl hL rfl (fun ls9 hl9 => by rw [hn]; exact k H locs cells slots ls9 r9 f z hc hs (asc_set1 (L := x0 :: x1 :: x2 :: some (.int x) :: r) (i := 3) hc1 hl9))
theorem aw_iinc4 (X : MX p l s m meth c s0 a0 G cc own nL) {x0 x1 x2 x3 : Option Value} {r : List (Option Value)} {x : Int32} {i : Int} (v : Int32) (hd : decode cc pc = .ok (.iinc 4 i, 3)) (hv : Int32.ofInt i = v) (hn : pc + 3 = n) (hL : 4 < nL) (hc1 : c1 (x0 :: x1 :: x2 :: x3 :: some (.int x) :: r) 4 = true) (k : AW p l e R s m args below meth c Q s0 G nL tg h0 h bc bs n (x0 :: x1 :: x2 :: x3 :: some (.int (x + v)) :: r) st) : AW p l e R s m args below meth c Q s0 G nL tg h0 h bc bs pc (x0 :: x1 :: x2 :: x3 :: some (.int x) :: r) st := by
  intro H locs cells slots ls r9 f z hc hs hl
  subst hv
  obtain ⟨k9, hk9⟩ := List.getElem?_of_mem (asc_in (L := x0 :: x1 :: x2 :: x3 :: some (.int x) :: r) (k := 0) (j := 4) rfl)
  rw [Nat.zero_add] at hk9
  exact lv_iinc X.2.1 X.2.2.1 hd hl hk9 rfl hL rfl (fun ls9 hl9 => by rw [hn]; exact k H locs cells slots ls9 r9 f z hc hs (asc_set1 (L := x0 :: x1 :: x2 :: x3 :: some (.int x) :: r) (i := 4) hc1 hl9))
theorem aw_iinc5 (X : MX p l s m meth c s0 a0 G cc own nL) {x0 x1 x2 x3 x4 : Option Value} {r : List (Option Value)} {x : Int32} {i : Int} (v : Int32) (hd : decode cc pc = .ok (.iinc 5 i, 3)) (hv : Int32.ofInt i = v) (hn : pc + 3 = n) (hL : 5 < nL) (hc1 : c1 (x0 :: x1 :: x2 :: x3 :: x4 :: some (.int x) :: r) 5 = true) (k : AW p l e R s m args below meth c Q s0 G nL tg h0 h bc bs n (x0 :: x1 :: x2 :: x3 :: x4 :: some (.int (x + v)) :: r) st) : AW p l e R s m args below meth c Q s0 G nL tg h0 h bc bs pc (x0 :: x1 :: x2 :: x3 :: x4 :: some (.int x) :: r) st := by
  intro H locs cells slots ls r9 f z hc hs hl
  subst hv
  obtain ⟨k9, hk9⟩ := List.getElem?_of_mem (asc_in (L := x0 :: x1 :: x2 :: x3 :: x4 :: some (.int x) :: r) (k := 0) (j := 5) rfl)
  rw [Nat.zero_add] at hk9
  exact lv_iinc X.2.1 X.2.2.1 hd hl hk9 rfl hL rfl (fun ls9 hl9 => by rw [hn]; exact k H locs cells slots ls9 r9 f z hc hs (asc_set1 (L := x0 :: x1 :: x2 :: x3 :: x4 :: some (.int x) :: r) (i := 5) hc1 hl9))
theorem aw_iinc6 (X : MX p l s m meth c s0 a0 G cc own nL) {x0 x1 x2 x3 x4 x5 : Option Value} {r : List (Option Value)} {x : Int32} {i : Int} (v : Int32) (hd : decode cc pc = .ok (.iinc 6 i, 3)) (hv : Int32.ofInt i = v) (hn : pc + 3 = n) (hL : 6 < nL) (hc1 : c1 (x0 :: x1 :: x2 :: x3 :: x4 :: x5 :: some (.int x) :: r) 6 = true) (k : AW p l e R s m args below meth c Q s0 G nL tg h0 h bc bs n (x0 :: x1 :: x2 :: x3 :: x4 :: x5 :: some (.int (x + v)) :: r) st) : AW p l e R s m args below meth c Q s0 G nL tg h0 h bc bs pc (x0 :: x1 :: x2 :: x3 :: x4 :: x5 :: some (.int x) :: r) st := by
  intro H locs cells slots ls r9 f z hc hs hl
  subst hv
  obtain ⟨k9, hk9⟩ := List.getElem?_of_mem (asc_in (L := x0 :: x1 :: x2 :: x3 :: x4 :: x5 :: some (.int x) :: r) (k := 0) (j := 6) rfl)
  rw [Nat.zero_add] at hk9
  exact lv_iinc X.2.1 X.2.2.1 hd hl hk9 rfl hL rfl (fun ls9 hl9 => by rw [hn]; exact k H locs cells slots ls9 r9 f z hc hs (asc_set1 (L := x0 :: x1 :: x2 :: x3 :: x4 :: x5 :: some (.int x) :: r) (i := 6) hc1 hl9))
theorem aw_iinc7 (X : MX p l s m meth c s0 a0 G cc own nL) {x0 x1 x2 x3 x4 x5 x6 : Option Value} {r : List (Option Value)} {x : Int32} {i : Int} (v : Int32) (hd : decode cc pc = .ok (.iinc 7 i, 3)) (hv : Int32.ofInt i = v) (hn : pc + 3 = n) (hL : 7 < nL) (hc1 : c1 (x0 :: x1 :: x2 :: x3 :: x4 :: x5 :: x6 :: some (.int x) :: r) 7 = true) (k : AW p l e R s m args below meth c Q s0 G nL tg h0 h bc bs n (x0 :: x1 :: x2 :: x3 :: x4 :: x5 :: x6 :: some (.int (x + v)) :: r) st) : AW p l e R s m args below meth c Q s0 G nL tg h0 h bc bs pc (x0 :: x1 :: x2 :: x3 :: x4 :: x5 :: x6 :: some (.int x) :: r) st := by
  intro H locs cells slots ls r9 f z hc hs hl
  subst hv
  obtain ⟨k9, hk9⟩ := List.getElem?_of_mem (asc_in (L := x0 :: x1 :: x2 :: x3 :: x4 :: x5 :: x6 :: some (.int x) :: r) (k := 0) (j := 7) rfl)
  rw [Nat.zero_add] at hk9
  exact lv_iinc X.2.1 X.2.2.1 hd hl hk9 rfl hL rfl (fun ls9 hl9 => by rw [hn]; exact k H locs cells slots ls9 r9 f z hc hs (asc_set1 (L := x0 :: x1 :: x2 :: x3 :: x4 :: x5 :: x6 :: some (.int x) :: r) (i := 7) hc1 hl9))
theorem aw_iinc8 (X : MX p l s m meth c s0 a0 G cc own nL) {x0 x1 x2 x3 x4 x5 x6 x7 : Option Value} {r : List (Option Value)} {x : Int32} {i : Int} (v : Int32) (hd : decode cc pc = .ok (.iinc 8 i, 3)) (hv : Int32.ofInt i = v) (hn : pc + 3 = n) (hL : 8 < nL) (hc1 : c1 (x0 :: x1 :: x2 :: x3 :: x4 :: x5 :: x6 :: x7 :: some (.int x) :: r) 8 = true) (k : AW p l e R s m args below meth c Q s0 G nL tg h0 h bc bs n (x0 :: x1 :: x2 :: x3 :: x4 :: x5 :: x6 :: x7 :: some (.int (x + v)) :: r) st) : AW p l e R s m args below meth c Q s0 G nL tg h0 h bc bs pc (x0 :: x1 :: x2 :: x3 :: x4 :: x5 :: x6 :: x7 :: some (.int x) :: r) st := by
  intro H locs cells slots ls r9 f z hc hs hl
  subst hv
  obtain ⟨k9, hk9⟩ := List.getElem?_of_mem (asc_in (L := x0 :: x1 :: x2 :: x3 :: x4 :: x5 :: x6 :: x7 :: some (.int x) :: r) (k := 0) (j := 8) rfl)
  rw [Nat.zero_add] at hk9
  exact lv_iinc X.2.1 X.2.2.1 hd hl hk9 rfl hL rfl (fun ls9 hl9 => by rw [hn]; exact k H locs cells slots ls9 r9 f z hc hs (asc_set1 (L := x0 :: x1 :: x2 :: x3 :: x4 :: x5 :: x6 :: x7 :: some (.int x) :: r) (i := 8) hc1 hl9))
theorem aw_iinc9 (X : MX p l s m meth c s0 a0 G cc own nL) {x0 x1 x2 x3 x4 x5 x6 x7 x8 : Option Value} {r : List (Option Value)} {x : Int32} {i : Int} (v : Int32) (hd : decode cc pc = .ok (.iinc 9 i, 3)) (hv : Int32.ofInt i = v) (hn : pc + 3 = n) (hL : 9 < nL) (hc1 : c1 (x0 :: x1 :: x2 :: x3 :: x4 :: x5 :: x6 :: x7 :: x8 :: some (.int x) :: r) 9 = true) (k : AW p l e R s m args below meth c Q s0 G nL tg h0 h bc bs n (x0 :: x1 :: x2 :: x3 :: x4 :: x5 :: x6 :: x7 :: x8 :: some (.int (x + v)) :: r) st) : AW p l e R s m args below meth c Q s0 G nL tg h0 h bc bs pc (x0 :: x1 :: x2 :: x3 :: x4 :: x5 :: x6 :: x7 :: x8 :: some (.int x) :: r) st := by
  intro H locs cells slots ls r9 f z hc hs hl
  subst hv
  obtain ⟨k9, hk9⟩ := List.getElem?_of_mem (asc_in (L := x0 :: x1 :: x2 :: x3 :: x4 :: x5 :: x6 :: x7 :: x8 :: some (.int x) :: r) (k := 0) (j := 9) rfl)
  rw [Nat.zero_add] at hk9
  exact lv_iinc X.2.1 X.2.2.1 hd hl hk9 rfl hL rfl (fun ls9 hl9 => by rw [hn]; exact k H locs cells slots ls9 r9 f z hc hs (asc_set1 (L := x0 :: x1 :: x2 :: x3 :: x4 :: x5 :: x6 :: x7 :: x8 :: some (.int x) :: r) (i := 9) hc1 hl9))
theorem aw_iinc10 (X : MX p l s m meth c s0 a0 G cc own nL) {x0 x1 x2 x3 x4 x5 x6 x7 x8 x9 : Option Value} {r : List (Option Value)} {x : Int32} {i : Int} (v : Int32) (hd : decode cc pc = .ok (.iinc 10 i, 3)) (hv : Int32.ofInt i = v) (hn : pc + 3 = n) (hL : 10 < nL) (hc1 : c1 (x0 :: x1 :: x2 :: x3 :: x4 :: x5 :: x6 :: x7 :: x8 :: x9 :: some (.int x) :: r) 10 = true) (k : AW p l e R s m args below meth c Q s0 G nL tg h0 h bc bs n (x0 :: x1 :: x2 :: x3 :: x4 :: x5 :: x6 :: x7 :: x8 :: x9 :: some (.int (x + v)) :: r) st) : AW p l e R s m args below meth c Q s0 G nL tg h0 h bc bs pc (x0 :: x1 :: x2 :: x3 :: x4 :: x5 :: x6 :: x7 :: x8 :: x9 :: some (.int x) :: r) st := by
  intro H locs cells slots ls r9 f z hc hs hl
  subst hv
  obtain ⟨k9, hk9⟩ := List.getElem?_of_mem (asc_in (L := x0 :: x1 :: x2 :: x3 :: x4 :: x5 :: x6 :: x7 :: x8 :: x9 :: some (.int x) :: r) (k := 0) (j := 10) rfl)
  rw [Nat.zero_add] at hk9
  exact lv_iinc X.2.1 X.2.2.1 hd hl hk9 rfl hL rfl (fun ls9 hl9 => by rw [hn]; exact k H locs cells slots ls9 r9 f z hc hs (asc_set1 (L := x0 :: x1 :: x2 :: x3 :: x4 :: x5 :: x6 :: x7 :: x8 :: x9 :: some (.int x) :: r) (i := 10) hc1 hl9))
end AWR
end
section
/-! rows over the store: fields, arrays, new things -/
theorem va_P1 {D : va_G} {cl : List vw_C} {q : Nat × va_E} {H : Heap} (h : va_at D cl q H) : va_P D cl [q] H := by
  intro k x hx
  have hz : k < 1 := (List.getElem?_eq_some_iff.mp hx).1
  rw [show k = 0 by omega] at hx
  cases hx
  exact h
/-- a class's fields, as the tables have them -/
def FT (ci : Nat) (C : String) (T : u_T) (N : Nat) : Prop := vwCl[ci]? = some (C, T, N) ∧ (∀ w ∈ u_ws C T N, TW w) ∧ (∃ ty : Nat → FieldType, ∀ k, k < N → parseFieldDescriptor (T k).2.2.1 = some (ty k)) ∧ ∀ a, a < N → ∀ b, b < N → a ≠ b → (T a).2.1 ≠ (T b).2.1
/-- a field link of a class file: field k of the class ci -/
def FD (own : String) (index ci k : Nat) (ty : FieldType) : Prop := ∃ (C : String) (T : u_T) (N : Nat) (ref : String), FT ci C T N ∧ k < N ∧ TW (.fieldLink own index ref (T k).2.1 (T k).2.2.1) ∧ (ref = (T k).1 ∨ TW (.sameField ref (T k).1 (T k).2.1 (T k).2.2.1)) ∧ parseFieldDescriptor (T k).2.2.1 = some ty
/-- .. that may be written by any method -/
def FW (ci k : Nat) : Prop := ∃ (C : String) (T : u_T) (N : Nat), vwCl[ci]? = some (C, T, N) ∧ (T k).2.2.2 = false
/-- .. that its class's constructor writes -/
def FI (own : String) (ci k : Nat) : Prop := ∃ (C : String) (T : u_T) (N : Nat), vwCl[ci]? = some (C, T, N) ∧ (T k).2.2.2 = true ∧ (T k).1 = own
/-- a class link whose class is made with N fields of these values -/
def FN (own : String) (index ci N : Nat) (fs : List Value) : Prop := ∃ (C : String) (T : u_T) (ty : Nat → FieldType), FT ci C T N ∧ TW (.classLink own index C) ∧ TW (.instantiable C N) ∧ TW (.initialized C) ∧ (∀ k, k < N → parseFieldDescriptor (T k).2.2.1 = some (ty k)) ∧ ∀ j, j < N → defaultValue (ty j) = vp_V fs j
theorem hu_hu {h : AH} {a : Nat} {x y : AC} : hu (hu h a x) a y = hu h a y := by
  funext b
  by_cases q : b = a
  · rw [q, hu_s, hu_s]
  · rw [hu_n q, hu_n q, hu_n q]

section AWH
variable {p : Program} {l : Launch} {e : Env} {R : Room} {s : State} {m : MethodId} {args : Array Value} {below : List Frame} {meth : Method} {c : Code} {Q : State → Prop} {s0 : State} {a0 : Array Value} {G : GG} {cc : ByteArray} {own : String} {nL tg : Nat} {h0 h : AH} {bc bs pc n : Nat} {L : List (Option Value)} {st : List Value}
variable {a t : Nat}
theorem MX.same (X : MX p l s m meth c s0 a0 G cc own nL) {ref C nm d : String} (hs : ref = C ∨ TW (.sameField ref C nm d)) : ∀ x, s.fieldFound? C nm d = some x → s.fieldFound? ref nm d = some x := fun x hx => hs.elim (fun e => by rw [e]; exact hx) (fun t => u_same (X.tw (args := #[]) t) x hx)
theorem aw_get (X : MX p l s m meth c s0 a0 G cc own nL) {index ci fi : Nat} {ty : FieldType} {fs : List Value} {v : Value} (hf : FD own index ci fi ty) (hd : decode cc pc = .ok (.getfield index, 3)) (hn : pc + 3 = n) (hh : h a = some (t, .inr (ci, fs))) (hv : fs[fi]? = some v) (k : AW p l e R s m args below meth c Q s0 G nL tg h0 h bc bs n L (v :: st)) : AW p l e R s m args below meth c Q s0 G nL tg h0 h bc bs pc L (.ref a :: st) := by
  intro H locs cells slots ls r f z hc hs hl
  obtain ⟨C, T, N, ref, h1, h2, h3, h4, -⟩ := hf
  exact va_get (D := G.1) (ci := ci) (C := C) (T := T) (N := N) (Ts := u_ws C T N) X.2.1 X.2.2.1 (fun w hw => X.tw (h1.2.1 w hw)) (fun _ q => q) X.2.2.2.2.1 X.kk (va_P1 (r a t _ hh).1) 0 rfl h1.1 fi h2 (X.tw h3) (X.same h4) hv hd (by rw [hn]; exact k H locs cells slots ls r f z hc hs hl)
theorem aw_put (X : MX p l s m meth c s0 a0 G cc own nL) {index ci fi : Nat} {ty : FieldType} {fs : List Value} {v : Value} (hf : FD own index ci fi ty) (hw : FW ci fi) (hd : decode cc pc = .ok (.putfield index, 3)) (hn : pc + 3 = n) (htg : tg ≠ 0) (hh : h a = some (tg, .inr (ci, fs))) (hnar : narrow ty v = v) (hfit : fits ty v = true) (hlen : fi < fs.length) (k : AW p l e R s m args below meth c Q s0 G nL tg h0 (hu h a (tg, .inr (ci, fs.set fi v))) bc bs n L st) : AW p l e R s m args below meth c Q s0 G nL tg h0 h bc bs pc L (v :: .ref a :: st) := by
  intro H locs cells slots ls r f z hc hs hl
  obtain ⟨C, T, N, ref, ⟨h1, h1w, ⟨ty0, hty⟩, hnm⟩, h2, h3, h4, h5⟩ := hf
  obtain ⟨C', T', N', g1, hfin⟩ := hw
  cases Option.some.inj (g1.symm.trans h1)
  have hts : ∀ w ∈ u_ws C T N, w.before args s = true := fun w hw => X.tw (h1w w hw)
  have hap := va_apart (own := own) hts (fun _ q => q) ty0 hty hnm X.kk h1
  obtain ⟨rr, h9, cell, q1, q2, q3, q4⟩ := (r a tg _ hh).1
  have hr : rr = (C, T, N) := Option.some.inj (h9.symm.trans h1)
  subst hr
  obtain ⟨hS, hfc, kC, hkC, hkind⟩ := X.kk.1 ci _ h1
  obtain ⟨cf, kf, i9, f9, hi, hsl⟩ := hS fi h2
  have hlay := hts _ (u_in_lay h2)
  unfold u_lay at hlay
  rw [if_neg (by rw [hfin]; decide)] at hlay
  have hst := (u_facts hfc hkC (u_lays hts (fun _ q => q) h2) hi).1
  have h6 := u_store hfc hkC hkind hlay hi h5 hnar hfit
  refine W.putK X.2.1 X.2.2.1 (f := f9) ⟨X.2.2.2.2.1, X.tw h3, ⟨_, _, _, X.same h4 _ hi⟩, hst⟩ (by rw [q2]; exact h6) q1 q3 (by rw [hsl]; exact k2_hasslot (q4 fi h2)) rfl rfl hd fun H' e1 e2 e3 => ?_
  rw [hsl] at e1 ⊢
  rw [hn]
  exact k H' _ cells slots ls (r.put hh ⟨_, h1, t_OB.to (V := updV (vp_V fs) fi v) ⟨_, e1, q2, q3, t_set q4 hap h2 v⟩ (fun j _ => vp_updV_set hlen v j)⟩ e3) (f.put hh) (z.put e2 e3 ((r a tg _ hh).2 htg)) hc hs hl
theorem aw_putF (X : MX p l s m meth c s0 a0 G cc own nL) {index ci fi : Nat} {ty : FieldType} {fs : List Value} {v : Value} (hf : FD own index ci fi ty) (hw : FI own ci fi) (hin : meth.name = "<init>") (hd : decode cc pc = .ok (.putfield index, 3)) (hn : pc + 3 = n) (htg : tg ≠ 0) (hh : h a = some (tg, .inr (ci, fs))) (hnar : narrow ty v = v) (hfit : fits ty v = true) (hlen : fi < fs.length) (k : AW p l e R s m args below meth c Q s0 G nL tg h0 (hu h a (tg, .inr (ci, fs.set fi v))) bc bs n L st) : AW p l e R s m args below meth c Q s0 G nL tg h0 h bc bs pc L (v :: .ref a :: st) := by
  intro H locs cells slots ls r f z hc hs hl
  obtain ⟨C, T, N, ref, ⟨h1, h1w, ⟨ty0, hty⟩, hnm⟩, h2, h3, h4, h5⟩ := hf
  obtain ⟨C', T', N', g1, hfin, hdecl⟩ := hw
  cases Option.some.inj (g1.symm.trans h1)
  have hts : ∀ w ∈ u_ws C T N, w.before args s = true := fun w hw => X.tw (h1w w hw)
  have hap := va_apart (own := own) hts (fun _ q => q) ty0 hty hnm X.kk h1
  obtain ⟨rr, h9, cell, q1, q2, q3, q4⟩ := (r a tg _ hh).1
  have hr : rr = (C, T, N) := Option.some.inj (h9.symm.trans h1)
  subst hr
  obtain ⟨hS, hfc, kC, hkC, hkind⟩ := X.kk.1 ci _ h1
  obtain ⟨cf, kf, i9, f9, hi, hsl⟩ := hS fi h2
  have hlay := hts _ (u_in_lay h2)
  unfold u_lay at hlay
  rw [if_pos hfin] at hlay
  have hst := (u_facts hfc hkC (u_lays hts (fun _ q => q) h2) hi).1
  have hcf : m.cls = cf := by
    obtain ⟨_, _, c', _, _, _, -, -, hf', -, -, -, hown2, -⟩ := Cond.laysFinal_spec hlay
    have e1 : c' = cf := by have := hi.symm.trans hf'; simp at this; exact this.1.symm
    rw [hdecl] at hown2
    rw [← e1]; exact Option.some.inj (X.2.2.2.2.1.symm.trans hown2)
  have h6 := u_fits hfc hkC hkind (Or.inr hlay) hi h5 hnar hfit
  refine W.putFinK X.2.1 X.2.2.1 X.2.2.2.2.1 (X.tw h3) (X.same h4 _ hi) hst hcf hin (by rw [q2]; exact h6) q1 q3 (by rw [hsl]; exact k2_hasslot (q4 fi h2)) rfl rfl hd fun H' e1 e2 e3 => ?_
  rw [hsl] at e1 ⊢
  rw [hn]
  exact k H' _ cells slots ls (r.put hh ⟨_, h1, t_OB.to (V := updV (vp_V fs) fi v) ⟨_, e1, q2, q3, t_set q4 hap h2 v⟩ (fun j _ => vp_updV_set hlen v j)⟩ e3) (f.put hh) (z.put e2 e3 ((r a tg _ hh).2 htg)) hc hs hl
theorem va_S.up {A : Nat → Prop} {H0 H H1 : Heap} {locs : List Loc} (z : va_S A H0 H locs) (hz : H.size ≤ H1.size) (o : ∀ q : Nat, q < H.size → H1[q]? = H[q]?) : va_S A H0 H1 locs := ⟨Nat.le_trans z.1 hz, fun q h1 h2 => (o q (Nat.lt_of_lt_of_le h1 z.1)).trans (z.2.1 q h1 h2), z.2.2⟩
theorem MX.big (X : MX p l s m meth c s0 a0 G cc own nL) {H : Heap} {locs : List Loc} (z : va_S (fun q => s0.heap.size ≤ q) s.heap H locs) : s0.heap.size ≤ H.size := Nat.le_trans X.2.2.2.2.2.1.2.2 z.1
theorem aw_new (X : MX p l s m meth c s0 a0 G cc own nL) {index ci N : Nat} {fs : List Value} (hf : FN own index ci N fs) (hd : decode cc pc = .ok (.new index, 3)) (hn : pc + 3 = n) (k : ∀ q : Nat, h q = none → AW p l e R s m args below meth c Q s0 G nL tg h0 (hu h q (tg, .inr (ci, fs))) bc bs n L (.ref q :: st)) : AW p l e R s m args below meth c Q s0 G nL tg h0 h (bc + 1) (bs + N) pc L st := by
  intro H locs cells slots ls r f z hc hs hl
  obtain ⟨C, T, ty, ⟨h1, h1w, -, hnm⟩, h3, h4, h5, hty, hfs⟩ := hf
  have hts : ∀ w ∈ u_ws C T N, w.before args s = true := fun w hw => X.tw (h1w w hw)
  have hKn := X.kk.1 ci _ h1
  refine W.newcK X.2.1 X.2.2.1 X.2.2.2.2.1 (X.tw h3) (X.tw h4) (X.tw h5) rfl hd (by omega) (by omega) hKn.2.1 rfl fun H1 kC hkC e1 z1 o1 => ?_
  rw [hn]
  exact k H.size r.fresh H1 _ _ _ ls (r.new (X.big z) ⟨_, h1, (u_born ty hts (fun _ q => q) hKn hkC e1 hty).to hfs⟩ o1) (f.new r.fresh) (z.up (by omega) o1) (by omega) (by omega) hl
theorem ty_at (G : GG) : (tyG G)[0]? = some (G.2.1 0, .int) ∧ (tyG G)[1]? = some (G.2.1 1, .long) ∧ (tyG G)[2]? = some (G.2.1 2, .array .int) ∧ (tyG G)[3]? = some (G.2.1 3, .object "java/lang/Object") := ⟨rfl, rfl, rfl, rfl⟩
theorem aw_iald (X : MX p l s m meth c s0 a0 G cc own nL) {N : Nat} {g : Nat → Int32} {i : Int32} (j : Nat) (hd : decode cc pc = .ok (.iaload, 1)) (hn : pc + 1 = n) (hh : h a = some (t, .inl (0, N, .inl g))) (hj : i = nI j) (hlt : j < N) (hN : N < 2 ^ 31) (k : AW p l e R s m args below meth c Q s0 G nL tg h0 h bc bs n L (.int (g j) :: st)) : AW p l e R s m args below meth c Q s0 G nL tg h0 h bc bs pc L (.int i :: .ref a :: st) := by
  intro H locs cells slots ls r f z hc hs hl
  subst hj
  refine va_iald X.2.1 X.2.2.1 X.kk (va_P1 (r a t _ hh).1) 0 0 rfl rfl (vp_in_nI hlt hN) hd ?_
  rw [nI_clamp (by omega), hn]
  exact k H locs cells slots ls r f z hc hs hl
theorem aw_lald (X : MX p l s m meth c s0 a0 G cc own nL) {N : Nat} {g : Nat → Int64} {i : Int32} (j : Nat) (hd : decode cc pc = .ok (.laload, 1)) (hn : pc + 1 = n) (hh : h a = some (t, .inl (1, N, .inr (.inl g)))) (hj : i = nI j) (hlt : j < N) (hN : N < 2 ^ 31) (k : AW p l e R s m args below meth c Q s0 G nL tg h0 h bc bs n L (.long (g j) :: st)) : AW p l e R s m args below meth c Q s0 G nL tg h0 h bc bs pc L (.int i :: .ref a :: st) := by
  intro H locs cells slots ls r f z hc hs hl
  subst hj
  refine va_lald X.2.1 X.2.2.1 X.kk (va_P1 (r a t _ hh).1) 0 1 rfl rfl (vp_in_nI hlt hN) hd ?_
  rw [nI_clamp (by omega), hn]
  exact k H locs cells slots ls r f z hc hs hl
theorem aw_aald (X : MX p l s m meth c s0 a0 G cc own nL) {N : Nat} {g : Nat → Option Nat} {i : Int32} (j : Nat) {y : Nat} (hd : decode cc pc = .ok (.aaload, 1)) (hn : pc + 1 = n) (hh : h a = some (t, .inl (3, N, .inr (.inr (.inr (.inr g)))))) (hj : i = nI j) (hlt : j < N) (hN : N < 2 ^ 31) (hy : g j = some y) (k : AW p l e R s m args below meth c Q s0 G nL tg h0 h bc bs n L (.ref y :: st)) : AW p l e R s m args below meth c Q s0 G nL tg h0 h bc bs pc L (.int i :: .ref a :: st) := by
  intro H locs cells slots ls r f z hc hs hl
  subst hj
  refine va_aldq X.2.1 X.2.2.1 X.kk (va_P1 (r a t _ hh).1) 0 3 rfl rfl (vp_in_nI hlt hN) hd ?_
  rw [nI_clamp (by omega), hn, hy]
  exact k H locs cells slots ls r f z hc hs hl
theorem aw_aald2 (X : MX p l s m meth c s0 a0 G cc own nL) {N : Nat} {g : Nat → Option Nat} {i : Int32} (j : Nat) {y : Nat} (hd : decode cc pc = .ok (.aaload, 1)) (hn : pc + 1 = n) (hh : h a = some (t, .inl (2, N, .inr (.inr (.inr (.inr g)))))) (hj : i = nI j) (hlt : j < N) (hN : N < 2 ^ 31) (hy : g j = some y) (k : AW p l e R s m args below meth c Q s0 G nL tg h0 h bc bs n L (.ref y :: st)) : AW p l e R s m args below meth c Q s0 G nL tg h0 h bc bs pc L (.int i :: .ref a :: st) := by
  intro H locs cells slots ls r f z hc hs hl
  subst hj
  have hin := vp_in_nI hlt hN
  have hlt9 : (nI j).toNatClampNeg < N := Nat.not_le.mp fun q => hin (Or.inr q)
  refine W.aald (v := va_rf (g (nI j).toNatClampNeg)) (ty := .array .int) X.2.1 X.2.2.1 (r a t _ hh).1 ((X.kk.2 2 _ rfl).1 N (fun j => va_rf (g j))) rfl (fun q => by cases q) (by show ¬ (nI j < 0 ∨ (arrV _ _ _).slots.size ≤ _); rw [arrV_size]; exact hin) (by show (arrV _ _ _).slots[_]? = _; rw [arrV_read _ _ hlt9]) rfl rfl hd ?_
  rw [nI_clamp (by omega), hn, hy]
  exact k H locs cells slots ls r f z hc hs hl
theorem aw_iast (X : MX p l s m meth c s0 a0 G cc own nL) {N : Nat} {g : Nat → Int32} {i x : Int32} (j : Nat) (hd : decode cc pc = .ok (.iastore, 1)) (hn : pc + 1 = n) (htg : tg ≠ 0) (hh : h a = some (tg, .inl (0, N, .inl g))) (hj : i = nI j) (hlt : j < N) (hN : N < 2 ^ 31) (k : AW p l e R s m args below meth c Q s0 G nL tg h0 (hu h a (tg, .inl (0, N, .inl (upd g j x)))) bc bs n L st) : AW p l e R s m args below meth c Q s0 G nL tg h0 h bc bs pc L (.int x :: .int i :: .ref a :: st) := by
  intro H locs cells slots ls r f z hc hs hl
  subst hj
  have hin := vp_in_nI hlt hN
  refine W.iast X.2.1 X.2.2.1 (r a tg _ hh).1 ((X.kk.2 0 _ rfl).1 N (fun j => .int (g j))) (fun q => by cases q) (by show ¬ (nI j < 0 ∨ (arrV _ _ _).slots.size ≤ _); rw [arrV_size]; exact hin) rfl rfl hd fun H1 e z9 oq => ?_
  rw [hn]
  refine k H1 _ cells slots ls (r.put hh ?_ oq) (f.put hh) (z.put z9 oq ((r a tg _ hh).2 htg)) hc hs hl
  show H1[a]? = some (vp_cell _ _)
  rw [e]
  show some ((vp_cell _ _).setSlot _ _) = some (vp_cell _ _)
  rw [vp_cell_i, vp_cell_i, arrV_store, nI_clamp (by omega)]
  congr 2
  funext q
  by_cases hq : q = j
  · subst hq
    simp [updV, upd]
  · simp [updV, upd, hq]
theorem aw_last (X : MX p l s m meth c s0 a0 G cc own nL) {N : Nat} {g : Nat → Int64} {i : Int32} {x : Int64} (j : Nat) (hd : decode cc pc = .ok (.lastore, 1)) (hn : pc + 1 = n) (htg : tg ≠ 0) (hh : h a = some (tg, .inl (1, N, .inr (.inl g)))) (hj : i = nI j) (hlt : j < N) (hN : N < 2 ^ 31) (k : AW p l e R s m args below meth c Q s0 G nL tg h0 (hu h a (tg, .inl (1, N, .inr (.inl (vp_updL g j x))))) bc bs n L st) : AW p l e R s m args below meth c Q s0 G nL tg h0 h bc bs pc L (.long x :: .int i :: .ref a :: st) := by
  intro H locs cells slots ls r f z hc hs hl
  subst hj
  have hin := vp_in_nI hlt hN
  refine W.last X.2.1 X.2.2.1 (r a tg _ hh).1 ((X.kk.2 1 _ rfl).1 N (fun j => .long (g j))) (fun q => by cases q) (by show ¬ (nI j < 0 ∨ (arrV _ _ _).slots.size ≤ _); rw [arrV_size]; exact hin) rfl rfl hd fun H1 e z9 oq => ?_
  rw [hn]
  refine k H1 _ cells slots ls (r.put hh ?_ oq) (f.put hh) (z.put z9 oq ((r a tg _ hh).2 htg)) hc hs hl
  show H1[a]? = some (vp_cell _ _)
  rw [e]
  show some ((vp_cell _ _).setSlot _ _) = some (vp_cell _ _)
  rw [vp_cell_l, vp_cell_l, arrV_store, nI_clamp (by omega)]
  congr 2
  funext q
  by_cases hq : q = j
  · subst hq
    simp [updV, vp_updL]
  · simp [updV, vp_updL, hq]
/-- a cell whose class may lie in an Object[] -/
def OB (x : AE) : Prop := match x with
  | .inl y => y.1 < 4
  | .inr o => ∃ (C : String) (T : u_T) (N : Nat), vwCl[o.1]? = some (C, T, N) ∧ (Cond.castable C "java/lang/Object") ∈ lw_tbl
def nmA (k : Nat) : String := match k with | 0 => "[I" | 1 => "[J" | 2 => "[[I" | _ => "[Ljava/lang/Object;"
theorem arr_nm {G : GG} {U : State} (K : va_K G.1 vwCl (tyG G) U) {k : Nat} (hk : k < 4) : U.vm.findClass (nmA k) = some (G.2.1 k) := by
  match k, hk with
  | 0, _ => exact (K.2 0 _ rfl).2
  | 1, _ => exact (K.2 1 _ rfl).2
  | 2, _ => exact (K.2 2 _ rfl).2
  | 3, _ =>
    obtain ⟨kA, comp, -, -, -, h4⟩ := (K.2 3 _ rfl).2
    exact h4
theorem MX.nw (X : MX p l s m meth c s0 a0 G cc own nL) {w : Cond} (hw : w ∈ lw_tbl) (ho : w.onTables = true) : va_Nw w s0 := va_Nw.of ho (X.1.2.1 w hw)
theorem arr_cls {G : GG} {U : State} (K : va_K G.1 vwCl (tyG G) U) {k : Nat} (hk : k < 4) : ∃ kA : Class, U.vm.classes[G.2.1 k]? = some kA := by
  obtain ⟨k9, h9, -⟩ := Vm.findClass_spec (arr_nm K hk)
  exact ⟨k9, h9⟩
theorem MX.any (X : MX p l s m meth c s0 a0 G cc own nL) {H : Heap} {y ty9 : Nat} {x : AE} (r : Rep G s0.heap.size h H) (hy : h y = some (ty9, x)) (ho : OB x) : va_Any "java/lang/Object" s H y := by
  have hat := (r y ty9 x hy).1
  match x, ho, hat with
  | .inl z, ho, hat =>
    have hc9 : (Cond.castable (nmA z.1) "java/lang/Object") ∈ lw_tbl := by
      have : z.1 = 0 ∨ z.1 = 1 ∨ z.1 = 2 ∨ z.1 = 3 := by have h4 : z.1 < 4 := ho; omega
      rcases this with e | e | e | e <;> rw [e]
      · exact List.mem_of_getElem? (i := 1424) (by decide +kernel)
      · exact List.mem_of_getElem? (i := 1426) (by decide +kernel)
      · exact List.mem_of_getElem? (i := 1425) (by decide +kernel)
      · exact List.mem_of_getElem? (i := 1423) (by decide +kernel)
    have hcast : va_Nw (Cond.castable (nmA z.1) "java/lang/Object") s := va_Nw.warmC X.2.2.2.2.2.1.1 (X.nw hc9 rfl)
    obtain ⟨c3, c4, hc3, hc4, hasg⟩ := Cond.castable_spec (va_Nw.use (A := #[]) rfl hcast)
    have h3 := arr_nm X.kk ho
    cases Option.some.inj (hc3.symm.trans h3)
    have hce : H[y]? = some (vp_cell (G.2.1 z.1) z.2) := hat
    have hvm0 : (vp_cell (G.2.1 z.1) z.2).vm = .none := by
      obtain ⟨n9, f9 | f9 | f9 | f9 | f9⟩ := z.2 <;> rfl
    have hcl0 : (vp_cell (G.2.1 z.1) z.2).cls = G.2.1 z.1 := by
      obtain ⟨n9, f9 | f9 | f9 | f9 | f9⟩ := z.2 <;> rfl
    refine ⟨_, hce, by rw [hvm0]; rfl, by rw [hcl0]; exact arr_cls X.kk ho, fun comp hcomp => ?_⟩
    cases Option.some.inj (hc4.symm.trans hcomp)
    rw [hcl0]
    exact hasg
  | .inr o, ho, hat =>
    obtain ⟨C, T, N, g1, g2⟩ := ho
    have hcast : va_Nw (Cond.castable C "java/lang/Object") s := va_Nw.warmC X.2.2.2.2.2.1.1 (X.nw g2 rfl)
    obtain ⟨c3, c4, hc3, hc4, hasg⟩ := Cond.castable_spec (va_Nw.use (A := #[]) rfl hcast)
    obtain ⟨rr, h9, cell, q1, q2, q3, q4⟩ := hat
    cases Option.some.inj (h9.symm.trans g1)
    have hfc := (X.kk.1 o.1 _ g1).2
    obtain ⟨kC, hkC, -⟩ := hfc.2
    cases Option.some.inj (hc3.symm.trans hfc.1)
    refine ⟨cell, q1, by rw [q3]; rfl, by rw [q2]; exact ⟨kC, hkC⟩, fun comp hcomp => ?_⟩
    cases Option.some.inj (hc4.symm.trans hcomp)
    rw [q2]
    exact hasg
end AWH
end
section
/-! rows over the store: arrays of references, new arrays, casts, statics, Math, returns -/
section AWH2
variable {p : Program} {l : Launch} {e : Env} {R : Room} {s : State} {m : MethodId} {args : Array Value} {below : List Frame} {meth : Method} {c : Code} {Q : State → Prop} {s0 : State} {a0 : Array Value} {G : GG} {cc : ByteArray} {own : String} {nL tg : Nat} {h0 h : AH} {bc bs pc n : Nat} {L : List (Option Value)} {st : List Value}
variable {a t : Nat}
theorem aw_aast (X : MX p l s m meth c s0 a0 G cc own nL) {N y ty9 : Nat} {x9 : AE} {g : Nat → Option Nat} {i : Int32} (j : Nat) (hd : decode cc pc = .ok (.aastore, 1)) (hn : pc + 1 = n) (htg : tg ≠ 0) (hh : h a = some (tg, .inl (3, N, .inr (.inr (.inr (.inr g)))))) (hy : h y = some (ty9, x9)) (ho : OB x9) (hj : i = nI j) (hlt : j < N) (hN : N < 2 ^ 31) (k : AW p l e R s m args below meth c Q s0 G nL tg h0 (hu h a (tg, .inl (3, N, .inr (.inr (.inr (.inr (va_up g j (some y)))))))) bc bs n L st) : AW p l e R s m args below meth c Q s0 G nL tg h0 h bc bs pc L (.ref y :: .int i :: .ref a :: st) := by
  intro H locs cells slots ls r f z hc hs hl
  subst hj
  have hin := vp_in_nI hlt hN
  have h0 : ¬ nI j < 0 := fun q => hin (Or.inl q)
  have hlt9 : (nI j).toNatClampNeg < N := Nat.not_le.mp fun q => hin (Or.inr q)
  obtain ⟨cellV, g1, g3, ⟨kC, hkC⟩, hasg⟩ := X.any r hy ho
  obtain ⟨kA, comp, k1, k2, k3, -⟩ := (X.kk.2 3 _ rfl).2
  obtain ⟨kE, hkE, -⟩ := Vm.findClass_spec k3
  refine W.aast X.2.1 X.2.2.1 (r a tg _ hh).1 (fun q h => by cases h) (fun h => by cases h) k1 k2 rfl hkE ⟨h0, by show _ < (arrV _ _ _).slots.size; rw [arrV_size]; exact hlt9⟩ g1 (fun q h => by rw [h] at g3; cases g3) hkC (hasg _ k3) rfl rfl hd fun H1 e z9 oq => ?_
  rw [hn]
  refine k H1 _ cells slots ls (r.put hh ?_ oq) (f.put hh) (z.put z9 oq ((r a tg _ hh).2 htg)) hc hs hl
  show H1[a]? = some (vp_cell _ _)
  rw [e]
  show some ((vp_cell _ _).setSlot _ _) = some (vp_cell _ _)
  rw [vp_cell_q, vp_cell_q, arrV_store, nI_clamp (by omega)]
  congr 2
  funext q
  by_cases hq : q = j
  · subst hq
    simp [updV, va_up, va_rf]
  · simp [updV, va_up, hq]
theorem aw_alen (X : MX p l s m meth c s0 a0 G cc own nL) {kd : Nat} {y : vp_A} (hd : decode cc pc = .ok (.arraylength, 1)) (hn : pc + 1 = n) (hh : h a = some (t, .inl (kd, y))) (hk : kd < 4) (k : AW p l e R s m args below meth c Q s0 G nL tg h0 h bc bs n L (.int (nI y.1) :: st)) : AW p l e R s m args below meth c Q s0 G nL tg h0 h bc bs pc L (.ref a :: st) := by
  intro H locs cells slots ls r f z hc hs hl
  have h9 : (tyG G)[kd]? = some (G.2.1 kd, match kd with | 0 => FieldType.int | 1 => .long | 2 => .array .int | _ => .object "java/lang/Object") := by
    match kd, hk with
    | 0, _ => rfl
    | 1, _ => rfl
    | 2, _ => rfl
    | 3, _ => rfl
  exact va_alen X.2.1 X.2.2.1 X.kk (va_P1 (r a t _ hh).1) 0 kd rfl h9 rfl hd (by rw [hn]; exact k H locs cells slots ls r f z hc hs hl)
theorem aw_newi (X : MX p l s m meth c s0 a0 G cc own nL) {N : Nat} {i : Int32} (hd : decode cc pc = .ok (.newarray .int, 2)) (hn : pc + 2 = n) (hi : i = nI N) (hN : N < 65536) (hw : TW (.arrayClass .int)) (k : ∀ q : Nat, h q = none → AW p l e R s m args below meth c Q s0 G nL tg h0 (hu h q (tg, .inl (0, N, .inl (fun _ => 0)))) bc bs n L (.ref q :: st)) : AW p l e R s m args below meth c Q s0 G nL tg h0 h (bc + 1) (bs + N) pc L (.int i :: st) := by
  intro H locs cells slots ls r f z hc hs hl
  subst hi
  refine va_newaK (atype := .int) X.2.1 X.2.2.1 (X.tw hw) rfl hd rfl (nI_pos (by omega)) (nI_clamp (by omega)) (by show N * _ ≤ _; simp only [newarray.typeOf, componentBytes]; omega) (by omega) (by omega) rfl fun H1 cA e1 z1 o1 hAr hNm => ?_
  have hcA : cA = G.2.1 0 := Option.some.inj (hNm.symm.trans (X.kk.2 0 _ rfl).2)
  subst hcA
  rw [hn]
  refine k H.size r.fresh H1 _ _ _ ls (r.new (X.big z) ?_ o1) (f.new r.fresh) (z.up (by omega) o1) (by omega) (by omega) hl
  show H1[H.size]? = some (vp_cell _ _)
  rw [e1]
  rfl
theorem aw_newl (X : MX p l s m meth c s0 a0 G cc own nL) {N : Nat} {i : Int32} (hd : decode cc pc = .ok (.newarray .long, 2)) (hn : pc + 2 = n) (hi : i = nI N) (hN : N < 65536) (hw : TW (.arrayClass .long)) (k : ∀ q : Nat, h q = none → AW p l e R s m args below meth c Q s0 G nL tg h0 (hu h q (tg, .inl (1, N, .inr (.inl (fun _ => 0))))) bc bs n L (.ref q :: st)) : AW p l e R s m args below meth c Q s0 G nL tg h0 h (bc + 1) (bs + N) pc L (.int i :: st) := by
  intro H locs cells slots ls r f z hc hs hl
  subst hi
  refine va_newaK (atype := .long) X.2.1 X.2.2.1 (X.tw hw) rfl hd rfl (nI_pos (by omega)) (nI_clamp (by omega)) (by show N * _ ≤ _; simp only [newarray.typeOf, componentBytes]; omega) (by omega) (by omega) rfl fun H1 cA e1 z1 o1 hAr hNm => ?_
  have hcA : cA = G.2.1 1 := Option.some.inj (hNm.symm.trans (X.kk.2 1 _ rfl).2)
  subst hcA
  rw [hn]
  refine k H.size r.fresh H1 _ _ _ ls (r.new (X.big z) ?_ o1) (f.new r.fresh) (z.up (by omega) o1) (by omega) (by omega) hl
  show H1[H.size]? = some (vp_cell _ _)
  rw [e1]
  rfl
theorem aw_newq (X : MX p l s m meth c s0 a0 G cc own nL) {N index : Nat} {i : Int32} (hd : decode cc pc = .ok (.anewarray index, 3)) (hn : pc + 3 = n) (hw : TW (.classLink own index "java/lang/Object")) (hi : i = nI N) (hN : N < 65536) (k : ∀ q : Nat, h q = none → AW p l e R s m args below meth c Q s0 G nL tg h0 (hu h q (tg, .inl (3, N, .inr (.inr (.inr (.inr (fun _ => none))))))) bc bs n L (.ref q :: st)) : AW p l e R s m args below meth c Q s0 G nL tg h0 h (bc + 1) (bs + N) pc L (.int i :: st) := by
  intro H locs cells slots ls r f z hc hs hl
  subst hi
  have hAO : va_AO "java/lang/Object" s := va_AO.moved X.2.2.2.2.2.1.1.alike X.1.2.2.2.2.2.2.2
  refine W.anew X.2.1 X.2.2.1 X.2.2.2.2.1 (X.tw hw) (va_AO.use hAO) rfl hd rfl (nI_pos (by omega)) (by rw [nI_clamp (by omega)]; omega) (by omega) (by rw [nI_clamp (by omega)]; omega) fun cA kA comp f1 f2 f3 f4 => ?_
  rw [nI_clamp (by omega)]
  have hcA : cA = G.2.1 3 := Option.some.inj (f1.symm.trans (arr_nm X.kk (k := 3) (by decide)))
  subst hcA
  rw [hn]
  have o1 : ∀ q : Nat, q < H.size → (H.push ({ cls := G.2.1 3, slots := Array.replicate N .null, vm := .none } : Cell))[q]? = H[q]? := fun q hq => by rw [Array.getElem?_push, if_neg (Nat.ne_of_lt hq)]
  refine k H.size r.fresh _ _ _ _ ls (r.new (X.big z) ?_ o1) (f.new r.fresh) (z.up (by simp) o1) (by omega) (by omega) hl
  show (H.push _)[H.size]? = some (vp_cell _ _)
  rw [Array.getElem?_push_size, vp_cell_q, arrV_new]
  rfl
theorem MX.recv (X : MX p l s m meth c s0 a0 G cc own nL) {H : Heap} {ci : Nat} {fs : List Value} {C : String} {T : u_T} {N : Nat} (r : Rep G s0.heap.size h H) (hh : h a = some (t, .inr (ci, fs))) (hc : vwCl[ci]? = some (C, T, N)) : ∃ cell : Cell, H[a]? = some cell ∧ cell.vm.isStatics = false ∧ s.vm.findClass C = some cell.cls := va_recv (q := (C, T, N)) X.kk (va_P1 (r a t _ hh).1) hc (q0 := 0) rfl
theorem aw_cast (X : MX p l s m meth c s0 a0 G cc own nL) {index ci : Nat} {fs : List Value} {C : String} {T : u_T} {N : Nat} (hd : decode cc pc = .ok (.checkcast index, 3)) (hn : pc + 3 = n) (hc9 : vwCl[ci]? = some (C, T, N)) (hw : TW (.classLink own index C)) (hh : h a = some (t, .inr (ci, fs))) (k : AW p l e R s m args below meth c Q s0 G nL tg h0 h bc bs n L (.ref a :: st)) : AW p l e R s m args below meth c Q s0 G nL tg h0 h bc bs pc L (.ref a :: st) := by
  intro H locs cells slots ls r f z hc hs hl
  exact va_castS X.2.1 X.2.2.1 X.2.2.2.2.1 (X.tw hw) (X.kk.1 ci _ hc9).2 (X.recv r hh hc9) hd (by rw [hn]; exact k H locs cells slots ls r f z hc hs hl)
theorem aw_castA (X : MX p l s m meth c s0 a0 G cc own nL) {index kd : Nat} {y : vp_A} (hd : decode cc pc = .ok (.checkcast index, 3)) (hn : pc + 3 = n) (hk : kd < 4) (hw : TW (.classLink own index (nmA kd))) (hh : h a = some (t, .inl (kd, y))) (k : AW p l e R s m args below meth c Q s0 G nL tg h0 h bc bs n L (.ref a :: st)) : AW p l e R s m args below meth c Q s0 G nL tg h0 h bc bs pc L (.ref a :: st) := by
  intro H locs cells slots ls r f z hc hs hl
  exact va_castA (D := G.1) (cl := vwCl) X.2.1 X.2.2.1 X.2.2.2.2.1 (X.tw hw) (va_P1 (r a t _ hh).1) 0 rfl (arr_nm X.kk hk) hd (by rw [hn]; exact k H locs cells slots ls r f z hc hs hl)
theorem aw_gets0 (X : MX p l s m meth c s0 a0 G cc own nL) {index : Nat} (hd : decode cc pc = .ok (.getstatic index, 3)) (hn : pc + 3 = n) (hw : TW (.fieldLink own index "java/util/ArrayList" "DEFAULTCAPACITY_EMPTY_ELEMENTDATA" "[Ljava/lang/Object;")) (k : AW p l e R s m args below meth c Q s0 G nL tg h0 h bc bs n L (.ref (G.2.2 0) :: st)) : AW p l e R s m args below meth c Q s0 G nL tg h0 h bc bs pc L st := by
  intro H locs cells slots ls r f z hc hs hl
  have hZ := ((X.1.2.2.2.1).moved X.2.2.2.2.2.1.1.alike).kept (H1 := s.heap) (fun a9 h9 _ => X.2.2.2.2.2.1.2.1 a9 h9)
  exact va_gets X.2.1 X.2.2.1 hZ z X.2.2.2.2.1 (X.tw hw) (fun x hx => hx) hd (by rw [hn]; exact k H locs cells slots ls r f z hc hs hl)
theorem aw_gets1 (X : MX p l s m meth c s0 a0 G cc own nL) {index : Nat} (hd : decode cc pc = .ok (.getstatic index, 3)) (hn : pc + 3 = n) (hw : TW (.fieldLink own index "java/util/ArrayList" "EMPTY_ELEMENTDATA" "[Ljava/lang/Object;")) (k : AW p l e R s m args below meth c Q s0 G nL tg h0 h bc bs n L (.ref (G.2.2 1) :: st)) : AW p l e R s m args below meth c Q s0 G nL tg h0 h bc bs pc L st := by
  intro H locs cells slots ls r f z hc hs hl
  have hZ := ((X.1.2.2.2.2.1).moved X.2.2.2.2.2.1.1.alike).kept (H1 := s.heap) (fun a9 h9 _ => X.2.2.2.2.2.1.2.1 a9 h9)
  exact va_gets X.2.1 X.2.2.1 hZ z X.2.2.2.2.1 (X.tw hw) (fun x hx => hx) hd (by rw [hn]; exact k H locs cells slots ls r f z hc hs hl)
theorem aw_ldc (X : MX p l s m meth c s0 a0 G cc own nL) {index : Nat} (v : Int32) (hd : decode cc pc = .ok (.ldc index, 2)) (hn : pc + 2 = n) (hw : TW (.constant own index v)) (k : AW p l e R s m args below meth c Q s0 G nL tg h0 h bc bs n L (.int v :: st)) : AW p l e R s m args below meth c Q s0 G nL tg h0 h bc bs pc L st := fun H locs cells slots ls r f z hc hs hl => lv_ldc X.2.1 X.2.2.1 X.2.2.2.2.1 (X.tw hw) hd (by rw [hn]; exact k H locs cells slots ls r f z hc hs hl)
theorem aw_ldc2 (X : MX p l s m meth c s0 a0 G cc own nL) {index : Nat} (v : Int64) (hd : decode cc pc = .ok (.ldc2_w index, 3)) (hn : pc + 3 = n) (hw : TW (.constantLong own index v)) (k : AW p l e R s m args below meth c Q s0 G nL tg h0 h bc bs n L (.long v :: st)) : AW p l e R s m args below meth c Q s0 G nL tg h0 h bc bs pc L st := fun H locs cells slots ls r f z hc hs hl => lv_ldc2 X.2.1 X.2.2.1 X.2.2.2.2.1 (X.tw hw) hd (by rw [hn]; exact k H locs cells slots ls r f z hc hs hl)
theorem aw_mmax (X : MX p l s m meth c s0 a0 G cc own nL) {index : Nat} {x y : Int32} (hd : decode cc pc = .ok (.invokestatic index, 3)) (hn : pc + 3 = n) (hw : TW (.methodLink own index Lib.Math.max.name) ∧ TW (.static Lib.Math.max.name) ∧ TW (.initialized "java/lang/Math") ∧ TW (.code Lib.Math.max.name Lib.Math.max.code 2 (some .int))) (hR : 1 ≤ R.frames) (hR2 : (st.map fun v => v.category).sum + 13 ≤ R.locals) (k : AW p l e R s m args below meth c Q s0 G nL tg h0 h bc bs n L (.int (if x < y then y else x) :: st)) : AW p l e R s m args below meth c Q s0 G nL tg h0 h bc bs pc L (.int y :: .int x :: st) := by
  intro H locs cells slots ls r f z hc hs hl
  exact va_mmax X.2.1 X.2.2.1 (by rw [X.2.2.2.1]; exact hl.1.symm) X.2.2.2.2.1 (X.tw hw.1) (X.tw hw.2.1) (X.tw hw.2.2.1) (X.tw hw.2.2.2) hR hR2 (by omega) (by omega) hd (by rw [hn]; exact k H locs cells slots ls r f z hc hs hl)
theorem aw_mmin (X : MX p l s m meth c s0 a0 G cc own nL) {index : Nat} {x y : Int32} (hd : decode cc pc = .ok (.invokestatic index, 3)) (hn : pc + 3 = n) (hw : TW (.methodLink own index Lib.Math.min.name) ∧ TW (.static Lib.Math.min.name) ∧ TW (.initialized "java/lang/Math") ∧ TW (.code Lib.Math.min.name Lib.Math.min.code 2 (some .int))) (hR : 1 ≤ R.frames) (hR2 : (st.map fun v => v.category).sum + 13 ≤ R.locals) (k : AW p l e R s m args below meth c Q s0 G nL tg h0 h bc bs n L (.int (if y < x then y else x) :: st)) : AW p l e R s m args below meth c Q s0 G nL tg h0 h bc bs pc L (.int y :: .int x :: st) := by
  intro H locs cells slots ls r f z hc hs hl
  exact va_mmin X.2.1 X.2.2.1 (by rw [X.2.2.2.1]; exact hl.1.symm) X.2.2.2.2.1 (X.tw hw.1) (X.tw hw.2.1) (X.tw hw.2.2.1) (X.tw hw.2.2.2) hR hR2 (by omega) (by omega) hd (by rw [hn]; exact k H locs cells slots ls r f z hc hs hl)
theorem aw_mabs (X : MX p l s m meth c s0 a0 G cc own nL) {index : Nat} {x : Int32} (hd : decode cc pc = .ok (.invokestatic index, 3)) (hn : pc + 3 = n) (hw : TW (.methodLink own index Lib.Math.abs.name) ∧ TW (.static Lib.Math.abs.name) ∧ TW (.initialized "java/lang/Math") ∧ TW (.code Lib.Math.abs.name Lib.Math.abs.code 1 (some .int))) (hR : 1 ≤ R.frames) (hR2 : (st.map fun v => v.category).sum + 13 ≤ R.locals) (k : AW p l e R s m args below meth c Q s0 G nL tg h0 h bc bs n L (.int (if 0 ≤ x then x else 0 - x) :: st)) : AW p l e R s m args below meth c Q s0 G nL tg h0 h bc bs pc L (.int x :: st) := by
  intro H locs cells slots ls r f z hc hs hl
  exact va_mabs X.2.1 X.2.2.1 (by rw [X.2.2.2.1]; exact hl.1.symm) X.2.2.2.2.1 (X.tw hw.1) (X.tw hw.2.1) (X.tw hw.2.2.1) (X.tw hw.2.2.2) hR hR2 (by omega) (by omega) hd (by rw [hn]; exact k H locs cells slots ls r f z hc hs hl)
theorem aw_objInit (X : MX p l s m meth c s0 a0 G cc own nL) {index : Nat} (hd : decode cc pc = .ok (.invokespecial index, 3)) (hn : pc + 3 = n) (hw : TW (.methodLink own index objectInit) ∧ TW (.instanceMethod objectInit) ∧ TW (.code objectInit ⟨#[0xb1]⟩ 1 none)) (hR : 1 ≤ R.frames) (hR2 : (st.map fun v => v.category).sum + 12 ≤ R.locals) (k : AW p l e R s m args below meth c Q s0 G nL tg h0 h bc bs n L st) : AW p l e R s m args below meth c Q s0 G nL tg h0 h bc bs pc L (.ref a :: st) := by
  intro H locs cells slots ls r f z hc hs hl
  refine W.objInit X.2.1 X.2.2.1 X.2.2.2.2.1 (X.tw hw.1) (X.tw hw.2.1) (X.tw hw.2.2) rfl (by rw [X.2.2.2.1]; exact hl.1) rfl hd hR (by show 2 * 0 + _ + 12 ≤ _; omega) ?_
  show W p l e R s m args below meth c H locs cells slots Q (F0 m (pc + 3) ls st)
  rw [hn]
  exact k H locs cells slots ls r f z hc hs hl
end AWH2
end
section
/-! contracts over the store, and calls by them -/
def cPc (s0 : State) (G : GG) (av : List Value) (h : AH) : Array Value → State → Prop := va_Pc av (fun U => At0 s0 U ∧ Rep G s0.heap.size h U.heap)
def cQc (s0 : State) (G : GG) (tg : Nat) (h : AH) (Qr : Option Value → AH → Prop) : Array Value → State → Outcome → State → Prop := fun _ st o t => (∃ (r : Option Value) (h2 : AH), o = .returned r ∧ Qr r h2 ∧ FrT tg h h2 ∧ Rep G s0.heap.size h2 t.heap) ∧ va_F (fun q => s0.heap.size ≤ q) st t
def rmv (d mc ms : Nat) : Room := { frames := d, cells := mc, slots := ms, locals := 32 * d }
/-- the method y, called with av over the store h, returns; its answer and the store behind it are as Qr says; at most mc cells of ms slots are new; d calls deep -/
def Con (l : Launch) (s0 : State) (G : GG) (y : MethodName) (cy : ByteArray) (maxL : Nat) (ret : Option FieldType) (d mc ms tg : Nat) (av : List Value) (h : AH) (Qr : Option Value → AH → Prop) : Prop :=
  Met l y [Cond.code y cy maxL ret] (rmv d mc ms) (cPc s0 G av h) (cQc s0 G tg h Qr) mc ms (fun q => s0.heap.size ≤ q)
theorem cPc.blind {s0 : State} {G : GG} {av : List Value} {h : AH} : FrameBlind (cPc s0 G av h) := fun _ _ _ _ q => q
theorem Con.imp {l : Launch} {s0 : State} {G : GG} {y : MethodName} {cy : ByteArray} {maxL : Nat} {ret : Option FieldType} {d mc ms tg : Nat} {av : List Value} {h : AH} {Qr Q2 : Option Value → AH → Prop} (k : Con l s0 G y cy maxL ret d mc ms tg av h Qr) (hq : ∀ r h2, Qr r h2 → Q2 r h2) : Con l s0 G y cy maxL ret d mc ms tg av h Q2 := by
  intro p e ha hc hk s m args below hf happ hP hK
  obtain ⟨t, o, h1, h2, h3, ⟨⟨r, hh, e1, e2, e3⟩, e4⟩, e5⟩ := k p e ha hc hk s m args below hf happ hP hK
  exact ⟨t, o, h1, h2, h3, ⟨⟨r, hh, e1, hq r hh e2, e3⟩, e4⟩, e5⟩
theorem Con.of {l : Launch} {s0 : State} {a0 : Array Value} {G : GG} {y : MethodName} {cy : ByteArray} {maxL : Nat} {ret : Option FieldType} {d mc ms tg : Nat} {av : List Value} {h : AH} {Qr : Option Value → AH → Prop} (X : CX l s0 a0 G) (hy : plainName y.cls = true) (L0 : List (Option Value)) (hL : asc L0 0 = lv_args 0 av) (hlen : (lg_sl av).length ≤ maxL)
    (body : ∀ (p : Program) (e : Env) (s : State) (m : MethodId) (below : List Frame) (meth : Method) (c : Code), MX p l s m meth c s0 a0 G cy y.cls maxL → meth.name = y.name → meth.sig.returnType = ret →
      AW p l e (rmv d mc ms) s m av.toArray below meth c (MQ below (cQc s0 G tg h Qr) av.toArray s mc ms (fun q => s0.heap.size ≤ q)) s0 G maxL tg h h mc ms 0 L0 []) : Con l s0 G y cy maxL ret d mc ms tg av h Qr := by
  refine Met.ofW (cc := cy) (maxL := maxL) (ret := ret) hy rfl ?_
  intro p e s m args below meth c s₁ B hml hv
  obtain ⟨rfl, hat, hrep⟩ := hv
  have hown : s.vm.findClass y.cls = some m.cls := findClass_of_methodNamed B.named
  have hMX : MX p l s m meth c s0 a0 G cy y.cls maxL := ⟨X, B.exec, B.bytes, hml, hown, hat, B.notSynchronized⟩
  have hl := lv_entry av (n := maxL) hlen
  rw [lg_entry_eq]
  rw [← hL] at hl
  exact body p e s m below meth c hMX (name_of_methodNamed B.named B.method).1 B.returns s.heap [] 0 0 _ hrep FrT.rf va_S.rf (Nat.le_of_eq (Nat.zero_add _)) (Nat.le_of_eq (Nat.zero_add _)) hl

section AWC
variable {p : Program} {l : Launch} {e : Env} {s : State} {m : MethodId} {args : Array Value} {below : List Frame} {meth : Method} {c : Code} {s0 : State} {a0 : Array Value} {G : GG} {cc : ByteArray} {own : String} {nL tg : Nat} {h0 h : AH} {bc bs pc n : Nat} {L : List (Option Value)} {st : List Value}
variable {a t d mc ms : Nat} {Qr : Option Value → AH → Prop}
theorem aw_iret (X : MX p l s m meth c s0 a0 G cc own nL) {ty : FieldType} {v : Int32} (hr : meth.sig.returnType = some ty) (hnar : narrow ty (.int v) = .int v) (hd : decode cc pc = .ok (.ireturn, 1)) (hq : Qr (some (.int v)) h) : AW p l e (rmv d mc ms) s m args below meth c (MQ below (cQc s0 G tg h0 Qr) args s mc ms (fun q => s0.heap.size ≤ q)) s0 G nL tg h0 h bc bs pc L [.int v] := by
  intro H locs cells slots ls r f z hc hs hl
  refine W.widen (k := mc) (n := ms) (Nat.le_trans (Nat.le_add_right _ _) hc) (Nat.le_trans (Nat.le_add_right _ _) hs) ?_
  exact W.zret X.2.1 X.2.2.1 hr hnar (fun t ht hW => ⟨⟨_, h, rfl, hq, f, by rw [ht]; exact r⟩, z.F ht⟩) z.2.2 hd X.2.2.2.2.2.2
theorem aw_vret (X : MX p l s m meth c s0 a0 G cc own nL) (hr : meth.sig.returnType = none) (hd : decode cc pc = .ok (.return_, 1)) (hq : Qr none h) : AW p l e (rmv d mc ms) s m args below meth c (MQ below (cQc s0 G tg h0 Qr) args s mc ms (fun q => s0.heap.size ≤ q)) s0 G nL tg h0 h bc bs pc L [] := by
  intro H locs cells slots ls r f z hc hs hl
  refine W.widen (k := mc) (n := ms) (Nat.le_trans (Nat.le_add_right _ _) hc) (Nat.le_trans (Nat.le_add_right _ _) hs) ?_
  exact W.vret X.2.1 X.2.2.1 hr (fun t ht hW => ⟨⟨_, h, rfl, hq, f, by rw [ht]; exact r⟩, z.F ht⟩) z.2.2 hd X.2.2.2.2.2.2
theorem aw_aret (X : MX p l s m meth c s0 a0 G cc own nL) {rt : FieldType} {y : Nat} (hr : meth.sig.returnType = some rt) (hrt : (∃ n, rt = .object n) ∨ ∃ t, rt = .array t) (hd : decode cc pc = .ok (.areturn, 1)) (hq : Qr (some (.ref y)) h) : AW p l e (rmv d mc ms) s m args below meth c (MQ below (cQc s0 G tg h0 Qr) args s mc ms (fun q => s0.heap.size ≤ q)) s0 G nL tg h0 h bc bs pc L [.ref y] := by
  intro H locs cells slots ls r f z hc hs hl
  refine W.widen (k := mc) (n := ms) (Nat.le_trans (Nat.le_add_right _ _) hc) (Nat.le_trans (Nat.le_add_right _ _) hs) ?_
  exact W.aret X.2.1 X.2.2.1 hr hrt (Or.inr ⟨y, rfl⟩) (fun t ht hW => ⟨⟨_, h, rfl, hq, f, by rw [ht]; exact r⟩, z.F ht⟩) z.2.2 hd X.2.2.2.2.2.2
theorem aw_lret (X : MX p l s m meth c s0 a0 G cc own nL) {v : Int64} (hr : meth.sig.returnType = some .long) (hd : decode cc pc = .ok (.lreturn, 1)) (hq : Qr (some (.long v)) h) : AW p l e (rmv d mc ms) s m args below meth c (MQ below (cQc s0 G tg h0 Qr) args s mc ms (fun q => s0.heap.size ≤ q)) s0 G nL tg h0 h bc bs pc L [.long v] := by
  intro H locs cells slots ls r f z hc hs hl
  refine W.widen (k := mc) (n := ms) (Nat.le_trans (Nat.le_add_right _ _) hc) (Nat.le_trans (Nat.le_add_right _ _) hs) ?_
  exact W.lret X.2.1 X.2.2.1 hr (fun t ht hW => ⟨⟨_, h, rfl, hq, f, by rw [ht]; exact r⟩, z.F ht⟩) z.2.2 hd X.2.2.2.2.2.2
theorem aw_dret (X : MX p l s m meth c s0 a0 G cc own nL) {v : UInt64} (hr : meth.sig.returnType = some .double) (hd : decode cc pc = .ok (.dreturn, 1)) (hq : Qr (some (.double v)) h) : AW p l e (rmv d mc ms) s m args below meth c (MQ below (cQc s0 G tg h0 Qr) args s mc ms (fun q => s0.heap.size ≤ q)) s0 G nL tg h0 h bc bs pc L [.double v] := by
  intro H locs cells slots ls r f z hc hs hl
  refine W.widen (k := mc) (n := ms) (Nat.le_trans (Nat.le_add_right _ _) hc) (Nat.le_trans (Nat.le_add_right _ _) hs) ?_
  exact W.dret X.2.1 X.2.2.1 hr (fun t ht hW => ⟨⟨_, h, rfl, hq, f, by rw [ht]; exact r⟩, z.F ht⟩) z.2.2 hd X.2.2.2.2.2.2
end AWC
section AWD
variable {p : Program} {l : Launch} {e : Env} {R : Room} {s : State} {m : MethodId} {args : Array Value} {below : List Frame} {meth : Method} {c : Code} {Q : State → Prop} {s0 : State} {a0 : Array Value} {G : GG} {cc : ByteArray} {own : String} {nL tg : Nat} {h0 h : AH} {bc bs pc n : Nat} {L : List (Option Value)} {st : List Value}
variable {a t d mc ms index maxL nA ci : Nat} {Qr : Option Value → AH → Prop} {y : MethodName} {cy : ByteArray} {ret : Option FieldType} {C : String} {T : u_T} {N : Nat} {b : Nat} {As stk : List Value} {fs : List Value}
/-- a method, as the tables have it -/
def CM (y : MethodName) (cy : ByteArray) (maxL : Nat) (ret : Option FieldType) (nA : Nat) : Prop := TW (.code y cy maxL ret) ∧ TW (.initialized y.cls) ∧ (y.cls ≠ "java/lang/invoke/MethodHandle" ∧ y.cls ≠ "java/lang/invoke/VarHandle") ∧ (parseMethodDescriptor y.desc).map (fun d => d.parameters.length) = some nA
theorem MX.words (X : MX p l s m meth c s0 a0 G cc own nL) (hc : TW (.code y cy maxL ret)) : ∀ w ∈ [Cond.code y cy maxL ret], ∀ (a' : Array Value) (U : State), s.WarmedH U.vm → w.before a' U = true := fun w hw a' U hW => by
  rw [List.mem_singleton.mp hw]
  exact word_at hW (good_of_word hc.2) (X.tw (args := #[]) hc)
theorem CM.len (hc : CM y cy maxL ret nA) : ∀ sig, parseMethodDescriptor y.desc = some sig → nA = sig.parameters.length := fun sig h => by
  have h2 := hc.2.2.2
  rw [h] at h2
  exact (Option.some.inj h2).symm
/-- deep enough -/
def DR (R : Room) (d maxL : Nat) : Prop := d + 1 ≤ R.frames ∧ 8 + (maxL + 11) + 32 * d ≤ R.locals
theorem MX.callB (X : MX p l s m meth c s0 a0 G cc own nL) (hc : CM y cy maxL ret nA) (hl : TW (.methodLink own index y)) (hR : DR R d maxL) : CallB R s args own index y cy maxL ret [Cond.code y cy maxL ret] (rmv d mc ms) mc ms nA :=
  ⟨rfl, rfl, hR.1, hR.2, X.words hc.1, List.mem_cons_self, X.tw hc.1, X.tw hc.2.1, hc.2.2.1, hc.len, X.tw hl⟩
theorem MX.pre (X : MX p l s m meth c s0 a0 G cc own nL) {H : Heap} {locs : List Loc} (r : Rep G s0.heap.size h H) (z : va_S (fun q => s0.heap.size ≤ q) s.heap H locs) {av : List Value} : ∀ U : State, U.heap = H → s.WarmedH U.vm → cPc s0 G av h av.toArray U := by
  intro U hU hW
  refine ⟨rfl, ⟨State.WarmedH.trans X.2.2.2.2.2.1.1 hW, fun q hq => ?_, by rw [hU]; exact X.big z⟩, by rw [hU]; exact r⟩
  rw [hU, z.2.1 q (Nat.lt_of_lt_of_le hq X.2.2.2.2.2.1.2.2) (Nat.not_le.mpr hq)]
  exact X.2.2.2.2.2.1.2.1 q hq
theorem aw_after {H : Heap} {locs : List Loc} {cells slots : Nat} {ls : Array Slot} {rest st0 : List Value} {av : Array Value} (hr : va_Run p l e R s m args below meth c H locs cells slots mc ms (F0 m pc ls st0) rest (cQc s0 G tg h Qr av) (fun q => s0.heap.size ≤ q)) (f : FrT tg h0 h) (z : va_S (fun q => s0.heap.size ≤ q) s.heap H locs) (hc : cells + (bc + mc) ≤ R.cells) (hs : slots + (bs + ms) ≤ R.slots) (hl : lv_has ls nL (asc L 0))
    (kk : ∀ (r : Option Value) (h2 : AH), Qr r h2 → FrT tg h h2 → AW p l e R s m args below meth c Q s0 G nL tg h0 h2 bc bs (pc + 3) L (r.toList ++ rest)) : W p l e R s m args below meth c H locs cells slots Q (F0 m pc ls st0) := by
  intro T hT X
  obtain ⟨v, st₀, t, T', L9, e0, X', hL, e1, e2, ⟨⟨r, h2, hv, hq, hF, hR⟩, hz, hk⟩, st⟩ := hr T hT X
  cases hv
  rw [e0] at hz hk
  have hz9 : va_S (fun q => s0.heap.size ≤ q) s.heap T'.heap (locs ++ L9) := ⟨Nat.le_trans z.1 (by rw [e1]; exact hz), fun q h1 h2 => by rw [e1, hk q (Nat.lt_of_lt_of_le h1 z.1) h2]; exact z.2.1 q h1 h2, fun q hq => by
      rcases List.mem_append.mp hq with h | h
      · exact z.2.2 q h
      · exact hL q h⟩
  obtain ⟨t2, a1, b1⟩ := kk v h2 hq hF T'.heap (locs ++ L9) (cells + mc) (slots + ms) ls (by rw [e1]; exact hR) (f.trans hF) hz9 (by omega) (by omega) hl T' rfl X'
  exact ⟨t2, st t2 a1, b1⟩
theorem aw_callV (X : MX p l s m meth c s0 a0 G cc own nL) (hd : decode cc pc = .ok (.invokevirtual index, 3)) (hn : pc + 3 = n) (hcon : Con l s0 G y cy maxL ret d mc ms tg (.ref b :: As) h Qr) (hm : CM y cy maxL ret nA ∧ TW (.instanceMethod y) ∧ TW (.selects C y y)) (hl9 : TW (.methodLink own index y)) (hci : vwCl[ci]? = some (C, T, N)) (hh : h b = some (t, .inr (ci, fs))) (hst : stk = As.reverse ++ .ref b :: st) (hA : As.length = nA) (hcat : (st.map fun v => v.category).sum ≤ 8) (hR : DR R d maxL)
    (k : ∀ (r : Option Value) (h2 : AH), Qr r h2 → FrT tg h h2 → AW p l e R s m args below meth c Q s0 G nL tg h0 h2 bc bs n L (r.toList ++ st)) : AW p l e R s m args below meth c Q s0 G nL tg h0 h (bc + mc) (bs + ms) pc L stk := by
  intro H locs cells slots ls r f z hc hs hl
  subst hst
  exact aw_after (va_runV (C := C) (As := As) (rest := st) ⟨X.2.1, X.2.2.1, X.2.2.2.1, X.2.2.2.2.1, fun w (hw : w ∈ ([] : List Cond)) => nomatch hw⟩ hcon ⟨X.callB hm.1 hl9 hR, X.tw hm.2.1, X.tw hm.2.2⟩ ⟨cPc.blind, X.recv r hh hci, X.pre r z⟩ rfl hA hl.1 rfl (lv_room hcat) hd ⟨by omega, by omega⟩) f z hc hs hl (by rw [hn]; exact k)
theorem aw_callS (X : MX p l s m meth c s0 a0 G cc own nL) (hd : decode cc pc = .ok (.invokestatic index, 3)) (hn : pc + 3 = n) (hcon : Con l s0 G y cy maxL ret d mc ms tg As h Qr) (hm : CM y cy maxL ret nA ∧ TW (.static y)) (hl9 : TW (.methodLink own index y)) (hst : stk = As.reverse ++ st) (hA : As.length = nA) (hcat : (st.map fun v => v.category).sum ≤ 8) (hR : DR R d maxL)
    (k : ∀ (r : Option Value) (h2 : AH), Qr r h2 → FrT tg h h2 → AW p l e R s m args below meth c Q s0 G nL tg h0 h2 bc bs n L (r.toList ++ st)) : AW p l e R s m args below meth c Q s0 G nL tg h0 h (bc + mc) (bs + ms) pc L stk := by
  intro H locs cells slots ls r f z hc hs hl
  subst hst
  exact aw_after (va_runS (As := As) (rest := st) ⟨X.2.1, X.2.2.1, X.2.2.2.1, X.2.2.2.2.1, fun w (hw : w ∈ ([] : List Cond)) => nomatch hw⟩ hcon ⟨X.callB hm.1 hl9 hR, X.tw hm.2⟩ ⟨cPc.blind, X.pre r z⟩ rfl hA hl.1 rfl (lv_room hcat) hd ⟨by omega, by omega⟩) f z hc hs hl (by rw [hn]; exact k)
theorem aw_callI (X : MX p l s m meth c s0 a0 G cc own nL) (hd : decode cc pc = .ok (.invokespecial index, 3)) (hn : pc + 3 = n) (hcon : Con l s0 G y cy maxL none d mc ms tg (.ref b :: As) h Qr) (hm : CM y cy maxL none nA ∧ TW (.instanceMethod y) ∧ y.name = "<init>") (hl9 : TW (.methodLink own index y)) (hst : stk = As.reverse ++ .ref b :: st) (hA : As.length = nA) (hcat : (st.map fun v => v.category).sum ≤ 8) (hR : DR R d maxL)
    (k : ∀ (r : Option Value) (h2 : AH), Qr r h2 → FrT tg h h2 → AW p l e R s m args below meth c Q s0 G nL tg h0 h2 bc bs n L (r.toList ++ st)) : AW p l e R s m args below meth c Q s0 G nL tg h0 h (bc + mc) (bs + ms) pc L stk := by
  intro H locs cells slots ls r f z hc hs hl
  subst hst
  exact aw_after (va_runI (As := As) (rest := st) ⟨X.2.1, X.2.2.1, X.2.2.2.1, X.2.2.2.2.1, fun w (hw : w ∈ ([] : List Cond)) => nomatch hw⟩ hcon ⟨X.callB hm.1 hl9 hR, hm.2.2, X.tw hm.2.1⟩ ⟨cPc.blind, X.pre r z⟩ rfl hA hl.1 rfl (lv_room hcat) hd ⟨by omega, by omega⟩) f z hc hs hl (by rw [hn]; exact k)
theorem MX.callN (X : MX p l s m meth c s0 a0 G cc own nL) {host : String} (hc : CM y cy maxL ret nA) (hl : (Cond.methodLinkNest own index y host) ∈ lw_tbl) (hR : DR R d maxL) : va_CN R s args own index y host cy maxL ret [Cond.code y cy maxL ret] (rmv d mc ms) mc ms nA :=
  ⟨⟨rfl, rfl, hR.1, hR.2, X.words hc.1, List.mem_cons_self⟩, X.tw hc.1, X.tw hc.2.1, hc.2.2.1, hc.len, va_Nw.use rfl (va_Nw.warmM X.2.2.2.2.2.1.1 (X.nw hl rfl))⟩
theorem aw_callSN (X : MX p l s m meth c s0 a0 G cc own nL) {host : String} (hd : decode cc pc = .ok (.invokestatic index, 3)) (hn : pc + 3 = n) (hcon : Con l s0 G y cy maxL ret d mc ms tg As h Qr) (hm : CM y cy maxL ret nA ∧ TW (.static y)) (hl9 : (Cond.methodLinkNest own index y host) ∈ lw_tbl) (hst : stk = As.reverse ++ st) (hA : As.length = nA) (hcat : (st.map fun v => v.category).sum ≤ 8) (hR : DR R d maxL)
    (k : ∀ (r : Option Value) (h2 : AH), Qr r h2 → FrT tg h h2 → AW p l e R s m args below meth c Q s0 G nL tg h0 h2 bc bs n L (r.toList ++ st)) : AW p l e R s m args below meth c Q s0 G nL tg h0 h (bc + mc) (bs + ms) pc L stk := by
  intro H locs cells slots ls r f z hc hs hl
  subst hst
  exact aw_after (va_runSN (As := As) (rest := st) ⟨X.2.1, X.2.2.1, X.2.2.2.1, X.2.2.2.2.1, fun w (hw : w ∈ ([] : List Cond)) => nomatch hw⟩ hcon ⟨X.callN hm.1 hl9 hR, X.tw hm.2, trivial⟩ ⟨cPc.blind, X.pre r z⟩ rfl hA hl.1 rfl (lv_room hcat) hd ⟨by omega, by omega⟩) f z hc hs hl (by rw [hn]; exact k)
theorem aw_callIN (X : MX p l s m meth c s0 a0 G cc own nL) {host : String} (hd : decode cc pc = .ok (.invokespecial index, 3)) (hn : pc + 3 = n) (hcon : Con l s0 G y cy maxL none d mc ms tg (.ref b :: As) h Qr) (hm : CM y cy maxL none nA ∧ TW (.instanceMethod y) ∧ y.name = "<init>") (hl9 : (Cond.methodLinkNest own index y host) ∈ lw_tbl) (hst : stk = As.reverse ++ .ref b :: st) (hA : As.length = nA) (hcat : (st.map fun v => v.category).sum ≤ 8) (hR : DR R d maxL)
    (k : ∀ (r : Option Value) (h2 : AH), Qr r h2 → FrT tg h h2 → AW p l e R s m args below meth c Q s0 G nL tg h0 h2 bc bs n L (r.toList ++ st)) : AW p l e R s m args below meth c Q s0 G nL tg h0 h (bc + mc) (bs + ms) pc L stk := by
  intro H locs cells slots ls r f z hc hs hl
  subst hst
  exact aw_after (va_runIN (As := As) (rest := st) ⟨X.2.1, X.2.2.1, X.2.2.2.1, X.2.2.2.2.1, fun w (hw : w ∈ ([] : List Cond)) => nomatch hw⟩ hcon ⟨X.callN hm.1 hl9 hR, hm.2.2, X.tw hm.2.1⟩ ⟨cPc.blind, X.pre r z⟩ rfl hA hl.1 rfl (lv_room hcat) hd ⟨by omega, by omega⟩) f z hc hs hl (by rw [hn]; exact k)
end AWD
end
