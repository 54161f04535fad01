-- ===== PART A: goes FIRST, ahead of the names: the tables' words, and 'selects' of the private methods out of them =====
/-- a private method of a class that the tables say can be made, by its rows of tables_1 -/
def lw_okq (q : MethodName × Nat) : Prop := (q.1.cls ≠ "java/lang/invoke/MethodHandle" ∧ q.1.cls ≠ "java/lang/invoke/VarHandle") ∧ Cond.instantiable q.1.cls q.2 ∈ tables_1 ∧ Cond.privateMethod q.1 ∈ tables_1 ∧ Cond.instanceMethod q.1 ∈ tables_1
theorem lw_p0 : lw_okq (⟨"LaughingGate", "isPerson", "(I)Z"⟩, 9) := ⟨⟨by decide +kernel, by decide +kernel⟩, List.mem_of_getElem? (i := 19) (by decide +kernel), List.mem_of_getElem? (i := 283) (by decide +kernel), List.mem_of_getElem? (i := 284) (by decide +kernel)⟩
theorem lw_p1 : lw_okq (⟨"LaughingGate", "placeOrLacking", "(I)I"⟩, 9) := ⟨⟨by decide +kernel, by decide +kernel⟩, List.mem_of_getElem? (i := 19) (by decide +kernel), List.mem_of_getElem? (i := 291) (by decide +kernel), List.mem_of_getElem? (i := 292) (by decide +kernel)⟩
theorem lw_p2 : lw_okq (⟨"LaughingGate$Town", "laughingPlaces", "()I"⟩, 13) := ⟨⟨by decide +kernel, by decide +kernel⟩, List.mem_of_getElem? (i := 33) (by decide +kernel), List.mem_of_getElem? (i := 299) (by decide +kernel), List.mem_of_getElem? (i := 300) (by decide +kernel)⟩
theorem lw_p3 : lw_okq (⟨"LaughingGate", "hoursTillIn", "(I)I"⟩, 9) := ⟨⟨by decide +kernel, by decide +kernel⟩, List.mem_of_getElem? (i := 19) (by decide +kernel), List.mem_of_getElem? (i := 315) (by decide +kernel), List.mem_of_getElem? (i := 316) (by decide +kernel)⟩
theorem lw_p4 : lw_okq (⟨"LaughingGate$Town", "letFirstIn", "()V"⟩, 13) := ⟨⟨by decide +kernel, by decide +kernel⟩, List.mem_of_getElem? (i := 33) (by decide +kernel), List.mem_of_getElem? (i := 330) (by decide +kernel), List.mem_of_getElem? (i := 331) (by decide +kernel)⟩
theorem lw_p5 : lw_okq (⟨"LaughingGate", "fitting", "([II)I"⟩, 9) := ⟨⟨by decide +kernel, by decide +kernel⟩, List.mem_of_getElem? (i := 19) (by decide +kernel), List.mem_of_getElem? (i := 345) (by decide +kernel), List.mem_of_getElem? (i := 346) (by decide +kernel)⟩
theorem lw_p6 : lw_okq (⟨"LaughingGate", "seenComesTrue", "()Z"⟩, 9) := ⟨⟨by decide +kernel, by decide +kernel⟩, List.mem_of_getElem? (i := 19) (by decide +kernel), List.mem_of_getElem? (i := 349) (by decide +kernel), List.mem_of_getElem? (i := 350) (by decide +kernel)⟩
theorem lw_p7 : lw_okq (⟨"LaughingGate", "seenIsSoIn", "(I)Z"⟩, 9) := ⟨⟨by decide +kernel, by decide +kernel⟩, List.mem_of_getElem? (i := 19) (by decide +kernel), List.mem_of_getElem? (i := 354) (by decide +kernel), List.mem_of_getElem? (i := 355) (by decide +kernel)⟩
theorem lw_p8 : lw_okq (⟨"LaughingGate", "urgeNow", "(II)I"⟩, 9) := ⟨⟨by decide +kernel, by decide +kernel⟩, List.mem_of_getElem? (i := 19) (by decide +kernel), List.mem_of_getElem? (i := 358) (by decide +kernel), List.mem_of_getElem? (i := 359) (by decide +kernel)⟩
theorem lw_p9 : lw_okq (⟨"LaughingGate$Reader", "readClause", "(LLaughingGate$City;)Z"⟩, 3) := ⟨⟨by decide +kernel, by decide +kernel⟩, List.mem_of_getElem? (i := 136) (by decide +kernel), List.mem_of_getElem? (i := 406) (by decide +kernel), List.mem_of_getElem? (i := 407) (by decide +kernel)⟩
theorem lw_p10 : lw_okq (⟨"LaughingGate$Reader", "takesWord", "(Ljava/lang/String;)Z"⟩, 3) := ⟨⟨by decide +kernel, by decide +kernel⟩, List.mem_of_getElem? (i := 136) (by decide +kernel), List.mem_of_getElem? (i := 418) (by decide +kernel), List.mem_of_getElem? (i := 419) (by decide +kernel)⟩
theorem lw_p11 : lw_okq (⟨"LaughingGate$Reader", "takes", "(C)Z"⟩, 3) := ⟨⟨by decide +kernel, by decide +kernel⟩, List.mem_of_getElem? (i := 136) (by decide +kernel), List.mem_of_getElem? (i := 470) (by decide +kernel), List.mem_of_getElem? (i := 471) (by decide +kernel)⟩
theorem lw_p12 : lw_okq (⟨"LaughingGate$Reader", "readNumber", "()I"⟩, 3) := ⟨⟨by decide +kernel, by decide +kernel⟩, List.mem_of_getElem? (i := 136) (by decide +kernel), List.mem_of_getElem? (i := 478) (by decide +kernel), List.mem_of_getElem? (i := 479) (by decide +kernel)⟩
theorem lw_p13 : lw_okq (⟨"LaughingGate$Reader", "readEither", "(LLaughingGate$City;I)Z"⟩, 3) := ⟨⟨by decide +kernel, by decide +kernel⟩, List.mem_of_getElem? (i := 136) (by decide +kernel), List.mem_of_getElem? (i := 483) (by decide +kernel), List.mem_of_getElem? (i := 484) (by decide +kernel)⟩
theorem lw_p14 : lw_okq (⟨"LaughingGate$Reader", "readBoth", "(LLaughingGate$City;I)Z"⟩, 3) := ⟨⟨by decide +kernel, by decide +kernel⟩, List.mem_of_getElem? (i := 136) (by decide +kernel), List.mem_of_getElem? (i := 487) (by decide +kernel), List.mem_of_getElem? (i := 488) (by decide +kernel)⟩
theorem lw_p15 : lw_okq (⟨"LaughingGate$Reader", "readPart", "(LLaughingGate$City;I)Z"⟩, 3) := ⟨⟨by decide +kernel, by decide +kernel⟩, List.mem_of_getElem? (i := 136) (by decide +kernel), List.mem_of_getElem? (i := 491) (by decide +kernel), List.mem_of_getElem? (i := 492) (by decide +kernel)⟩
def lw_privs_1 : List (MethodName × Nat) := [(⟨"LaughingGate", "isPerson", "(I)Z"⟩, 9), (⟨"LaughingGate", "placeOrLacking", "(I)I"⟩, 9), (⟨"LaughingGate$Town", "laughingPlaces", "()I"⟩, 13), (⟨"LaughingGate", "hoursTillIn", "(I)I"⟩, 9), (⟨"LaughingGate$Town", "letFirstIn", "()V"⟩, 13), (⟨"LaughingGate", "fitting", "([II)I"⟩, 9), (⟨"LaughingGate", "seenComesTrue", "()Z"⟩, 9), (⟨"LaughingGate", "seenIsSoIn", "(I)Z"⟩, 9), (⟨"LaughingGate", "urgeNow", "(II)I"⟩, 9), (⟨"LaughingGate$Reader", "readClause", "(LLaughingGate$City;)Z"⟩, 3), (⟨"LaughingGate$Reader", "takesWord", "(Ljava/lang/String;)Z"⟩, 3), (⟨"LaughingGate$Reader", "takes", "(C)Z"⟩, 3), (⟨"LaughingGate$Reader", "readNumber", "()I"⟩, 3), (⟨"LaughingGate$Reader", "readEither", "(LLaughingGate$City;I)Z"⟩, 3), (⟨"LaughingGate$Reader", "readBoth", "(LLaughingGate$City;I)Z"⟩, 3), (⟨"LaughingGate$Reader", "readPart", "(LLaughingGate$City;I)Z"⟩, 3)]
theorem lw_r1 : ∀ q ∈ lw_privs_1, lw_okq q := List.forall_mem_cons.mpr ⟨lw_p0, List.forall_mem_cons.mpr ⟨lw_p1, List.forall_mem_cons.mpr ⟨lw_p2, List.forall_mem_cons.mpr ⟨lw_p3, List.forall_mem_cons.mpr ⟨lw_p4, List.forall_mem_cons.mpr ⟨lw_p5, List.forall_mem_cons.mpr ⟨lw_p6, List.forall_mem_cons.mpr ⟨lw_p7, List.forall_mem_cons.mpr ⟨lw_p8, List.forall_mem_cons.mpr ⟨lw_p9, List.forall_mem_cons.mpr ⟨lw_p10, List.forall_mem_cons.mpr ⟨lw_p11, List.forall_mem_cons.mpr ⟨lw_p12, List.forall_mem_cons.mpr ⟨lw_p13, List.forall_mem_cons.mpr ⟨lw_p14, List.forall_mem_cons.mpr ⟨lw_p15, fun _ h => absurd h List.not_mem_nil⟩⟩⟩⟩⟩⟩⟩⟩⟩⟩⟩⟩⟩⟩⟩⟩
theorem lw_p16 : lw_okq (⟨"LaughingGate$Reader", "readOneOf", "(Ljava/lang/String;)I"⟩, 3) := ⟨⟨by decide +kernel, by decide +kernel⟩, List.mem_of_getElem? (i := 136) (by decide +kernel), List.mem_of_getElem? (i := 500) (by decide +kernel), List.mem_of_getElem? (i := 501) (by decide +kernel)⟩
theorem lw_p17 : lw_okq (⟨"LaughingGate", "spark", "()I"⟩, 9) := ⟨⟨by decide +kernel, by decide +kernel⟩, List.mem_of_getElem? (i := 19) (by decide +kernel), List.mem_of_getElem? (i := 575) (by decide +kernel), List.mem_of_getElem? (i := 576) (by decide +kernel)⟩
theorem lw_p18 : lw_okq (⟨"LaughingGate", "laughersBy", "(I)I"⟩, 9) := ⟨⟨by decide +kernel, by decide +kernel⟩, List.mem_of_getElem? (i := 19) (by decide +kernel), List.mem_of_getElem? (i := 579) (by decide +kernel), List.mem_of_getElem? (i := 580) (by decide +kernel)⟩
theorem lw_p19 : lw_okq (⟨"LaughingGate", "hush", "()I"⟩, 9) := ⟨⟨by decide +kernel, by decide +kernel⟩, List.mem_of_getElem? (i := 19) (by decide +kernel), List.mem_of_getElem? (i := 589) (by decide +kernel), List.mem_of_getElem? (i := 590) (by decide +kernel)⟩
theorem lw_p20 : lw_okq (⟨"LaughingGate", "walkersAfterTurn", "(III)I"⟩, 9) := ⟨⟨by decide +kernel, by decide +kernel⟩, List.mem_of_getElem? (i := 19) (by decide +kernel), List.mem_of_getElem? (i := 615) (by decide +kernel), List.mem_of_getElem? (i := 616) (by decide +kernel)⟩
theorem lw_p21 : lw_okq (⟨"LaughingGate", "tryPlanned", "(II)V"⟩, 9) := ⟨⟨by decide +kernel, by decide +kernel⟩, List.mem_of_getElem? (i := 19) (by decide +kernel), List.mem_of_getElem? (i := 655) (by decide +kernel), List.mem_of_getElem? (i := 656) (by decide +kernel)⟩
theorem lw_p22 : lw_okq (⟨"LaughingGate$Acts", "coughs", "(III)I"⟩, 5) := ⟨⟨by decide +kernel, by decide +kernel⟩, List.mem_of_getElem? (i := 158) (by decide +kernel), List.mem_of_getElem? (i := 705) (by decide +kernel), List.mem_of_getElem? (i := 706) (by decide +kernel)⟩
theorem lw_p23 : lw_okq (⟨"LaughingGate$Acts", "begins", "(I)V"⟩, 5) := ⟨⟨by decide +kernel, by decide +kernel⟩, List.mem_of_getElem? (i := 158) (by decide +kernel), List.mem_of_getElem? (i := 709) (by decide +kernel), List.mem_of_getElem? (i := 710) (by decide +kernel)⟩
theorem lw_p24 : lw_okq (⟨"LaughingGate$Acts", "winks", "(III)I"⟩, 5) := ⟨⟨by decide +kernel, by decide +kernel⟩, List.mem_of_getElem? (i := 158) (by decide +kernel), List.mem_of_getElem? (i := 715) (by decide +kernel), List.mem_of_getElem? (i := 716) (by decide +kernel)⟩
theorem lw_p25 : lw_okq (⟨"LaughingGate$Acts", "tells", "(III)I"⟩, 5) := ⟨⟨by decide +kernel, by decide +kernel⟩, List.mem_of_getElem? (i := 158) (by decide +kernel), List.mem_of_getElem? (i := 719) (by decide +kernel), List.mem_of_getElem? (i := 720) (by decide +kernel)⟩
theorem lw_p26 : lw_okq (⟨"LaughingGateModel", "change", "(III)I"⟩, 29) := ⟨⟨by decide +kernel, by decide +kernel⟩, List.mem_of_getElem? (i := 761) (by decide +kernel), List.mem_of_getElem? (i := 875) (by decide +kernel), List.mem_of_getElem? (i := 876) (by decide +kernel)⟩
theorem lw_p27 : lw_okq (⟨"LaughingGateModel", "number", "(II)I"⟩, 29) := ⟨⟨by decide +kernel, by decide +kernel⟩, List.mem_of_getElem? (i := 761) (by decide +kernel), List.mem_of_getElem? (i := 879) (by decide +kernel), List.mem_of_getElem? (i := 880) (by decide +kernel)⟩
theorem lw_p28 : lw_okq (⟨"LaughingGateModel", "joins", "(I)V"⟩, 29) := ⟨⟨by decide +kernel, by decide +kernel⟩, List.mem_of_getElem? (i := 761) (by decide +kernel), List.mem_of_getElem? (i := 883) (by decide +kernel), List.mem_of_getElem? (i := 884) (by decide +kernel)⟩
theorem lw_p29 : lw_okq (⟨"LaughingGateModel", "isOne", "(I)Z"⟩, 29) := ⟨⟨by decide +kernel, by decide +kernel⟩, List.mem_of_getElem? (i := 761) (by decide +kernel), List.mem_of_getElem? (i := 891) (by decide +kernel), List.mem_of_getElem? (i := 892) (by decide +kernel)⟩
theorem lw_p30 : lw_okq (⟨"LaughingGateModel", "isOnRoad", "(I)Z"⟩, 29) := ⟨⟨by decide +kernel, by decide +kernel⟩, List.mem_of_getElem? (i := 761) (by decide +kernel), List.mem_of_getElem? (i := 895) (by decide +kernel), List.mem_of_getElem? (i := 896) (by decide +kernel)⟩
theorem lw_p31 : lw_okq (⟨"LaughingGateModel", "placeOf", "(I)I"⟩, 29) := ⟨⟨by decide +kernel, by decide +kernel⟩, List.mem_of_getElem? (i := 761) (by decide +kernel), List.mem_of_getElem? (i := 899) (by decide +kernel), List.mem_of_getElem? (i := 900) (by decide +kernel)⟩
def lw_privs_2 : List (MethodName × Nat) := [(⟨"LaughingGate$Reader", "readOneOf", "(Ljava/lang/String;)I"⟩, 3), (⟨"LaughingGate", "spark", "()I"⟩, 9), (⟨"LaughingGate", "laughersBy", "(I)I"⟩, 9), (⟨"LaughingGate", "hush", "()I"⟩, 9), (⟨"LaughingGate", "walkersAfterTurn", "(III)I"⟩, 9), (⟨"LaughingGate", "tryPlanned", "(II)V"⟩, 9), (⟨"LaughingGate$Acts", "coughs", "(III)I"⟩, 5), (⟨"LaughingGate$Acts", "begins", "(I)V"⟩, 5), (⟨"LaughingGate$Acts", "winks", "(III)I"⟩, 5), (⟨"LaughingGate$Acts", "tells", "(III)I"⟩, 5), (⟨"LaughingGateModel", "change", "(III)I"⟩, 29), (⟨"LaughingGateModel", "number", "(II)I"⟩, 29), (⟨"LaughingGateModel", "joins", "(I)V"⟩, 29), (⟨"LaughingGateModel", "isOne", "(I)Z"⟩, 29), (⟨"LaughingGateModel", "isOnRoad", "(I)Z"⟩, 29), (⟨"LaughingGateModel", "placeOf", "(I)I"⟩, 29)]
theorem lw_r2 : ∀ q ∈ lw_privs_2, lw_okq q := List.forall_mem_cons.mpr ⟨lw_p16, List.forall_mem_cons.mpr ⟨lw_p17, List.forall_mem_cons.mpr ⟨lw_p18, List.forall_mem_cons.mpr ⟨lw_p19, List.forall_mem_cons.mpr ⟨lw_p20, List.forall_mem_cons.mpr ⟨lw_p21, List.forall_mem_cons.mpr ⟨lw_p22, List.forall_mem_cons.mpr ⟨lw_p23, List.forall_mem_cons.mpr ⟨lw_p24, List.forall_mem_cons.mpr ⟨lw_p25, List.forall_mem_cons.mpr ⟨lw_p26, List.forall_mem_cons.mpr ⟨lw_p27, List.forall_mem_cons.mpr ⟨lw_p28, List.forall_mem_cons.mpr ⟨lw_p29, List.forall_mem_cons.mpr ⟨lw_p30, List.forall_mem_cons.mpr ⟨lw_p31, fun _ h => absurd h List.not_mem_nil⟩⟩⟩⟩⟩⟩⟩⟩⟩⟩⟩⟩⟩⟩⟩⟩
theorem lw_p32 : lw_okq (⟨"LaughingGateModel", "laughing", "()I"⟩, 29) := ⟨⟨by decide +kernel, by decide +kernel⟩, List.mem_of_getElem? (i := 761) (by decide +kernel), List.mem_of_getElem? (i := 903) (by decide +kernel), List.mem_of_getElem? (i := 904) (by decide +kernel)⟩
theorem lw_p33 : lw_okq (⟨"LaughingGateModel", "urge", "(II)I"⟩, 29) := ⟨⟨by decide +kernel, by decide +kernel⟩, List.mem_of_getElem? (i := 761) (by decide +kernel), List.mem_of_getElem? (i := 907) (by decide +kernel), List.mem_of_getElem? (i := 908) (by decide +kernel)⟩
theorem lw_p34 : lw_okq (⟨"LaughingGateModel", "readFor", "(II)V"⟩, 29) := ⟨⟨by decide +kernel, by decide +kernel⟩, List.mem_of_getElem? (i := 761) (by decide +kernel), List.mem_of_getElem? (i := 911) (by decide +kernel), List.mem_of_getElem? (i := 912) (by decide +kernel)⟩
theorem lw_p35 : lw_okq (⟨"LaughingGateModel", "readAll", "()Z"⟩, 29) := ⟨⟨by decide +kernel, by decide +kernel⟩, List.mem_of_getElem? (i := 761) (by decide +kernel), List.mem_of_getElem? (i := 915) (by decide +kernel), List.mem_of_getElem? (i := 916) (by decide +kernel)⟩
theorem lw_p36 : lw_okq (⟨"LaughingGateModel", "clause", "()V"⟩, 29) := ⟨⟨by decide +kernel, by decide +kernel⟩, List.mem_of_getElem? (i := 761) (by decide +kernel), List.mem_of_getElem? (i := 919) (by decide +kernel), List.mem_of_getElem? (i := 920) (by decide +kernel)⟩
theorem lw_p37 : lw_okq (⟨"LaughingGateModel", "isAt", "(I)Z"⟩, 29) := ⟨⟨by decide +kernel, by decide +kernel⟩, List.mem_of_getElem? (i := 761) (by decide +kernel), List.mem_of_getElem? (i := 923) (by decide +kernel), List.mem_of_getElem? (i := 924) (by decide +kernel)⟩
theorem lw_p38 : lw_okq (⟨"LaughingGateModel", "takes", "(I)V"⟩, 29) := ⟨⟨by decide +kernel, by decide +kernel⟩, List.mem_of_getElem? (i := 761) (by decide +kernel), List.mem_of_getElem? (i := 927) (by decide +kernel), List.mem_of_getElem? (i := 928) (by decide +kernel)⟩
theorem lw_p39 : lw_okq (⟨"LaughingGateModel", "number", "()I"⟩, 29) := ⟨⟨by decide +kernel, by decide +kernel⟩, List.mem_of_getElem? (i := 761) (by decide +kernel), List.mem_of_getElem? (i := 931) (by decide +kernel), List.mem_of_getElem? (i := 932) (by decide +kernel)⟩
theorem lw_p40 : lw_okq (⟨"LaughingGateModel", "isDigit", "()Z"⟩, 29) := ⟨⟨by decide +kernel, by decide +kernel⟩, List.mem_of_getElem? (i := 761) (by decide +kernel), List.mem_of_getElem? (i := 935) (by decide +kernel), List.mem_of_getElem? (i := 936) (by decide +kernel)⟩
theorem lw_p41 : lw_okq (⟨"LaughingGateModel", "any", "()Z"⟩, 29) := ⟨⟨by decide +kernel, by decide +kernel⟩, List.mem_of_getElem? (i := 761) (by decide +kernel), List.mem_of_getElem? (i := 939) (by decide +kernel), List.mem_of_getElem? (i := 940) (by decide +kernel)⟩
theorem lw_p42 : lw_okq (⟨"LaughingGateModel", "both", "()Z"⟩, 29) := ⟨⟨by decide +kernel, by decide +kernel⟩, List.mem_of_getElem? (i := 761) (by decide +kernel), List.mem_of_getElem? (i := 943) (by decide +kernel), List.mem_of_getElem? (i := 944) (by decide +kernel)⟩
theorem lw_p43 : lw_okq (⟨"LaughingGateModel", "factor", "()Z"⟩, 29) := ⟨⟨by decide +kernel, by decide +kernel⟩, List.mem_of_getElem? (i := 761) (by decide +kernel), List.mem_of_getElem? (i := 947) (by decide +kernel), List.mem_of_getElem? (i := 948) (by decide +kernel)⟩
theorem lw_p44 : lw_okq (⟨"LaughingGateModel", "test", "()Z"⟩, 29) := ⟨⟨by decide +kernel, by decide +kernel⟩, List.mem_of_getElem? (i := 761) (by decide +kernel), List.mem_of_getElem? (i := 951) (by decide +kernel), List.mem_of_getElem? (i := 952) (by decide +kernel)⟩
theorem lw_p45 : lw_okq (⟨"LaughingGateModel", "gets", "(I)I"⟩, 29) := ⟨⟨by decide +kernel, by decide +kernel⟩, List.mem_of_getElem? (i := 761) (by decide +kernel), List.mem_of_getElem? (i := 955) (by decide +kernel), List.mem_of_getElem? (i := 956) (by decide +kernel)⟩
theorem lw_p46 : lw_okq (⟨"LaughingGateModel", "hour", "()V"⟩, 29) := ⟨⟨by decide +kernel, by decide +kernel⟩, List.mem_of_getElem? (i := 761) (by decide +kernel), List.mem_of_getElem? (i := 959) (by decide +kernel), List.mem_of_getElem? (i := 960) (by decide +kernel)⟩
theorem lw_p47 : lw_okq (⟨"LaughingGateModel", "nearNow", "()I"⟩, 29) := ⟨⟨by decide +kernel, by decide +kernel⟩, List.mem_of_getElem? (i := 761) (by decide +kernel), List.mem_of_getElem? (i := 963) (by decide +kernel), List.mem_of_getElem? (i := 964) (by decide +kernel)⟩
def lw_privs_3 : List (MethodName × Nat) := [(⟨"LaughingGateModel", "laughing", "()I"⟩, 29), (⟨"LaughingGateModel", "urge", "(II)I"⟩, 29), (⟨"LaughingGateModel", "readFor", "(II)V"⟩, 29), (⟨"LaughingGateModel", "readAll", "()Z"⟩, 29), (⟨"LaughingGateModel", "clause", "()V"⟩, 29), (⟨"LaughingGateModel", "isAt", "(I)Z"⟩, 29), (⟨"LaughingGateModel", "takes", "(I)V"⟩, 29), (⟨"LaughingGateModel", "number", "()I"⟩, 29), (⟨"LaughingGateModel", "isDigit", "()Z"⟩, 29), (⟨"LaughingGateModel", "any", "()Z"⟩, 29), (⟨"LaughingGateModel", "both", "()Z"⟩, 29), (⟨"LaughingGateModel", "factor", "()Z"⟩, 29), (⟨"LaughingGateModel", "test", "()Z"⟩, 29), (⟨"LaughingGateModel", "gets", "(I)I"⟩, 29), (⟨"LaughingGateModel", "hour", "()V"⟩, 29), (⟨"LaughingGateModel", "nearNow", "()I"⟩, 29)]
theorem lw_r3 : ∀ q ∈ lw_privs_3, lw_okq q := List.forall_mem_cons.mpr ⟨lw_p32, List.forall_mem_cons.mpr ⟨lw_p33, List.forall_mem_cons.mpr ⟨lw_p34, List.forall_mem_cons.mpr ⟨lw_p35, List.forall_mem_cons.mpr ⟨lw_p36, List.forall_mem_cons.mpr ⟨lw_p37, List.forall_mem_cons.mpr ⟨lw_p38, List.forall_mem_cons.mpr ⟨lw_p39, List.forall_mem_cons.mpr ⟨lw_p40, List.forall_mem_cons.mpr ⟨lw_p41, List.forall_mem_cons.mpr ⟨lw_p42, List.forall_mem_cons.mpr ⟨lw_p43, List.forall_mem_cons.mpr ⟨lw_p44, List.forall_mem_cons.mpr ⟨lw_p45, List.forall_mem_cons.mpr ⟨lw_p46, List.forall_mem_cons.mpr ⟨lw_p47, fun _ h => absurd h List.not_mem_nil⟩⟩⟩⟩⟩⟩⟩⟩⟩⟩⟩⟩⟩⟩⟩⟩
theorem lw_p48 : lw_okq (⟨"LaughingGateModel", "windNow", "()I"⟩, 29) := ⟨⟨by decide +kernel, by decide +kernel⟩, List.mem_of_getElem? (i := 761) (by decide +kernel), List.mem_of_getElem? (i := 967) (by decide +kernel), List.mem_of_getElem? (i := 968) (by decide +kernel)⟩
theorem lw_p49 : lw_okq (⟨"LaughingGateModel", "fits", "(II)I"⟩, 29) := ⟨⟨by decide +kernel, by decide +kernel⟩, List.mem_of_getElem? (i := 761) (by decide +kernel), List.mem_of_getElem? (i := 973) (by decide +kernel), List.mem_of_getElem? (i := 974) (by decide +kernel)⟩
theorem lw_p50 : lw_okq (⟨"LaughingGateModel", "isAllSeen", "()Z"⟩, 29) := ⟨⟨by decide +kernel, by decide +kernel⟩, List.mem_of_getElem? (i := 761) (by decide +kernel), List.mem_of_getElem? (i := 977) (by decide +kernel), List.mem_of_getElem? (i := 978) (by decide +kernel)⟩
theorem lw_p51 : lw_okq (⟨"LaughingGateModel", "goSwap", "(II)V"⟩, 29) := ⟨⟨by decide +kernel, by decide +kernel⟩, List.mem_of_getElem? (i := 761) (by decide +kernel), List.mem_of_getElem? (i := 989) (by decide +kernel), List.mem_of_getElem? (i := 990) (by decide +kernel)⟩
theorem lw_p52 : lw_okq (⟨"LaughingGateModel", "spark", "(Z)I"⟩, 29) := ⟨⟨by decide +kernel, by decide +kernel⟩, List.mem_of_getElem? (i := 761) (by decide +kernel), List.mem_of_getElem? (i := 1017) (by decide +kernel), List.mem_of_getElem? (i := 1018) (by decide +kernel)⟩
theorem lw_p53 : lw_okq (⟨"LaughingGateModel", "hush", "()I"⟩, 29) := ⟨⟨by decide +kernel, by decide +kernel⟩, List.mem_of_getElem? (i := 761) (by decide +kernel), List.mem_of_getElem? (i := 1024) (by decide +kernel), List.mem_of_getElem? (i := 1025) (by decide +kernel)⟩
theorem lw_p54 : lw_okq (⟨"LaughingGateModel", "ins", "()I"⟩, 29) := ⟨⟨by decide +kernel, by decide +kernel⟩, List.mem_of_getElem? (i := 761) (by decide +kernel), List.mem_of_getElem? (i := 1028) (by decide +kernel), List.mem_of_getElem? (i := 1029) (by decide +kernel)⟩
theorem lw_p55 : lw_okq (⟨"LaughingGateModel", "hours", "(I)V"⟩, 29) := ⟨⟨by decide +kernel, by decide +kernel⟩, List.mem_of_getElem? (i := 761) (by decide +kernel), List.mem_of_getElem? (i := 1036) (by decide +kernel), List.mem_of_getElem? (i := 1037) (by decide +kernel)⟩
theorem lw_p56 : lw_okq (⟨"LaughingGateModel", "all", "(III)I"⟩, 29) := ⟨⟨by decide +kernel, by decide +kernel⟩, List.mem_of_getElem? (i := 761) (by decide +kernel), List.mem_of_getElem? (i := 1089) (by decide +kernel), List.mem_of_getElem? (i := 1090) (by decide +kernel)⟩
theorem lw_p57 : lw_okq (⟨"LaughingGateModel", "byKind", "(IIII)I"⟩, 29) := ⟨⟨by decide +kernel, by decide +kernel⟩, List.mem_of_getElem? (i := 761) (by decide +kernel), List.mem_of_getElem? (i := 1093) (by decide +kernel), List.mem_of_getElem? (i := 1094) (by decide +kernel)⟩
theorem lw_p58 : lw_okq (⟨"LaughingGateModel", "body", "(I)I"⟩, 29) := ⟨⟨by decide +kernel, by decide +kernel⟩, List.mem_of_getElem? (i := 761) (by decide +kernel), List.mem_of_getElem? (i := 1097) (by decide +kernel), List.mem_of_getElem? (i := 1098) (by decide +kernel)⟩
def lw_privs_4 : List (MethodName × Nat) := [(⟨"LaughingGateModel", "windNow", "()I"⟩, 29), (⟨"LaughingGateModel", "fits", "(II)I"⟩, 29), (⟨"LaughingGateModel", "isAllSeen", "()Z"⟩, 29), (⟨"LaughingGateModel", "goSwap", "(II)V"⟩, 29), (⟨"LaughingGateModel", "spark", "(Z)I"⟩, 29), (⟨"LaughingGateModel", "hush", "()I"⟩, 29), (⟨"LaughingGateModel", "ins", "()I"⟩, 29), (⟨"LaughingGateModel", "hours", "(I)V"⟩, 29), (⟨"LaughingGateModel", "all", "(III)I"⟩, 29), (⟨"LaughingGateModel", "byKind", "(IIII)I"⟩, 29), (⟨"LaughingGateModel", "body", "(I)I"⟩, 29)]
theorem lw_r4 : ∀ q ∈ lw_privs_4, lw_okq q := List.forall_mem_cons.mpr ⟨lw_p48, List.forall_mem_cons.mpr ⟨lw_p49, List.forall_mem_cons.mpr ⟨lw_p50, List.forall_mem_cons.mpr ⟨lw_p51, List.forall_mem_cons.mpr ⟨lw_p52, List.forall_mem_cons.mpr ⟨lw_p53, List.forall_mem_cons.mpr ⟨lw_p54, List.forall_mem_cons.mpr ⟨lw_p55, List.forall_mem_cons.mpr ⟨lw_p56, List.forall_mem_cons.mpr ⟨lw_p57, List.forall_mem_cons.mpr ⟨lw_p58, fun _ h => absurd h List.not_mem_nil⟩⟩⟩⟩⟩⟩⟩⟩⟩⟩⟩
def lw_privs : List (MethodName × Nat) := lw_privs_1 ++ (lw_privs_2 ++ (lw_privs_3 ++ (lw_privs_4)))
def lw_tbl : List Cond := k2_sels lw_privs ++ tables_1
theorem lw_privs_ok : ∀ q ∈ lw_privs, lw_okq q := by
  show ∀ q ∈ lw_privs_1 ++ (lw_privs_2 ++ (lw_privs_3 ++ (lw_privs_4))), lw_okq q
  exact List.forall_mem_append.mpr ⟨lw_r1, List.forall_mem_append.mpr ⟨lw_r2, List.forall_mem_append.mpr ⟨lw_r3, lw_r4⟩⟩⟩
def RX0 : String := "LaughingGate$Acts"
def TX0 : u_T := fun k => match k with
  | 0 => ("LaughingGate$Acts", "trace", "[I", true)
  | 1 => ("LaughingGate$Acts", "ran", "I", false)
  | 2 => ("LaughingGate$Acts", "number", "I", false)
  | 3 => ("LaughingGate$Acts", "kind", "I", false)
  | _ => ("LaughingGate$Acts", "v", "I", false)
def tyX0 : Nat → FieldType := fun k => match k with
  | 0 => .array .int
  | 1 => .int
  | 2 => .int
  | 3 => .int
  | _ => .int
abbrev wsX00 : List Cond := u_ws RX0 TX0 5
theorem nmX0 : ∀ a, a < 5 → ∀ b, b < 5 → a ≠ b → (TX0 a).2.1 ≠ (TX0 b).2.1 := by decide +kernel
theorem tyX0_ok : ∀ k, k < 5 → parseFieldDescriptor (TX0 k).2.2.1 = some (tyX0 k) := by decide +kernel
abbrev cX0_init : ByteArray := prog_2_method_1_code
def yX0_init : MethodName := ⟨RX0, "<init>", "()V"⟩
abbrev cX0_forget : ByteArray := prog_2_method_2_code
def yX0_forget : MethodName := ⟨RX0, "forget", "()V"⟩
abbrev cX0_isDoneBy : ByteArray := prog_2_method_3_code
def yX0_isDoneBy : MethodName := ⟨RX0, "isDoneBy", "(III)V"⟩
abbrev cX0_perform : ByteArray := prog_2_method_4_code
def yX0_perform : MethodName := ⟨RX0, "perform", "(II)I"⟩
abbrev cX0_begins : ByteArray := prog_2_method_5_code
def yX0_begins : MethodName := ⟨RX0, "begins", "(I)V"⟩
abbrev cX0_coughs : ByteArray := prog_2_method_6_code
def yX0_coughs : MethodName := ⟨RX0, "coughs", "(III)I"⟩
abbrev cX0_winks : ByteArray := prog_2_method_7_code
def yX0_winks : MethodName := ⟨RX0, "winks", "(III)I"⟩
abbrev cX0_tells : ByteArray := prog_2_method_8_code
def yX0_tells : MethodName := ⟨RX0, "tells", "(III)I"⟩
def RX1 : String := "LaughingGate$City"
def TX1 : u_T := fun k => match k with
  | 0 => ("LaughingGate$City", "near", "I", false)
  | 1 => ("LaughingGate$City", "wind", "I", false)
  | 2 => ("LaughingGate$City", "clauses", "I", false)
  | 3 => ("LaughingGate$City", "amounts", "[I", true)
  | 4 => ("LaughingGate$City", "stepEnds", "[I", true)
  | 5 => ("LaughingGate$City", "steps", "[I", true)
  | _ => ("LaughingGate$City", "stepCount", "I", false)
def tyX1 : Nat → FieldType := fun k => match k with
  | 0 => .int
  | 1 => .int
  | 2 => .int
  | 3 => .array .int
  | 4 => .array .int
  | 5 => .array .int
  | _ => .int
abbrev wsX10 : List Cond := u_ws RX1 TX1 7
theorem nmX1 : ∀ a, a < 7 → ∀ b, b < 7 → a ≠ b → (TX1 a).2.1 ≠ (TX1 b).2.1 := by decide +kernel
theorem tyX1_ok : ∀ k, k < 7 → parseFieldDescriptor (TX1 k).2.2.1 = some (tyX1 k) := by decide +kernel
abbrev cX1_init : ByteArray := prog_3_method_1_code
def yX1_init : MethodName := ⟨RX1, "<init>", "()V"⟩
abbrev cX1_clear : ByteArray := prog_3_method_2_code
def yX1_clear : MethodName := ⟨RX1, "clear", "()V"⟩
abbrev cX1_addTest : ByteArray := prog_3_method_3_code
def yX1_addTest : MethodName := ⟨RX1, "addTest", "(III)V"⟩
abbrev cX1_addStep : ByteArray := prog_3_method_4_code
def yX1_addStep : MethodName := ⟨RX1, "addStep", "(I)V"⟩
abbrev cX1_endClause : ByteArray := prog_3_method_5_code
def yX1_endClause : MethodName := ⟨RX1, "endClause", "(I)V"⟩
abbrev cX1_holds : ByteArray := prog_3_method_6_code
def yX1_holds : MethodName := ⟨RX1, "holds", "(I[I)Z"⟩
def RX2 : String := "LaughingGate$Reader"
def TX2 : u_T := fun k => match k with
  | 0 => ("LaughingGate$Reader", "text", "[B", true)
  | 1 => ("LaughingGate$Reader", "length", "I", false)
  | _ => ("LaughingGate$Reader", "at", "I", false)
def tyX2 : Nat → FieldType := fun k => match k with
  | 0 => .array .byte
  | 1 => .int
  | _ => .int
abbrev wsX20 : List Cond := u_ws RX2 TX2 3
theorem nmX2 : ∀ a, a < 3 → ∀ b, b < 3 → a ≠ b → (TX2 a).2.1 ≠ (TX2 b).2.1 := by decide +kernel
theorem tyX2_ok : ∀ k, k < 3 → parseFieldDescriptor (TX2 k).2.2.1 = some (tyX2 k) := by decide +kernel
abbrev cX2_init : ByteArray := prog_4_method_1_code
def yX2_init : MethodName := ⟨RX2, "<init>", "()V"⟩
abbrev cX2_fills : ByteArray := prog_4_method_2_code
def yX2_fills : MethodName := ⟨RX2, "fills", "(LLaughingGate$City;)Z"⟩
abbrev cX2_readClause : ByteArray := prog_4_method_3_code
def yX2_readClause : MethodName := ⟨RX2, "readClause", "(LLaughingGate$City;)Z"⟩
abbrev cX2_wordFrom : ByteArray := prog_4_method_4_code
def yX2_wordFrom : MethodName := ⟨RX2, "wordFrom", "(I)Ljava/lang/String;"⟩
abbrev cX2_takesWord : ByteArray := prog_4_method_5_code
def yX2_takesWord : MethodName := ⟨RX2, "takesWord", "(Ljava/lang/String;)Z"⟩
abbrev cX2_takes : ByteArray := prog_4_method_6_code
def yX2_takes : MethodName := ⟨RX2, "takes", "(C)Z"⟩
abbrev cX2_readNumber : ByteArray := prog_4_method_7_code
def yX2_readNumber : MethodName := ⟨RX2, "readNumber", "()I"⟩
abbrev cX2_readEither : ByteArray := prog_4_method_8_code
def yX2_readEither : MethodName := ⟨RX2, "readEither", "(LLaughingGate$City;I)Z"⟩
abbrev cX2_readBoth : ByteArray := prog_4_method_9_code
def yX2_readBoth : MethodName := ⟨RX2, "readBoth", "(LLaughingGate$City;I)Z"⟩
abbrev cX2_readPart : ByteArray := prog_4_method_10_code
def yX2_readPart : MethodName := ⟨RX2, "readPart", "(LLaughingGate$City;I)Z"⟩
abbrev cX2_readOneOf : ByteArray := prog_4_method_11_code
def yX2_readOneOf : MethodName := ⟨RX2, "readOneOf", "(Ljava/lang/String;)I"⟩
def RX3 : String := "LaughingGate$Rows"
def TX3 : u_T := fun k => match k with
  | 0 => ("LaughingGate$Rows", "first", "[I", true)
  | 1 => ("LaughingGate$Rows", "second", "[I", true)
  | 2 => ("LaughingGate$Rows", "third", "[I", true)
  | _ => ("LaughingGate$Rows", "size", "I", false)
def tyX3 : Nat → FieldType := fun k => match k with
  | 0 => .array .int
  | 1 => .array .int
  | 2 => .array .int
  | _ => .int
abbrev wsX30 : List Cond := u_ws RX3 TX3 4
theorem nmX3 : ∀ a, a < 4 → ∀ b, b < 4 → a ≠ b → (TX3 a).2.1 ≠ (TX3 b).2.1 := by decide +kernel
theorem tyX3_ok : ∀ k, k < 4 → parseFieldDescriptor (TX3 k).2.2.1 = some (tyX3 k) := by decide +kernel
abbrev cX3_init : ByteArray := prog_5_method_1_code
def yX3_init : MethodName := ⟨RX3, "<init>", "(I)V"⟩
abbrev cX3_append : ByteArray := prog_5_method_2_code
def yX3_append : MethodName := ⟨RX3, "append", "(III)I"⟩
abbrev cX3_empty : ByteArray := prog_5_method_3_code
def yX3_empty : MethodName := ⟨RX3, "empty", "()I"⟩
abbrev cX3_copyFrom : ByteArray := prog_5_method_4_code
def yX3_copyFrom : MethodName := ⟨RX3, "copyFrom", "(LLaughingGate$Rows;)V"⟩
def RX4 : String := "LaughingGate$Scene"
def TX4 : u_T := fun k => match k with
  | 0 => ("LaughingGate$Scene", "town", "LLaughingGate$Town;", true)
  | 1 => ("LaughingGate$Scene", "seen", "LLaughingGate$Rows;", true)
  | 2 => ("LaughingGate$Scene", "plan", "LLaughingGate$Rows;", true)
  | _ => ("LaughingGate$Scene", "book", "LLaughingGate$Rows;", true)
def tyX4 : Nat → FieldType := fun k => match k with
  | 0 => .object "LaughingGate$Town"
  | 1 => .object "LaughingGate$Rows"
  | 2 => .object "LaughingGate$Rows"
  | _ => .object "LaughingGate$Rows"
abbrev wsX40 : List Cond := u_ws RX4 TX4 4
theorem nmX4 : ∀ a, a < 4 → ∀ b, b < 4 → a ≠ b → (TX4 a).2.1 ≠ (TX4 b).2.1 := by decide +kernel
theorem tyX4_ok : ∀ k, k < 4 → parseFieldDescriptor (TX4 k).2.2.1 = some (tyX4 k) := by decide +kernel
abbrev cX4_init : ByteArray := prog_6_method_1_code
def yX4_init : MethodName := ⟨RX4, "<init>", "()V"⟩
abbrev cX4_copyFrom : ByteArray := prog_6_method_2_code
def yX4_copyFrom : MethodName := ⟨RX4, "copyFrom", "(LLaughingGate$Scene;)V"⟩
def RX5 : String := "LaughingGate$Tape"
def TX5 : u_T := fun k => match k with
  | 0 => ("LaughingGate$Tape", "sort", "I", false)
  | 1 => ("LaughingGate$Tape", "length", "I", false)
  | _ => ("LaughingGate$Tape", "items", "[J", true)
def tyX5 : Nat → FieldType := fun k => match k with
  | 0 => .int
  | 1 => .int
  | _ => .array .long
abbrev wsX50 : List Cond := u_ws RX5 TX5 3
theorem nmX5 : ∀ a, a < 3 → ∀ b, b < 3 → a ≠ b → (TX5 a).2.1 ≠ (TX5 b).2.1 := by decide +kernel
theorem tyX5_ok : ∀ k, k < 3 → parseFieldDescriptor (TX5 k).2.2.1 = some (tyX5 k) := by decide +kernel
abbrev cX5_init : ByteArray := prog_7_method_1_code
def yX5_init : MethodName := ⟨RX5, "<init>", "()V"⟩
abbrev cX5_becomes : ByteArray := prog_7_method_2_code
def yX5_becomes : MethodName := ⟨RX5, "becomes", "(II)V"⟩
abbrev cX5_cut : ByteArray := prog_7_method_3_code
def yX5_cut : MethodName := ⟨RX5, "cut", "(J)J"⟩
def RX6 : String := "LaughingGate$Town"
def TX6 : u_T := fun k => match k with
  | 0 => ("LaughingGate$Town", "people", "I", false)
  | 1 => ("LaughingGate$Town", "kinds", "[I", true)
  | 2 => ("LaughingGate$Town", "vs", "[I", true)
  | 3 => ("LaughingGate$Town", "mirths", "[I", true)
  | 4 => ("LaughingGate$Town", "rows", "[I", true)
  | 5 => ("LaughingGate$Town", "road", "[I", true)
  | 6 => ("LaughingGate$Town", "walkers", "I", false)
  | 7 => ("LaughingGate$Town", "down", "I", false)
  | 8 => ("LaughingGate$Town", "falls", "I", false)
  | 9 => ("LaughingGate$Town", "hour", "I", false)
  | 10 => ("LaughingGate$Town", "city", "LLaughingGate$City;", false)
  | 11 => ("LaughingGate$Town", "facts", "[I", true)
  | _ => ("LaughingGate$Town", "sums", "[I", true)
def tyX6 : Nat → FieldType := fun k => match k with
  | 0 => .int
  | 1 => .array .int
  | 2 => .array .int
  | 3 => .array .int
  | 4 => .array .int
  | 5 => .array .int
  | 6 => .int
  | 7 => .int
  | 8 => .int
  | 9 => .int
  | 10 => .object "LaughingGate$City"
  | 11 => .array .int
  | _ => .array .int
abbrev wsX60 : List Cond := u_ws RX6 TX6 13
theorem nmX6 : ∀ a, a < 13 → ∀ b, b < 13 → a ≠ b → (TX6 a).2.1 ≠ (TX6 b).2.1 := by decide +kernel
theorem tyX6_ok : ∀ k, k < 13 → parseFieldDescriptor (TX6 k).2.2.1 = some (tyX6 k) := by decide +kernel
abbrev cX6_init : ByteArray := prog_8_method_1_code
def yX6_init : MethodName := ⟨RX6, "<init>", "()V"⟩
abbrev cX6_copyFrom : ByteArray := prog_8_method_2_code
def yX6_copyFrom : MethodName := ⟨RX6, "copyFrom", "(LLaughingGate$Town;)V"⟩
abbrev cX6_addPerson : ByteArray := prog_8_method_3_code
def yX6_addPerson : MethodName := ⟨RX6, "addPerson", "(III)I"⟩
abbrev cX6_near : ByteArray := prog_8_method_4_code
def yX6_near : MethodName := ⟨RX6, "near", "()I"⟩
abbrev cX6_wind : ByteArray := prog_8_method_5_code
def yX6_wind : MethodName := ⟨RX6, "wind", "()I"⟩
abbrev cX6_placeOf : ByteArray := prog_8_method_6_code
def yX6_placeOf : MethodName := ⟨RX6, "placeOf", "(I)I"⟩
abbrev cX6_joinRoad : ByteArray := prog_8_method_7_code
def yX6_joinRoad : MethodName := ⟨RX6, "joinRoad", "(I)V"⟩
abbrev cX6_exchange : ByteArray := prog_8_method_8_code
def yX6_exchange : MethodName := ⟨RX6, "exchange", "(II)Z"⟩
abbrev cX6_sober : ByteArray := prog_8_method_9_code
def yX6_sober : MethodName := ⟨RX6, "sober", "(I)V"⟩
abbrev cX6_hoursGo : ByteArray := prog_8_method_10_code
def yX6_hoursGo : MethodName := ⟨RX6, "hoursGo", "(I)V"⟩
abbrev cX6_hourGoes : ByteArray := prog_8_method_11_code
def yX6_hourGoes : MethodName := ⟨RX6, "hourGoes", "()V"⟩
abbrev cX6_letFirstIn : ByteArray := prog_8_method_12_code
def yX6_letFirstIn : MethodName := ⟨RX6, "letFirstIn", "()V"⟩
abbrev cX6_laughers : ByteArray := prog_8_method_13_code
def yX6_laughers : MethodName := ⟨RX6, "laughers", "()I"⟩
abbrev cX6_laughingPlaces : ByteArray := prog_8_method_14_code
def yX6_laughingPlaces : MethodName := ⟨RX6, "laughingPlaces", "()I"⟩
abbrev cX6_sumAt : ByteArray := prog_8_method_15_code
def yX6_sumAt : MethodName := ⟨RX6, "sumAt", "(I)I"⟩
abbrev cX6_urge : ByteArray := prog_8_method_16_code
def yX6_urge : MethodName := ⟨RX6, "urge", "(III)I"⟩
def RX7 : String := "LaughingGate"
def TX7 : u_T := fun k => match k with
  | 0 => ("LaughingGate", "now", "LLaughingGate$Scene;", true)
  | 1 => ("LaughingGate", "image", "LLaughingGate$Scene;", true)
  | 2 => ("LaughingGate", "imageTaken", "Z", false)
  | 3 => ("LaughingGate", "trial", "LLaughingGate$Town;", true)
  | 4 => ("LaughingGate", "reader", "LLaughingGate$Reader;", true)
  | 5 => ("LaughingGate", "cities", "[LLaughingGate$City;", true)
  | 6 => ("LaughingGate", "cityCount", "I", false)
  | 7 => ("LaughingGate", "acts", "LLaughingGate$Acts;", true)
  | _ => ("LaughingGate", "tapes", "[LLaughingGate$Tape;", true)
def tyX7 : Nat → FieldType := fun k => match k with
  | 0 => .object "LaughingGate$Scene"
  | 1 => .object "LaughingGate$Scene"
  | 2 => .boolean
  | 3 => .object "LaughingGate$Town"
  | 4 => .object "LaughingGate$Reader"
  | 5 => .array (.object "LaughingGate$City")
  | 6 => .int
  | 7 => .object "LaughingGate$Acts"
  | _ => .array (.object "LaughingGate$Tape")
abbrev wsX70 : List Cond := u_ws RX7 TX7 9
theorem nmX7 : ∀ a, a < 9 → ∀ b, b < 9 → a ≠ b → (TX7 a).2.1 ≠ (TX7 b).2.1 := by decide +kernel
theorem tyX7_ok : ∀ k, k < 9 → parseFieldDescriptor (TX7 k).2.2.1 = some (tyX7 k) := by decide +kernel
abbrev cX7_init : ByteArray := prog_1_method_1_code
def yX7_init : MethodName := ⟨RX7, "<init>", "()V"⟩
abbrev cX7_one : ByteArray := prog_1_method_2_code
def yX7_one : MethodName := ⟨RX7, "one", "(III)I"⟩
abbrev cX7_of : ByteArray := prog_1_method_3_code
def yX7_of : MethodName := ⟨RX7, "of", "(II)I"⟩
abbrev cX7_cheer : ByteArray := prog_1_method_4_code
def yX7_cheer : MethodName := ⟨RX7, "cheer", "(II)I"⟩
abbrev cX7_swap : ByteArray := prog_1_method_5_code
def yX7_swap : MethodName := ⟨RX7, "swap", "(II)I"⟩
abbrev cX7_again : ByteArray := prog_1_method_6_code
def yX7_again : MethodName := ⟨RX7, "again", "(I)I"⟩
abbrev cX7_down : ByteArray := prog_1_method_7_code
def yX7_down : MethodName := ⟨RX7, "down", "(I)I"⟩
abbrev cX7_row : ByteArray := prog_1_method_8_code
def yX7_row : MethodName := ⟨RX7, "row", "(III)I"⟩
abbrev cX7_feed : ByteArray := prog_1_method_9_code
def yX7_feed : MethodName := ⟨RX7, "feed", "(I)I"⟩
abbrev cX7_city : ByteArray := prog_1_method_10_code
def yX7_city : MethodName := ⟨RX7, "city", "()I"⟩
abbrev cX7_told : ByteArray := prog_1_method_11_code
def yX7_told : MethodName := ⟨RX7, "told", "(I)I"⟩
abbrev cX7_pass : ByteArray := prog_1_method_12_code
def yX7_pass : MethodName := ⟨RX7, "pass", "(I)I"⟩
abbrev cX7_on : ByteArray := prog_1_method_13_code
def yX7_on : MethodName := ⟨RX7, "on", "(II)I"⟩
abbrev cX7_turn : ByteArray := prog_1_method_14_code
def yX7_turn : MethodName := ⟨RX7, "turn", "(I)I"⟩
abbrev cX7_see : ByteArray := prog_1_method_15_code
def yX7_see : MethodName := ⟨RX7, "see", "(IIZ)I"⟩
abbrev cX7_can : ByteArray := prog_1_method_16_code
def yX7_can : MethodName := ⟨RX7, "can", "(II)I"⟩
abbrev cX7_odds : ByteArray := prog_1_method_17_code
def yX7_odds : MethodName := ⟨RX7, "odds", "(II)J"⟩
abbrev cX7_mean : ByteArray := prog_1_method_18_code
def yX7_mean : MethodName := ⟨RX7, "mean", "(I)J"⟩
abbrev cX7_plan : ByteArray := prog_1_method_19_code
def yX7_plan : MethodName := ⟨RX7, "plan", "(II)I"⟩
abbrev cX7_ends : ByteArray := prog_1_method_20_code
def yX7_ends : MethodName := ⟨RX7, "ends", "(I)I"⟩
abbrev cX7_book : ByteArray := prog_1_method_21_code
def yX7_book : MethodName := ⟨RX7, "book", "(II)I"⟩
abbrev cX7_looked : ByteArray := prog_1_method_22_code
def yX7_looked : MethodName := ⟨RX7, "looked", "()I"⟩
abbrev cX7_judge : ByteArray := prog_1_method_23_code
def yX7_judge : MethodName := ⟨RX7, "judge", "(II)I"⟩
abbrev cX7_image : ByteArray := prog_1_method_24_code
def yX7_image : MethodName := ⟨RX7, "image", "()I"⟩
abbrev cX7_undo : ByteArray := prog_1_method_25_code
def yX7_undo : MethodName := ⟨RX7, "undo", "()I"⟩
abbrev cX7_act : ByteArray := prog_1_method_26_code
def yX7_act : MethodName := ⟨RX7, "act", "(III)I"⟩
abbrev cX7_trace : ByteArray := prog_1_method_27_code
def yX7_trace : MethodName := ⟨RX7, "trace", "(I)I"⟩
abbrev cX7_taken : ByteArray := prog_1_method_28_code
def yX7_taken : MethodName := ⟨RX7, "taken", "(II)I"⟩
abbrev cX7_count : ByteArray := prog_1_method_29_code
def yX7_count : MethodName := ⟨RX7, "count", "(I)I"⟩
abbrev cX7_tape : ByteArray := prog_1_method_30_code
def yX7_tape : MethodName := ⟨RX7, "tape", "(III)I"⟩
abbrev cX7_item : ByteArray := prog_1_method_31_code
def yX7_item : MethodName := ⟨RX7, "item", "(IIJ)I"⟩
abbrev cX7_read : ByteArray := prog_1_method_32_code
def yX7_read : MethodName := ⟨RX7, "read", "(II)J"⟩
abbrev cX7_shift : ByteArray := prog_1_method_33_code
def yX7_shift : MethodName := ⟨RX7, "shift", "(IIIII)I"⟩
abbrev cX7_within : ByteArray := prog_1_method_34_code
def yX7_within : MethodName := ⟨RX7, "within", "(III)Z"⟩
abbrev cX7_isPerson : ByteArray := prog_1_method_35_code
def yX7_isPerson : MethodName := ⟨RX7, "isPerson", "(I)Z"⟩
abbrev cX7_placeOrLacking : ByteArray := prog_1_method_36_code
def yX7_placeOrLacking : MethodName := ⟨RX7, "placeOrLacking", "(I)I"⟩
abbrev cX7_urgeNow : ByteArray := prog_1_method_37_code
def yX7_urgeNow : MethodName := ⟨RX7, "urgeNow", "(II)I"⟩
abbrev cX7_hoursTillIn : ByteArray := prog_1_method_38_code
def yX7_hoursTillIn : MethodName := ⟨RX7, "hoursTillIn", "(I)I"⟩
abbrev cX7_fitting : ByteArray := prog_1_method_39_code
def yX7_fitting : MethodName := ⟨RX7, "fitting", "([II)I"⟩
abbrev cX7_seenComesTrue : ByteArray := prog_1_method_40_code
def yX7_seenComesTrue : MethodName := ⟨RX7, "seenComesTrue", "()Z"⟩
abbrev cX7_seenIsSoIn : ByteArray := prog_1_method_41_code
def yX7_seenIsSoIn : MethodName := ⟨RX7, "seenIsSoIn", "(I)Z"⟩
abbrev cX7_spark : ByteArray := prog_1_method_42_code
def yX7_spark : MethodName := ⟨RX7, "spark", "()I"⟩
abbrev cX7_laughersBy : ByteArray := prog_1_method_43_code
def yX7_laughersBy : MethodName := ⟨RX7, "laughersBy", "(I)I"⟩
abbrev cX7_hush : ByteArray := prog_1_method_44_code
def yX7_hush : MethodName := ⟨RX7, "hush", "()I"⟩
abbrev cX7_walkersAfterTurn : ByteArray := prog_1_method_45_code
def yX7_walkersAfterTurn : MethodName := ⟨RX7, "walkersAfterTurn", "(III)I"⟩
abbrev cX7_tryPlanned : ByteArray := prog_1_method_46_code
def yX7_tryPlanned : MethodName := ⟨RX7, "tryPlanned", "(II)V"⟩
abbrev cX7_fraction : ByteArray := prog_1_method_47_code
def yX7_fraction : MethodName := ⟨RX7, "fraction", "(III)J"⟩
def RX8 : String := "LaughingGateModel"
def TX8 : u_T := fun k => match k with
  | 0 => ("LaughingGateModel", "now", "[I", true)
  | 1 => ("LaughingGateModel", "mind", "[I", true)
  | 2 => ("LaughingGateModel", "then", "[I", true)
  | 3 => ("LaughingGateModel", "kept", "Z", false)
  | 4 => ("LaughingGateModel", "text", "[I", true)
  | 5 => ("LaughingGateModel", "texted", "I", false)
  | 6 => ("LaughingGateModel", "rules", "[I", true)
  | 7 => ("LaughingGateModel", "sizes", "[I", true)
  | 8 => ("LaughingGateModel", "ruled", "I", false)
  | 9 => ("LaughingGateModel", "read", "[I", true)
  | 10 => ("LaughingGateModel", "size", "I", false)
  | 11 => ("LaughingGateModel", "at", "I", false)
  | 12 => ("LaughingGateModel", "well", "Z", false)
  | 13 => ("LaughingGateModel", "within", "I", false)
  | 14 => ("LaughingGateModel", "sum", "I", false)
  | 15 => ("LaughingGateModel", "near", "I", false)
  | 16 => ("LaughingGateModel", "wind", "I", false)
  | 17 => ("LaughingGateModel", "names", "[I", true)
  | 18 => ("LaughingGateModel", "letters", "[C", true)
  | 19 => ("LaughingGateModel", "words", "[C", true)
  | 20 => ("LaughingGateModel", "urges", "[Z", true)
  | 21 => ("LaughingGateModel", "above", "[I", true)
  | 22 => ("LaughingGateModel", "bodies", "[I", true)
  | 23 => ("LaughingGateModel", "trace", "[I", true)
  | 24 => ("LaughingGateModel", "ran", "I", false)
  | 25 => ("LaughingGateModel", "sorts", "[I", true)
  | 26 => ("LaughingGateModel", "lengths", "[I", true)
  | 27 => ("LaughingGateModel", "items", "[J", true)
  | _ => ("LaughingGateModel", "moved", "[J", true)
def tyX8 : Nat → FieldType := fun k => match k with
  | 0 => .array .int
  | 1 => .array .int
  | 2 => .array .int
  | 3 => .boolean
  | 4 => .array .int
  | 5 => .int
  | 6 => .array .int
  | 7 => .array .int
  | 8 => .int
  | 9 => .array .int
  | 10 => .int
  | 11 => .int
  | 12 => .boolean
  | 13 => .int
  | 14 => .int
  | 15 => .int
  | 16 => .int
  | 17 => .array .int
  | 18 => .array .char
  | 19 => .array .char
  | 20 => .array .boolean
  | 21 => .array .int
  | 22 => .array .int
  | 23 => .array .int
  | 24 => .int
  | 25 => .array .int
  | 26 => .array .int
  | 27 => .array .long
  | _ => .array .long
abbrev wsX80 : List Cond := u_ws RX8 TX8 29
theorem nmX8 : ∀ a, a < 29 → ∀ b, b < 29 → a ≠ b → (TX8 a).2.1 ≠ (TX8 b).2.1 := by decide +kernel
theorem tyX8_ok : ∀ k, k < 29 → parseFieldDescriptor (TX8 k).2.2.1 = some (tyX8 k) := by decide +kernel
abbrev cX8_init : ByteArray := prog_10_method_1_code
def yX8_init : MethodName := ⟨RX8, "<init>", "()V"⟩
abbrev cX8_isIn : ByteArray := prog_10_method_2_code
def yX8_isIn : MethodName := ⟨RX8, "isIn", "(III)Z"⟩
abbrev cX8_move : ByteArray := prog_10_method_3_code
def yX8_move : MethodName := ⟨RX8, "move", "([I[I)V"⟩
abbrev cX8_image : ByteArray := prog_10_method_4_code
def yX8_image : MethodName := ⟨RX8, "image", "()I"⟩
abbrev cX8_undo : ByteArray := prog_10_method_5_code
def yX8_undo : MethodName := ⟨RX8, "undo", "()I"⟩
abbrev cX8_isOne : ByteArray := prog_10_method_6_code
def yX8_isOne : MethodName := ⟨RX8, "isOne", "(I)Z"⟩
abbrev cX8_number : ByteArray := prog_10_method_7_code
def yX8_number : MethodName := ⟨RX8, "number", "(II)I"⟩
abbrev cX8_change : ByteArray := prog_10_method_8_code
def yX8_change : MethodName := ⟨RX8, "change", "(III)I"⟩
abbrev cX8_placeOf : ByteArray := prog_10_method_9_code
def yX8_placeOf : MethodName := ⟨RX8, "placeOf", "(I)I"⟩
abbrev cX8_isOnRoad : ByteArray := prog_10_method_10_code
def yX8_isOnRoad : MethodName := ⟨RX8, "isOnRoad", "(I)Z"⟩
abbrev cX8_joins : ByteArray := prog_10_method_11_code
def yX8_joins : MethodName := ⟨RX8, "joins", "(I)V"⟩
abbrev cX8_one : ByteArray := prog_10_method_12_code
def yX8_one : MethodName := ⟨RX8, "one", "(III)I"⟩
abbrev cX8_of : ByteArray := prog_10_method_13_code
def yX8_of : MethodName := ⟨RX8, "of", "(II)I"⟩
abbrev cX8_cheer : ByteArray := prog_10_method_14_code
def yX8_cheer : MethodName := ⟨RX8, "cheer", "(II)I"⟩
abbrev cX8_goSwap : ByteArray := prog_10_method_15_code
def yX8_goSwap : MethodName := ⟨RX8, "goSwap", "(II)V"⟩
abbrev cX8_swap : ByteArray := prog_10_method_16_code
def yX8_swap : MethodName := ⟨RX8, "swap", "(II)I"⟩
abbrev cX8_again : ByteArray := prog_10_method_17_code
def yX8_again : MethodName := ⟨RX8, "again", "(I)I"⟩
abbrev cX8_down : ByteArray := prog_10_method_18_code
def yX8_down : MethodName := ⟨RX8, "down", "(I)I"⟩
abbrev cX8_row : ByteArray := prog_10_method_19_code
def yX8_row : MethodName := ⟨RX8, "row", "(III)I"⟩
abbrev cX8_feed : ByteArray := prog_10_method_20_code
def yX8_feed : MethodName := ⟨RX8, "feed", "(I)I"⟩
abbrev cX8_isAt : ByteArray := prog_10_method_21_code
def yX8_isAt : MethodName := ⟨RX8, "isAt", "(I)Z"⟩
abbrev cX8_takes : ByteArray := prog_10_method_22_code
def yX8_takes : MethodName := ⟨RX8, "takes", "(I)V"⟩
abbrev cX8_isDigit : ByteArray := prog_10_method_23_code
def yX8_isDigit : MethodName := ⟨RX8, "isDigit", "()Z"⟩
abbrev cX8_number_ : ByteArray := prog_10_method_24_code
def yX8_number_ : MethodName := ⟨RX8, "number", "()I"⟩
abbrev cX8_test : ByteArray := prog_10_method_25_code
def yX8_test : MethodName := ⟨RX8, "test", "()Z"⟩
abbrev cX8_factor : ByteArray := prog_10_method_26_code
def yX8_factor : MethodName := ⟨RX8, "factor", "()Z"⟩
abbrev cX8_both : ByteArray := prog_10_method_27_code
def yX8_both : MethodName := ⟨RX8, "both", "()Z"⟩
abbrev cX8_any : ByteArray := prog_10_method_28_code
def yX8_any : MethodName := ⟨RX8, "any", "()Z"⟩
abbrev cX8_clause : ByteArray := prog_10_method_29_code
def yX8_clause : MethodName := ⟨RX8, "clause", "()V"⟩
abbrev cX8_readAll : ByteArray := prog_10_method_30_code
def yX8_readAll : MethodName := ⟨RX8, "readAll", "()Z"⟩
abbrev cX8_readFor : ByteArray := prog_10_method_31_code
def yX8_readFor : MethodName := ⟨RX8, "readFor", "(II)V"⟩
abbrev cX8_city : ByteArray := prog_10_method_32_code
def yX8_city : MethodName := ⟨RX8, "city", "()I"⟩
abbrev cX8_urge : ByteArray := prog_10_method_33_code
def yX8_urge : MethodName := ⟨RX8, "urge", "(II)I"⟩
abbrev cX8_laughing : ByteArray := prog_10_method_34_code
def yX8_laughing : MethodName := ⟨RX8, "laughing", "()I"⟩
abbrev cX8_nearNow : ByteArray := prog_10_method_35_code
def yX8_nearNow : MethodName := ⟨RX8, "nearNow", "()I"⟩
abbrev cX8_windNow : ByteArray := prog_10_method_36_code
def yX8_windNow : MethodName := ⟨RX8, "windNow", "()I"⟩
abbrev cX8_hour : ByteArray := prog_10_method_37_code
def yX8_hour : MethodName := ⟨RX8, "hour", "()V"⟩
abbrev cX8_hours : ByteArray := prog_10_method_38_code
def yX8_hours : MethodName := ⟨RX8, "hours", "(I)V"⟩
abbrev cX8_ins : ByteArray := prog_10_method_39_code
def yX8_ins : MethodName := ⟨RX8, "ins", "()I"⟩
abbrev cX8_gets : ByteArray := prog_10_method_40_code
def yX8_gets : MethodName := ⟨RX8, "gets", "(I)I"⟩
abbrev cX8_many : ByteArray := prog_10_method_41_code
def yX8_many : MethodName := ⟨RX8, "many", "(I)I"⟩
abbrev cX8_spark : ByteArray := prog_10_method_42_code
def yX8_spark : MethodName := ⟨RX8, "spark", "(Z)I"⟩
abbrev cX8_hush : ByteArray := prog_10_method_43_code
def yX8_hush : MethodName := ⟨RX8, "hush", "()I"⟩
abbrev cX8_told : ByteArray := prog_10_method_44_code
def yX8_told : MethodName := ⟨RX8, "told", "(I)I"⟩
abbrev cX8_pass : ByteArray := prog_10_method_45_code
def yX8_pass : MethodName := ⟨RX8, "pass", "(I)I"⟩
abbrev cX8_on : ByteArray := prog_10_method_46_code
def yX8_on : MethodName := ⟨RX8, "on", "(II)I"⟩
abbrev cX8_turn : ByteArray := prog_10_method_47_code
def yX8_turn : MethodName := ⟨RX8, "turn", "(I)I"⟩
abbrev cX8_see : ByteArray := prog_10_method_48_code
def yX8_see : MethodName := ⟨RX8, "see", "(IIZ)I"⟩
abbrev cX8_isAllSeen : ByteArray := prog_10_method_49_code
def yX8_isAllSeen : MethodName := ⟨RX8, "isAllSeen", "()Z"⟩
abbrev cX8_fits : ByteArray := prog_10_method_50_code
def yX8_fits : MethodName := ⟨RX8, "fits", "(II)I"⟩
abbrev cX8_can : ByteArray := prog_10_method_51_code
def yX8_can : MethodName := ⟨RX8, "can", "(II)I"⟩
abbrev cX8_fraction : ByteArray := prog_10_method_52_code
def yX8_fraction : MethodName := ⟨RX8, "fraction", "(JJI)J"⟩
abbrev cX8_odds : ByteArray := prog_10_method_53_code
def yX8_odds : MethodName := ⟨RX8, "odds", "(II)J"⟩
abbrev cX8_mean : ByteArray := prog_10_method_54_code
def yX8_mean : MethodName := ⟨RX8, "mean", "(I)J"⟩
abbrev cX8_plan : ByteArray := prog_10_method_55_code
def yX8_plan : MethodName := ⟨RX8, "plan", "(II)I"⟩
abbrev cX8_ends : ByteArray := prog_10_method_56_code
def yX8_ends : MethodName := ⟨RX8, "ends", "(I)I"⟩
abbrev cX8_book : ByteArray := prog_10_method_57_code
def yX8_book : MethodName := ⟨RX8, "book", "(II)I"⟩
abbrev cX8_looked : ByteArray := prog_10_method_58_code
def yX8_looked : MethodName := ⟨RX8, "looked", "()I"⟩
abbrev cX8_body : ByteArray := prog_10_method_59_code
def yX8_body : MethodName := ⟨RX8, "body", "(I)I"⟩
abbrev cX8_all : ByteArray := prog_10_method_60_code
def yX8_all : MethodName := ⟨RX8, "all", "(III)I"⟩
abbrev cX8_byKind : ByteArray := prog_10_method_61_code
def yX8_byKind : MethodName := ⟨RX8, "byKind", "(IIII)I"⟩
abbrev cX8_act : ByteArray := prog_10_method_62_code
def yX8_act : MethodName := ⟨RX8, "act", "(III)I"⟩
abbrev cX8_trace : ByteArray := prog_10_method_63_code
def yX8_trace : MethodName := ⟨RX8, "trace", "(I)I"⟩
abbrev cX8_taken : ByteArray := prog_10_method_64_code
def yX8_taken : MethodName := ⟨RX8, "taken", "(II)I"⟩
abbrev cX8_count : ByteArray := prog_10_method_65_code
def yX8_count : MethodName := ⟨RX8, "count", "(I)I"⟩
abbrev cX8_isTape : ByteArray := prog_10_method_66_code
def yX8_isTape : MethodName := ⟨RX8, "isTape", "(I)Z"⟩
abbrev cX8_tape : ByteArray := prog_10_method_67_code
def yX8_tape : MethodName := ⟨RX8, "tape", "(III)I"⟩
abbrev cX8_item : ByteArray := prog_10_method_68_code
def yX8_item : MethodName := ⟨RX8, "item", "(IIJ)I"⟩
abbrev cX8_read : ByteArray := prog_10_method_69_code
def yX8_read : MethodName := ⟨RX8, "read", "(II)J"⟩
abbrev cX8_shift : ByteArray := prog_10_method_70_code
def yX8_shift : MethodName := ⟨RX8, "shift", "(IIIII)I"⟩
abbrev cX8_judge : ByteArray := prog_10_method_71_code
def yX8_judge : MethodName := ⟨RX8, "judge", "(II)I"⟩
def RJ11 : String := "java/lang/Character"
abbrev cJ11_isValidCodePoint_9a6ad : ByteArray := prog_11_method_11_code
def yJ11_isValidCodePoint_9a6ad : MethodName := ⟨RJ11, "isValidCodePoint", "(I)Z"⟩
abbrev cJ11_highSurrogate_5068e : ByteArray := prog_11_method_28_code
def yJ11_highSurrogate_5068e : MethodName := ⟨RJ11, "highSurrogate", "(I)C"⟩
abbrev cJ11_lowSurrogate_5068e : ByteArray := prog_11_method_29_code
def yJ11_lowSurrogate_5068e : MethodName := ⟨RJ11, "lowSurrogate", "(I)C"⟩
def RJ6 : String := "java/lang/Integer"
abbrev cJ6_bitCount_0f7a4 : ByteArray := prog_12_method_49_code
def yJ6_bitCount_0f7a4 : MethodName := ⟨RJ6, "bitCount", "(I)I"⟩
def RJ9 : String := "java/lang/Math"
abbrev cJ9_max_7cf53 : ByteArray := prog_13_method_65_code
def yJ9_max_7cf53 : MethodName := ⟨RJ9, "max", "(II)I"⟩
abbrev cJ9_min_7cf53 : ByteArray := prog_13_method_69_code
def yJ9_min_7cf53 : MethodName := ⟨RJ9, "min", "(II)I"⟩
def RJ0 : String := "java/lang/String"
abbrev cJ0_length_8abf5 : ByteArray := prog_14_method_54_code
def yJ0_length_8abf5 : MethodName := ⟨RJ0, "length", "()I"⟩
abbrev cJ0_isEmpty_aae02 : ByteArray := prog_14_method_55_code
def yJ0_isEmpty_aae02 : MethodName := ⟨RJ0, "isEmpty", "()Z"⟩
abbrev cJ0_charAt_5068e : ByteArray := prog_14_method_56_code
def yJ0_charAt_5068e : MethodName := ⟨RJ0, "charAt", "(I)C"⟩
abbrev cJ0_indexOf_0f7a4 : ByteArray := prog_14_method_79_code
def yJ0_indexOf_0f7a4 : MethodName := ⟨RJ0, "indexOf", "(I)I"⟩
abbrev cJ0_indexOf_7cf53 : ByteArray := prog_14_method_80_code
def yJ0_indexOf_7cf53 : MethodName := ⟨RJ0, "indexOf", "(II)I"⟩
abbrev cJ0_coder_7d493 : ByteArray := prog_14_method_152_code
def yJ0_coder_7d493 : MethodName := ⟨RJ0, "coder", "()B"⟩
abbrev cJ0_isLatin1_aae02 : ByteArray := prog_14_method_154_code
def yJ0_isLatin1_aae02 : MethodName := ⟨RJ0, "isLatin1", "()Z"⟩
abbrev cJ0_checkIndex_df160 : ByteArray := prog_14_method_155_code
def yJ0_checkIndex_df160 : MethodName := ⟨RJ0, "checkIndex", "(II)V"⟩
abbrev cJ0_checkBoundsBeginEnd_23922 : ByteArray := prog_14_method_158_code
def yJ0_checkBoundsBeginEnd_23922 : MethodName := ⟨RJ0, "checkBoundsBeginEnd", "(III)V"⟩
def RJ1 : String := "java/lang/StringLatin1"
abbrev cJ1_charAt_3b067 : ByteArray := prog_15_method_2_code
def yJ1_charAt_3b067 : MethodName := ⟨RJ1, "charAt", "([BI)C"⟩
abbrev cJ1_canEncode_9a6ad : ByteArray := prog_15_method_4_code
def yJ1_canEncode_9a6ad : MethodName := ⟨RJ1, "canEncode", "(I)Z"⟩
abbrev cJ1_indexOf_4cfef : ByteArray := prog_15_method_22_code
def yJ1_indexOf_4cfef : MethodName := ⟨RJ1, "indexOf", "([BIII)I"⟩
abbrev cJ1_indexOfChar_4cfef : ByteArray := prog_15_method_23_code
def yJ1_indexOfChar_4cfef : MethodName := ⟨RJ1, "indexOfChar", "([BIII)I"⟩
def RJ2 : String := "java/lang/StringUTF16"
abbrev cJ2_getChar_3b067 : ByteArray := prog_16_method_5_code
def yJ2_getChar_3b067 : MethodName := ⟨RJ2, "getChar", "([BI)C"⟩
abbrev cJ2_length_9d52b : ByteArray := prog_16_method_6_code
def yJ2_length_9d52b : MethodName := ⟨RJ2, "length", "([B)I"⟩
abbrev cJ2_indexOf_4cfef : ByteArray := prog_16_method_40_code
def yJ2_indexOf_4cfef : MethodName := ⟨RJ2, "indexOf", "([BIII)I"⟩
abbrev cJ2_indexOfChar_4cfef : ByteArray := prog_16_method_47_code
def yJ2_indexOfChar_4cfef : MethodName := ⟨RJ2, "indexOfChar", "([BIII)I"⟩
abbrev cJ2_indexOfCharUnsafe_4cfef : ByteArray := prog_16_method_48_code
def yJ2_indexOfCharUnsafe_4cfef : MethodName := ⟨RJ2, "indexOfCharUnsafe", "([BIII)I"⟩
abbrev cJ2_indexOfSupplementary_4cfef : ByteArray := prog_16_method_49_code
def yJ2_indexOfSupplementary_4cfef : MethodName := ⟨RJ2, "indexOfSupplementary", "([BIII)I"⟩
abbrev cJ2_charAt_3b067 : ByteArray := prog_16_method_83_code
def yJ2_charAt_3b067 : MethodName := ⟨RJ2, "charAt", "([BI)C"⟩
abbrev cJ2_checkIndex_2214a : ByteArray := prog_16_method_91_code
def yJ2_checkIndex_2214a : MethodName := ⟨RJ2, "checkIndex", "(I[B)V"⟩
abbrev cJ2_checkBoundsBeginEnd_d044e : ByteArray := prog_16_method_93_code
def yJ2_checkBoundsBeginEnd_d044e : MethodName := ⟨RJ2, "checkBoundsBeginEnd", "(II[B)V"⟩
def RJ10 : String := "java/lang/System"
def RJ3 : String := "jdk/internal/util/Preconditions"
abbrev cJ3_checkIndex_8e157 : ByteArray := prog_18_method_11_code
def yJ3_checkIndex_8e157 : MethodName := ⟨RJ3, "checkIndex", "(IILjava/util/function/BiFunction;)I"⟩
abbrev cJ3_checkFromToIndex_8c36e : ByteArray := prog_18_method_12_code
def yJ3_checkFromToIndex_8c36e : MethodName := ⟨RJ3, "checkFromToIndex", "(IIILjava/util/function/BiFunction;)I"⟩
def RL : String := "LaughingGateLaw"
abbrev cL_law : ByteArray := code
def yL_law : MethodName := ⟨RL, "law", "([I)Z"⟩
abbrev vwCl : List vw_C := [(RX0, TX0, 5), (RX1, TX1, 7), (RX2, TX2, 3), (RX3, TX3, 4), (RX4, TX4, 4), (RX5, TX5, 3), (RX6, TX6, 13), (RX7, TX7, 9), (RX8, TX8, 29)]
