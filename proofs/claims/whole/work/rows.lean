section
-- ===== PART A: goes FIRST, ahead of the names: the tables' words, and 'selects' of the private methods out of them =====
/-- a private method of a class that the tables say can be made, by its rows of tables_1 -/
def lw_okq (q : MethodName × Nat) : Prop := (q.1.cls ≠ "java/lang/invoke/MethodHandle" ∧ q.1.cls ≠ "java/lang/invoke/VarHandle") ∧ Cond.instantiable q.1.cls q.2 ∈ tables_1 ∧ Cond.privateMethod q.1 ∈ tables_1 ∧ Cond.instanceMethod q.1 ∈ tables_1
theorem lw_p0 : lw_okq (⟨"ShownOnce", "addThing", "(LShownOnce$Row;)I"⟩, 14) := ⟨⟨by decide +kernel, by decide +kernel⟩, List.mem_of_getElem? (i := 21) (by decide +kernel), List.mem_of_getElem? (i := 320) (by decide +kernel), List.mem_of_getElem? (i := 321) (by decide +kernel)⟩
theorem lw_p1 : lw_okq (⟨"ShownOnce$Thing", "findRuns", "(II)V"⟩, 5) := ⟨⟨by decide +kernel, by decide +kernel⟩, List.mem_of_getElem? (i := 211) (by decide +kernel), List.mem_of_getElem? (i := 337) (by decide +kernel), List.mem_of_getElem? (i := 338) (by decide +kernel)⟩
theorem lw_p2 : lw_okq (⟨"ShownOnce$Thing", "setRun", "(III)V"⟩, 5) := ⟨⟨by decide +kernel, by decide +kernel⟩, List.mem_of_getElem? (i := 211) (by decide +kernel), List.mem_of_getElem? (i := 353) (by decide +kernel), List.mem_of_getElem? (i := 354) (by decide +kernel)⟩
theorem lw_p3 : lw_okq (⟨"ShownOnce", "isThing", "(I)Z"⟩, 14) := ⟨⟨by decide +kernel, by decide +kernel⟩, List.mem_of_getElem? (i := 21) (by decide +kernel), List.mem_of_getElem? (i := 380) (by decide +kernel), List.mem_of_getElem? (i := 381) (by decide +kernel)⟩
theorem lw_p4 : lw_okq (⟨"ShownOnce", "showTapeOf", "(LShownOnce$Thing;)I"⟩, 14) := ⟨⟨by decide +kernel, by decide +kernel⟩, List.mem_of_getElem? (i := 21) (by decide +kernel), List.mem_of_getElem? (i := 411) (by decide +kernel), List.mem_of_getElem? (i := 412) (by decide +kernel)⟩
theorem lw_p5 : lw_okq (⟨"ShownOnce", "howMany", "(I)I"⟩, 14) := ⟨⟨by decide +kernel, by decide +kernel⟩, List.mem_of_getElem? (i := 21) (by decide +kernel), List.mem_of_getElem? (i := 415) (by decide +kernel), List.mem_of_getElem? (i := 416) (by decide +kernel)⟩
theorem lw_p6 : lw_okq (⟨"ShownOnce$Thing", "markBeginnings", "(II)V"⟩, 5) := ⟨⟨by decide +kernel, by decide +kernel⟩, List.mem_of_getElem? (i := 211) (by decide +kernel), List.mem_of_getElem? (i := 426) (by decide +kernel), List.mem_of_getElem? (i := 427) (by decide +kernel)⟩
theorem lw_p7 : lw_okq (⟨"ShownOnce$Thing", "markClosings", "(II)V"⟩, 5) := ⟨⟨by decide +kernel, by decide +kernel⟩, List.mem_of_getElem? (i := 211) (by decide +kernel), List.mem_of_getElem? (i := 430) (by decide +kernel), List.mem_of_getElem? (i := 431) (by decide +kernel)⟩
theorem lw_p8 : lw_okq (⟨"ShownOnce", "showingChanged", "()V"⟩, 14) := ⟨⟨by decide +kernel, by decide +kernel⟩, List.mem_of_getElem? (i := 21) (by decide +kernel), List.mem_of_getElem? (i := 434) (by decide +kernel), List.mem_of_getElem? (i := 435) (by decide +kernel)⟩
theorem lw_p9 : lw_okq (⟨"ShownOnce", "fitRefusal", "()I"⟩, 14) := ⟨⟨by decide +kernel, by decide +kernel⟩, List.mem_of_getElem? (i := 21) (by decide +kernel), List.mem_of_getElem? (i := 447) (by decide +kernel), List.mem_of_getElem? (i := 448) (by decide +kernel)⟩
theorem lw_p10 : lw_okq (⟨"ShownOnce", "measureWithout", "(I)V"⟩, 14) := ⟨⟨by decide +kernel, by decide +kernel⟩, List.mem_of_getElem? (i := 21) (by decide +kernel), List.mem_of_getElem? (i := 451) (by decide +kernel), List.mem_of_getElem? (i := 452) (by decide +kernel)⟩
theorem lw_p11 : lw_okq (⟨"ShownOnce$Fit", "findCommonPlaces", "()V"⟩, 17) := ⟨⟨by decide +kernel, by decide +kernel⟩, List.mem_of_getElem? (i := 55) (by decide +kernel), List.mem_of_getElem? (i := 471) (by decide +kernel), List.mem_of_getElem? (i := 472) (by decide +kernel)⟩
theorem lw_p12 : lw_okq (⟨"ShownOnce$Fit", "addCuts", "(II)V"⟩, 17) := ⟨⟨by decide +kernel, by decide +kernel⟩, List.mem_of_getElem? (i := 55) (by decide +kernel), List.mem_of_getElem? (i := 475) (by decide +kernel), List.mem_of_getElem? (i := 476) (by decide +kernel)⟩
theorem lw_p13 : lw_okq (⟨"ShownOnce$Fit", "addFirst", "(II)V"⟩, 17) := ⟨⟨by decide +kernel, by decide +kernel⟩, List.mem_of_getElem? (i := 55) (by decide +kernel), List.mem_of_getElem? (i := 483) (by decide +kernel), List.mem_of_getElem? (i := 484) (by decide +kernel)⟩
theorem lw_p14 : lw_okq (⟨"ShownOnce$Lasts", "openGroup", "(I)V"⟩, 9) := ⟨⟨by decide +kernel, by decide +kernel⟩, List.mem_of_getElem? (i := 62) (by decide +kernel), List.mem_of_getElem? (i := 491) (by decide +kernel), List.mem_of_getElem? (i := 492) (by decide +kernel)⟩
theorem lw_p15 : lw_okq (⟨"ShownOnce$Fit", "addTyped", "(I)V"⟩, 17) := ⟨⟨by decide +kernel, by decide +kernel⟩, List.mem_of_getElem? (i := 55) (by decide +kernel), List.mem_of_getElem? (i := 499) (by decide +kernel), List.mem_of_getElem? (i := 500) (by decide +kernel)⟩
def lw_privs_1 : List (MethodName × Nat) := [(⟨"ShownOnce", "addThing", "(LShownOnce$Row;)I"⟩, 14), (⟨"ShownOnce$Thing", "findRuns", "(II)V"⟩, 5), (⟨"ShownOnce$Thing", "setRun", "(III)V"⟩, 5), (⟨"ShownOnce", "isThing", "(I)Z"⟩, 14), (⟨"ShownOnce", "showTapeOf", "(LShownOnce$Thing;)I"⟩, 14), (⟨"ShownOnce", "howMany", "(I)I"⟩, 14), (⟨"ShownOnce$Thing", "markBeginnings", "(II)V"⟩, 5), (⟨"ShownOnce$Thing", "markClosings", "(II)V"⟩, 5), (⟨"ShownOnce", "showingChanged", "()V"⟩, 14), (⟨"ShownOnce", "fitRefusal", "()I"⟩, 14), (⟨"ShownOnce", "measureWithout", "(I)V"⟩, 14), (⟨"ShownOnce$Fit", "findCommonPlaces", "()V"⟩, 17), (⟨"ShownOnce$Fit", "addCuts", "(II)V"⟩, 17), (⟨"ShownOnce$Fit", "addFirst", "(II)V"⟩, 17), (⟨"ShownOnce$Lasts", "openGroup", "(I)V"⟩, 9), (⟨"ShownOnce$Fit", "addTyped", "(I)V"⟩, 17)]
theorem lw_r1 : ∀ q ∈ lw_privs_1, lw_okq q := List.forall_mem_cons.mpr ⟨lw_p0, List.forall_mem_cons.mpr ⟨lw_p1, List.forall_mem_cons.mpr ⟨lw_p2, List.forall_mem_cons.mpr ⟨lw_p3, List.forall_mem_cons.mpr ⟨lw_p4, List.forall_mem_cons.mpr ⟨lw_p5, List.forall_mem_cons.mpr ⟨lw_p6, List.forall_mem_cons.mpr ⟨lw_p7, List.forall_mem_cons.mpr ⟨lw_p8, List.forall_mem_cons.mpr ⟨lw_p9, List.forall_mem_cons.mpr ⟨lw_p10, List.forall_mem_cons.mpr ⟨lw_p11, List.forall_mem_cons.mpr ⟨lw_p12, List.forall_mem_cons.mpr ⟨lw_p13, List.forall_mem_cons.mpr ⟨lw_p14, List.forall_mem_cons.mpr ⟨lw_p15, fun _ h => absurd h List.not_mem_nil⟩⟩⟩⟩⟩⟩⟩⟩⟩⟩⟩⟩⟩⟩⟩⟩
theorem lw_p16 : lw_okq (⟨"ShownOnce$Fit", "typedIn", "(II)I"⟩, 17) := ⟨⟨by decide +kernel, by decide +kernel⟩, List.mem_of_getElem? (i := 55) (by decide +kernel), List.mem_of_getElem? (i := 503) (by decide +kernel), List.mem_of_getElem? (i := 504) (by decide +kernel)⟩
theorem lw_p17 : lw_okq (⟨"ShownOnce$Fit", "leastSize", "()I"⟩, 17) := ⟨⟨by decide +kernel, by decide +kernel⟩, List.mem_of_getElem? (i := 55) (by decide +kernel), List.mem_of_getElem? (i := 507) (by decide +kernel), List.mem_of_getElem? (i := 508) (by decide +kernel)⟩
theorem lw_p18 : lw_okq (⟨"ShownOnce$Fit", "joinPieces", "()V"⟩, 17) := ⟨⟨by decide +kernel, by decide +kernel⟩, List.mem_of_getElem? (i := 55) (by decide +kernel), List.mem_of_getElem? (i := 514) (by decide +kernel), List.mem_of_getElem? (i := 515) (by decide +kernel)⟩
theorem lw_p19 : lw_okq (⟨"ShownOnce$Fit", "isRanked", "()Z"⟩, 17) := ⟨⟨by decide +kernel, by decide +kernel⟩, List.mem_of_getElem? (i := 55) (by decide +kernel), List.mem_of_getElem? (i := 526) (by decide +kernel), List.mem_of_getElem? (i := 527) (by decide +kernel)⟩
theorem lw_p20 : lw_okq (⟨"ShownOnce$Fit", "rankWholes", "(I)V"⟩, 17) := ⟨⟨by decide +kernel, by decide +kernel⟩, List.mem_of_getElem? (i := 55) (by decide +kernel), List.mem_of_getElem? (i := 534) (by decide +kernel), List.mem_of_getElem? (i := 535) (by decide +kernel)⟩
theorem lw_p21 : lw_okq (⟨"ShownOnce$Fit", "nextNearest", "()LShownOnce$Program;"⟩, 17) := ⟨⟨by decide +kernel, by decide +kernel⟩, List.mem_of_getElem? (i := 55) (by decide +kernel), List.mem_of_getElem? (i := 539) (by decide +kernel), List.mem_of_getElem? (i := 540) (by decide +kernel)⟩
theorem lw_p22 : lw_okq (⟨"ShownOnce$Fit", "rankPairs", "(II)V"⟩, 17) := ⟨⟨by decide +kernel, by decide +kernel⟩, List.mem_of_getElem? (i := 55) (by decide +kernel), List.mem_of_getElem? (i := 551) (by decide +kernel), List.mem_of_getElem? (i := 552) (by decide +kernel)⟩
theorem lw_p23 : lw_okq (⟨"ShownOnce$Fit", "rankTriples", "(II)V"⟩, 17) := ⟨⟨by decide +kernel, by decide +kernel⟩, List.mem_of_getElem? (i := 55) (by decide +kernel), List.mem_of_getElem? (i := 567) (by decide +kernel), List.mem_of_getElem? (i := 568) (by decide +kernel)⟩
theorem lw_p24 : lw_okq (⟨"ShownOnce$Tally", "likeLatest", "()I"⟩, 3) := ⟨⟨by decide +kernel, by decide +kernel⟩, List.mem_of_getElem? (i := 168) (by decide +kernel), List.mem_of_getElem? (i := 605) (by decide +kernel), List.mem_of_getElem? (i := 606) (by decide +kernel)⟩
theorem lw_p25 : lw_okq (⟨"ShownOnce", "makesOddEnd", "(LShownOnce$Thing;)Z"⟩, 14) := ⟨⟨by decide +kernel, by decide +kernel⟩, List.mem_of_getElem? (i := 21) (by decide +kernel), List.mem_of_getElem? (i := 628) (by decide +kernel), List.mem_of_getElem? (i := 629) (by decide +kernel)⟩
theorem lw_p26 : lw_okq (⟨"ShownOnce", "leastSlips", "()I"⟩, 14) := ⟨⟨by decide +kernel, by decide +kernel⟩, List.mem_of_getElem? (i := 21) (by decide +kernel), List.mem_of_getElem? (i := 642) (by decide +kernel), List.mem_of_getElem? (i := 643) (by decide +kernel)⟩
theorem lw_p27 : lw_okq (⟨"ShownOnce", "keepProgram", "(LShownOnce$Program;)I"⟩, 14) := ⟨⟨by decide +kernel, by decide +kernel⟩, List.mem_of_getElem? (i := 21) (by decide +kernel), List.mem_of_getElem? (i := 680) (by decide +kernel), List.mem_of_getElem? (i := 681) (by decide +kernel)⟩
theorem lw_p28 : lw_okq (⟨"ShownOnce$TextReader", "readPiece", "()Z"⟩, 3) := ⟨⟨by decide +kernel, by decide +kernel⟩, List.mem_of_getElem? (i := 189) (by decide +kernel), List.mem_of_getElem? (i := 700) (by decide +kernel), List.mem_of_getElem? (i := 701) (by decide +kernel)⟩
theorem lw_p29 : lw_okq (⟨"ShownOnce$TextReader", "look", "()I"⟩, 3) := ⟨⟨by decide +kernel, by decide +kernel⟩, List.mem_of_getElem? (i := 189) (by decide +kernel), List.mem_of_getElem? (i := 704) (by decide +kernel), List.mem_of_getElem? (i := 705) (by decide +kernel)⟩
theorem lw_p30 : lw_okq (⟨"ShownOnce$TextReader", "readTyped", "()Z"⟩, 3) := ⟨⟨by decide +kernel, by decide +kernel⟩, List.mem_of_getElem? (i := 189) (by decide +kernel), List.mem_of_getElem? (i := 708) (by decide +kernel), List.mem_of_getElem? (i := 709) (by decide +kernel)⟩
theorem lw_p31 : lw_okq (⟨"ShownOnce$TextReader", "readCut", "()Z"⟩, 3) := ⟨⟨by decide +kernel, by decide +kernel⟩, List.mem_of_getElem? (i := 189) (by decide +kernel), List.mem_of_getElem? (i := 714) (by decide +kernel), List.mem_of_getElem? (i := 715) (by decide +kernel)⟩
def lw_privs_2 : List (MethodName × Nat) := [(⟨"ShownOnce$Fit", "typedIn", "(II)I"⟩, 17), (⟨"ShownOnce$Fit", "leastSize", "()I"⟩, 17), (⟨"ShownOnce$Fit", "joinPieces", "()V"⟩, 17), (⟨"ShownOnce$Fit", "isRanked", "()Z"⟩, 17), (⟨"ShownOnce$Fit", "rankWholes", "(I)V"⟩, 17), (⟨"ShownOnce$Fit", "nextNearest", "()LShownOnce$Program;"⟩, 17), (⟨"ShownOnce$Fit", "rankPairs", "(II)V"⟩, 17), (⟨"ShownOnce$Fit", "rankTriples", "(II)V"⟩, 17), (⟨"ShownOnce$Tally", "likeLatest", "()I"⟩, 3), (⟨"ShownOnce", "makesOddEnd", "(LShownOnce$Thing;)Z"⟩, 14), (⟨"ShownOnce", "leastSlips", "()I"⟩, 14), (⟨"ShownOnce", "keepProgram", "(LShownOnce$Program;)I"⟩, 14), (⟨"ShownOnce$TextReader", "readPiece", "()Z"⟩, 3), (⟨"ShownOnce$TextReader", "look", "()I"⟩, 3), (⟨"ShownOnce$TextReader", "readTyped", "()Z"⟩, 3), (⟨"ShownOnce$TextReader", "readCut", "()Z"⟩, 3)]
theorem lw_r2 : ∀ q ∈ lw_privs_2, lw_okq q := List.forall_mem_cons.mpr ⟨lw_p16, List.forall_mem_cons.mpr ⟨lw_p17, List.forall_mem_cons.mpr ⟨lw_p18, List.forall_mem_cons.mpr ⟨lw_p19, List.forall_mem_cons.mpr ⟨lw_p20, List.forall_mem_cons.mpr ⟨lw_p21, List.forall_mem_cons.mpr ⟨lw_p22, List.forall_mem_cons.mpr ⟨lw_p23, List.forall_mem_cons.mpr ⟨lw_p24, List.forall_mem_cons.mpr ⟨lw_p25, List.forall_mem_cons.mpr ⟨lw_p26, List.forall_mem_cons.mpr ⟨lw_p27, List.forall_mem_cons.mpr ⟨lw_p28, List.forall_mem_cons.mpr ⟨lw_p29, List.forall_mem_cons.mpr ⟨lw_p30, List.forall_mem_cons.mpr ⟨lw_p31, fun _ h => absurd h List.not_mem_nil⟩⟩⟩⟩⟩⟩⟩⟩⟩⟩⟩⟩⟩⟩⟩⟩
theorem lw_p32 : lw_okq (⟨"ShownOnce$TextReader", "readPlace", "()I"⟩, 3) := ⟨⟨by decide +kernel, by decide +kernel⟩, List.mem_of_getElem? (i := 189) (by decide +kernel), List.mem_of_getElem? (i := 718) (by decide +kernel), List.mem_of_getElem? (i := 719) (by decide +kernel)⟩
theorem lw_p33 : lw_okq (⟨"ShownOnce$TextReader", "readDistance", "(I)I"⟩, 3) := ⟨⟨by decide +kernel, by decide +kernel⟩, List.mem_of_getElem? (i := 189) (by decide +kernel), List.mem_of_getElem? (i := 722) (by decide +kernel), List.mem_of_getElem? (i := 723) (by decide +kernel)⟩
theorem lw_p34 : lw_okq (⟨"ShownOnce$TextReader", "readRun", "(I)I"⟩, 3) := ⟨⟨by decide +kernel, by decide +kernel⟩, List.mem_of_getElem? (i := 189) (by decide +kernel), List.mem_of_getElem? (i := 726) (by decide +kernel), List.mem_of_getElem? (i := 727) (by decide +kernel)⟩
theorem lw_p35 : lw_okq (⟨"ShownOnce$TextReader", "readTurn", "()I"⟩, 3) := ⟨⟨by decide +kernel, by decide +kernel⟩, List.mem_of_getElem? (i := 189) (by decide +kernel), List.mem_of_getElem? (i := 814) (by decide +kernel), List.mem_of_getElem? (i := 815) (by decide +kernel)⟩
theorem lw_p36 : lw_okq (⟨"ShownOnce$TextReader", "canGoOn", "()Z"⟩, 3) := ⟨⟨by decide +kernel, by decide +kernel⟩, List.mem_of_getElem? (i := 189) (by decide +kernel), List.mem_of_getElem? (i := 818) (by decide +kernel), List.mem_of_getElem? (i := 819) (by decide +kernel)⟩
theorem lw_p37 : lw_okq (⟨"ShownOnce", "isProgram", "(I)Z"⟩, 14) := ⟨⟨by decide +kernel, by decide +kernel⟩, List.mem_of_getElem? (i := 21) (by decide +kernel), List.mem_of_getElem? (i := 834) (by decide +kernel), List.mem_of_getElem? (i := 835) (by decide +kernel)⟩
theorem lw_p38 : lw_okq (⟨"ShownOnceModel", "addThing", "(I)I"⟩, 34) := ⟨⟨by decide +kernel, by decide +kernel⟩, List.mem_of_getElem? (i := 881) (by decide +kernel), List.mem_of_getElem? (i := 1007) (by decide +kernel), List.mem_of_getElem? (i := 1008) (by decide +kernel)⟩
theorem lw_p39 : lw_okq (⟨"ShownOnceModel", "isThing", "(I)Z"⟩, 34) := ⟨⟨by decide +kernel, by decide +kernel⟩, List.mem_of_getElem? (i := 881) (by decide +kernel), List.mem_of_getElem? (i := 1015) (by decide +kernel), List.mem_of_getElem? (i := 1016) (by decide +kernel)⟩
theorem lw_p40 : lw_okq (⟨"ShownOnceModel", "placeOf", "(II)I"⟩, 34) := ⟨⟨by decide +kernel, by decide +kernel⟩, List.mem_of_getElem? (i := 881) (by decide +kernel), List.mem_of_getElem? (i := 1025) (by decide +kernel), List.mem_of_getElem? (i := 1026) (by decide +kernel)⟩
theorem lw_p41 : lw_okq (⟨"ShownOnceModel", "runOf", "(IIII)I"⟩, 34) := ⟨⟨by decide +kernel, by decide +kernel⟩, List.mem_of_getElem? (i := 881) (by decide +kernel), List.mem_of_getElem? (i := 1029) (by decide +kernel), List.mem_of_getElem? (i := 1030) (by decide +kernel)⟩
theorem lw_p42 : lw_okq (⟨"ShownOnceModel", "makePiece", "(II)Z"⟩, 34) := ⟨⟨by decide +kernel, by decide +kernel⟩, List.mem_of_getElem? (i := 881) (by decide +kernel), List.mem_of_getElem? (i := 1059) (by decide +kernel), List.mem_of_getElem? (i := 1060) (by decide +kernel)⟩
theorem lw_p43 : lw_okq (⟨"ShownOnceModel", "byteOf", "(I)I"⟩, 34) := ⟨⟨by decide +kernel, by decide +kernel⟩, List.mem_of_getElem? (i := 881) (by decide +kernel), List.mem_of_getElem? (i := 1067) (by decide +kernel), List.mem_of_getElem? (i := 1068) (by decide +kernel)⟩
theorem lw_p44 : lw_okq (⟨"ShownOnceModel", "countOf", "(I)I"⟩, 34) := ⟨⟨by decide +kernel, by decide +kernel⟩, List.mem_of_getElem? (i := 881) (by decide +kernel), List.mem_of_getElem? (i := 1076) (by decide +kernel), List.mem_of_getElem? (i := 1077) (by decide +kernel)⟩
theorem lw_p45 : lw_okq (⟨"ShownOnceModel", "findShown", "(I)V"⟩, 34) := ⟨⟨by decide +kernel, by decide +kernel⟩, List.mem_of_getElem? (i := 881) (by decide +kernel), List.mem_of_getElem? (i := 1090) (by decide +kernel), List.mem_of_getElem? (i := 1091) (by decide +kernel)⟩
theorem lw_p46 : lw_okq (⟨"ShownOnceModel", "findPieces", "()V"⟩, 34) := ⟨⟨by decide +kernel, by decide +kernel⟩, List.mem_of_getElem? (i := 881) (by decide +kernel), List.mem_of_getElem? (i := 1094) (by decide +kernel), List.mem_of_getElem? (i := 1095) (by decide +kernel)⟩
theorem lw_p47 : lw_okq (⟨"ShownOnceModel", "longOf", "(IZ)I"⟩, 34) := ⟨⟨by decide +kernel, by decide +kernel⟩, List.mem_of_getElem? (i := 881) (by decide +kernel), List.mem_of_getElem? (i := 1098) (by decide +kernel), List.mem_of_getElem? (i := 1099) (by decide +kernel)⟩
def lw_privs_3 : List (MethodName × Nat) := [(⟨"ShownOnce$TextReader", "readPlace", "()I"⟩, 3), (⟨"ShownOnce$TextReader", "readDistance", "(I)I"⟩, 3), (⟨"ShownOnce$TextReader", "readRun", "(I)I"⟩, 3), (⟨"ShownOnce$TextReader", "readTurn", "()I"⟩, 3), (⟨"ShownOnce$TextReader", "canGoOn", "()Z"⟩, 3), (⟨"ShownOnce", "isProgram", "(I)Z"⟩, 14), (⟨"ShownOnceModel", "addThing", "(I)I"⟩, 34), (⟨"ShownOnceModel", "isThing", "(I)Z"⟩, 34), (⟨"ShownOnceModel", "placeOf", "(II)I"⟩, 34), (⟨"ShownOnceModel", "runOf", "(IIII)I"⟩, 34), (⟨"ShownOnceModel", "makePiece", "(II)Z"⟩, 34), (⟨"ShownOnceModel", "byteOf", "(I)I"⟩, 34), (⟨"ShownOnceModel", "countOf", "(I)I"⟩, 34), (⟨"ShownOnceModel", "findShown", "(I)V"⟩, 34), (⟨"ShownOnceModel", "findPieces", "()V"⟩, 34), (⟨"ShownOnceModel", "longOf", "(IZ)I"⟩, 34)]
theorem lw_r3 : ∀ q ∈ lw_privs_3, lw_okq q := List.forall_mem_cons.mpr ⟨lw_p32, List.forall_mem_cons.mpr ⟨lw_p33, List.forall_mem_cons.mpr ⟨lw_p34, List.forall_mem_cons.mpr ⟨lw_p35, List.forall_mem_cons.mpr ⟨lw_p36, List.forall_mem_cons.mpr ⟨lw_p37, List.forall_mem_cons.mpr ⟨lw_p38, List.forall_mem_cons.mpr ⟨lw_p39, List.forall_mem_cons.mpr ⟨lw_p40, List.forall_mem_cons.mpr ⟨lw_p41, List.forall_mem_cons.mpr ⟨lw_p42, List.forall_mem_cons.mpr ⟨lw_p43, List.forall_mem_cons.mpr ⟨lw_p44, List.forall_mem_cons.mpr ⟨lw_p45, List.forall_mem_cons.mpr ⟨lw_p46, List.forall_mem_cons.mpr ⟨lw_p47, fun _ h => absurd h List.not_mem_nil⟩⟩⟩⟩⟩⟩⟩⟩⟩⟩⟩⟩⟩⟩⟩⟩
theorem lw_p48 : lw_okq (⟨"ShownOnceModel", "standsAt", "(II)Z"⟩, 34) := ⟨⟨by decide +kernel, by decide +kernel⟩, List.mem_of_getElem? (i := 881) (by decide +kernel), List.mem_of_getElem? (i := 1102) (by decide +kernel), List.mem_of_getElem? (i := 1103) (by decide +kernel)⟩
theorem lw_p49 : lw_okq (⟨"ShownOnceModel", "noteFront", "(II)V"⟩, 34) := ⟨⟨by decide +kernel, by decide +kernel⟩, List.mem_of_getElem? (i := 881) (by decide +kernel), List.mem_of_getElem? (i := 1106) (by decide +kernel), List.mem_of_getElem? (i := 1107) (by decide +kernel)⟩
theorem lw_p50 : lw_okq (⟨"ShownOnceModel", "noteBehind", "(II)V"⟩, 34) := ⟨⟨by decide +kernel, by decide +kernel⟩, List.mem_of_getElem? (i := 881) (by decide +kernel), List.mem_of_getElem? (i := 1110) (by decide +kernel), List.mem_of_getElem? (i := 1111) (by decide +kernel)⟩
theorem lw_p51 : lw_okq (⟨"ShownOnceModel", "typedAt", "(II)I"⟩, 34) := ⟨⟨by decide +kernel, by decide +kernel⟩, List.mem_of_getElem? (i := 881) (by decide +kernel), List.mem_of_getElem? (i := 1114) (by decide +kernel), List.mem_of_getElem? (i := 1115) (by decide +kernel)⟩
theorem lw_p52 : lw_okq (⟨"ShownOnceModel", "fittingOf", "(I)J"⟩, 34) := ⟨⟨by decide +kernel, by decide +kernel⟩, List.mem_of_getElem? (i := 881) (by decide +kernel), List.mem_of_getElem? (i := 1118) (by decide +kernel), List.mem_of_getElem? (i := 1119) (by decide +kernel)⟩
theorem lw_p53 : lw_okq (⟨"ShownOnceModel", "isAll", "(I)Z"⟩, 34) := ⟨⟨by decide +kernel, by decide +kernel⟩, List.mem_of_getElem? (i := 881) (by decide +kernel), List.mem_of_getElem? (i := 1122) (by decide +kernel), List.mem_of_getElem? (i := 1123) (by decide +kernel)⟩
theorem lw_p54 : lw_okq (⟨"ShownOnceModel", "leftOf", "(II)I"⟩, 34) := ⟨⟨by decide +kernel, by decide +kernel⟩, List.mem_of_getElem? (i := 881) (by decide +kernel), List.mem_of_getElem? (i := 1126) (by decide +kernel), List.mem_of_getElem? (i := 1127) (by decide +kernel)⟩
theorem lw_p55 : lw_okq (⟨"ShownOnceModel", "lacksFit", "()I"⟩, 34) := ⟨⟨by decide +kernel, by decide +kernel⟩, List.mem_of_getElem? (i := 881) (by decide +kernel), List.mem_of_getElem? (i := 1135) (by decide +kernel), List.mem_of_getElem? (i := 1136) (by decide +kernel)⟩
theorem lw_p56 : lw_okq (⟨"ShownOnceModel", "findNearest", "()V"⟩, 34) := ⟨⟨by decide +kernel, by decide +kernel⟩, List.mem_of_getElem? (i := 881) (by decide +kernel), List.mem_of_getElem? (i := 1139) (by decide +kernel), List.mem_of_getElem? (i := 1140) (by decide +kernel)⟩
theorem lw_p57 : lw_okq (⟨"ShownOnceModel", "noteNear", "(III)V"⟩, 34) := ⟨⟨by decide +kernel, by decide +kernel⟩, List.mem_of_getElem? (i := 881) (by decide +kernel), List.mem_of_getElem? (i := 1146) (by decide +kernel), List.mem_of_getElem? (i := 1147) (by decide +kernel)⟩
theorem lw_p58 : lw_okq (⟨"ShownOnceModel", "noteWith", "(IIII)V"⟩, 34) := ⟨⟨by decide +kernel, by decide +kernel⟩, List.mem_of_getElem? (i := 881) (by decide +kernel), List.mem_of_getElem? (i := 1150) (by decide +kernel), List.mem_of_getElem? (i := 1151) (by decide +kernel)⟩
theorem lw_p59 : lw_okq (⟨"ShownOnceModel", "runRow", "([III)Z"⟩, 34) := ⟨⟨by decide +kernel, by decide +kernel⟩, List.mem_of_getElem? (i := 881) (by decide +kernel), List.mem_of_getElem? (i := 1161) (by decide +kernel), List.mem_of_getElem? (i := 1162) (by decide +kernel)⟩
theorem lw_p60 : lw_okq (⟨"ShownOnceModel", "sortEnds", "(IZ)I"⟩, 34) := ⟨⟨by decide +kernel, by decide +kernel⟩, List.mem_of_getElem? (i := 881) (by decide +kernel), List.mem_of_getElem? (i := 1169) (by decide +kernel), List.mem_of_getElem? (i := 1170) (by decide +kernel)⟩
theorem lw_p61 : lw_okq (⟨"ShownOnceModel", "findEnds", "(I)V"⟩, 34) := ⟨⟨by decide +kernel, by decide +kernel⟩, List.mem_of_getElem? (i := 881) (by decide +kernel), List.mem_of_getElem? (i := 1173) (by decide +kernel), List.mem_of_getElem? (i := 1174) (by decide +kernel)⟩
theorem lw_p62 : lw_okq (⟨"ShownOnceModel", "areAlike", "(II)Z"⟩, 34) := ⟨⟨by decide +kernel, by decide +kernel⟩, List.mem_of_getElem? (i := 881) (by decide +kernel), List.mem_of_getElem? (i := 1177) (by decide +kernel), List.mem_of_getElem? (i := 1178) (by decide +kernel)⟩
theorem lw_p63 : lw_okq (⟨"ShownOnceModel", "isOdd", "(I)Z"⟩, 34) := ⟨⟨by decide +kernel, by decide +kernel⟩, List.mem_of_getElem? (i := 881) (by decide +kernel), List.mem_of_getElem? (i := 1189) (by decide +kernel), List.mem_of_getElem? (i := 1190) (by decide +kernel)⟩
def lw_privs_4 : List (MethodName × Nat) := [(⟨"ShownOnceModel", "standsAt", "(II)Z"⟩, 34), (⟨"ShownOnceModel", "noteFront", "(II)V"⟩, 34), (⟨"ShownOnceModel", "noteBehind", "(II)V"⟩, 34), (⟨"ShownOnceModel", "typedAt", "(II)I"⟩, 34), (⟨"ShownOnceModel", "fittingOf", "(I)J"⟩, 34), (⟨"ShownOnceModel", "isAll", "(I)Z"⟩, 34), (⟨"ShownOnceModel", "leftOf", "(II)I"⟩, 34), (⟨"ShownOnceModel", "lacksFit", "()I"⟩, 34), (⟨"ShownOnceModel", "findNearest", "()V"⟩, 34), (⟨"ShownOnceModel", "noteNear", "(III)V"⟩, 34), (⟨"ShownOnceModel", "noteWith", "(IIII)V"⟩, 34), (⟨"ShownOnceModel", "runRow", "([III)Z"⟩, 34), (⟨"ShownOnceModel", "sortEnds", "(IZ)I"⟩, 34), (⟨"ShownOnceModel", "findEnds", "(I)V"⟩, 34), (⟨"ShownOnceModel", "areAlike", "(II)Z"⟩, 34), (⟨"ShownOnceModel", "isOdd", "(I)Z"⟩, 34)]
theorem lw_r4 : ∀ q ∈ lw_privs_4, lw_okq q := List.forall_mem_cons.mpr ⟨lw_p48, List.forall_mem_cons.mpr ⟨lw_p49, List.forall_mem_cons.mpr ⟨lw_p50, List.forall_mem_cons.mpr ⟨lw_p51, List.forall_mem_cons.mpr ⟨lw_p52, List.forall_mem_cons.mpr ⟨lw_p53, List.forall_mem_cons.mpr ⟨lw_p54, List.forall_mem_cons.mpr ⟨lw_p55, List.forall_mem_cons.mpr ⟨lw_p56, List.forall_mem_cons.mpr ⟨lw_p57, List.forall_mem_cons.mpr ⟨lw_p58, List.forall_mem_cons.mpr ⟨lw_p59, List.forall_mem_cons.mpr ⟨lw_p60, List.forall_mem_cons.mpr ⟨lw_p61, List.forall_mem_cons.mpr ⟨lw_p62, List.forall_mem_cons.mpr ⟨lw_p63, fun _ h => absurd h List.not_mem_nil⟩⟩⟩⟩⟩⟩⟩⟩⟩⟩⟩⟩⟩⟩⟩⟩
theorem lw_p64 : lw_okq (⟨"ShownOnceModel", "findShape", "([III)V"⟩, 34) := ⟨⟨by decide +kernel, by decide +kernel⟩, List.mem_of_getElem? (i := 881) (by decide +kernel), List.mem_of_getElem? (i := 1193) (by decide +kernel), List.mem_of_getElem? (i := 1194) (by decide +kernel)⟩
theorem lw_p65 : lw_okq (⟨"ShownOnceModel", "hasShape", "(I)Z"⟩, 34) := ⟨⟨by decide +kernel, by decide +kernel⟩, List.mem_of_getElem? (i := 881) (by decide +kernel), List.mem_of_getElem? (i := 1200) (by decide +kernel), List.mem_of_getElem? (i := 1201) (by decide +kernel)⟩
theorem lw_p66 : lw_okq (⟨"ShownOnceModel", "fitsBut", "(I)Z"⟩, 34) := ⟨⟨by decide +kernel, by decide +kernel⟩, List.mem_of_getElem? (i := 881) (by decide +kernel), List.mem_of_getElem? (i := 1211) (by decide +kernel), List.mem_of_getElem? (i := 1212) (by decide +kernel)⟩
theorem lw_p67 : lw_okq (⟨"ShownOnceModel", "addKept", "([I)I"⟩, 34) := ⟨⟨by decide +kernel, by decide +kernel⟩, List.mem_of_getElem? (i := 881) (by decide +kernel), List.mem_of_getElem? (i := 1239) (by decide +kernel), List.mem_of_getElem? (i := 1240) (by decide +kernel)⟩
theorem lw_p68 : lw_okq (⟨"ShownOnceModel", "readProgram", "()Z"⟩, 34) := ⟨⟨by decide +kernel, by decide +kernel⟩, List.mem_of_getElem? (i := 881) (by decide +kernel), List.mem_of_getElem? (i := 1247) (by decide +kernel), List.mem_of_getElem? (i := 1248) (by decide +kernel)⟩
theorem lw_p69 : lw_okq (⟨"ShownOnceModel", "next", "()I"⟩, 34) := ⟨⟨by decide +kernel, by decide +kernel⟩, List.mem_of_getElem? (i := 881) (by decide +kernel), List.mem_of_getElem? (i := 1251) (by decide +kernel), List.mem_of_getElem? (i := 1252) (by decide +kernel)⟩
theorem lw_p70 : lw_okq (⟨"ShownOnceModel", "readTyped", "()I"⟩, 34) := ⟨⟨by decide +kernel, by decide +kernel⟩, List.mem_of_getElem? (i := 881) (by decide +kernel), List.mem_of_getElem? (i := 1255) (by decide +kernel), List.mem_of_getElem? (i := 1256) (by decide +kernel)⟩
theorem lw_p71 : lw_okq (⟨"ShownOnceModel", "readCut", "()I"⟩, 34) := ⟨⟨by decide +kernel, by decide +kernel⟩, List.mem_of_getElem? (i := 881) (by decide +kernel), List.mem_of_getElem? (i := 1259) (by decide +kernel), List.mem_of_getElem? (i := 1260) (by decide +kernel)⟩
theorem lw_p72 : lw_okq (⟨"ShownOnceModel", "readPlace", "()I"⟩, 34) := ⟨⟨by decide +kernel, by decide +kernel⟩, List.mem_of_getElem? (i := 881) (by decide +kernel), List.mem_of_getElem? (i := 1263) (by decide +kernel), List.mem_of_getElem? (i := 1264) (by decide +kernel)⟩
theorem lw_p73 : lw_okq (⟨"ShownOnceModel", "oneOf", "(JI)I"⟩, 34) := ⟨⟨by decide +kernel, by decide +kernel⟩, List.mem_of_getElem? (i := 881) (by decide +kernel), List.mem_of_getElem? (i := 1268) (by decide +kernel), List.mem_of_getElem? (i := 1269) (by decide +kernel)⟩
theorem lw_p74 : lw_okq (⟨"ShownOnceModel", "isKept", "(I)Z"⟩, 34) := ⟨⟨by decide +kernel, by decide +kernel⟩, List.mem_of_getElem? (i := 881) (by decide +kernel), List.mem_of_getElem? (i := 1279) (by decide +kernel), List.mem_of_getElem? (i := 1280) (by decide +kernel)⟩
theorem lw_p75 : lw_okq (⟨"ShownOnceModel", "lacksRow", "(II)I"⟩, 34) := ⟨⟨by decide +kernel, by decide +kernel⟩, List.mem_of_getElem? (i := 881) (by decide +kernel), List.mem_of_getElem? (i := 1307) (by decide +kernel), List.mem_of_getElem? (i := 1308) (by decide +kernel)⟩
def lw_privs_5 : List (MethodName × Nat) := [(⟨"ShownOnceModel", "findShape", "([III)V"⟩, 34), (⟨"ShownOnceModel", "hasShape", "(I)Z"⟩, 34), (⟨"ShownOnceModel", "fitsBut", "(I)Z"⟩, 34), (⟨"ShownOnceModel", "addKept", "([I)I"⟩, 34), (⟨"ShownOnceModel", "readProgram", "()Z"⟩, 34), (⟨"ShownOnceModel", "next", "()I"⟩, 34), (⟨"ShownOnceModel", "readTyped", "()I"⟩, 34), (⟨"ShownOnceModel", "readCut", "()I"⟩, 34), (⟨"ShownOnceModel", "readPlace", "()I"⟩, 34), (⟨"ShownOnceModel", "oneOf", "(JI)I"⟩, 34), (⟨"ShownOnceModel", "isKept", "(I)Z"⟩, 34), (⟨"ShownOnceModel", "lacksRow", "(II)I"⟩, 34)]
theorem lw_r5 : ∀ q ∈ lw_privs_5, lw_okq q := List.forall_mem_cons.mpr ⟨lw_p64, List.forall_mem_cons.mpr ⟨lw_p65, List.forall_mem_cons.mpr ⟨lw_p66, List.forall_mem_cons.mpr ⟨lw_p67, List.forall_mem_cons.mpr ⟨lw_p68, List.forall_mem_cons.mpr ⟨lw_p69, List.forall_mem_cons.mpr ⟨lw_p70, List.forall_mem_cons.mpr ⟨lw_p71, List.forall_mem_cons.mpr ⟨lw_p72, List.forall_mem_cons.mpr ⟨lw_p73, List.forall_mem_cons.mpr ⟨lw_p74, List.forall_mem_cons.mpr ⟨lw_p75, fun _ h => absurd h List.not_mem_nil⟩⟩⟩⟩⟩⟩⟩⟩⟩⟩⟩⟩
def lw_privs : List (MethodName × Nat) := lw_privs_1 ++ (lw_privs_2 ++ (lw_privs_3 ++ (lw_privs_4 ++ (lw_privs_5))))
def lw_tbl : List Cond := k2_sels lw_privs ++ tables_1
theorem lw_privs_ok : ∀ q ∈ lw_privs, lw_okq q := by
  show ∀ q ∈ lw_privs_1 ++ (lw_privs_2 ++ (lw_privs_3 ++ (lw_privs_4 ++ (lw_privs_5)))), lw_okq q
  exact List.forall_mem_append.mpr ⟨lw_r1, List.forall_mem_append.mpr ⟨lw_r2, List.forall_mem_append.mpr ⟨lw_r3, List.forall_mem_append.mpr ⟨lw_r4, lw_r5⟩⟩⟩⟩
end
section
def RX0 : String := "ShownOnce$Fit"
def TX0 : u_T := fun k => match k with
  | 0 => ("ShownOnce$Fit", "shown", "[LShownOnce$Thing;", true)
  | 1 => ("ShownOnce$Fit", "shownCount", "I", false)
  | 2 => ("ShownOnce$Fit", "full", "I", false)
  | 3 => ("ShownOnce$Fit", "step", "I", false)
  | 4 => ("ShownOnce$Fit", "commonPlaces", "[I", true)
  | 5 => ("ShownOnce$Fit", "commonCount", "I", false)
  | 6 => ("ShownOnce$Fit", "firsts", "[I", true)
  | 7 => ("ShownOnce$Fit", "stops", "[I", true)
  | 8 => ("ShownOnce$Fit", "followers", "[B", true)
  | 9 => ("ShownOnce$Fit", "firstCount", "I", false)
  | 10 => ("ShownOnce$Fit", "lasts", "LShownOnce$Lasts;", true)
  | 11 => ("ShownOnce$Fit", "wholes", "[I", true)
  | 12 => ("ShownOnce$Fit", "wholeCount", "I", false)
  | 13 => ("ShownOnce$Fit", "pairs", "I", false)
  | 14 => ("ShownOnce$Fit", "triples", "I", false)
  | 15 => ("ShownOnce$Fit", "nearest", "[LShownOnce$Program;", true)
  | _ => ("ShownOnce$Fit", "nearestCount", "I", false)
def tyX0 : Nat → FieldType := fun k => match k with
  | 0 => .array (.object "ShownOnce$Thing")
  | 1 => .int
  | 2 => .int
  | 3 => .int
  | 4 => .array .int
  | 5 => .int
  | 6 => .array .int
  | 7 => .array .int
  | 8 => .array .byte
  | 9 => .int
  | 10 => .object "ShownOnce$Lasts"
  | 11 => .array .int
  | 12 => .int
  | 13 => .int
  | 14 => .int
  | 15 => .array (.object "ShownOnce$Program")
  | _ => .int
abbrev wsX00 : List Cond := u_ws RX0 TX0 17
theorem nmX0 : ∀ a, a < 17 → ∀ b, b < 17 → a ≠ b → (TX0 a).2.1 ≠ (TX0 b).2.1 := by decide +kernel
theorem tyX0_ok : ∀ k, k < 17 → parseFieldDescriptor (TX0 k).2.2.1 = some (tyX0 k) := by decide +kernel
abbrev cX0_init : ByteArray := prog_2_method_1_code
def yX0_init : MethodName := ⟨RX0, "<init>", "()V"⟩
abbrev cX0_clear : ByteArray := prog_2_method_2_code
def yX0_clear : MethodName := ⟨RX0, "clear", "()V"⟩
abbrev cX0_take : ByteArray := prog_2_method_3_code
def yX0_take : MethodName := ⟨RX0, "take", "(LShownOnce$Thing;)V"⟩
abbrev cX0_howMany : ByteArray := prog_2_method_4_code
def yX0_howMany : MethodName := ⟨RX0, "howMany", "(I)I"⟩
abbrev cX0_measure : ByteArray := prog_2_method_5_code
def yX0_measure : MethodName := ⟨RX0, "measure", "()V"⟩
abbrev cX0_findCommonPlaces : ByteArray := prog_2_method_6_code
def yX0_findCommonPlaces : MethodName := ⟨RX0, "findCommonPlaces", "()V"⟩
abbrev cX0_addCuts : ByteArray := prog_2_method_7_code
def yX0_addCuts : MethodName := ⟨RX0, "addCuts", "(II)V"⟩
abbrev cX0_addTyped : ByteArray := prog_2_method_8_code
def yX0_addTyped : MethodName := ⟨RX0, "addTyped", "(I)V"⟩
abbrev cX0_addFirst : ByteArray := prog_2_method_9_code
def yX0_addFirst : MethodName := ⟨RX0, "addFirst", "(II)V"⟩
abbrev cX0_leastSize : ByteArray := prog_2_method_10_code
def yX0_leastSize : MethodName := ⟨RX0, "leastSize", "()I"⟩
abbrev cX0_typedIn : ByteArray := prog_2_method_11_code
def yX0_typedIn : MethodName := ⟨RX0, "typedIn", "(II)I"⟩
abbrev cX0_joinPieces : ByteArray := prog_2_method_12_code
def yX0_joinPieces : MethodName := ⟨RX0, "joinPieces", "()V"⟩
abbrev cX0_rank : ByteArray := prog_2_method_13_code
def yX0_rank : MethodName := ⟨RX0, "rank", "()V"⟩
abbrev cX0_isRanked : ByteArray := prog_2_method_14_code
def yX0_isRanked : MethodName := ⟨RX0, "isRanked", "()Z"⟩
abbrev cX0_rankWholes : ByteArray := prog_2_method_15_code
def yX0_rankWholes : MethodName := ⟨RX0, "rankWholes", "(I)V"⟩
abbrev cX0_rankPairs : ByteArray := prog_2_method_16_code
def yX0_rankPairs : MethodName := ⟨RX0, "rankPairs", "(II)V"⟩
abbrev cX0_rankTriples : ByteArray := prog_2_method_17_code
def yX0_rankTriples : MethodName := ⟨RX0, "rankTriples", "(II)V"⟩
abbrev cX0_nextNearest : ByteArray := prog_2_method_18_code
def yX0_nextNearest : MethodName := ⟨RX0, "nextNearest", "()LShownOnce$Program;"⟩
def RX1 : String := "ShownOnce$Kinds"
def TX1 : u_T := fun k => match k with
  | _ => ("", "", "", false)
def tyX1 : Nat → FieldType := fun k => match k with
  | _ => .int
abbrev wsX10 : List Cond := u_ws RX1 TX1 0
theorem nmX1 : ∀ a, a < 0 → ∀ b, b < 0 → a ≠ b → (TX1 a).2.1 ≠ (TX1 b).2.1 := by decide +kernel
theorem tyX1_ok : ∀ k, k < 0 → parseFieldDescriptor (TX1 k).2.2.1 = some (tyX1 k) := by decide +kernel
abbrev cX1_isDigit : ByteArray := prog_3_method_2_code
def yX1_isDigit : MethodName := ⟨RX1, "isDigit", "(I)Z"⟩
abbrev cX1_isCapital : ByteArray := prog_3_method_3_code
def yX1_isCapital : MethodName := ⟨RX1, "isCapital", "(I)Z"⟩
abbrev cX1_isSmall : ByteArray := prog_3_method_4_code
def yX1_isSmall : MethodName := ⟨RX1, "isSmall", "(I)Z"⟩
abbrev cX1_isOfRun : ByteArray := prog_3_method_5_code
def yX1_isOfRun : MethodName := ⟨RX1, "isOfRun", "(II)Z"⟩
abbrev cX1_turned : ByteArray := prog_3_method_6_code
def yX1_turned : MethodName := ⟨RX1, "turned", "(II)I"⟩
abbrev cX1_shapeKindOf : ByteArray := prog_3_method_7_code
def yX1_shapeKindOf : MethodName := ⟨RX1, "shapeKindOf", "(I)I"⟩
abbrev cX1_shapeOf : ByteArray := prog_3_method_8_code
def yX1_shapeOf : MethodName := ⟨RX1, "shapeOf", "(LShownOnce$Row;)I"⟩
def RX2 : String := "ShownOnce$Lasts"
def TX2 : u_T := fun k => match k with
  | 0 => ("ShownOnce$Lasts", "groupOf", "[S", true)
  | 1 => ("ShownOnce$Lasts", "startOf", "[I", true)
  | 2 => ("ShownOnce$Lasts", "ways", "[I", true)
  | 3 => ("ShownOnce$Lasts", "heads", "[I", true)
  | 4 => ("ShownOnce$Lasts", "tails", "[I", true)
  | 5 => ("ShownOnce$Lasts", "groups", "I", false)
  | 6 => ("ShownOnce$Lasts", "pieces", "[I", true)
  | 7 => ("ShownOnce$Lasts", "nexts", "[I", true)
  | _ => ("ShownOnce$Lasts", "size", "I", false)
def tyX2 : Nat → FieldType := fun k => match k with
  | 0 => .array .short
  | 1 => .array .int
  | 2 => .array .int
  | 3 => .array .int
  | 4 => .array .int
  | 5 => .int
  | 6 => .array .int
  | 7 => .array .int
  | _ => .int
abbrev wsX20 : List Cond := u_ws RX2 TX2 9
theorem nmX2 : ∀ a, a < 9 → ∀ b, b < 9 → a ≠ b → (TX2 a).2.1 ≠ (TX2 b).2.1 := by decide +kernel
theorem tyX2_ok : ∀ k, k < 9 → parseFieldDescriptor (TX2 k).2.2.1 = some (tyX2 k) := by decide +kernel
abbrev cX2_init : ByteArray := prog_4_method_1_code
def yX2_init : MethodName := ⟨RX2, "<init>", "()V"⟩
abbrev cX2_clear : ByteArray := prog_4_method_2_code
def yX2_clear : MethodName := ⟨RX2, "clear", "()V"⟩
abbrev cX2_add : ByteArray := prog_4_method_3_code
def yX2_add : MethodName := ⟨RX2, "add", "(II)V"⟩
abbrev cX2_openGroup : ByteArray := prog_4_method_4_code
def yX2_openGroup : MethodName := ⟨RX2, "openGroup", "(I)V"⟩
abbrev cX2_waysFrom : ByteArray := prog_4_method_5_code
def yX2_waysFrom : MethodName := ⟨RX2, "waysFrom", "(I)I"⟩
abbrev cX2_headOf : ByteArray := prog_4_method_6_code
def yX2_headOf : MethodName := ⟨RX2, "headOf", "(II)I"⟩
abbrev cX2_nextOf : ByteArray := prog_4_method_7_code
def yX2_nextOf : MethodName := ⟨RX2, "nextOf", "(I)I"⟩
abbrev cX2_pieceAt : ByteArray := prog_4_method_8_code
def yX2_pieceAt : MethodName := ⟨RX2, "pieceAt", "(I)I"⟩
def RX3 : String := "ShownOnce$Program"
def TX3 : u_T := fun k => match k with
  | 0 => ("ShownOnce$Program", "pieces", "[I", true)
  | _ => ("ShownOnce$Program", "size", "I", false)
def tyX3 : Nat → FieldType := fun k => match k with
  | 0 => .array .int
  | _ => .int
abbrev wsX30 : List Cond := u_ws RX3 TX3 2
theorem nmX3 : ∀ a, a < 2 → ∀ b, b < 2 → a ≠ b → (TX3 a).2.1 ≠ (TX3 b).2.1 := by decide +kernel
theorem tyX3_ok : ∀ k, k < 2 → parseFieldDescriptor (TX3 k).2.2.1 = some (tyX3 k) := by decide +kernel
abbrev cX3_init : ByteArray := prog_5_method_1_code
def yX3_init : MethodName := ⟨RX3, "<init>", "()V"⟩
abbrev cX3_costOf : ByteArray := prog_5_method_2_code
def yX3_costOf : MethodName := ⟨RX3, "costOf", "(I)I"⟩
abbrev cX3_clear : ByteArray := prog_5_method_3_code
def yX3_clear : MethodName := ⟨RX3, "clear", "()V"⟩
abbrev cX3_add : ByteArray := prog_5_method_4_code
def yX3_add : MethodName := ⟨RX3, "add", "(I)V"⟩
abbrev cX3_copyOf : ByteArray := prog_5_method_5_code
def yX3_copyOf : MethodName := ⟨RX3, "copyOf", "(LShownOnce$Program;)V"⟩
abbrev cX3_endsWithCut : ByteArray := prog_5_method_6_code
def yX3_endsWithCut : MethodName := ⟨RX3, "endsWithCut", "()Z"⟩
abbrev cX3_pieceCount : ByteArray := prog_5_method_7_code
def yX3_pieceCount : MethodName := ⟨RX3, "pieceCount", "()I"⟩
abbrev cX3_told : ByteArray := prog_5_method_8_code
def yX3_told : MethodName := ⟨RX3, "told", "(I)I"⟩
abbrev cX3_makeOf : ByteArray := prog_5_method_9_code
def yX3_makeOf : MethodName := ⟨RX3, "makeOf", "(LShownOnce$Thing;LShownOnce$Row;)Z"⟩
abbrev cX3_writeTyped : ByteArray := prog_5_method_10_code
def yX3_writeTyped : MethodName := ⟨RX3, "writeTyped", "(ILShownOnce$Row;)V"⟩
def RX4 : String := "ShownOnce$Row"
def TX4 : u_T := fun k => match k with
  | 0 => ("ShownOnce$Row", "bytes", "[B", true)
  | _ => ("ShownOnce$Row", "size", "I", false)
def tyX4 : Nat → FieldType := fun k => match k with
  | 0 => .array .byte
  | _ => .int
abbrev wsX40 : List Cond := u_ws RX4 TX4 2
theorem nmX4 : ∀ a, a < 2 → ∀ b, b < 2 → a ≠ b → (TX4 a).2.1 ≠ (TX4 b).2.1 := by decide +kernel
theorem tyX4_ok : ∀ k, k < 2 → parseFieldDescriptor (TX4 k).2.2.1 = some (tyX4 k) := by decide +kernel
abbrev cX4_init : ByteArray := prog_6_method_1_code
def yX4_init : MethodName := ⟨RX4, "<init>", "(I)V"⟩
abbrev cX4_clear : ByteArray := prog_6_method_2_code
def yX4_clear : MethodName := ⟨RX4, "clear", "()V"⟩
abbrev cX4_add : ByteArray := prog_6_method_3_code
def yX4_add : MethodName := ⟨RX4, "add", "(I)V"⟩
abbrev cX4_told : ByteArray := prog_6_method_4_code
def yX4_told : MethodName := ⟨RX4, "told", "(I)I"⟩
abbrev cX4_copyOf : ByteArray := prog_6_method_5_code
def yX4_copyOf : MethodName := ⟨RX4, "copyOf", "(LShownOnce$Row;)V"⟩
abbrev cX4_isLike : ByteArray := prog_6_method_6_code
def yX4_isLike : MethodName := ⟨RX4, "isLike", "(LShownOnce$Row;)Z"⟩
def RX5 : String := "ShownOnce$Sheet"
def TX5 : u_T := fun k => match k with
  | 0 => ("ShownOnce$Sheet", "items", "[I", true)
  | 1 => ("ShownOnce$Sheet", "size", "I", false)
  | _ => ("ShownOnce$Sheet", "lane", "I", false)
def tyX5 : Nat → FieldType := fun k => match k with
  | 0 => .array .int
  | 1 => .int
  | _ => .int
abbrev wsX50 : List Cond := u_ws RX5 TX5 3
theorem nmX5 : ∀ a, a < 3 → ∀ b, b < 3 → a ≠ b → (TX5 a).2.1 ≠ (TX5 b).2.1 := by decide +kernel
theorem tyX5_ok : ∀ k, k < 3 → parseFieldDescriptor (TX5 k).2.2.1 = some (tyX5 k) := by decide +kernel
abbrev cX5_init : ByteArray := prog_7_method_1_code
def yX5_init : MethodName := ⟨RX5, "<init>", "()V"⟩
abbrev cX5_isThere : ByteArray := prog_7_method_2_code
def yX5_isThere : MethodName := ⟨RX5, "isThere", "()Z"⟩
abbrev cX5_renew : ByteArray := prog_7_method_3_code
def yX5_renew : MethodName := ⟨RX5, "renew", "(II)V"⟩
abbrev cX5_vanish : ByteArray := prog_7_method_4_code
def yX5_vanish : MethodName := ⟨RX5, "vanish", "()V"⟩
abbrev cX5_refusalOf : ByteArray := prog_7_method_5_code
def yX5_refusalOf : MethodName := ⟨RX5, "refusalOf", "(I)I"⟩
abbrev cX5_holds : ByteArray := prog_7_method_6_code
def yX5_holds : MethodName := ⟨RX5, "holds", "(II)Z"⟩
abbrev cX5_write : ByteArray := prog_7_method_7_code
def yX5_write : MethodName := ⟨RX5, "write", "(II)V"⟩
def RX6 : String := "ShownOnce$Tally"
def TX6 : u_T := fun k => match k with
  | 0 => ("ShownOnce$Tally", "rows", "[LShownOnce$Row;", true)
  | 1 => ("ShownOnce$Tally", "makers", "[I", true)
  | _ => ("ShownOnce$Tally", "ends", "I", false)
def tyX6 : Nat → FieldType := fun k => match k with
  | 0 => .array (.object "ShownOnce$Row")
  | 1 => .array .int
  | _ => .int
abbrev wsX60 : List Cond := u_ws RX6 TX6 3
theorem nmX6 : ∀ a, a < 3 → ∀ b, b < 3 → a ≠ b → (TX6 a).2.1 ≠ (TX6 b).2.1 := by decide +kernel
theorem tyX6_ok : ∀ k, k < 3 → parseFieldDescriptor (TX6 k).2.2.1 = some (tyX6 k) := by decide +kernel
abbrev cX6_init : ByteArray := prog_8_method_1_code
def yX6_init : MethodName := ⟨RX6, "<init>", "()V"⟩
abbrev cX6_take : ByteArray := prog_8_method_2_code
def yX6_take : MethodName := ⟨RX6, "take", "(LShownOnce$Fit;LShownOnce$Thing;)V"⟩
abbrev cX6_likeLatest : ByteArray := prog_8_method_3_code
def yX6_likeLatest : MethodName := ⟨RX6, "likeLatest", "()I"⟩
abbrev cX6_greatest : ByteArray := prog_8_method_4_code
def yX6_greatest : MethodName := ⟨RX6, "greatest", "()I"⟩
def RX7 : String := "ShownOnce$TextReader"
def TX7 : u_T := fun k => match k with
  | 0 => ("ShownOnce$TextReader", "program", "LShownOnce$Program;", true)
  | 1 => ("ShownOnce$TextReader", "told", "LShownOnce$Row;", true)
  | _ => ("ShownOnce$TextReader", "at", "I", false)
def tyX7 : Nat → FieldType := fun k => match k with
  | 0 => .object "ShownOnce$Program"
  | 1 => .object "ShownOnce$Row"
  | _ => .int
abbrev wsX70 : List Cond := u_ws RX7 TX7 3
theorem nmX7 : ∀ a, a < 3 → ∀ b, b < 3 → a ≠ b → (TX7 a).2.1 ≠ (TX7 b).2.1 := by decide +kernel
theorem tyX7_ok : ∀ k, k < 3 → parseFieldDescriptor (TX7 k).2.2.1 = some (tyX7 k) := by decide +kernel
abbrev cX7_init : ByteArray := prog_9_method_1_code
def yX7_init : MethodName := ⟨RX7, "<init>", "()V"⟩
abbrev cX7_read : ByteArray := prog_9_method_2_code
def yX7_read : MethodName := ⟨RX7, "read", "(LShownOnce$Row;)I"⟩
abbrev cX7_canGoOn : ByteArray := prog_9_method_3_code
def yX7_canGoOn : MethodName := ⟨RX7, "canGoOn", "()Z"⟩
abbrev cX7_look : ByteArray := prog_9_method_4_code
def yX7_look : MethodName := ⟨RX7, "look", "()I"⟩
abbrev cX7_readPiece : ByteArray := prog_9_method_5_code
def yX7_readPiece : MethodName := ⟨RX7, "readPiece", "()Z"⟩
abbrev cX7_readTyped : ByteArray := prog_9_method_6_code
def yX7_readTyped : MethodName := ⟨RX7, "readTyped", "()Z"⟩
abbrev cX7_readCut : ByteArray := prog_9_method_7_code
def yX7_readCut : MethodName := ⟨RX7, "readCut", "()Z"⟩
abbrev cX7_readTurn : ByteArray := prog_9_method_8_code
def yX7_readTurn : MethodName := ⟨RX7, "readTurn", "()I"⟩
abbrev cX7_readPlace : ByteArray := prog_9_method_9_code
def yX7_readPlace : MethodName := ⟨RX7, "readPlace", "()I"⟩
abbrev cX7_readDistance : ByteArray := prog_9_method_10_code
def yX7_readDistance : MethodName := ⟨RX7, "readDistance", "(I)I"⟩
abbrev cX7_readRun : ByteArray := prog_9_method_11_code
def yX7_readRun : MethodName := ⟨RX7, "readRun", "(I)I"⟩
def RX8 : String := "ShownOnce$Thing"
def TX8 : u_T := fun k => match k with
  | 0 => ("ShownOnce$Thing", "line", "LShownOnce$Row;", true)
  | 1 => ("ShownOnce$Thing", "places", "[I", true)
  | 2 => ("ShownOnce$Thing", "end", "LShownOnce$Row;", true)
  | 3 => ("ShownOnce$Thing", "state", "I", false)
  | _ => ("ShownOnce$Thing", "spans", "[B", true)
def tyX8 : Nat → FieldType := fun k => match k with
  | 0 => .object "ShownOnce$Row"
  | 1 => .array .int
  | 2 => .object "ShownOnce$Row"
  | 3 => .int
  | _ => .array .byte
abbrev wsX80 : List Cond := u_ws RX8 TX8 5
theorem nmX8 : ∀ a, a < 5 → ∀ b, b < 5 → a ≠ b → (TX8 a).2.1 ≠ (TX8 b).2.1 := by decide +kernel
theorem tyX8_ok : ∀ k, k < 5 → parseFieldDescriptor (TX8 k).2.2.1 = some (tyX8 k) := by decide +kernel
abbrev cX8_init : ByteArray := prog_10_method_1_code
def yX8_init : MethodName := ⟨RX8, "<init>", "()V"⟩
abbrev cX8_findPlaces : ByteArray := prog_10_method_2_code
def yX8_findPlaces : MethodName := ⟨RX8, "findPlaces", "()V"⟩
abbrev cX8_findRuns : ByteArray := prog_10_method_3_code
def yX8_findRuns : MethodName := ⟨RX8, "findRuns", "(II)V"⟩
abbrev cX8_setRun : ByteArray := prog_10_method_4_code
def yX8_setRun : MethodName := ⟨RX8, "setRun", "(III)V"⟩
abbrev cX8_cutInto : ByteArray := prog_10_method_5_code
def yX8_cutInto : MethodName := ⟨RX8, "cutInto", "(ILShownOnce$Row;)Z"⟩
abbrev cX8_compareSpans : ByteArray := prog_10_method_6_code
def yX8_compareSpans : MethodName := ⟨RX8, "compareSpans", "()V"⟩
abbrev cX8_markBeginnings : ByteArray := prog_10_method_7_code
def yX8_markBeginnings : MethodName := ⟨RX8, "markBeginnings", "(II)V"⟩
abbrev cX8_markClosings : ByteArray := prog_10_method_8_code
def yX8_markClosings : MethodName := ⟨RX8, "markClosings", "(II)V"⟩
abbrev cX8_spanBits : ByteArray := prog_10_method_9_code
def yX8_spanBits : MethodName := ⟨RX8, "spanBits", "(II)I"⟩
def RX9 : String := "ShownOnce"
def TX9 : u_T := fun k => match k with
  | 0 => ("ShownOnce", "tape", "LShownOnce$Row;", true)
  | 1 => ("ShownOnce", "scratch", "LShownOnce$Row;", true)
  | 2 => ("ShownOnce", "things", "[LShownOnce$Thing;", true)
  | 3 => ("ShownOnce", "thingCount", "I", false)
  | 4 => ("ShownOnce", "fit", "LShownOnce$Fit;", true)
  | 5 => ("ShownOnce", "fitIsFresh", "Z", false)
  | 6 => ("ShownOnce", "slipBits", "I", false)
  | 7 => ("ShownOnce", "tally", "LShownOnce$Tally;", true)
  | 8 => ("ShownOnce", "doings", "[I", true)
  | 9 => ("ShownOnce", "doingCount", "I", false)
  | 10 => ("ShownOnce", "programs", "[LShownOnce$Program;", true)
  | 11 => ("ShownOnce", "programCount", "I", false)
  | 12 => ("ShownOnce", "reader", "LShownOnce$TextReader;", true)
  | _ => ("ShownOnce", "sheets", "[LShownOnce$Sheet;", true)
def tyX9 : Nat → FieldType := fun k => match k with
  | 0 => .object "ShownOnce$Row"
  | 1 => .object "ShownOnce$Row"
  | 2 => .array (.object "ShownOnce$Thing")
  | 3 => .int
  | 4 => .object "ShownOnce$Fit"
  | 5 => .boolean
  | 6 => .int
  | 7 => .object "ShownOnce$Tally"
  | 8 => .array .int
  | 9 => .int
  | 10 => .array (.object "ShownOnce$Program")
  | 11 => .int
  | 12 => .object "ShownOnce$TextReader"
  | _ => .array (.object "ShownOnce$Sheet")
abbrev wsX90 : List Cond := u_ws RX9 TX9 14
theorem nmX9 : ∀ a, a < 14 → ∀ b, b < 14 → a ≠ b → (TX9 a).2.1 ≠ (TX9 b).2.1 := by decide +kernel
theorem tyX9_ok : ∀ k, k < 14 → parseFieldDescriptor (TX9 k).2.2.1 = some (tyX9 k) := by decide +kernel
abbrev cX9_init : ByteArray := prog_1_method_1_code
def yX9_init : MethodName := ⟨RX9, "<init>", "()V"⟩
abbrev cX9_type : ByteArray := prog_1_method_2_code
def yX9_type : MethodName := ⟨RX9, "type", "(JI)I"⟩
abbrev cX9_thing : ByteArray := prog_1_method_3_code
def yX9_thing : MethodName := ⟨RX9, "thing", "()I"⟩
abbrev cX9_line : ByteArray := prog_1_method_4_code
def yX9_line : MethodName := ⟨RX9, "line", "(IIII)I"⟩
abbrev cX9_byteAt : ByteArray := prog_1_method_5_code
def yX9_byteAt : MethodName := ⟨RX9, "byteAt", "(II)I"⟩
abbrev cX9_place : ByteArray := prog_1_method_6_code
def yX9_place : MethodName := ⟨RX9, "place", "(II)I"⟩
abbrev cX9_made : ByteArray := prog_1_method_7_code
def yX9_made : MethodName := ⟨RX9, "made", "(III)I"⟩
abbrev cX9_show : ByteArray := prog_1_method_8_code
def yX9_show : MethodName := ⟨RX9, "show", "(I)I"⟩
abbrev cX9_forget : ByteArray := prog_1_method_9_code
def yX9_forget : MethodName := ⟨RX9, "forget", "(I)I"⟩
abbrev cX9_fitting : ByteArray := prog_1_method_10_code
def yX9_fitting : MethodName := ⟨RX9, "fitting", "(I)J"⟩
abbrev cX9_shortest : ByteArray := prog_1_method_11_code
def yX9_shortest : MethodName := ⟨RX9, "shortest", "(I)I"⟩
abbrev cX9_paper : ByteArray := prog_1_method_12_code
def yX9_paper : MethodName := ⟨RX9, "paper", "(II)I"⟩
abbrev cX9_differs : ByteArray := prog_1_method_13_code
def yX9_differs : MethodName := ⟨RX9, "differs", "(I)I"⟩
abbrev cX9_settle : ByteArray := prog_1_method_14_code
def yX9_settle : MethodName := ⟨RX9, "settle", "()I"⟩
abbrev cX9_odd : ByteArray := prog_1_method_15_code
def yX9_odd : MethodName := ⟨RX9, "odd", "(I)I"⟩
abbrev cX9_slips : ByteArray := prog_1_method_16_code
def yX9_slips : MethodName := ⟨RX9, "slips", "()I"⟩
abbrev cX9_state : ByteArray := prog_1_method_17_code
def yX9_state : MethodName := ⟨RX9, "state", "(I)I"⟩
abbrev cX9_doing : ByteArray := prog_1_method_18_code
def yX9_doing : MethodName := ⟨RX9, "doing", "(I)I"⟩
abbrev cX9_back : ByteArray := prog_1_method_19_code
def yX9_back : MethodName := ⟨RX9, "back", "()I"⟩
abbrev cX9_end : ByteArray := prog_1_method_20_code
def yX9_end : MethodName := ⟨RX9, "end", "(II)I"⟩
abbrev cX9_otherwise : ByteArray := prog_1_method_21_code
def yX9_otherwise : MethodName := ⟨RX9, "otherwise", "()I"⟩
abbrev cX9_keep : ByteArray := prog_1_method_22_code
def yX9_keep : MethodName := ⟨RX9, "keep", "()I"⟩
abbrev cX9_text : ByteArray := prog_1_method_23_code
def yX9_text : MethodName := ⟨RX9, "text", "()I"⟩
abbrev cX9_kept : ByteArray := prog_1_method_24_code
def yX9_kept : MethodName := ⟨RX9, "kept", "(II)I"⟩
abbrev cX9_run : ByteArray := prog_1_method_25_code
def yX9_run : MethodName := ⟨RX9, "run", "(III)I"⟩
abbrev cX9_count : ByteArray := prog_1_method_26_code
def yX9_count : MethodName := ⟨RX9, "count", "(I)I"⟩
abbrev cX9_sheet : ByteArray := prog_1_method_27_code
def yX9_sheet : MethodName := ⟨RX9, "sheet", "(III)I"⟩
abbrev cX9_drop : ByteArray := prog_1_method_28_code
def yX9_drop : MethodName := ⟨RX9, "drop", "(I)I"⟩
abbrev cX9_item : ByteArray := prog_1_method_29_code
def yX9_item : MethodName := ⟨RX9, "item", "(IIII)I"⟩
abbrev cX9_put : ByteArray := prog_1_method_30_code
def yX9_put : MethodName := ⟨RX9, "put", "(IIIII)I"⟩
abbrev cX9_isThing : ByteArray := prog_1_method_31_code
def yX9_isThing : MethodName := ⟨RX9, "isThing", "(I)Z"⟩
abbrev cX9_isProgram : ByteArray := prog_1_method_32_code
def yX9_isProgram : MethodName := ⟨RX9, "isProgram", "(I)Z"⟩
abbrev cX9_isCut : ByteArray := prog_1_method_33_code
def yX9_isCut : MethodName := ⟨RX9, "isCut", "(I)Z"⟩
abbrev cX9_isSheet : ByteArray := prog_1_method_34_code
def yX9_isSheet : MethodName := ⟨RX9, "isSheet", "(I)Z"⟩
abbrev cX9_isLane : ByteArray := prog_1_method_35_code
def yX9_isLane : MethodName := ⟨RX9, "isLane", "(I)Z"⟩
abbrev cX9_isLineByte : ByteArray := prog_1_method_36_code
def yX9_isLineByte : MethodName := ⟨RX9, "isLineByte", "(I)Z"⟩
abbrev cX9_byteOf : ByteArray := prog_1_method_37_code
def yX9_byteOf : MethodName := ⟨RX9, "byteOf", "(JI)I"⟩
abbrev cX9_addThing : ByteArray := prog_1_method_38_code
def yX9_addThing : MethodName := ⟨RX9, "addThing", "(LShownOnce$Row;)I"⟩
abbrev cX9_showTapeOf : ByteArray := prog_1_method_39_code
def yX9_showTapeOf : MethodName := ⟨RX9, "showTapeOf", "(LShownOnce$Thing;)I"⟩
abbrev cX9_howMany : ByteArray := prog_1_method_40_code
def yX9_howMany : MethodName := ⟨RX9, "howMany", "(I)I"⟩
abbrev cX9_showingChanged : ByteArray := prog_1_method_41_code
def yX9_showingChanged : MethodName := ⟨RX9, "showingChanged", "()V"⟩
abbrev cX9_fitRefusal : ByteArray := prog_1_method_42_code
def yX9_fitRefusal : MethodName := ⟨RX9, "fitRefusal", "()I"⟩
abbrev cX9_measureWithout : ByteArray := prog_1_method_43_code
def yX9_measureWithout : MethodName := ⟨RX9, "measureWithout", "(I)V"⟩
abbrev cX9_leastSlips : ByteArray := prog_1_method_44_code
def yX9_leastSlips : MethodName := ⟨RX9, "leastSlips", "()I"⟩
abbrev cX9_spread : ByteArray := prog_1_method_45_code
def yX9_spread : MethodName := ⟨RX9, "spread", "(II)I"⟩
abbrev cX9_makesOddEnd : ByteArray := prog_1_method_46_code
def yX9_makesOddEnd : MethodName := ⟨RX9, "makesOddEnd", "(LShownOnce$Thing;)Z"⟩
abbrev cX9_keepProgram : ByteArray := prog_1_method_47_code
def yX9_keepProgram : MethodName := ⟨RX9, "keepProgram", "(LShownOnce$Program;)I"⟩
def RX10 : String := "ShownOnceModel"
def TX10 : u_T := fun k => match k with
  | 0 => ("ShownOnceModel", "things", "I", false)
  | 1 => ("ShownOnceModel", "bytes", "[I", true)
  | 2 => ("ShownOnceModel", "sizes", "[I", true)
  | 3 => ("ShownOnceModel", "states", "[I", true)
  | 4 => ("ShownOnceModel", "ends", "[I", true)
  | 5 => ("ShownOnceModel", "endSizes", "[I", true)
  | 6 => ("ShownOnceModel", "doneBy", "[I", true)
  | 7 => ("ShownOnceModel", "doings", "I", false)
  | 8 => ("ShownOnceModel", "tape", "[I", true)
  | 9 => ("ShownOnceModel", "taped", "I", false)
  | 10 => ("ShownOnceModel", "at", "I", false)
  | 11 => ("ShownOnceModel", "out", "[I", true)
  | 12 => ("ShownOnceModel", "outSize", "I", false)
  | 13 => ("ShownOnceModel", "shownMany", "I", false)
  | 14 => ("ShownOnceModel", "shown", "[I", true)
  | 15 => ("ShownOnceModel", "fronts", "I", false)
  | 16 => ("ShownOnceModel", "frontPiece", "[I", true)
  | 17 => ("ShownOnceModel", "frontLong", "[I", true)
  | 18 => ("ShownOnceModel", "behinds", "I", false)
  | 19 => ("ShownOnceModel", "behindPiece", "[I", true)
  | 20 => ("ShownOnceModel", "behindLong", "[I", true)
  | 21 => ("ShownOnceModel", "manyBehind", "[I", true)
  | 22 => ("ShownOnceModel", "near", "I", false)
  | 23 => ("ShownOnceModel", "nears", "[I", true)
  | 24 => ("ShownOnceModel", "nearEnds", "[I", true)
  | 25 => ("ShownOnceModel", "nearSizes", "[I", true)
  | 26 => ("ShownOnceModel", "shape", "[I", true)
  | 27 => ("ShownOnceModel", "shapeSize", "I", false)
  | 28 => ("ShownOnceModel", "keptMany", "I", false)
  | 29 => ("ShownOnceModel", "keeps", "[I", true)
  | 30 => ("ShownOnceModel", "read", "[I", true)
  | 31 => ("ShownOnceModel", "lanes", "[I", true)
  | 32 => ("ShownOnceModel", "rowSizes", "[I", true)
  | _ => ("ShownOnceModel", "items", "[I", true)
def tyX10 : Nat → FieldType := fun k => match k with
  | 0 => .int
  | 1 => .array .int
  | 2 => .array .int
  | 3 => .array .int
  | 4 => .array .int
  | 5 => .array .int
  | 6 => .array .int
  | 7 => .int
  | 8 => .array .int
  | 9 => .int
  | 10 => .int
  | 11 => .array .int
  | 12 => .int
  | 13 => .int
  | 14 => .array .int
  | 15 => .int
  | 16 => .array .int
  | 17 => .array .int
  | 18 => .int
  | 19 => .array .int
  | 20 => .array .int
  | 21 => .array .int
  | 22 => .int
  | 23 => .array .int
  | 24 => .array .int
  | 25 => .array .int
  | 26 => .array .int
  | 27 => .int
  | 28 => .int
  | 29 => .array .int
  | 30 => .array .int
  | 31 => .array .int
  | 32 => .array .int
  | _ => .array .int
abbrev wsX100 : List Cond := u_ws RX10 TX10 34
theorem nmX10 : ∀ a, a < 34 → ∀ b, b < 34 → a ≠ b → (TX10 a).2.1 ≠ (TX10 b).2.1 := by decide +kernel
theorem tyX10_ok : ∀ k, k < 34 → parseFieldDescriptor (TX10 k).2.2.1 = some (tyX10 k) := by decide +kernel
abbrev cX10_in : ByteArray := prog_12_method_1_code
def yX10_in : MethodName := ⟨RX10, "in", "(JJJ)Z"⟩
abbrev cX10_init : ByteArray := prog_12_method_2_code
def yX10_init : MethodName := ⟨RX10, "<init>", "()V"⟩
abbrev cX10_isThing : ByteArray := prog_12_method_3_code
def yX10_isThing : MethodName := ⟨RX10, "isThing", "(I)Z"⟩
abbrev cX10_type : ByteArray := prog_12_method_4_code
def yX10_type : MethodName := ⟨RX10, "type", "(JI)I"⟩
abbrev cX10_addThing : ByteArray := prog_12_method_5_code
def yX10_addThing : MethodName := ⟨RX10, "addThing", "(I)I"⟩
abbrev cX10_thing : ByteArray := prog_12_method_6_code
def yX10_thing : MethodName := ⟨RX10, "thing", "()I"⟩
abbrev cX10_byteAt : ByteArray := prog_12_method_7_code
def yX10_byteAt : MethodName := ⟨RX10, "byteAt", "(II)I"⟩
abbrev cX10_isDigit : ByteArray := prog_12_method_8_code
def yX10_isDigit : MethodName := ⟨RX10, "isDigit", "(I)Z"⟩
abbrev cX10_isCapital : ByteArray := prog_12_method_9_code
def yX10_isCapital : MethodName := ⟨RX10, "isCapital", "(I)Z"⟩
abbrev cX10_isSmall : ByteArray := prog_12_method_10_code
def yX10_isSmall : MethodName := ⟨RX10, "isSmall", "(I)Z"⟩
abbrev cX10_isSign : ByteArray := prog_12_method_11_code
def yX10_isSign : MethodName := ⟨RX10, "isSign", "(I)Z"⟩
abbrev cX10_isOf : ByteArray := prog_12_method_12_code
def yX10_isOf : MethodName := ⟨RX10, "isOf", "(II)Z"⟩
abbrev cX10_runOf : ByteArray := prog_12_method_13_code
def yX10_runOf : MethodName := ⟨RX10, "runOf", "(IIII)I"⟩
abbrev cX10_placeOf : ByteArray := prog_12_method_14_code
def yX10_placeOf : MethodName := ⟨RX10, "placeOf", "(II)I"⟩
abbrev cX10_place : ByteArray := prog_12_method_15_code
def yX10_place : MethodName := ⟨RX10, "place", "(II)I"⟩
abbrev cX10_turned : ByteArray := prog_12_method_16_code
def yX10_turned : MethodName := ⟨RX10, "turned", "(II)I"⟩
abbrev cX10_makePiece : ByteArray := prog_12_method_17_code
def yX10_makePiece : MethodName := ⟨RX10, "makePiece", "(II)Z"⟩
abbrev cX10_byteOf : ByteArray := prog_12_method_18_code
def yX10_byteOf : MethodName := ⟨RX10, "byteOf", "(I)I"⟩
abbrev cX10_made : ByteArray := prog_12_method_19_code
def yX10_made : MethodName := ⟨RX10, "made", "(III)I"⟩
abbrev cX10_findShown : ByteArray := prog_12_method_20_code
def yX10_findShown : MethodName := ⟨RX10, "findShown", "(I)V"⟩
abbrev cX10_countOf : ByteArray := prog_12_method_21_code
def yX10_countOf : MethodName := ⟨RX10, "countOf", "(I)I"⟩
abbrev cX10_show : ByteArray := prog_12_method_22_code
def yX10_show : MethodName := ⟨RX10, "show", "(I)I"⟩
abbrev cX10_forget : ByteArray := prog_12_method_23_code
def yX10_forget : MethodName := ⟨RX10, "forget", "(I)I"⟩
abbrev cX10_costOf : ByteArray := prog_12_method_24_code
def yX10_costOf : MethodName := ⟨RX10, "costOf", "(I)I"⟩
abbrev cX10_standsAt : ByteArray := prog_12_method_25_code
def yX10_standsAt : MethodName := ⟨RX10, "standsAt", "(II)Z"⟩
abbrev cX10_longOf : ByteArray := prog_12_method_26_code
def yX10_longOf : MethodName := ⟨RX10, "longOf", "(IZ)I"⟩
abbrev cX10_typedAt : ByteArray := prog_12_method_27_code
def yX10_typedAt : MethodName := ⟨RX10, "typedAt", "(II)I"⟩
abbrev cX10_noteFront : ByteArray := prog_12_method_28_code
def yX10_noteFront : MethodName := ⟨RX10, "noteFront", "(II)V"⟩
abbrev cX10_noteBehind : ByteArray := prog_12_method_29_code
def yX10_noteBehind : MethodName := ⟨RX10, "noteBehind", "(II)V"⟩
abbrev cX10_findPieces : ByteArray := prog_12_method_30_code
def yX10_findPieces : MethodName := ⟨RX10, "findPieces", "()V"⟩
abbrev cX10_leftOf : ByteArray := prog_12_method_31_code
def yX10_leftOf : MethodName := ⟨RX10, "leftOf", "(II)I"⟩
abbrev cX10_isAll : ByteArray := prog_12_method_32_code
def yX10_isAll : MethodName := ⟨RX10, "isAll", "(I)Z"⟩
abbrev cX10_fittingOf : ByteArray := prog_12_method_33_code
def yX10_fittingOf : MethodName := ⟨RX10, "fittingOf", "(I)J"⟩
abbrev cX10_fitting : ByteArray := prog_12_method_34_code
def yX10_fitting : MethodName := ⟨RX10, "fitting", "(I)J"⟩
abbrev cX10_noteNear : ByteArray := prog_12_method_35_code
def yX10_noteNear : MethodName := ⟨RX10, "noteNear", "(III)V"⟩
abbrev cX10_noteWith : ByteArray := prog_12_method_36_code
def yX10_noteWith : MethodName := ⟨RX10, "noteWith", "(IIII)V"⟩
abbrev cX10_findNearest : ByteArray := prog_12_method_37_code
def yX10_findNearest : MethodName := ⟨RX10, "findNearest", "()V"⟩
abbrev cX10_lacksFit : ByteArray := prog_12_method_38_code
def yX10_lacksFit : MethodName := ⟨RX10, "lacksFit", "()I"⟩
abbrev cX10_runRow : ByteArray := prog_12_method_39_code
def yX10_runRow : MethodName := ⟨RX10, "runRow", "([III)Z"⟩
abbrev cX10_toldOf : ByteArray := prog_12_method_40_code
def yX10_toldOf : MethodName := ⟨RX10, "toldOf", "([III)I"⟩
abbrev cX10_shortest : ByteArray := prog_12_method_41_code
def yX10_shortest : MethodName := ⟨RX10, "shortest", "(I)I"⟩
abbrev cX10_paper : ByteArray := prog_12_method_42_code
def yX10_paper : MethodName := ⟨RX10, "paper", "(II)I"⟩
abbrev cX10_findEnds : ByteArray := prog_12_method_43_code
def yX10_findEnds : MethodName := ⟨RX10, "findEnds", "(I)V"⟩
abbrev cX10_areAlike : ByteArray := prog_12_method_44_code
def yX10_areAlike : MethodName := ⟨RX10, "areAlike", "(II)Z"⟩
abbrev cX10_sortEnds : ByteArray := prog_12_method_45_code
def yX10_sortEnds : MethodName := ⟨RX10, "sortEnds", "(IZ)I"⟩
abbrev cX10_differs : ByteArray := prog_12_method_46_code
def yX10_differs : MethodName := ⟨RX10, "differs", "(I)I"⟩
abbrev cX10_settle : ByteArray := prog_12_method_47_code
def yX10_settle : MethodName := ⟨RX10, "settle", "()I"⟩
abbrev cX10_kindOf : ByteArray := prog_12_method_48_code
def yX10_kindOf : MethodName := ⟨RX10, "kindOf", "(I)I"⟩
abbrev cX10_findShape : ByteArray := prog_12_method_49_code
def yX10_findShape : MethodName := ⟨RX10, "findShape", "([III)V"⟩
abbrev cX10_hasShape : ByteArray := prog_12_method_50_code
def yX10_hasShape : MethodName := ⟨RX10, "hasShape", "(I)Z"⟩
abbrev cX10_isOdd : ByteArray := prog_12_method_51_code
def yX10_isOdd : MethodName := ⟨RX10, "isOdd", "(I)Z"⟩
abbrev cX10_odd : ByteArray := prog_12_method_52_code
def yX10_odd : MethodName := ⟨RX10, "odd", "(I)I"⟩
abbrev cX10_ones : ByteArray := prog_12_method_53_code
def yX10_ones : MethodName := ⟨RX10, "ones", "(I)I"⟩
abbrev cX10_fitsBut : ByteArray := prog_12_method_54_code
def yX10_fitsBut : MethodName := ⟨RX10, "fitsBut", "(I)Z"⟩
abbrev cX10_slips : ByteArray := prog_12_method_55_code
def yX10_slips : MethodName := ⟨RX10, "slips", "()I"⟩
abbrev cX10_state : ByteArray := prog_12_method_56_code
def yX10_state : MethodName := ⟨RX10, "state", "(I)I"⟩
abbrev cX10_doing : ByteArray := prog_12_method_57_code
def yX10_doing : MethodName := ⟨RX10, "doing", "(I)I"⟩
abbrev cX10_back : ByteArray := prog_12_method_58_code
def yX10_back : MethodName := ⟨RX10, "back", "()I"⟩
abbrev cX10_end : ByteArray := prog_12_method_59_code
def yX10_end : MethodName := ⟨RX10, "end", "(II)I"⟩
abbrev cX10_otherwise : ByteArray := prog_12_method_60_code
def yX10_otherwise : MethodName := ⟨RX10, "otherwise", "()I"⟩
abbrev cX10_addKept : ByteArray := prog_12_method_61_code
def yX10_addKept : MethodName := ⟨RX10, "addKept", "([I)I"⟩
abbrev cX10_keep : ByteArray := prog_12_method_62_code
def yX10_keep : MethodName := ⟨RX10, "keep", "()I"⟩
abbrev cX10_next : ByteArray := prog_12_method_63_code
def yX10_next : MethodName := ⟨RX10, "next", "()I"⟩
abbrev cX10_oneOf : ByteArray := prog_12_method_64_code
def yX10_oneOf : MethodName := ⟨RX10, "oneOf", "(JI)I"⟩
abbrev cX10_readPlace : ByteArray := prog_12_method_65_code
def yX10_readPlace : MethodName := ⟨RX10, "readPlace", "()I"⟩
abbrev cX10_readTyped : ByteArray := prog_12_method_66_code
def yX10_readTyped : MethodName := ⟨RX10, "readTyped", "()I"⟩
abbrev cX10_readCut : ByteArray := prog_12_method_67_code
def yX10_readCut : MethodName := ⟨RX10, "readCut", "()I"⟩
abbrev cX10_readProgram : ByteArray := prog_12_method_68_code
def yX10_readProgram : MethodName := ⟨RX10, "readProgram", "()Z"⟩
abbrev cX10_text : ByteArray := prog_12_method_69_code
def yX10_text : MethodName := ⟨RX10, "text", "()I"⟩
abbrev cX10_isKept : ByteArray := prog_12_method_70_code
def yX10_isKept : MethodName := ⟨RX10, "isKept", "(I)Z"⟩
abbrev cX10_kept : ByteArray := prog_12_method_71_code
def yX10_kept : MethodName := ⟨RX10, "kept", "(II)I"⟩
abbrev cX10_run : ByteArray := prog_12_method_72_code
def yX10_run : MethodName := ⟨RX10, "run", "(III)I"⟩
abbrev cX10_count : ByteArray := prog_12_method_73_code
def yX10_count : MethodName := ⟨RX10, "count", "(I)I"⟩
abbrev cX10_isSheet : ByteArray := prog_12_method_74_code
def yX10_isSheet : MethodName := ⟨RX10, "isSheet", "(II)Z"⟩
abbrev cX10_sheet : ByteArray := prog_12_method_75_code
def yX10_sheet : MethodName := ⟨RX10, "sheet", "(III)I"⟩
abbrev cX10_drop : ByteArray := prog_12_method_76_code
def yX10_drop : MethodName := ⟨RX10, "drop", "(I)I"⟩
abbrev cX10_lacksRow : ByteArray := prog_12_method_77_code
def yX10_lacksRow : MethodName := ⟨RX10, "lacksRow", "(II)I"⟩
abbrev cX10_item : ByteArray := prog_12_method_78_code
def yX10_item : MethodName := ⟨RX10, "item", "(IIII)I"⟩
abbrev cX10_line : ByteArray := prog_12_method_79_code
def yX10_line : MethodName := ⟨RX10, "line", "(IIII)I"⟩
abbrev cX10_put : ByteArray := prog_12_method_80_code
def yX10_put : MethodName := ⟨RX10, "put", "(IIIII)I"⟩
def RJ11 : String := "java/lang/Character"
def TJ11 : u_T := fun k => match k with
  | _ => ("", "", "", false)
def tyJ11 : Nat → FieldType := fun k => match k with
  | _ => .int
abbrev wsJ110 : List Cond := u_ws RJ11 TJ11 0
theorem nmJ11 : ∀ a, a < 0 → ∀ b, b < 0 → a ≠ b → (TJ11 a).2.1 ≠ (TJ11 b).2.1 := by decide +kernel
theorem tyJ11_ok : ∀ k, k < 0 → parseFieldDescriptor (TJ11 k).2.2.1 = some (tyJ11 k) := by decide +kernel
abbrev cJ11_isValidCodePoint_9a6ad : ByteArray := prog_13_method_11_code
def yJ11_isValidCodePoint_9a6ad : MethodName := ⟨RJ11, "isValidCodePoint", "(I)Z"⟩
abbrev cJ11_highSurrogate_5068e : ByteArray := prog_13_method_28_code
def yJ11_highSurrogate_5068e : MethodName := ⟨RJ11, "highSurrogate", "(I)C"⟩
abbrev cJ11_lowSurrogate_5068e : ByteArray := prog_13_method_29_code
def yJ11_lowSurrogate_5068e : MethodName := ⟨RJ11, "lowSurrogate", "(I)C"⟩
def RJ6 : String := "java/lang/Integer"
def TJ6 : u_T := fun k => match k with
  | _ => ("", "", "", false)
def tyJ6 : Nat → FieldType := fun k => match k with
  | _ => .int
abbrev wsJ60 : List Cond := u_ws RJ6 TJ6 0
theorem nmJ6 : ∀ a, a < 0 → ∀ b, b < 0 → a ≠ b → (TJ6 a).2.1 ≠ (TJ6 b).2.1 := by decide +kernel
theorem tyJ6_ok : ∀ k, k < 0 → parseFieldDescriptor (TJ6 k).2.2.1 = some (tyJ6 k) := by decide +kernel
abbrev cJ6_bitCount_0f7a4 : ByteArray := prog_14_method_49_code
def yJ6_bitCount_0f7a4 : MethodName := ⟨RJ6, "bitCount", "(I)I"⟩
def RJ9 : String := "java/lang/Math"
def TJ9 : u_T := fun k => match k with
  | _ => ("", "", "", false)
def tyJ9 : Nat → FieldType := fun k => match k with
  | _ => .int
abbrev wsJ90 : List Cond := u_ws RJ9 TJ9 0
theorem nmJ9 : ∀ a, a < 0 → ∀ b, b < 0 → a ≠ b → (TJ9 a).2.1 ≠ (TJ9 b).2.1 := by decide +kernel
theorem tyJ9_ok : ∀ k, k < 0 → parseFieldDescriptor (TJ9 k).2.2.1 = some (tyJ9 k) := by decide +kernel
abbrev cJ9_max_7cf53 : ByteArray := prog_15_method_65_code
def yJ9_max_7cf53 : MethodName := ⟨RJ9, "max", "(II)I"⟩
abbrev cJ9_min_7cf53 : ByteArray := prog_15_method_69_code
def yJ9_min_7cf53 : MethodName := ⟨RJ9, "min", "(II)I"⟩
def RJ0 : String := "java/lang/String"
def TJ0 : u_T := fun k => match k with
  | _ => ("", "", "", false)
def tyJ0 : Nat → FieldType := fun k => match k with
  | _ => .int
abbrev wsJ00 : List Cond := u_ws RJ0 TJ0 0
theorem nmJ0 : ∀ a, a < 0 → ∀ b, b < 0 → a ≠ b → (TJ0 a).2.1 ≠ (TJ0 b).2.1 := by decide +kernel
theorem tyJ0_ok : ∀ k, k < 0 → parseFieldDescriptor (TJ0 k).2.2.1 = some (tyJ0 k) := by decide +kernel
abbrev cJ0_length_8abf5 : ByteArray := prog_16_method_54_code
def yJ0_length_8abf5 : MethodName := ⟨RJ0, "length", "()I"⟩
abbrev cJ0_indexOf_0f7a4 : ByteArray := prog_16_method_79_code
def yJ0_indexOf_0f7a4 : MethodName := ⟨RJ0, "indexOf", "(I)I"⟩
abbrev cJ0_indexOf_7cf53 : ByteArray := prog_16_method_80_code
def yJ0_indexOf_7cf53 : MethodName := ⟨RJ0, "indexOf", "(II)I"⟩
abbrev cJ0_coder_7d493 : ByteArray := prog_16_method_152_code
def yJ0_coder_7d493 : MethodName := ⟨RJ0, "coder", "()B"⟩
abbrev cJ0_isLatin1_aae02 : ByteArray := prog_16_method_154_code
def yJ0_isLatin1_aae02 : MethodName := ⟨RJ0, "isLatin1", "()Z"⟩
abbrev cJ0_checkBoundsBeginEnd_23922 : ByteArray := prog_16_method_158_code
def yJ0_checkBoundsBeginEnd_23922 : MethodName := ⟨RJ0, "checkBoundsBeginEnd", "(III)V"⟩
def RJ1 : String := "java/lang/StringLatin1"
def TJ1 : u_T := fun k => match k with
  | _ => ("", "", "", false)
def tyJ1 : Nat → FieldType := fun k => match k with
  | _ => .int
abbrev wsJ10 : List Cond := u_ws RJ1 TJ1 0
theorem nmJ1 : ∀ a, a < 0 → ∀ b, b < 0 → a ≠ b → (TJ1 a).2.1 ≠ (TJ1 b).2.1 := by decide +kernel
theorem tyJ1_ok : ∀ k, k < 0 → parseFieldDescriptor (TJ1 k).2.2.1 = some (tyJ1 k) := by decide +kernel
abbrev cJ1_canEncode_9a6ad : ByteArray := prog_17_method_4_code
def yJ1_canEncode_9a6ad : MethodName := ⟨RJ1, "canEncode", "(I)Z"⟩
abbrev cJ1_indexOf_4cfef : ByteArray := prog_17_method_22_code
def yJ1_indexOf_4cfef : MethodName := ⟨RJ1, "indexOf", "([BIII)I"⟩
abbrev cJ1_indexOfChar_4cfef : ByteArray := prog_17_method_23_code
def yJ1_indexOfChar_4cfef : MethodName := ⟨RJ1, "indexOfChar", "([BIII)I"⟩
def RJ2 : String := "java/lang/StringUTF16"
def TJ2 : u_T := fun k => match k with
  | _ => ("", "", "", false)
def tyJ2 : Nat → FieldType := fun k => match k with
  | _ => .int
abbrev wsJ20 : List Cond := u_ws RJ2 TJ2 0
theorem nmJ2 : ∀ a, a < 0 → ∀ b, b < 0 → a ≠ b → (TJ2 a).2.1 ≠ (TJ2 b).2.1 := by decide +kernel
theorem tyJ2_ok : ∀ k, k < 0 → parseFieldDescriptor (TJ2 k).2.2.1 = some (tyJ2 k) := by decide +kernel
abbrev cJ2_getChar_3b067 : ByteArray := prog_18_method_5_code
def yJ2_getChar_3b067 : MethodName := ⟨RJ2, "getChar", "([BI)C"⟩
abbrev cJ2_length_9d52b : ByteArray := prog_18_method_6_code
def yJ2_length_9d52b : MethodName := ⟨RJ2, "length", "([B)I"⟩
abbrev cJ2_indexOf_4cfef : ByteArray := prog_18_method_40_code
def yJ2_indexOf_4cfef : MethodName := ⟨RJ2, "indexOf", "([BIII)I"⟩
abbrev cJ2_indexOfChar_4cfef : ByteArray := prog_18_method_47_code
def yJ2_indexOfChar_4cfef : MethodName := ⟨RJ2, "indexOfChar", "([BIII)I"⟩
abbrev cJ2_indexOfCharUnsafe_4cfef : ByteArray := prog_18_method_48_code
def yJ2_indexOfCharUnsafe_4cfef : MethodName := ⟨RJ2, "indexOfCharUnsafe", "([BIII)I"⟩
abbrev cJ2_indexOfSupplementary_4cfef : ByteArray := prog_18_method_49_code
def yJ2_indexOfSupplementary_4cfef : MethodName := ⟨RJ2, "indexOfSupplementary", "([BIII)I"⟩
abbrev cJ2_checkBoundsBeginEnd_d044e : ByteArray := prog_18_method_93_code
def yJ2_checkBoundsBeginEnd_d044e : MethodName := ⟨RJ2, "checkBoundsBeginEnd", "(II[B)V"⟩
def RJ7 : String := "java/util/Arrays"
def TJ7 : u_T := fun k => match k with
  | _ => ("", "", "", false)
def tyJ7 : Nat → FieldType := fun k => match k with
  | _ => .int
abbrev wsJ70 : List Cond := u_ws RJ7 TJ7 0
theorem nmJ7 : ∀ a, a < 0 → ∀ b, b < 0 → a ≠ b → (TJ7 a).2.1 ≠ (TJ7 b).2.1 := by decide +kernel
theorem tyJ7_ok : ∀ k, k < 0 → parseFieldDescriptor (TJ7 k).2.2.1 = some (tyJ7 k) := by decide +kernel
abbrev cJ7_fill_53178 : ByteArray := prog_19_method_103_code
def yJ7_fill_53178 : MethodName := ⟨RJ7, "fill", "([II)V"⟩
abbrev cJ7_fill_031fb : ByteArray := prog_19_method_109_code
def yJ7_fill_031fb : MethodName := ⟨RJ7, "fill", "([BB)V"⟩
def RJ3 : String := "jdk/internal/util/Preconditions"
def TJ3 : u_T := fun k => match k with
  | _ => ("", "", "", false)
def tyJ3 : Nat → FieldType := fun k => match k with
  | _ => .int
abbrev wsJ30 : List Cond := u_ws RJ3 TJ3 0
theorem nmJ3 : ∀ a, a < 0 → ∀ b, b < 0 → a ≠ b → (TJ3 a).2.1 ≠ (TJ3 b).2.1 := by decide +kernel
theorem tyJ3_ok : ∀ k, k < 0 → parseFieldDescriptor (TJ3 k).2.2.1 = some (tyJ3 k) := by decide +kernel
abbrev cJ3_checkFromToIndex_8c36e : ByteArray := prog_20_method_12_code
def yJ3_checkFromToIndex_8c36e : MethodName := ⟨RJ3, "checkFromToIndex", "(IIILjava/util/function/BiFunction;)I"⟩
def RL : String := "ShownOnceLaw"
abbrev cL_law : ByteArray := code
def yL_law : MethodName := ⟨RL, "law", "([I)Z"⟩
abbrev vwCl : List vw_C := [(RX0, TX0, 17), (RX2, TX2, 9), (RX3, TX3, 2), (RX4, TX4, 2), (RX5, TX5, 3), (RX6, TX6, 3), (RX7, TX7, 3), (RX8, TX8, 5), (RX9, TX9, 14), (RX10, TX10, 34)]
end
section
/-! G: one judgement for all methods. A frame and a memory of numbered cells; 'from here the method comes to its end with an answer and a memory of which Q holds'. -/
def gTs : List Cond := lw_tbl.filter goodWord
theorem gTs_good : ∀ w ∈ gTs, goodWord w = true := fun _ h => (List.mem_filter.mp h).2
/-- values: an int; a long; the cell k of ours; outside: 0 null, 1 the script, 2 + 2i the text i, 3 + 2i its bytes -/
abbrev AV : Type := Int32 ⊕ Int64 ⊕ Nat ⊕ Nat
abbrev aI (x : Int32) : AV := Sum.inl x
abbrev aL (x : Int64) : AV := Sum.inr (Sum.inl x)
abbrev aR (k : Nat) : AV := Sum.inr (Sum.inr (Sum.inl k))
abbrev aE (k : Nat) : AV := Sum.inr (Sum.inr (Sum.inr k))
/-- a cell: a row of ints (its kind, its length, what it holds); a row of references; an object (its class, its fields) -/
abbrev Cel : Type := (Nat × Nat × (Nat → Int32)) ⊕ (Nat × Nat × (Nat → Option Nat)) ⊕ (Nat × (Nat → AV))
/-- the cells; how many; how many slots; how many cells and slots there may be at the method's end -/
abbrev HM : Type := (Nat → Cel) × Nat × Nat × Nat × Nat
/-- where the cells begin; the classes' numbers and slots; the rows' classes; the outside's addresses -/
abbrev Cf : Type := Nat × va_G × (Nat → ClassId) × (Nat → Nat)
/-- the script: how long, what it holds -/
abbrev SC : Type := Nat × (Nat → Int32)
/-- a method: name, code, locals, what it returns, frames and locals' words below it -/
abbrev MI : Type := MethodName × ByteArray × Nat × Option FieldType × Nat × Nat
def cvv (f : Cf) (v : AV) : Value := match v with
  | .inl x => .int x
  | .inr (.inl x) => .long x
  | .inr (.inr (.inl k)) => .ref (f.1 + k)
  | .inr (.inr (.inr 0)) => .null
  | .inr (.inr (.inr (k + 1))) => .ref (f.2.2.2 k)
def gN (ci : Nat) : Nat := match vwCl[ci]? with
  | some q => q.2.2
  | none => 0
def gTy (f : Cf) : List (ClassId × FieldType) := [(f.2.2.1 0, .int), (f.2.2.1 1, .byte), (f.2.2.1 2, .short), (f.2.2.1 3, .object RX8), (f.2.2.1 4, .object RX3), (f.2.2.1 5, .object RX4), (f.2.2.1 6, .object RX5)]
def gAt (f : Cf) (a : Nat) (c : Cel) (H : Heap) : Prop := match c with
  | .inl (t, n, g) => H[a]? = some (vp_cell (f.2.2.1 t) (n, .inl g))
  | .inr (.inl (t, n, g)) => H[a]? = some (vp_cell (f.2.2.1 t) (n, .inr (.inr (.inr (.inr (fun i => (g i).map (fun k => f.1 + k)))))))
  | .inr (.inr (ci, F)) => t_OB a (f.2.1.1 ci) (gN ci) (f.2.1.2 ci) H (fun j => cvv f (F j))
def gMem (f : Cf) (M : HM) (H : Heap) : Prop := H.size = f.1 + M.2.1 ∧ ∀ k, k < M.2.1 → gAt f (f.1 + k) (M.1 k) H
def gNest : List (String × Nat × MethodName × String) := [(RX0, 49, yX2_init, RX9), (RX0, 75, yX3_init, RX9), (RX9, 70, yX7_init, RX9), (RX7, 11, yX3_init, RX9), (RX9, 81, yX8_init, RX9), (RX9, 82, yX3_init, RX9), (RX9, 83, yX5_init, RX9)]
abbrev gA (f : Cf) : Nat → Prop := fun q => f.1 ≤ q
/-- what holds outside of our cells, and of the classes, all the time -/
def gWd (f : Cf) (sc : SC) (s : State) : Prop :=
  va_K f.2.1 vwCl (gTy f) s ∧ (va_X (f.2.2.2 0) sc.1 sc.2 s s.heap ∧ f.2.2.2 0 < f.1) ∧ (∀ q ∈ gNest, va_Nw (.methodLinkNest q.1 q.2.1 q.2.2.1 q.2.2.2) s) ∧
  vk_S 2 [4, 3] [[100, 119, 99, 115], [49, 50, 122]] (fun i => f.2.2.2 (1 + 2 * i)) (fun i => f.2.2.2 (2 + 2 * i)) (gA f) s s.heap ∧ vk_R RX7 85 "dwcs" (f.2.2.2 1) s ∧ vk_R RX7 92 "12z" (f.2.2.2 3) s ∧ va_Z "java/lang/String" "COMPACT_STRINGS" "Z" (.int 1) (gA f) s s.heap ∧ (va_AO RX8 s ∧ va_AO RX3 s ∧ va_AO RX4 s ∧ va_AO RX5 s)
def lpr (f : Cf) : Nat → List (Option AV) → List (Nat × Value)
  | _, [] => []
  | i, none :: r => lpr f (i + 1) r
  | i, some v :: r => (i, cvv f v) :: lpr f (i + 1) r
def gCtx (y : MI) (p : Program) (s : State) (m : MethodId) (args : Array Value) (meth : Method) (c : Code) : Prop :=
  p.tables.exec = Jvm.exec ∧ c.code = y.2.1 ∧ c.maxLocals = y.2.2.1 ∧ s.vm.findClass y.1.cls = some m.cls ∧ (∀ w ∈ gTs, w.before args s = true) ∧ meth.sig.returnType = y.2.2.2.1 ∧ meth.locks = false ∧ meth.name = y.1.name
def gRm (y : MI) (mc ms : Nat) : Room := { frames := y.2.2.2.2.1, cells := mc, slots := ms, locals := y.2.2.2.2.2 }
def gQc (f : Cf) (Q : Option AV → HM → Prop) : Array Value → State → Outcome → State → Prop := fun _ st o t => (∃ (r : Option AV) (M : HM), o = .returned (r.map (cvv f)) ∧ Q r M ∧ gMem f M t.heap) ∧ va_F (gA f) st t
def G (sc : SC) (y : MI) (pc : Nat) (L : List (Option AV)) (st : List AV) (M : HM) (Q : Option AV → HM → Prop) : Prop :=
  ∀ (f : Cf) (l : Launch) (p : Program) (e : Env) (s : State) (m : MethodId) (args : Array Value) (below : List Frame) (meth : Method) (c : Code) (H : Heap) (locs : List Loc) (cells slots mc ms : Nat) (ls : Array Slot),
    gCtx y p s m args meth c → gWd f sc s → gMem f M H → va_S (gA f) s.heap H locs → lv_has ls y.2.2.1 (lpr f 0 L) → f.1 ≤ s.heap.size → cells + M.2.2.2.1 = mc + M.2.1 → slots + M.2.2.2.2 = ms + M.2.2.1 →
    W p l e (gRm y mc ms) s m args below meth c H locs cells slots (MQ below (gQc f Q) args s mc ms (gA f)) (F0 m pc ls (st.map (cvv f)))
def gW (z : MI) : List Cond := Cond.code z.1 z.2.1 z.2.2.1 z.2.2.2.1 :: gTs
def gPc (f : Cf) (sc : SC) (av : List AV) (M : HM) : Array Value → State → Prop := fun v U => v = (av.map (cvv f)).toArray ∧ gMem f M U.heap ∧ gWd f sc U
/-- the contract of a method at these arguments and this memory -/
def CT (sc : SC) (z : MI) (av : List AV) (M : HM) (Q : Option AV → HM → Prop) : Prop :=
  ∀ (f : Cf) (l : Launch), Met l z.1 (gW z) (gRm z (M.2.2.2.1 - M.2.1) (M.2.2.2.2 - M.2.2.1)) (gPc f sc av M) (gQc f Q) (M.2.2.2.1 - M.2.1) (M.2.2.2.2 - M.2.2.1) (gA f)
theorem gWd_moved {f : Cf} {sc : SC} {s U : State} {H : Heap} {locs : List Loc} (h : gWd f sc s) (hS : va_S (gA f) s.heap H locs) (hB : f.1 ≤ s.heap.size) (hU : U.heap = H) (hW : s.WarmedH U.vm) : gWd f sc U := by
  obtain ⟨h1, ⟨h2, h2'⟩, h3, h4, h5, h6, h7, h8⟩ := h
  have hA : ¬ gA f (f.2.2.2 0) := by show ¬ f.1 ≤ _; omega
  refine ⟨va_K.moved hW.alike h1, ⟨?_, h2'⟩, fun q hq => va_Nw.warmM hW (h3 q hq), ?_, vk_R.warm hW h5, vk_R.warm hW h6, ?_, h8.1.moved hW.alike, h8.2.1.moved hW.alike, h8.2.2.1.moved hW.alike, h8.2.2.2.moved hW.alike⟩
  · rw [hU]
    exact (h2.kept (hS.2.1 _ (by omega) hA)).moved hW.alike
  · rw [hU]
    exact (h4.kept hS.2.1).moved hW.alike
  · rw [hU]
    exact (h7.kept hS.2.1).moved hW.alike
theorem gWd_calling {f : Cf} {sc : SC} {U : State} {g : JFrame} {mk : MethodId} {a : Array Value} (h : gWd f sc U) : gWd f sc (U.calling g mk a) := by
  obtain ⟨h1, ⟨h2, h2'⟩, h3, h4, h5, h6, h7, h8⟩ := h
  have hv : U.vm.Alike (U.calling g mk a).vm := Vm.Alike.refl U.vm
  exact ⟨va_K.moved hv h1, ⟨va_X.moved hv h2, h2'⟩, fun q hq => va_Nw.same rfl rfl (h3 q hq), h4.moved hv, vk_R.same rfl h5, vk_R.same rfl h6, h7.moved hv, h8.1.moved hv, h8.2.1.moved hv, h8.2.2.1.moved hv, h8.2.2.2.moved hv⟩
theorem gPc_blind (f : Cf) (sc : SC) (av : List AV) (M : HM) : FrameBlind (gPc f sc av M) := fun _ _ _ _ h => ⟨h.1, h.2.1, gWd_calling h.2.2⟩
theorem lpr_mem {f : Cf} : ∀ (L : List (Option AV)) (j i : Nat) (v : AV), L[i]? = some (some v) → (j + i, cvv f v) ∈ lpr f j L
  | [], _, _, _, h => by simp at h
  | none :: r, j, 0, v, h => by simp at h
  | none :: r, j, i + 1, v, h => by
    have := lpr_mem (f := f) r (j + 1) i v (by simpa using h)
    rw [show j + 1 + i = j + (i + 1) by omega] at this
    exact this
  | some w :: r, j, 0, v, h => by
    simp at h
    subst h
    exact List.mem_cons_self
  | some w :: r, j, i + 1, v, h => by
    have := lpr_mem (f := f) r (j + 1) i v (by simpa using h)
    rw [show j + 1 + i = j + (i + 1) by omega] at this
    exact List.mem_cons_of_mem _ this
theorem lpr_at {f : Cf} : ∀ (L : List (Option AV)) (j : Nat) (q : Nat × Value), q ∈ lpr f j L → ∃ (i : Nat) (v : AV), q = (j + i, cvv f v) ∧ L[i]? = some (some v)
  | [], _, _, h => by cases h
  | none :: r, j, q, h => by
    obtain ⟨i, v, h1, h2⟩ := lpr_at r (j + 1) q h
    exact ⟨i + 1, v, by rw [h1]; congr 1; omega, by simpa using h2⟩
  | some w :: r, j, q, h => by
    rcases List.mem_cons.mp h with h | h
    · exact ⟨0, w, h, rfl⟩
    · obtain ⟨i, v, h1, h2⟩ := lpr_at r (j + 1) q h
      exact ⟨i + 1, v, by rw [h1]; congr 1; omega, by simpa using h2⟩
theorem g_lv {f : Cf} {ls : Array Slot} {n : Nat} {L : List (Option AV)} {i : Nat} {v : AV} (hl : lv_has ls n (lpr f 0 L)) (h : L[i]? = some (some v)) : ls[i]? = some (.val (cvv f v)) := by
  have := hl.2.2 _ (lpr_mem (f := f) L 0 i v h)
  simpa using this
/-- no long stands just ahead -/
def gOk (L : List (Option AV)) (i : Nat) : Bool := match i with
  | 0 => true
  | j + 1 => match L[j]? with
    | some (some (.inr (.inl _))) => false
    | _ => true
theorem cvv_cat2 {f : Cf} {v : AV} (h : (cvv f v).category = 2) : ∃ x, v = aL x := by
  rcases v with x | x | k | k
  · simp [cvv, Value.category] at h
  · exact ⟨x, rfl⟩
  · simp [cvv, Value.category] at h
  · cases k <;> simp [cvv, Value.category] at h
theorem g_st1 {f : Cf} {ls : Array Slot} {n : Nat} {L : List (Option AV)} {i : Nat} {v : AV} (hok : gOk L i = true) (h : lv_has ls n ((i, cvv f v) :: (lpr f 0 L).filter (fun q => !(q.1 == i) && !(q.1 + 1 == i && q.2.category == 2)))) : lv_has ls n (lpr f 0 (L.set i (some v))) := by
  refine ⟨h.1, h.2.1, fun q hq => ?_⟩
  obtain ⟨j, w, rfl, hj⟩ := lpr_at _ _ _ hq
  rw [List.getElem?_set] at hj
  by_cases hij : i = j
  · subst hij
    rw [if_pos rfl] at hj
    split at hj
    · cases hj
      exact h.2.2 _ (by simp)
    · cases hj
  · rw [if_neg hij] at hj
    refine h.2.2 _ (List.mem_cons_of_mem _ (List.mem_filter.mpr ⟨lpr_mem L 0 j w hj, ?_⟩))
    have h1 : ¬ (0 + j = i) := by omega
    simp only [Bool.and_eq_true, Bool.not_eq_true', beq_eq_false_iff_ne, ne_eq, Bool.and_eq_false_iff]
    refine ⟨h1, ?_⟩
    by_cases h2 : 0 + j + 1 = i
    · refine Or.inr fun h3 => ?_
      obtain ⟨x, rfl⟩ := cvv_cat2 h3
      have : i = j + 1 := by omega
      subst this
      simp [gOk, hj] at hok
    · exact Or.inl h2
theorem g_st2 {f : Cf} {ls : Array Slot} {n : Nat} {L : List (Option AV)} {i : Nat} {v : AV} (hok : gOk L i = true) (h : lv_has ls n ((i, cvv f v) :: (lpr f 0 L).filter (fun q => !(q.1 == i) && (!(q.1 == i + 1) && !(q.1 + 1 == i && q.2.category == 2))))) : lv_has ls n (lpr f 0 ((L.set i (some v)).set (i + 1) none)) := by
  refine ⟨h.1, h.2.1, fun q hq => ?_⟩
  obtain ⟨j, w, rfl, hj⟩ := lpr_at _ _ _ hq
  rw [List.getElem?_set] at hj
  by_cases hi1 : i + 1 = j
  · rw [if_pos hi1] at hj
    split at hj <;> cases hj
  · rw [if_neg hi1, List.getElem?_set] at hj
    by_cases hij : i = j
    · subst hij
      rw [if_pos rfl] at hj
      split at hj
      · cases hj
        exact h.2.2 _ (by simp)
      · cases hj
    · rw [if_neg hij] at hj
      refine h.2.2 _ (List.mem_cons_of_mem _ (List.mem_filter.mpr ⟨lpr_mem L 0 j w hj, ?_⟩))
      have h1 : ¬ (0 + j = i) := by omega
      have h1' : ¬ (0 + j = i + 1) := by omega
      simp only [Bool.and_eq_true, Bool.not_eq_true', beq_eq_false_iff_ne, ne_eq, Bool.and_eq_false_iff]
      refine ⟨h1, h1', ?_⟩
      by_cases h2 : 0 + j + 1 = i
      · refine Or.inr fun h3 => ?_
        obtain ⟨x, rfl⟩ := cvv_cat2 h3
        have : i = j + 1 := by omega
        subst this
        simp [gOk, hj] at hok
      · exact Or.inl h2
end
section
section GR
variable {sc : SC} {y : MI} {pc : Nat} {L : List (Option AV)} {st : List AV} {M : HM} {Q : Option AV → HM → Prop}
theorem G_iconst {n : Int} {v : Int32} (hd : decode y.2.1 pc = .ok (.iconst n, 1)) (hv : Int32.ofInt n = v) (k : G sc y (pc + 1) L (aI v :: st) M Q) : G sc y pc L (st) M Q := by
  intro f l p e s m args below meth c H locs cells slots mc ms ls C Wd hM hS hl hB h1 h2
  exact lv_iconst C.1 C.2.1 hd hv (k f l p e s m args below meth c H locs cells slots mc ms ls C Wd hM hS hl hB h1 h2)
theorem G_bipush {n : Int} {v : Int32} (hd : decode y.2.1 pc = .ok (.bipush n, 2)) (hv : (Int8.ofInt n).toInt32 = v) (k : G sc y (pc + 2) L (aI v :: st) M Q) : G sc y pc L (st) M Q := by
  intro f l p e s m args below meth c H locs cells slots mc ms ls C Wd hM hS hl hB h1 h2
  exact lv_bipush C.1 C.2.1 hd hv (k f l p e s m args below meth c H locs cells slots mc ms ls C Wd hM hS hl hB h1 h2)
theorem G_sipush {n : Int} {v : Int32} (hd : decode y.2.1 pc = .ok (.sipush n, 3)) (hv : (Int16.ofInt n).toInt32 = v) (k : G sc y (pc + 3) L (aI v :: st) M Q) : G sc y pc L (st) M Q := by
  intro f l p e s m args below meth c H locs cells slots mc ms ls C Wd hM hS hl hB h1 h2
  exact lv_sipush C.1 C.2.1 hd hv (k f l p e s m args below meth c H locs cells slots mc ms ls C Wd hM hS hl hB h1 h2)
theorem G_lconst {n : Fin 2} {v : Int64} (hd : decode y.2.1 pc = .ok (.lconst n, 1)) (hv : Int64.ofNat (n : Nat) = v) (k : G sc y (pc + 1) L (aL v :: st) M Q) : G sc y pc L (st) M Q := by
  intro f l p e s m args below meth c H locs cells slots mc ms ls C Wd hM hS hl hB h1 h2
  exact lv_lconst C.1 C.2.1 hd hv (k f l p e s m args below meth c H locs cells slots mc ms ls C Wd hM hS hl hB h1 h2)
theorem G_iadd {x z : Int32} (hd : decode y.2.1 pc = .ok (.iadd, 1)) (k : G sc y (pc + 1) L (aI (x + z) :: st) M Q) : G sc y pc L (aI z :: aI x :: st) M Q := by
  intro f l p e s m args below meth c H locs cells slots mc ms ls C Wd hM hS hl hB h1 h2
  exact lv_iadd C.1 C.2.1 hd (k f l p e s m args below meth c H locs cells slots mc ms ls C Wd hM hS hl hB h1 h2)
theorem G_isub {x z : Int32} (hd : decode y.2.1 pc = .ok (.isub, 1)) (k : G sc y (pc + 1) L (aI (x - z) :: st) M Q) : G sc y pc L (aI z :: aI x :: st) M Q := by
  intro f l p e s m args below meth c H locs cells slots mc ms ls C Wd hM hS hl hB h1 h2
  exact lv_isub C.1 C.2.1 hd (k f l p e s m args below meth c H locs cells slots mc ms ls C Wd hM hS hl hB h1 h2)
theorem G_imul {x z : Int32} (hd : decode y.2.1 pc = .ok (.imul, 1)) (k : G sc y (pc + 1) L (aI (x * z) :: st) M Q) : G sc y pc L (aI z :: aI x :: st) M Q := by
  intro f l p e s m args below meth c H locs cells slots mc ms ls C Wd hM hS hl hB h1 h2
  exact lv_imul C.1 C.2.1 hd (k f l p e s m args below meth c H locs cells slots mc ms ls C Wd hM hS hl hB h1 h2)
theorem G_iand {x z : Int32} (hd : decode y.2.1 pc = .ok (.iand, 1)) (k : G sc y (pc + 1) L (aI (x &&& z) :: st) M Q) : G sc y pc L (aI z :: aI x :: st) M Q := by
  intro f l p e s m args below meth c H locs cells slots mc ms ls C Wd hM hS hl hB h1 h2
  exact lv_iand C.1 C.2.1 hd (k f l p e s m args below meth c H locs cells slots mc ms ls C Wd hM hS hl hB h1 h2)
theorem G_ior {x z : Int32} (hd : decode y.2.1 pc = .ok (.ior, 1)) (k : G sc y (pc + 1) L (aI (x ||| z) :: st) M Q) : G sc y pc L (aI z :: aI x :: st) M Q := by
  intro f l p e s m args below meth c H locs cells slots mc ms ls C Wd hM hS hl hB h1 h2
  exact lv_ior C.1 C.2.1 hd (k f l p e s m args below meth c H locs cells slots mc ms ls C Wd hM hS hl hB h1 h2)
theorem G_ixor {x z : Int32} (hd : decode y.2.1 pc = .ok (.ixor, 1)) (k : G sc y (pc + 1) L (aI (x ^^^ z) :: st) M Q) : G sc y pc L (aI z :: aI x :: st) M Q := by
  intro f l p e s m args below meth c H locs cells slots mc ms ls C Wd hM hS hl hB h1 h2
  exact lv_ixor C.1 C.2.1 hd (k f l p e s m args below meth c H locs cells slots mc ms ls C Wd hM hS hl hB h1 h2)
theorem G_ishl {x z : Int32} (hd : decode y.2.1 pc = .ok (.ishl, 1)) (k : G sc y (pc + 1) L (aI (x <<< (z &&& 31)) :: st) M Q) : G sc y pc L (aI z :: aI x :: st) M Q := by
  intro f l p e s m args below meth c H locs cells slots mc ms ls C Wd hM hS hl hB h1 h2
  exact lv_ishl C.1 C.2.1 hd (k f l p e s m args below meth c H locs cells slots mc ms ls C Wd hM hS hl hB h1 h2)
theorem G_ishr {x z : Int32} (hd : decode y.2.1 pc = .ok (.ishr, 1)) (k : G sc y (pc + 1) L (aI (x >>> (z &&& 31)) :: st) M Q) : G sc y pc L (aI z :: aI x :: st) M Q := by
  intro f l p e s m args below meth c H locs cells slots mc ms ls C Wd hM hS hl hB h1 h2
  exact lv_ishr C.1 C.2.1 hd (k f l p e s m args below meth c H locs cells slots mc ms ls C Wd hM hS hl hB h1 h2)
theorem G_idiv {x z : Int32} (hd : decode y.2.1 pc = .ok (.idiv, 1)) (hne : ¬ z = 0) (k : G sc y (pc + 1) L (aI (x / z) :: st) M Q) : G sc y pc L (aI z :: aI x :: st) M Q := by
  intro f l p e s m args below meth c H locs cells slots mc ms ls C Wd hM hS hl hB h1 h2
  exact lv_idiv C.1 C.2.1 hd hne (k f l p e s m args below meth c H locs cells slots mc ms ls C Wd hM hS hl hB h1 h2)
theorem G_irem {x z : Int32} (hd : decode y.2.1 pc = .ok (.irem, 1)) (hne : ¬ z = 0) (k : G sc y (pc + 1) L (aI (x - x / z * z) :: st) M Q) : G sc y pc L (aI z :: aI x :: st) M Q := by
  intro f l p e s m args below meth c H locs cells slots mc ms ls C Wd hM hS hl hB h1 h2
  exact lv_irem C.1 C.2.1 hd hne (k f l p e s m args below meth c H locs cells slots mc ms ls C Wd hM hS hl hB h1 h2)
theorem G_iushr {x z : Int32} (hd : decode y.2.1 pc = .ok (.iushr, 1)) (k : G sc y (pc + 1) L (aI ((x.toUInt32 >>> (z.toUInt32 &&& Int32.toUInt32 31)).toInt32) :: st) M Q) : G sc y pc L (aI z :: aI x :: st) M Q := by
  intro f l p e s m args below meth c H locs cells slots mc ms ls C Wd hM hS hl hB h1 h2
  exact lv_iushr C.1 C.2.1 hd rfl (k f l p e s m args below meth c H locs cells slots mc ms ls C Wd hM hS hl hB h1 h2)
theorem G_ladd {x z : Int64} (hd : decode y.2.1 pc = .ok (.ladd, 1)) (k : G sc y (pc + 1) L (aL (x + z) :: st) M Q) : G sc y pc L (aL z :: aL x :: st) M Q := by
  intro f l p e s m args below meth c H locs cells slots mc ms ls C Wd hM hS hl hB h1 h2
  exact lv_ladd C.1 C.2.1 hd (k f l p e s m args below meth c H locs cells slots mc ms ls C Wd hM hS hl hB h1 h2)
theorem G_lsub {x z : Int64} (hd : decode y.2.1 pc = .ok (.lsub, 1)) (k : G sc y (pc + 1) L (aL (x - z) :: st) M Q) : G sc y pc L (aL z :: aL x :: st) M Q := by
  intro f l p e s m args below meth c H locs cells slots mc ms ls C Wd hM hS hl hB h1 h2
  exact lv_lsub C.1 C.2.1 hd (k f l p e s m args below meth c H locs cells slots mc ms ls C Wd hM hS hl hB h1 h2)
theorem G_land {x z : Int64} (hd : decode y.2.1 pc = .ok (.land, 1)) (k : G sc y (pc + 1) L (aL (x &&& z) :: st) M Q) : G sc y pc L (aL z :: aL x :: st) M Q := by
  intro f l p e s m args below meth c H locs cells slots mc ms ls C Wd hM hS hl hB h1 h2
  exact lv_land C.1 C.2.1 hd (k f l p e s m args below meth c H locs cells slots mc ms ls C Wd hM hS hl hB h1 h2)
theorem G_lor {x z : Int64} (hd : decode y.2.1 pc = .ok (.lor, 1)) (k : G sc y (pc + 1) L (aL (x ||| z) :: st) M Q) : G sc y pc L (aL z :: aL x :: st) M Q := by
  intro f l p e s m args below meth c H locs cells slots mc ms ls C Wd hM hS hl hB h1 h2
  exact lv_lor C.1 C.2.1 hd (k f l p e s m args below meth c H locs cells slots mc ms ls C Wd hM hS hl hB h1 h2)
theorem G_lushr {x : Int64} {z : Int32} (hd : decode y.2.1 pc = .ok (.lushr, 1)) (k : G sc y (pc + 1) L (aL ((x.toUInt64 >>> (z.toInt64.toUInt64 &&& Int64.toUInt64 63)).toInt64) :: st) M Q) : G sc y pc L (aI z :: aL x :: st) M Q := by
  intro f l p e s m args below meth c H locs cells slots mc ms ls C Wd hM hS hl hB h1 h2
  exact lv_lushr C.1 C.2.1 hd rfl (k f l p e s m args below meth c H locs cells slots mc ms ls C Wd hM hS hl hB h1 h2)
theorem G_lshl {x : Int64} {z : Int32} (hd : decode y.2.1 pc = .ok (.lshl, 1)) (k : G sc y (pc + 1) L (aL (x <<< (z.toInt64 &&& 63)) :: st) M Q) : G sc y pc L (aI z :: aL x :: st) M Q := by
  intro f l p e s m args below meth c H locs cells slots mc ms ls C Wd hM hS hl hB h1 h2
  exact lv_lshl C.1 C.2.1 hd rfl (k f l p e s m args below meth c H locs cells slots mc ms ls C Wd hM hS hl hB h1 h2)
theorem G_lshr {x : Int64} {z : Int32} (hd : decode y.2.1 pc = .ok (.lshr, 1)) (k : G sc y (pc + 1) L (aL (x >>> (z.toInt64 &&& 63)) :: st) M Q) : G sc y pc L (aI z :: aL x :: st) M Q := by
  intro f l p e s m args below meth c H locs cells slots mc ms ls C Wd hM hS hl hB h1 h2
  exact lv_lshr C.1 C.2.1 hd rfl (k f l p e s m args below meth c H locs cells slots mc ms ls C Wd hM hS hl hB h1 h2)
theorem G_i2l {x : Int32} (hd : decode y.2.1 pc = .ok (.i2l, 1)) (k : G sc y (pc + 1) L (aL x.toInt64 :: st) M Q) : G sc y pc L (aI x :: st) M Q := by
  intro f l p e s m args below meth c H locs cells slots mc ms ls C Wd hM hS hl hB h1 h2
  exact lv_i2l C.1 C.2.1 hd rfl (k f l p e s m args below meth c H locs cells slots mc ms ls C Wd hM hS hl hB h1 h2)
theorem G_l2i {x : Int64} (hd : decode y.2.1 pc = .ok (.l2i, 1)) (k : G sc y (pc + 1) L (aI x.toInt32 :: st) M Q) : G sc y pc L (aL x :: st) M Q := by
  intro f l p e s m args below meth c H locs cells slots mc ms ls C Wd hM hS hl hB h1 h2
  exact lv_l2i C.1 C.2.1 hd rfl (k f l p e s m args below meth c H locs cells slots mc ms ls C Wd hM hS hl hB h1 h2)
theorem G_i2b {x : Int32} (hd : decode y.2.1 pc = .ok (.i2b, 1)) (k : G sc y (pc + 1) L (aI x.toInt8.toInt32 :: st) M Q) : G sc y pc L (aI x :: st) M Q := by
  intro f l p e s m args below meth c H locs cells slots mc ms ls C Wd hM hS hl hB h1 h2
  exact lv_i2b C.1 C.2.1 hd rfl (k f l p e s m args below meth c H locs cells slots mc ms ls C Wd hM hS hl hB h1 h2)
theorem G_i2s {x : Int32} (hd : decode y.2.1 pc = .ok (.i2s, 1)) (k : G sc y (pc + 1) L (aI x.toInt16.toInt32 :: st) M Q) : G sc y pc L (aI x :: st) M Q := by
  intro f l p e s m args below meth c H locs cells slots mc ms ls C Wd hM hS hl hB h1 h2
  exact lv_i2s C.1 C.2.1 hd rfl (k f l p e s m args below meth c H locs cells slots mc ms ls C Wd hM hS hl hB h1 h2)
theorem G_i2c {x : Int32} (hd : decode y.2.1 pc = .ok (.i2c, 1)) (k : G sc y (pc + 1) L (aI (x.toUInt32 % 65536).toInt32 :: st) M Q) : G sc y pc L (aI x :: st) M Q := by
  intro f l p e s m args below meth c H locs cells slots mc ms ls C Wd hM hS hl hB h1 h2
  exact lv_i2c C.1 C.2.1 hd rfl (k f l p e s m args below meth c H locs cells slots mc ms ls C Wd hM hS hl hB h1 h2)
theorem G_lcmp {x z : Int64} (hd : decode y.2.1 pc = .ok (.lcmp, 1)) (k : G sc y (pc + 1) L (aI (lg_cmp x z) :: st) M Q) : G sc y pc L (aL z :: aL x :: st) M Q := by
  intro f l p e s m args below meth c H locs cells slots mc ms ls C Wd hM hS hl hB h1 h2
  exact W.lcmp C.1 C.2.1 hd (k f l p e s m args below meth c H locs cells slots mc ms ls C Wd hM hS hl hB h1 h2)
def gC1 (v : AV) : Bool := match v with
  | .inr (.inl _) => false
  | _ => true
theorem gC1_cat {f : Cf} {v : AV} (h : gC1 v = true) : (cvv f v).category = 1 := by
  rcases v with x | x | k | k
  · rfl
  · cases h
  · rfl
  · cases k <;> rfl
theorem G_dup {v : AV} (hd : decode y.2.1 pc = .ok (.dup, 1)) (hv : gC1 v = true) (k : G sc y (pc + 1) L (v :: v :: st) M Q) : G sc y pc L (v :: st) M Q := by
  intro f l p e s m args below meth c H locs cells slots mc ms ls C Wd hM hS hl hB h1 h2
  exact lv_dup C.1 C.2.1 hd (gC1_cat hv) (k f l p e s m args below meth c H locs cells slots mc ms ls C Wd hM hS hl hB h1 h2)
theorem G_pop {v : AV} (hd : decode y.2.1 pc = .ok (.pop, 1)) (hv : gC1 v = true) (k : G sc y (pc + 1) L (st) M Q) : G sc y pc L (v :: st) M Q := by
  intro f l p e s m args below meth c H locs cells slots mc ms ls C Wd hM hS hl hB h1 h2
  exact lv_pop C.1 C.2.1 hd (gC1_cat hv) (k f l p e s m args below meth c H locs cells slots mc ms ls C Wd hM hS hl hB h1 h2)
theorem G_dup2 {v w : AV} (hd : decode y.2.1 pc = .ok (.dup2, 1)) (hv : gC1 v = true) (hw : gC1 w = true) (k : G sc y (pc + 1) L (v :: w :: v :: w :: st) M Q) : G sc y pc L (v :: w :: st) M Q := by
  intro f l p e s m args below meth c H locs cells slots mc ms ls C Wd hM hS hl hB h1 h2
  exact lv_dup2_11 C.1 C.2.1 hd (gC1_cat hv) (gC1_cat hw) (k f l p e s m args below meth c H locs cells slots mc ms ls C Wd hM hS hl hB h1 h2)
theorem G_dup_x1 {v w : AV} (hd : decode y.2.1 pc = .ok (.dup_x1, 1)) (hv : gC1 v = true) (hw : gC1 w = true) (k : G sc y (pc + 1) L (v :: w :: v :: st) M Q) : G sc y pc L (v :: w :: st) M Q := by
  intro f l p e s m args below meth c H locs cells slots mc ms ls C Wd hM hS hl hB h1 h2
  exact lv_dup_x1 C.1 C.2.1 hd (gC1_cat hv) (gC1_cat hw) (k f l p e s m args below meth c H locs cells slots mc ms ls C Wd hM hS hl hB h1 h2)
theorem G_iload_n {j : Fin 4} {i : Nat} {x : Int32} (hd : decode y.2.1 pc = .ok (.iload_n j, 1)) (hi : (j : Nat) = i) (hx : L[i]? = some (some (aI x))) (k : G sc y (pc + 1) L (aI x :: st) M Q) : G sc y pc L st M Q := by
  intro f l p e s m args below meth c H locs cells slots mc ms ls C Wd hM hS hl hB h1 h2
  exact lv_iload_n C.1 C.2.1 hd hi (g_lv hl hx) (k f l p e s m args below meth c H locs cells slots mc ms ls C Wd hM hS hl hB h1 h2)
theorem G_iload {i : Nat} {x : Int32} (hd : decode y.2.1 pc = .ok (.iload i, 2)) (hx : L[i]? = some (some (aI x))) (k : G sc y (pc + 2) L (aI x :: st) M Q) : G sc y pc L st M Q := by
  intro f l p e s m args below meth c H locs cells slots mc ms ls C Wd hM hS hl hB h1 h2
  exact lv_iload C.1 C.2.1 hd (g_lv hl hx) (k f l p e s m args below meth c H locs cells slots mc ms ls C Wd hM hS hl hB h1 h2)
theorem G_lload_n {j : Fin 4} {i : Nat} {x : Int64} (hd : decode y.2.1 pc = .ok (.lload_n j, 1)) (hi : (j : Nat) = i) (hx : L[i]? = some (some (aL x))) (k : G sc y (pc + 1) L (aL x :: st) M Q) : G sc y pc L st M Q := by
  intro f l p e s m args below meth c H locs cells slots mc ms ls C Wd hM hS hl hB h1 h2
  exact lv_lload_n C.1 C.2.1 hd hi (g_lv hl hx) (k f l p e s m args below meth c H locs cells slots mc ms ls C Wd hM hS hl hB h1 h2)
theorem G_lload {i : Nat} {x : Int64} (hd : decode y.2.1 pc = .ok (.lload i, 2)) (hx : L[i]? = some (some (aL x))) (k : G sc y (pc + 2) L (aL x :: st) M Q) : G sc y pc L st M Q := by
  intro f l p e s m args below meth c H locs cells slots mc ms ls C Wd hM hS hl hB h1 h2
  exact lv_lload C.1 C.2.1 hd (g_lv hl hx) (k f l p e s m args below meth c H locs cells slots mc ms ls C Wd hM hS hl hB h1 h2)
theorem G_aload_n {j : Fin 4} {i : Nat} {x : Nat} (hd : decode y.2.1 pc = .ok (.aload_n j, 1)) (hi : (j : Nat) = i) (hx : L[i]? = some (some (aR x))) (k : G sc y (pc + 1) L (aR x :: st) M Q) : G sc y pc L st M Q := by
  intro f l p e s m args below meth c H locs cells slots mc ms ls C Wd hM hS hl hB h1 h2
  exact lv_aload_n C.1 C.2.1 hd hi (g_lv hl hx) (k f l p e s m args below meth c H locs cells slots mc ms ls C Wd hM hS hl hB h1 h2)
theorem G_aload {i : Nat} {x : Nat} (hd : decode y.2.1 pc = .ok (.aload i, 2)) (hx : L[i]? = some (some (aR x))) (k : G sc y (pc + 2) L (aR x :: st) M Q) : G sc y pc L st M Q := by
  intro f l p e s m args below meth c H locs cells slots mc ms ls C Wd hM hS hl hB h1 h2
  exact lv_aload C.1 C.2.1 hd (g_lv hl hx) (k f l p e s m args below meth c H locs cells slots mc ms ls C Wd hM hS hl hB h1 h2)
theorem G_eload_n {j : Fin 4} {i x : Nat} (hd : decode y.2.1 pc = .ok (.aload_n j, 1)) (hi : (j : Nat) = i) (hx : L[i]? = some (some (aE (x + 1)))) (k : G sc y (pc + 1) L (aE (x + 1) :: st) M Q) : G sc y pc L st M Q := by
  intro f l p e s m args below meth c H locs cells slots mc ms ls C Wd hM hS hl hB h1 h2
  exact lv_aload_n C.1 C.2.1 hd hi (g_lv hl hx) (k f l p e s m args below meth c H locs cells slots mc ms ls C Wd hM hS hl hB h1 h2)
theorem G_eload {i x : Nat} (hd : decode y.2.1 pc = .ok (.aload i, 2)) (hx : L[i]? = some (some (aE (x + 1)))) (k : G sc y (pc + 2) L (aE (x + 1) :: st) M Q) : G sc y pc L st M Q := by
  intro f l p e s m args below meth c H locs cells slots mc ms ls C Wd hM hS hl hB h1 h2
  exact lv_aload C.1 C.2.1 hd (g_lv hl hx) (k f l p e s m args below meth c H locs cells slots mc ms ls C Wd hM hS hl hB h1 h2)
theorem G_istore_n {j : Fin 4} {i : Nat} {x : Int32} (hd : decode y.2.1 pc = .ok (.istore_n j, 1)) (hi : (j : Nat) = i) (hn : i < y.2.2.1) (hok : gOk L i = true) (k : G sc y (pc + 1) (L.set i (some (aI x))) st M Q) : G sc y pc L (aI x :: st) M Q := by
  intro f l p e s m args below meth c H locs cells slots mc ms ls C Wd hM hS hl hB h1 h2
  exact lv_istore_n C.1 C.2.1 hd hi hl hn rfl (fun ls9 hl9 => k f l p e s m args below meth c H locs cells slots mc ms ls9 C Wd hM hS (g_st1 hok hl9) hB h1 h2)
theorem G_istore {i : Nat} {x : Int32} (hd : decode y.2.1 pc = .ok (.istore i, 2)) (hn : i < y.2.2.1) (hok : gOk L i = true) (k : G sc y (pc + 2) (L.set i (some (aI x))) st M Q) : G sc y pc L (aI x :: st) M Q := by
  intro f l p e s m args below meth c H locs cells slots mc ms ls C Wd hM hS hl hB h1 h2
  exact lv_istore C.1 C.2.1 hd hl hn rfl (fun ls9 hl9 => k f l p e s m args below meth c H locs cells slots mc ms ls9 C Wd hM hS (g_st1 hok hl9) hB h1 h2)
theorem G_astore_n {j : Fin 4} {i : Nat} {x : Nat} (hd : decode y.2.1 pc = .ok (.astore_n j, 1)) (hi : (j : Nat) = i) (hn : i < y.2.2.1) (hok : gOk L i = true) (k : G sc y (pc + 1) (L.set i (some (aR x))) st M Q) : G sc y pc L (aR x :: st) M Q := by
  intro f l p e s m args below meth c H locs cells slots mc ms ls C Wd hM hS hl hB h1 h2
  exact lv_astore_n C.1 C.2.1 hd hi hl hn rfl (fun ls9 hl9 => k f l p e s m args below meth c H locs cells slots mc ms ls9 C Wd hM hS (g_st1 hok hl9) hB h1 h2)
theorem G_astore {i : Nat} {x : Nat} (hd : decode y.2.1 pc = .ok (.astore i, 2)) (hn : i < y.2.2.1) (hok : gOk L i = true) (k : G sc y (pc + 2) (L.set i (some (aR x))) st M Q) : G sc y pc L (aR x :: st) M Q := by
  intro f l p e s m args below meth c H locs cells slots mc ms ls C Wd hM hS hl hB h1 h2
  exact lv_astore C.1 C.2.1 hd hl hn rfl (fun ls9 hl9 => k f l p e s m args below meth c H locs cells slots mc ms ls9 C Wd hM hS (g_st1 hok hl9) hB h1 h2)
theorem G_lstore_n {j : Fin 4} {i : Nat} {x : Int64} (hd : decode y.2.1 pc = .ok (.lstore_n j, 1)) (hi : (j : Nat) = i) (hn : i + 1 < y.2.2.1) (hok : gOk L i = true) (k : G sc y (pc + 1) ((L.set i (some (aL x))).set (i + 1) none) st M Q) : G sc y pc L (aL x :: st) M Q := by
  intro f l p e s m args below meth c H locs cells slots mc ms ls C Wd hM hS hl hB h1 h2
  exact lv_lstore_n C.1 C.2.1 hd hi hl hn rfl (fun ls9 hl9 => k f l p e s m args below meth c H locs cells slots mc ms ls9 C Wd hM hS (g_st2 hok hl9) hB h1 h2)
theorem G_estore_n {j : Fin 4} {i x : Nat} (hd : decode y.2.1 pc = .ok (.astore_n j, 1)) (hi : (j : Nat) = i) (hn : i < y.2.2.1) (hok : gOk L i = true) (k : G sc y (pc + 1) (L.set i (some (aE (x + 1)))) st M Q) : G sc y pc L (aE (x + 1) :: st) M Q := by
  intro f l p e s m args below meth c H locs cells slots mc ms ls C Wd hM hS hl hB h1 h2
  exact lv_astore_n C.1 C.2.1 hd hi hl hn rfl (fun ls9 hl9 => k f l p e s m args below meth c H locs cells slots mc ms ls9 C Wd hM hS (g_st1 hok hl9) hB h1 h2)
theorem G_iinc {i : Nat} {n : Int} {x v : Int32} (hd : decode y.2.1 pc = .ok (.iinc i n, 3)) (hx : L[i]? = some (some (aI x))) (hv : x + Int32.ofInt n = v) (hn : i < y.2.2.1) (hok : gOk L i = true) (k : G sc y (pc + 3) (L.set i (some (aI v))) st M Q) : G sc y pc L st M Q := by
  intro f l p e s m args below meth c H locs cells slots mc ms ls C Wd hM hS hl hB h1 h2
  obtain ⟨q, hq⟩ := List.getElem?_of_mem (lpr_mem (f := f) L 0 i _ hx)
  exact lv_iinc C.1 C.2.1 hd hl (k := q) (by rw [hq]; simp [cvv]) hv hn rfl (fun ls9 hl9 => k f l p e s m args below meth c H locs cells slots mc ms ls9 C Wd hM hS (g_st1 (v := aI v) hok hl9) hB h1 h2)
theorem G_if_eq {x : Int32} {off : Int} {tgt : Nat} (hd : decode y.2.1 pc = .ok (.ifCond .eq off, 3)) (ht : (pc : Int) + off = (tgt : Int)) (kt : x = 0 → G sc y tgt L st M Q) (kf : ¬ x = 0 → G sc y (pc + 3) L st M Q) : G sc y pc L (aI x :: st) M Q := by
  intro f l p e s m args below meth c H locs cells slots mc ms ls C Wd hM hS hl hB h1 h2
  exact lv_if_eq C.1 C.2.1 hd ht (fun h9 => kt h9 f l p e s m args below meth c H locs cells slots mc ms ls C Wd hM hS hl hB h1 h2) (fun h9 => kf h9 f l p e s m args below meth c H locs cells slots mc ms ls C Wd hM hS hl hB h1 h2)
theorem G_icmp_eq {x z : Int32} {off : Int} {tgt : Nat} (hd : decode y.2.1 pc = .ok (.if_icmp .eq off, 3)) (ht : (pc : Int) + off = (tgt : Int)) (kt : x = z → G sc y tgt L st M Q) (kf : ¬ x = z → G sc y (pc + 3) L st M Q) : G sc y pc L (aI z :: aI x :: st) M Q := by
  intro f l p e s m args below meth c H locs cells slots mc ms ls C Wd hM hS hl hB h1 h2
  exact lv_icmp_eq C.1 C.2.1 hd ht (fun h9 => kt h9 f l p e s m args below meth c H locs cells slots mc ms ls C Wd hM hS hl hB h1 h2) (fun h9 => kf h9 f l p e s m args below meth c H locs cells slots mc ms ls C Wd hM hS hl hB h1 h2)
theorem G_if_ne {x : Int32} {off : Int} {tgt : Nat} (hd : decode y.2.1 pc = .ok (.ifCond .ne off, 3)) (ht : (pc : Int) + off = (tgt : Int)) (kt : ¬ x = 0 → G sc y tgt L st M Q) (kf : x = 0 → G sc y (pc + 3) L st M Q) : G sc y pc L (aI x :: st) M Q := by
  intro f l p e s m args below meth c H locs cells slots mc ms ls C Wd hM hS hl hB h1 h2
  exact lv_if_ne C.1 C.2.1 hd ht (fun h9 => kt h9 f l p e s m args below meth c H locs cells slots mc ms ls C Wd hM hS hl hB h1 h2) (fun h9 => kf h9 f l p e s m args below meth c H locs cells slots mc ms ls C Wd hM hS hl hB h1 h2)
theorem G_icmp_ne {x z : Int32} {off : Int} {tgt : Nat} (hd : decode y.2.1 pc = .ok (.if_icmp .ne off, 3)) (ht : (pc : Int) + off = (tgt : Int)) (kt : ¬ x = z → G sc y tgt L st M Q) (kf : x = z → G sc y (pc + 3) L st M Q) : G sc y pc L (aI z :: aI x :: st) M Q := by
  intro f l p e s m args below meth c H locs cells slots mc ms ls C Wd hM hS hl hB h1 h2
  exact lv_icmp_ne C.1 C.2.1 hd ht (fun h9 => kt h9 f l p e s m args below meth c H locs cells slots mc ms ls C Wd hM hS hl hB h1 h2) (fun h9 => kf h9 f l p e s m args below meth c H locs cells slots mc ms ls C Wd hM hS hl hB h1 h2)
theorem G_if_lt {x : Int32} {off : Int} {tgt : Nat} (hd : decode y.2.1 pc = .ok (.ifCond .lt off, 3)) (ht : (pc : Int) + off = (tgt : Int)) (kt : x < 0 → G sc y tgt L st M Q) (kf : ¬ x < 0 → G sc y (pc + 3) L st M Q) : G sc y pc L (aI x :: st) M Q := by
  intro f l p e s m args below meth c H locs cells slots mc ms ls C Wd hM hS hl hB h1 h2
  exact lv_if_lt C.1 C.2.1 hd ht (fun h9 => kt h9 f l p e s m args below meth c H locs cells slots mc ms ls C Wd hM hS hl hB h1 h2) (fun h9 => kf h9 f l p e s m args below meth c H locs cells slots mc ms ls C Wd hM hS hl hB h1 h2)
theorem G_icmp_lt {x z : Int32} {off : Int} {tgt : Nat} (hd : decode y.2.1 pc = .ok (.if_icmp .lt off, 3)) (ht : (pc : Int) + off = (tgt : Int)) (kt : x < z → G sc y tgt L st M Q) (kf : ¬ x < z → G sc y (pc + 3) L st M Q) : G sc y pc L (aI z :: aI x :: st) M Q := by
  intro f l p e s m args below meth c H locs cells slots mc ms ls C Wd hM hS hl hB h1 h2
  exact lv_icmp_lt C.1 C.2.1 hd ht (fun h9 => kt h9 f l p e s m args below meth c H locs cells slots mc ms ls C Wd hM hS hl hB h1 h2) (fun h9 => kf h9 f l p e s m args below meth c H locs cells slots mc ms ls C Wd hM hS hl hB h1 h2)
theorem G_if_ge {x : Int32} {off : Int} {tgt : Nat} (hd : decode y.2.1 pc = .ok (.ifCond .ge off, 3)) (ht : (pc : Int) + off = (tgt : Int)) (kt : 0 ≤ x → G sc y tgt L st M Q) (kf : ¬ 0 ≤ x → G sc y (pc + 3) L st M Q) : G sc y pc L (aI x :: st) M Q := by
  intro f l p e s m args below meth c H locs cells slots mc ms ls C Wd hM hS hl hB h1 h2
  exact lv_if_ge C.1 C.2.1 hd ht (fun h9 => kt h9 f l p e s m args below meth c H locs cells slots mc ms ls C Wd hM hS hl hB h1 h2) (fun h9 => kf h9 f l p e s m args below meth c H locs cells slots mc ms ls C Wd hM hS hl hB h1 h2)
theorem G_icmp_ge {x z : Int32} {off : Int} {tgt : Nat} (hd : decode y.2.1 pc = .ok (.if_icmp .ge off, 3)) (ht : (pc : Int) + off = (tgt : Int)) (kt : z ≤ x → G sc y tgt L st M Q) (kf : ¬ z ≤ x → G sc y (pc + 3) L st M Q) : G sc y pc L (aI z :: aI x :: st) M Q := by
  intro f l p e s m args below meth c H locs cells slots mc ms ls C Wd hM hS hl hB h1 h2
  exact lv_icmp_ge C.1 C.2.1 hd ht (fun h9 => kt h9 f l p e s m args below meth c H locs cells slots mc ms ls C Wd hM hS hl hB h1 h2) (fun h9 => kf h9 f l p e s m args below meth c H locs cells slots mc ms ls C Wd hM hS hl hB h1 h2)
theorem G_if_gt {x : Int32} {off : Int} {tgt : Nat} (hd : decode y.2.1 pc = .ok (.ifCond .gt off, 3)) (ht : (pc : Int) + off = (tgt : Int)) (kt : 0 < x → G sc y tgt L st M Q) (kf : ¬ 0 < x → G sc y (pc + 3) L st M Q) : G sc y pc L (aI x :: st) M Q := by
  intro f l p e s m args below meth c H locs cells slots mc ms ls C Wd hM hS hl hB h1 h2
  exact lv_if_gt C.1 C.2.1 hd ht (fun h9 => kt h9 f l p e s m args below meth c H locs cells slots mc ms ls C Wd hM hS hl hB h1 h2) (fun h9 => kf h9 f l p e s m args below meth c H locs cells slots mc ms ls C Wd hM hS hl hB h1 h2)
theorem G_icmp_gt {x z : Int32} {off : Int} {tgt : Nat} (hd : decode y.2.1 pc = .ok (.if_icmp .gt off, 3)) (ht : (pc : Int) + off = (tgt : Int)) (kt : z < x → G sc y tgt L st M Q) (kf : ¬ z < x → G sc y (pc + 3) L st M Q) : G sc y pc L (aI z :: aI x :: st) M Q := by
  intro f l p e s m args below meth c H locs cells slots mc ms ls C Wd hM hS hl hB h1 h2
  exact lv_icmp_gt C.1 C.2.1 hd ht (fun h9 => kt h9 f l p e s m args below meth c H locs cells slots mc ms ls C Wd hM hS hl hB h1 h2) (fun h9 => kf h9 f l p e s m args below meth c H locs cells slots mc ms ls C Wd hM hS hl hB h1 h2)
theorem G_if_le {x : Int32} {off : Int} {tgt : Nat} (hd : decode y.2.1 pc = .ok (.ifCond .le off, 3)) (ht : (pc : Int) + off = (tgt : Int)) (kt : x ≤ 0 → G sc y tgt L st M Q) (kf : ¬ x ≤ 0 → G sc y (pc + 3) L st M Q) : G sc y pc L (aI x :: st) M Q := by
  intro f l p e s m args below meth c H locs cells slots mc ms ls C Wd hM hS hl hB h1 h2
  exact lv_if_le C.1 C.2.1 hd ht (fun h9 => kt h9 f l p e s m args below meth c H locs cells slots mc ms ls C Wd hM hS hl hB h1 h2) (fun h9 => kf h9 f l p e s m args below meth c H locs cells slots mc ms ls C Wd hM hS hl hB h1 h2)
theorem G_icmp_le {x z : Int32} {off : Int} {tgt : Nat} (hd : decode y.2.1 pc = .ok (.if_icmp .le off, 3)) (ht : (pc : Int) + off = (tgt : Int)) (kt : x ≤ z → G sc y tgt L st M Q) (kf : ¬ x ≤ z → G sc y (pc + 3) L st M Q) : G sc y pc L (aI z :: aI x :: st) M Q := by
  intro f l p e s m args below meth c H locs cells slots mc ms ls C Wd hM hS hl hB h1 h2
  exact lv_icmp_le C.1 C.2.1 hd ht (fun h9 => kt h9 f l p e s m args below meth c H locs cells slots mc ms ls C Wd hM hS hl hB h1 h2) (fun h9 => kf h9 f l p e s m args below meth c H locs cells slots mc ms ls C Wd hM hS hl hB h1 h2)
theorem G_goto {off : Int} {tgt : Nat} (hd : decode y.2.1 pc = .ok (.goto off, 3)) (ht : (pc : Int) + off = (tgt : Int)) (k : G sc y tgt L st M Q) : G sc y pc L st M Q := by
  intro f l p e s m args below meth c H locs cells slots mc ms ls C Wd hM hS hl hB h1 h2
  exact lv_goto C.1 C.2.1 hd ht (k f l p e s m args below meth c H locs cells slots mc ms ls C Wd hM hS hl hB h1 h2)
theorem G_tableOut {dflt lo hi : Int} {offs : Array Int} {len : Nat} {x : Int32} {tgt : Nat} (hd : decode y.2.1 pc = .ok (.tableswitch dflt lo hi offs, len)) (h : x.toInt < lo ∨ hi < x.toInt) (ht : (pc : Int) + dflt = (tgt : Int)) (k : G sc y tgt L st M Q) : G sc y pc L (aI x :: st) M Q := by
  intro f l p e s m args below meth c H locs cells slots mc ms ls C Wd hM hS hl hB h1 h2
  exact lv_tableOut C.1 C.2.1 hd h ht (k f l p e s m args below meth c H locs cells slots mc ms ls C Wd hM hS hl hB h1 h2)
theorem G_tableIn {dflt lo hi : Int} {offs : Array Int} {len : Nat} {x : Int32} {off : Int} {tgt : Nat} (hd : decode y.2.1 pc = .ok (.tableswitch dflt lo hi offs, len)) (g1 : ¬ x.toInt < lo) (g2 : ¬ hi < x.toInt) (ho : offs[(x.toInt - lo).toNat]? = some off) (ht : (pc : Int) + off = (tgt : Int)) (k : G sc y tgt L st M Q) : G sc y pc L (aI x :: st) M Q := by
  intro f l p e s m args below meth c H locs cells slots mc ms ls C Wd hM hS hl hB h1 h2
  exact lv_tableIn C.1 C.2.1 hd g1 g2 ho ht (k f l p e s m args below meth c H locs cells slots mc ms ls C Wd hM hS hl hB h1 h2)
theorem G_ldc {i : Nat} {v : Int32} (hd : decode y.2.1 pc = .ok (.ldc i, 2)) (hc : Cond.constant y.1.cls i v ∈ gTs) (k : G sc y (pc + 2) L (aI v :: st) M Q) : G sc y pc L st M Q := by
  intro f l p e s m args below meth c H locs cells slots mc ms ls C Wd hM hS hl hB h1 h2
  exact lv_ldc C.1 C.2.1 C.2.2.2.1 (C.2.2.2.2.1 _ hc) hd (k f l p e s m args below meth c H locs cells slots mc ms ls C Wd hM hS hl hB h1 h2)
theorem G_ldcw {i : Nat} {v : Int32} (hd : decode y.2.1 pc = .ok (.ldc_w i, 3)) (hc : Cond.constant y.1.cls i v ∈ gTs) (k : G sc y (pc + 3) L (aI v :: st) M Q) : G sc y pc L st M Q := by
  intro f l p e s m args below meth c H locs cells slots mc ms ls C Wd hM hS hl hB h1 h2
  exact lv_ldcw C.1 C.2.1 C.2.2.2.1 (C.2.2.2.2.1 _ hc) hd (k f l p e s m args below meth c H locs cells slots mc ms ls C Wd hM hS hl hB h1 h2)
theorem G_ldc2 {i : Nat} {v : Int64} (hd : decode y.2.1 pc = .ok (.ldc2_w i, 3)) (hc : Cond.constantLong y.1.cls i v ∈ gTs) (k : G sc y (pc + 3) L (aL v :: st) M Q) : G sc y pc L st M Q := by
  intro f l p e s m args below meth c H locs cells slots mc ms ls C Wd hM hS hl hB h1 h2
  exact lv_ldc2 C.1 C.2.1 C.2.2.2.1 (C.2.2.2.2.1 _ hc) hd (k f l p e s m args below meth c H locs cells slots mc ms ls C Wd hM hS hl hB h1 h2)
theorem g_ret {f : Cf} {r : Option AV} {s t : State} {H : Heap} {locs : List Loc} {args : Array Value} (hq : Q r M) (hM : gMem f M H) (hS : va_S (gA f) s.heap H locs) (ht : t.heap = H) : gQc f Q args s (.returned (r.map (cvv f))) t := ⟨⟨r, M, rfl, hq, by rw [ht]; exact hM⟩, hS.F ht⟩
theorem G_iret {x : Int32} (hd : decode y.2.1 pc = .ok (.ireturn, 1)) (hr : y.2.2.2.1 = some .int) (hN : M.2.1 ≤ M.2.2.2.1) (hN2 : M.2.2.1 ≤ M.2.2.2.2) (hq : Q (some (aI x)) M) : G sc y pc L [aI x] M Q := by
  intro f l p e s m args below meth c H locs cells slots mc ms ls C Wd hM hS hl hB h1 h2
  have hc : cells ≤ mc := by omega
  have hs : slots ≤ ms := by omega
  exact W.widen hc hs (W.iret C.1 C.2.1 (C.2.2.2.2.2.1.trans hr) (fun t ht _ => g_ret hq hM hS ht) hS.2.2 hd C.2.2.2.2.2.2.1)
theorem G_zret {x : Int32} {ty : FieldType} (hd : decode y.2.1 pc = .ok (.ireturn, 1)) (hr : y.2.2.2.1 = some ty) (hn : narrow ty (.int x) = .int x) (hN : M.2.1 ≤ M.2.2.2.1) (hN2 : M.2.2.1 ≤ M.2.2.2.2) (hq : Q (some (aI x)) M) : G sc y pc L [aI x] M Q := by
  intro f l p e s m args below meth c H locs cells slots mc ms ls C Wd hM hS hl hB h1 h2
  have hc : cells ≤ mc := by omega
  have hs : slots ≤ ms := by omega
  exact W.widen hc hs (W.zret C.1 C.2.1 (C.2.2.2.2.2.1.trans hr) hn (fun t ht _ => g_ret hq hM hS ht) hS.2.2 hd C.2.2.2.2.2.2.1)
theorem G_lret {x : Int64} (hd : decode y.2.1 pc = .ok (.lreturn, 1)) (hr : y.2.2.2.1 = some .long) (hN : M.2.1 ≤ M.2.2.2.1) (hN2 : M.2.2.1 ≤ M.2.2.2.2) (hq : Q (some (aL x)) M) : G sc y pc L [aL x] M Q := by
  intro f l p e s m args below meth c H locs cells slots mc ms ls C Wd hM hS hl hB h1 h2
  have hc : cells ≤ mc := by omega
  have hs : slots ≤ ms := by omega
  exact W.widen hc hs (W.lret C.1 C.2.1 (C.2.2.2.2.2.1.trans hr) (fun t ht _ => g_ret hq hM hS ht) hS.2.2 hd C.2.2.2.2.2.2.1)
theorem G_vret (hd : decode y.2.1 pc = .ok (.return_, 1)) (hr : y.2.2.2.1 = none) (hN : M.2.1 ≤ M.2.2.2.1) (hN2 : M.2.2.1 ≤ M.2.2.2.2) (hq : Q none M) : G sc y pc L [] M Q := by
  intro f l p e s m args below meth c H locs cells slots mc ms ls C Wd hM hS hl hB h1 h2
  have hc : cells ≤ mc := by omega
  have hs : slots ≤ ms := by omega
  exact W.widen hc hs (W.vret C.1 C.2.1 (C.2.2.2.2.2.1.trans hr) (fun t ht _ => g_ret hq hM hS ht) hS.2.2 hd C.2.2.2.2.2.2.1)
theorem G_aret {x : Nat} {n : String} (hd : decode y.2.1 pc = .ok (.areturn, 1)) (hr : y.2.2.2.1 = some (.object n)) (hN : M.2.1 ≤ M.2.2.2.1) (hN2 : M.2.2.1 ≤ M.2.2.2.2) (hq : Q (some (aR x)) M) : G sc y pc L [aR x] M Q := by
  intro f l p e s m args below meth c H locs cells slots mc ms ls C Wd hM hS hl hB h1 h2
  have hc : cells ≤ mc := by omega
  have hs : slots ≤ ms := by omega
  exact W.widen hc hs (W.aret C.1 C.2.1 (C.2.2.2.2.2.1.trans hr) (Or.inl ⟨n, rfl⟩) (Or.inr ⟨_, rfl⟩) (fun t ht _ => g_ret hq hM hS ht) hS.2.2 hd C.2.2.2.2.2.2.1)
end GR
end
section
/-! rules of G that read and write cells -/
def gUp (M : HM) (k : Nat) (c : Cel) : HM := (fun j => if j = k then c else M.1 j, M.2)
theorem gAt_kept {f : Cf} {a : Nat} {c : Cel} {H H1 : Heap} (h : gAt f a c H) (hq : H1[a]? = H[a]?) : gAt f a c H1 := by
  rcases c with ⟨t, n, g⟩ | ⟨t, n, g⟩ | ⟨ci, F⟩
  · exact hq.trans h
  · exact hq.trans h
  · exact t_OB.kept h hq
theorem gMem_set {f : Cf} {M : HM} {H H1 : Heap} {k : Nat} {c : Cel} (hM : gMem f M H) (z : H1.size = H.size) (oq : ∀ q, q ≠ f.1 + k → H1[q]? = H[q]?) (hc : gAt f (f.1 + k) c H1) : gMem f (gUp M k c) H1 := by
  refine ⟨z.trans hM.1, fun j hj => ?_⟩
  show gAt f (f.1 + j) (if j = k then c else M.1 j) H1
  by_cases h : j = k
  · subst h
    rw [if_pos rfl]
    exact hc
  · rw [if_neg h]
    exact gAt_kept (hM.2 j hj) (oq _ (by omega))
/-- the class ci: its words, types, names -/
theorem gCls {ci : Nat} {q : vw_C} (h : vwCl[ci]? = some q) : (∀ w ∈ u_ws q.1 q.2.1 q.2.2, w ∈ gTs) ∧ (∃ ty : Nat → FieldType, ∀ k, k < q.2.2 → parseFieldDescriptor (q.2.1 k).2.2.1 = some (ty k)) ∧ ∀ a, a < q.2.2 → ∀ b, b < q.2.2 → a ≠ b → (q.2.1 a).2.1 ≠ (q.2.1 b).2.1 := by
  match ci, h with
  | 0, h => cases h; exact ⟨by decide +kernel, ⟨tyX0, tyX0_ok⟩, nmX0⟩
  | 1, h => cases h; exact ⟨by decide +kernel, ⟨tyX2, tyX2_ok⟩, nmX2⟩
  | 2, h => cases h; exact ⟨by decide +kernel, ⟨tyX3, tyX3_ok⟩, nmX3⟩
  | 3, h => cases h; exact ⟨by decide +kernel, ⟨tyX4, tyX4_ok⟩, nmX4⟩
  | 4, h => cases h; exact ⟨by decide +kernel, ⟨tyX5, tyX5_ok⟩, nmX5⟩
  | 5, h => cases h; exact ⟨by decide +kernel, ⟨tyX6, tyX6_ok⟩, nmX6⟩
  | 6, h => cases h; exact ⟨by decide +kernel, ⟨tyX7, tyX7_ok⟩, nmX7⟩
  | 7, h => cases h; exact ⟨by decide +kernel, ⟨tyX8, tyX8_ok⟩, nmX8⟩
  | 8, h => cases h; exact ⟨by decide +kernel, ⟨tyX9, tyX9_ok⟩, nmX9⟩
  | 9, h => cases h; exact ⟨by decide +kernel, ⟨tyX10, tyX10_ok⟩, nmX10⟩
  | n + 10, h => simp [vwCl] at h
/-- in the class own the pool's entry i is the field k of the class ci -/
def flB (own : String) (i ci k : Nat) : Bool := match vwCl[ci]? with
  | some q => decide (k < q.2.2) && (decide (Cond.fieldLink own i q.1 (q.2.1 k).2.1 (q.2.1 k).2.2.1 ∈ gTs) && decide ((q.2.1 k).1 = q.1))
  | none => false
theorem flB_spec {own : String} {i ci k : Nat} (h : flB own i ci k = true) : ∃ q : vw_C, vwCl[ci]? = some q ∧ k < q.2.2 ∧ Cond.fieldLink own i q.1 (q.2.1 k).2.1 (q.2.1 k).2.2.1 ∈ gTs ∧ (q.2.1 k).1 = q.1 := by
  unfold flB at h
  split at h
  · rename_i q hq
    simp only [Bool.and_eq_true, decide_eq_true_eq] at h
    exact ⟨q, hq, h.1, h.2.1, h.2.2⟩
  · cases h
/-- and its type is ty, not final -/
def fpB (ci k : Nat) (ty : FieldType) : Bool := match vwCl[ci]? with
  | some q => decide (parseFieldDescriptor (q.2.1 k).2.2.1 = some ty) && decide ((q.2.1 k).2.2.2 = false)
  | none => false
def ffB (ci k : Nat) (ty : FieldType) : Bool := match vwCl[ci]? with
  | some q => decide (parseFieldDescriptor (q.2.1 k).2.2.1 = some ty) && decide ((q.2.1 k).2.2.2 = true)
  | none => false
section GM
variable {sc : SC} {y : MI} {pc : Nat} {L : List (Option AV)} {st : List AV} {M : HM} {Q : Option AV → HM → Prop}
theorem G_getfield {i a ci k : Nat} {F : Nat → AV} (hd : decode y.2.1 pc = .ok (.getfield i, 3)) (hf : flB y.1.cls i ci k = true) (ha : a < M.2.1) (hc : M.1 a = .inr (.inr (ci, F))) (kk : G sc y (pc + 3) L (F k :: st) M Q) : G sc y pc L (aR a :: st) M Q := by
  intro f l p e s m args below meth c H locs cells slots mc ms ls C Wd hM hS hl hB h1 h2
  obtain ⟨q, hq, hk, hw, he⟩ := flB_spec hf
  have ho := hM.2 a ha
  rw [hc] at ho
  obtain ⟨cell, q1, q2, q3, q4⟩ := ho
  obtain ⟨hSl, hfc, kC, hkC, hkind⟩ := Wd.1.1 ci _ hq
  obtain ⟨cf, kf, fi, fd, hi, hsl⟩ := hSl k hk
  have hN : gN ci = q.2.2 := by simp [gN, hq]
  refine W.getf C.1 C.2.1 C.2.2.2.1 (C.2.2.2.2.1 _ hw) (by rw [← he]; exact hi) (u_facts hfc hkC (u_lays C.2.2.2.2.1 (gCls hq).1 hk) hi).1 q1 (by rw [q3]; exact fun h => by cases h) (v := cvv f (F k)) ?_ rfl rfl hd (kk f l p e s m args below meth c H locs cells slots mc ms ls C Wd hM hS hl hB h1 h2)
  rw [hsl, q4 k (by rw [hN]; exact hk)]
theorem g_putAt {f : Cf} {s : State} {args : Array Value} {H1 : Heap} {a ci k : Nat} {F : Nat → AV} {v : AV} {cell : Cell} (hts : ∀ w ∈ gTs, w.before args s = true) (hK : va_K f.2.1 vwCl (gTy f) s) {q : vw_C} (hq : vwCl[ci]? = some q) (hk : k < q.2.2) (q2 : cell.cls = f.2.1.1 ci) (q3 : cell.vm = .none) (q4 : ∀ j, j < gN ci → cell.slots[f.2.1.2 ci j]? = some (cvv f (F j))) (e1 : H1[a]? = some (cell.setSlot (f.2.1.2 ci k) (cvv f v))) : gAt f a (.inr (.inr (ci, fun j => if j = k then v else F j))) H1 := by
  obtain ⟨ty0, hty⟩ := (gCls hq).2.1
  have hN : gN ci = q.2.2 := by simp [gN, hq]
  have hap := va_apart (own := q.1) hts (gCls hq).1 ty0 hty (gCls hq).2.2 hK hq
  refine ⟨_, e1, q2, q3, fun j hj => ?_⟩
  rw [hN] at hj q4
  rw [t_set q4 hap hk (cvv f v) j hj]
  unfold updV
  by_cases h : j = k
  · simp [h]
  · simp [h]
theorem G_putfield {i a ci k : Nat} {F : Nat → AV} {v : AV} {ty : FieldType} (hd : decode y.2.1 pc = .ok (.putfield i, 3)) (hf : flB y.1.cls i ci k = true) (hp : fpB ci k ty = true) (hn : ∀ f : Cf, narrow ty (cvv f v) = cvv f v ∧ fits ty (cvv f v) = true) (ha : a < M.2.1) (hc : M.1 a = .inr (.inr (ci, F)))
    (kk : G sc y (pc + 3) L st (gUp M a (.inr (.inr (ci, fun j => if j = k then v else F j)))) Q) : G sc y pc L (v :: aR a :: st) M Q := by
  intro f l p e s m args below meth c H locs cells slots mc ms ls C Wd hM hS hl hB h1 h2
  obtain ⟨q, hq, hk, hw, he⟩ := flB_spec hf
  have ho := hM.2 a ha
  rw [hc] at ho
  obtain ⟨cell, q1, q2, q3, q4⟩ := ho
  obtain ⟨hSl, hfc, kC, hkC, hkind⟩ := Wd.1.1 ci _ hq
  obtain ⟨cf, kf, fi, fd, hi, hsl⟩ := hSl k hk
  have hN : gN ci = q.2.2 := by simp [gN, hq]
  have hp2 : parseFieldDescriptor (q.2.1 k).2.2.1 = some ty ∧ (q.2.1 k).2.2.2 = false := by simpa [fpB, hq] using hp
  have hlay := C.2.2.2.2.1 _ ((gCls hq).1 _ (u_in_lay hk))
  unfold u_lay at hlay
  rw [if_neg (by rw [hp2.2]; decide)] at hlay
  have hst := (u_facts hfc hkC (u_lays C.2.2.2.2.1 (gCls hq).1 hk) hi).1
  have h6 := u_store hfc hkC hkind hlay hi hp2.1 (hn f).1 (hn f).2
  refine W.putK C.1 C.2.1 (f := fd) ⟨C.2.2.2.1, C.2.2.2.2.1 _ hw, ⟨_, _, _, by rw [← he]; exact hi⟩, hst⟩ (by rw [q2]; exact h6) q1 q3 (by rw [hsl]; exact k2_hasslot (q4 k (by rw [hN]; exact hk))) rfl rfl hd fun H1 e1 e2 e3 => ?_
  rw [hsl] at e1 ⊢
  exact kk f l p e s m args below meth c H1 _ cells slots mc ms ls C Wd (gMem_set hM e2 e3 (g_putAt C.2.2.2.2.1 Wd.1 hq hk q2 q3 q4 e1)) (hS.put e2 e3 (by show f.1 ≤ f.1 + a; omega)) hl hB h1 h2
theorem G_putfinal {i a ci k : Nat} {F : Nat → AV} {v : AV} {ty : FieldType} (hd : decode y.2.1 pc = .ok (.putfield i, 3)) (hf : flB y.1.cls i ci k = true) (hp : ffB ci k ty = true) (hy : y.1.name = "<init>") (hy2 : (match vwCl[ci]? with | some q => decide (q.1 = y.1.cls) | none => false) = true) (hn : ∀ f : Cf, narrow ty (cvv f v) = cvv f v ∧ fits ty (cvv f v) = true) (ha : a < M.2.1) (hc : M.1 a = .inr (.inr (ci, F)))
    (kk : G sc y (pc + 3) L st (gUp M a (.inr (.inr (ci, fun j => if j = k then v else F j)))) Q) : G sc y pc L (v :: aR a :: st) M Q := by
  intro f l p e s m args below meth c H locs cells slots mc ms ls C Wd hM hS hl hB h1 h2
  obtain ⟨q, hq, hk, hw, he⟩ := flB_spec hf
  have ho := hM.2 a ha
  rw [hc] at ho
  obtain ⟨cell, q1, q2, q3, q4⟩ := ho
  obtain ⟨hSl, hfc, kC, hkC, hkind⟩ := Wd.1.1 ci _ hq
  obtain ⟨cf, kf, fi, fd, hi, hsl⟩ := hSl k hk
  have hN : gN ci = q.2.2 := by simp [gN, hq]
  have hp2 : parseFieldDescriptor (q.2.1 k).2.2.1 = some ty ∧ (q.2.1 k).2.2.2 = true := by simpa [ffB, hq] using hp
  have hy3 : q.1 = y.1.cls := by simpa [hq] using hy2
  have hlay := C.2.2.2.2.1 _ ((gCls hq).1 _ (u_in_lay hk))
  unfold u_lay at hlay
  rw [if_pos hp2.2] at hlay
  have hst := (u_facts hfc hkC (u_lays C.2.2.2.2.1 (gCls hq).1 hk) hi).1
  have hcf : m.cls = cf := by
    obtain ⟨_, _, c', _, _, _, -, -, hf', -, -, -, hown2, -⟩ := Cond.laysFinal_spec hlay
    have e1 : c' = cf := by have := hi.symm.trans hf'; simp at this; exact this.1.symm
    rw [he, hy3] at hown2
    rw [← e1]; exact Option.some.inj (C.2.2.2.1.symm.trans hown2)
  have h6 := u_fits hfc hkC hkind (Or.inr hlay) hi hp2.1 (hn f).1 (hn f).2
  refine W.putFinK C.1 C.2.1 C.2.2.2.1 (C.2.2.2.2.1 _ hw) (by rw [← he]; exact hi) hst hcf (C.2.2.2.2.2.2.2.trans hy) (by rw [q2]; exact h6) q1 q3 (by rw [hsl]; exact k2_hasslot (q4 k (by rw [hN]; exact hk))) rfl rfl hd fun H1 e1 e2 e3 => ?_
  rw [hsl] at e1 ⊢
  exact kk f l p e s m args below meth c H1 _ cells slots mc ms ls C Wd (gMem_set hM e2 e3 (g_putAt C.2.2.2.2.1 Wd.1 hq hk q2 q3 q4 e1)) (hS.put e2 e3 (by show f.1 ≤ f.1 + a; omega)) hl hB h1 h2
theorem G_iaload {a n : Nat} {g : Nat → Int32} {i : Int32} (hd : decode y.2.1 pc = .ok (.iaload, 1)) (ha : a < M.2.1) (hc : M.1 a = .inl (0, n, g)) (hi : vp_in i n) (kk : G sc y (pc + 1) L (aI (g i.toNatClampNeg) :: st) M Q) : G sc y pc L (aI i :: aR a :: st) M Q := by
  intro f l p e s m args below meth c H locs cells slots mc ms ls C Wd hM hS hl hB h1 h2
  have ho := hM.2 a ha
  rw [hc] at ho
  have hlt : i.toNatClampNeg < n := Nat.not_le.mp fun q => hi (Or.inr q)
  exact W.iald C.1 C.2.1 ho ((Wd.1.2 0 _ rfl).1 n (fun j => .int (g j))) (fun q => by cases q) (by show ¬ (i < 0 ∨ (arrV _ _ _).slots.size ≤ _); rw [arrV_size]; exact hi) (v := .int (g i.toNatClampNeg)) (by show (arrV _ _ _).slots[_]? = _; rw [arrV_read _ _ hlt]) rfl rfl hd (kk f l p e s m args below meth c H locs cells slots mc ms ls C Wd hM hS hl hB h1 h2)
theorem g_astAt {f : Cf} {H1 : Heap} {a t n : Nat} {g : Nat → Int32} {i x : Int32} (v : Value) (hv : v = .int x) (e : H1[a]? = some ((vp_cell (f.2.2.1 t) (n, .inl g)).setSlot i.toNatClampNeg v)) : gAt f a (.inl (t, n, upd g i.toNatClampNeg x)) H1 := by
  show H1[a]? = some (vp_cell _ _)
  rw [e]
  rw [vp_cell_i, vp_cell_i, arrV_store]
  congr 2
  funext q
  by_cases hq : q = i.toNatClampNeg
  · subst hq
    simp [updV, upd, hv]
  · simp [updV, upd, hq]
theorem G_iastore {a n : Nat} {g : Nat → Int32} {i x : Int32} (hd : decode y.2.1 pc = .ok (.iastore, 1)) (ha : a < M.2.1) (hc : M.1 a = .inl (0, n, g)) (hi : vp_in i n) (kk : G sc y (pc + 1) L st (gUp M a (.inl (0, n, upd g i.toNatClampNeg x))) Q) : G sc y pc L (aI x :: aI i :: aR a :: st) M Q := by
  intro f l p e s m args below meth c H locs cells slots mc ms ls C Wd hM hS hl hB h1 h2
  have ho := hM.2 a ha
  rw [hc] at ho
  refine W.iast C.1 C.2.1 ho ((Wd.1.2 0 _ rfl).1 n (fun j => .int (g j))) (fun q => by cases q) (by show ¬ (i < 0 ∨ (arrV _ _ _).slots.size ≤ _); rw [arrV_size]; exact hi) rfl rfl hd fun H1 e1 e2 e3 => ?_
  exact kk f l p e s m args below meth c H1 _ cells slots mc ms ls C Wd (gMem_set hM e2 e3 (g_astAt _ rfl e1)) (hS.put e2 e3 (by show f.1 ≤ f.1 + a; omega)) hl hB h1 h2
theorem G_baload {a n : Nat} {g : Nat → Int32} {i : Int32} (hd : decode y.2.1 pc = .ok (.baload, 1)) (ha : a < M.2.1) (hc : M.1 a = .inl (1, n, g)) (hi : vp_in i n) (kk : G sc y (pc + 1) L (aI (g i.toNatClampNeg) :: st) M Q) : G sc y pc L (aI i :: aR a :: st) M Q := by
  intro f l p e s m args below meth c H locs cells slots mc ms ls C Wd hM hS hl hB h1 h2
  have ho := hM.2 a ha
  rw [hc] at ho
  refine va_bald (D := f.2.1) (cl := vwCl) (tys := gTy f) (ws := [(f.1 + a, .inl (f.2.2.1 1, n, .inl g))]) C.1 C.2.1 Wd.1 (fun k q hk => ?_) 0 1 rfl rfl hi hd (kk f l p e s m args below meth c H locs cells slots mc ms ls C Wd hM hS hl hB h1 h2)
  match k, hk with
  | 0, hk => cases hk; exact ho
  | k + 1, hk => simp at hk
theorem G_saload {a n : Nat} {g : Nat → Int32} {i : Int32} (hd : decode y.2.1 pc = .ok (.saload, 1)) (ha : a < M.2.1) (hc : M.1 a = .inl (2, n, g)) (hi : vp_in i n) (kk : G sc y (pc + 1) L (aI (g i.toNatClampNeg) :: st) M Q) : G sc y pc L (aI i :: aR a :: st) M Q := by
  intro f l p e s m args below meth c H locs cells slots mc ms ls C Wd hM hS hl hB h1 h2
  have ho := hM.2 a ha
  rw [hc] at ho
  refine va_sald (D := f.2.1) (cl := vwCl) (tys := gTy f) (ws := [(f.1 + a, .inl (f.2.2.1 2, n, .inl g))]) C.1 C.2.1 Wd.1 (fun k q hk => ?_) 0 2 rfl rfl hi hd (kk f l p e s m args below meth c H locs cells slots mc ms ls C Wd hM hS hl hB h1 h2)
  match k, hk with
  | 0, hk => cases hk; exact ho
  | k + 1, hk => simp at hk
theorem G_bastore {a n : Nat} {g : Nat → Int32} {i x : Int32} (hd : decode y.2.1 pc = .ok (.bastore, 1)) (ha : a < M.2.1) (hc : M.1 a = .inl (1, n, g)) (hi : vp_in i n) (kk : G sc y (pc + 1) L st (gUp M a (.inl (1, n, upd g i.toNatClampNeg x.toInt8.toInt32))) Q) : G sc y pc L (aI x :: aI i :: aR a :: st) M Q := by
  intro f l p e s m args below meth c H locs cells slots mc ms ls C Wd hM hS hl hB h1 h2
  have ho := hM.2 a ha
  rw [hc] at ho
  refine W.bast C.1 C.2.1 ho ((Wd.1.2 1 _ rfl).1 n (fun j => .int (g j))) (fun q => by cases q) (by show ¬ (i < 0 ∨ (arrV _ _ _).slots.size ≤ _); rw [arrV_size]; exact hi) rfl rfl hd fun H1 e1 e2 e3 => ?_
  exact kk f l p e s m args below meth c H1 _ cells slots mc ms ls C Wd (gMem_set hM e2 e3 (g_astAt _ (by rfl) e1)) (hS.put e2 e3 (by show f.1 ≤ f.1 + a; omega)) hl hB h1 h2
theorem G_sastore {a n : Nat} {g : Nat → Int32} {i x : Int32} (hd : decode y.2.1 pc = .ok (.sastore, 1)) (ha : a < M.2.1) (hc : M.1 a = .inl (2, n, g)) (hi : vp_in i n) (kk : G sc y (pc + 1) L st (gUp M a (.inl (2, n, upd g i.toNatClampNeg x.toInt16.toInt32))) Q) : G sc y pc L (aI x :: aI i :: aR a :: st) M Q := by
  intro f l p e s m args below meth c H locs cells slots mc ms ls C Wd hM hS hl hB h1 h2
  have ho := hM.2 a ha
  rw [hc] at ho
  refine W.sast C.1 C.2.1 ho ((Wd.1.2 2 _ rfl).1 n (fun j => .int (g j))) (fun q => by cases q) (by show ¬ (i < 0 ∨ (arrV _ _ _).slots.size ≤ _); rw [arrV_size]; exact hi) rfl rfl hd fun H1 e1 e2 e3 => ?_
  exact kk f l p e s m args below meth c H1 _ cells slots mc ms ls C Wd (gMem_set hM e2 e3 (g_astAt _ (by rfl) e1)) (hS.put e2 e3 (by show f.1 ≤ f.1 + a; omega)) hl hB h1 h2
theorem G_alen {a t n : Nat} {g : Nat → Int32} {v : Int32} (hd : decode y.2.1 pc = .ok (.arraylength, 1)) (ha : a < M.2.1) (ht : t < 3) (hc : M.1 a = .inl (t, n, g)) (hv : Int32.ofNat n = v) (kk : G sc y (pc + 1) L (aI v :: st) M Q) : G sc y pc L (aR a :: st) M Q := by
  intro f l p e s m args below meth c H locs cells slots mc ms ls C Wd hM hS hl hB h1 h2
  have ho := hM.2 a ha
  rw [hc] at ho
  have hw : va_P f.2.1 vwCl [(f.1 + a, .inl (f.2.2.1 t, n, .inl g))] H := fun k q hk => by
    match k, hk with
    | 0, hk => cases hk; exact ho
    | k + 1, hk => simp at hk
  have K := kk f l p e s m args below meth c H locs cells slots mc ms ls C Wd hM hS hl hB h1 h2
  match t, ht with
  | 0, _ => exact va_alen C.1 C.2.1 Wd.1 hw 0 0 rfl rfl hv hd K
  | 1, _ => exact va_alen C.1 C.2.1 Wd.1 hw 0 1 rfl rfl hv hd K
  | 2, _ => exact va_alen C.1 C.2.1 Wd.1 hw 0 2 rfl rfl hv hd K
theorem G_aaload {a t n b : Nat} {g : Nat → Option Nat} {i : Int32} (hd : decode y.2.1 pc = .ok (.aaload, 1)) (ha : a < M.2.1) (ht : 3 ≤ t ∧ t < 7) (hc : M.1 a = .inr (.inl (t, n, g))) (hi : vp_in i n) (hb : g i.toNatClampNeg = some b) (kk : G sc y (pc + 1) L (aR b :: st) M Q) : G sc y pc L (aI i :: aR a :: st) M Q := by
  intro f l p e s m args below meth c H locs cells slots mc ms ls C Wd hM hS hl hB h1 h2
  have ho := hM.2 a ha
  rw [hc] at ho
  have hw : va_P f.2.1 vwCl [(f.1 + a, .inl (f.2.2.1 t, n, .inr (.inr (.inr (.inr (fun i => (g i).map (fun k => f.1 + k)))))))] H := fun k q hk => by
    match k, hk with
    | 0, hk => cases hk; exact ho
    | k + 1, hk => simp at hk
  have K := kk f l p e s m args below meth c H locs cells slots mc ms ls C Wd hM hS hl hB h1 h2
  have K2 : W p l e (gRm y mc ms) s m args below meth c H locs cells slots (MQ below (gQc f Q) args s mc ms (gA f)) (F0 m (pc + 1) ls (va_rf ((g i.toNatClampNeg).map (fun k => f.1 + k)) :: st.map (cvv f))) := by
    rw [hb]
    exact K
  match t, ht with
  | 3, _ => exact va_aldq C.1 C.2.1 Wd.1 hw 0 3 rfl rfl hi hd K2
  | 4, _ => exact va_aldq C.1 C.2.1 Wd.1 hw 0 4 rfl rfl hi hd K2
  | 5, _ => exact va_aldq C.1 C.2.1 Wd.1 hw 0 5 rfl rfl hi hd K2
  | 6, _ => exact va_aldq C.1 C.2.1 Wd.1 hw 0 6 rfl rfl hi hd K2
theorem G_sld {i : Int32} (hd : decode y.2.1 pc = .ok (.iaload, 1)) (hi : vp_in i sc.1) (kk : G sc y (pc + 1) L (aI (sc.2 i.toNatClampNeg) :: st) M Q) : G sc y pc L (aI i :: aE 1 :: st) M Q := by
  intro f l p e s m args below meth c H locs cells slots mc ms ls C Wd hM hS hl hB h1 h2
  have hW2 := Wd.2.1
  have g1 : f.2.2.2 0 < s.heap.size := by omega
  have g2 : ¬ gA f (f.2.2.2 0) := by show ¬ f.1 ≤ _; omega
  exact va_sld C.1 C.2.1 hW2.1 g1 g2 hS hi hd (kk f l p e s m args below meth c H locs cells slots mc ms ls C Wd hM hS hl hB h1 h2)
theorem G_slen (hd : decode y.2.1 pc = .ok (.arraylength, 1)) (kk : G sc y (pc + 1) L (aI (Int32.ofNat sc.1) :: st) M Q) : G sc y pc L (aE 1 :: st) M Q := by
  intro f l p e s m args below meth c H locs cells slots mc ms ls C Wd hM hS hl hB h1 h2
  have hW2 := Wd.2.1
  have g1 : f.2.2.2 0 < s.heap.size := by omega
  have g2 : ¬ gA f (f.2.2.2 0) := by show ¬ f.1 ≤ _; omega
  exact va_slen C.1 C.2.1 hW2.1 g1 g2 hS hd (kk f l p e s m args below meth c H locs cells slots mc ms ls C Wd hM hS hl hB h1 h2)
end GM
end
section
/-! rules of G for calls, and how a contract comes from a walk -/
def gSl (av : List AV) : List (Option AV) := av.flatMap fun v => match v with
  | .inr (.inl _) => [some v, none]
  | _ => [some v]
def gEnt (n : Nat) (av : List AV) : List (Option AV) := gSl av ++ List.replicate (n - (gSl av).length) none
theorem lpr_none (f : Cf) : ∀ (k j : Nat), lpr f j (List.replicate k none) = []
  | 0, _ => rfl
  | k + 1, j => by
    show lpr f (j + 1) (List.replicate k none) = []
    exact lpr_none f k (j + 1)
theorem lpr_ent (f : Cf) (k : Nat) : ∀ (av : List AV) (j : Nat), lpr f j (gSl av ++ List.replicate k none) = lv_args j (av.map (cvv f))
  | [], j => lpr_none f k j
  | .inl x :: r, j => by
    show (j, cvv f (.inl x)) :: lpr f (j + 1) (gSl r ++ List.replicate k none) = (j, cvv f (.inl x)) :: lv_args (j + 1) (r.map (cvv f))
    rw [lpr_ent f k r (j + 1)]
  | .inr (.inl x) :: r, j => by
    show (j, cvv f (.inr (.inl x))) :: lpr f (j + 1 + 1) (gSl r ++ List.replicate k none) = (j, cvv f (.inr (.inl x))) :: lv_args (j + 2) (r.map (cvv f))
    rw [lpr_ent f k r (j + 1 + 1)]
  | .inr (.inr (.inl x)) :: r, j => by
    show (j, cvv f (.inr (.inr (.inl x)))) :: lpr f (j + 1) (gSl r ++ List.replicate k none) = (j, cvv f (.inr (.inr (.inl x)))) :: lv_args (j + 1) (r.map (cvv f))
    rw [lpr_ent f k r (j + 1)]
  | .inr (.inr (.inr 0)) :: r, j => by
    show (j, cvv f (.inr (.inr (.inr 0)))) :: lpr f (j + 1) (gSl r ++ List.replicate k none) = (j, cvv f (.inr (.inr (.inr 0)))) :: lv_args (j + 1) (r.map (cvv f))
    rw [lpr_ent f k r (j + 1)]
  | .inr (.inr (.inr (x + 1))) :: r, j => by
    show (j, cvv f (.inr (.inr (.inr (x + 1))))) :: lpr f (j + 1) (gSl r ++ List.replicate k none) = (j, cvv f (.inr (.inr (.inr (x + 1))))) :: lv_args (j + 1) (r.map (cvv f))
    rw [lpr_ent f k r (j + 1)]
theorem gSl_len (f : Cf) : ∀ av : List AV, (lg_sl (av.map (cvv f))).length = (gSl av).length
  | [] => rfl
  | .inl x :: r => by
    show (lg_sl (r.map (cvv f))).length + 1 = (gSl r).length + 1
    rw [gSl_len f r]
  | .inr (.inl x) :: r => by
    show (lg_sl (r.map (cvv f))).length + 1 + 1 = (gSl r).length + 1 + 1
    rw [gSl_len f r]
  | .inr (.inr (.inl x)) :: r => by
    show (lg_sl (r.map (cvv f))).length + 1 = (gSl r).length + 1
    rw [gSl_len f r]
  | .inr (.inr (.inr 0)) :: r => by
    show (lg_sl (r.map (cvv f))).length + 1 = (gSl r).length + 1
    rw [gSl_len f r]
  | .inr (.inr (.inr (x + 1))) :: r => by
    show (lg_sl (r.map (cvv f))).length + 1 = (gSl r).length + 1
    rw [gSl_len f r]
/-- a contract out of a walk -/
theorem CT_of {sc : SC} {z : MI} {av : List AV} {M : HM} {Q : Option AV → HM → Prop} (hp : plainName z.1.cls = true) (hL : (gSl av).length ≤ z.2.2.1) (hn : M.2.1 ≤ M.2.2.2.1) (hs : M.2.2.1 ≤ M.2.2.2.2) (k : G sc z 0 (gEnt z.2.2.1 av) [] M Q) : CT sc z av M Q := by
  intro f l
  refine Met.ofW (cc := z.2.1) (maxL := z.2.2.1) (ret := z.2.2.2.1) hp rfl ?_
  intro p e s m args below meth c s₁ B hml hv
  obtain ⟨rfl, hM, hWd⟩ := hv
  have hts := atoms_spec (ws := gW z) B.pre
  have hown : s.vm.findClass z.1.cls = some m.cls := findClass_of_methodNamed B.named
  rw [lg_entry_eq]
  have hM1 := hM.1
  refine k f l p e s m _ below meth c s.heap [] 0 0 _ _ _ ⟨B.exec, B.bytes, hml, hown, fun w h => hts w (List.mem_cons_of_mem _ h), B.returns, B.notSynchronized, (name_of_methodNamed B.named B.method).1⟩ hWd hM va_S.rf ?_ (by omega) (by omega) (by omega)
  have h1 := lv_entry (av.map (cvv f)) (n := z.2.2.1) (by rw [gSl_len]; exact hL)
  unfold gEnt
  rw [lpr_ent]
  exact h1
/-- the callee's own words -/
def mB (z : MI) (n : Nat) : Bool := decide (Cond.initialized z.1.cls ∈ gTs) && (decide (Cond.code z.1 z.2.1 z.2.2.1 z.2.2.2.1 ∈ gTs) && (decide (z.1.cls ≠ "java/lang/invoke/MethodHandle" ∧ z.1.cls ≠ "java/lang/invoke/VarHandle") && decide ((parseMethodDescriptor z.1.desc).map (fun d => d.parameters.length) = some n)))
def mS (z : MI) (n : Nat) : Bool := decide (Cond.static z.1 ∈ gTs) && mB z n
def mV (z : MI) (n : Nat) : Bool := (decide (Cond.instanceMethod z.1 ∈ gTs) && decide (Cond.selects z.1.cls z.1 z.1 ∈ gTs)) && mB z n
def mI (z : MI) (n : Nat) : Bool := (decide (Cond.instanceMethod z.1 ∈ gTs) && decide (z.1.name = "<init>")) && (mB z n && decide (z.2.2.2.1 = none))
/-- a call's room, and its link -/
def lkB (y z : MI) (i : Nat) : Bool := decide (Cond.methodLink y.1.cls i z.1 ∈ gTs) && decide (z.2.2.2.2.1 + 1 ≤ y.2.2.2.2.1 ∧ 8 + (z.2.2.1 + 11) + z.2.2.2.2.2 ≤ y.2.2.2.2.2)
def lkN (y z : MI) (i : Nat) : Bool := decide ((y.1.cls, i, z.1, RX9) ∈ gNest) && decide (z.2.2.2.2.1 + 1 ≤ y.2.2.2.2.1 ∧ 8 + (z.2.2.1 + 11) + z.2.2.2.2.2 ≤ y.2.2.2.2.2)
theorem mB_spec {z : MI} {n : Nat} (h : mB z n = true) : Cond.initialized z.1.cls ∈ gTs ∧ Cond.code z.1 z.2.1 z.2.2.1 z.2.2.2.1 ∈ gTs ∧ (z.1.cls ≠ "java/lang/invoke/MethodHandle" ∧ z.1.cls ≠ "java/lang/invoke/VarHandle") ∧ (parseMethodDescriptor z.1.desc).map (fun d => d.parameters.length) = some n := by
  simp only [mB, Bool.and_eq_true, decide_eq_true_eq] at h
  exact h
theorem gW_good {z : MI} (h : Cond.code z.1 z.2.1 z.2.2.1 z.2.2.2.1 ∈ gTs) : GoodIn gTs (gW z) := fun w hw => by
  rcases List.mem_cons.mp hw with rfl | hw
  · exact ⟨h, good_of_word (gTs_good _ h)⟩
  · exact ⟨hw, good_of_word (gTs_good _ hw)⟩
section GC
variable {sc : SC} {y z : MI} {pc : Nat} {L : List (Option AV)} {st : List AV} {M : HM} {Q : Option AV → HM → Prop}
theorem g_back {p : Program} {l : Launch} {e : Env} {R : Room} {s : State} {m : MethodId} {args : Array Value} {below : List Frame} {meth : Method} {c : Code} {H : Heap} {locs : List Loc} {cells slots mc ms : Nat} {Qf : State → Prop} {ls : Array Slot} {st0 rest : List Value} {f : Cf} {Q' : Option AV → HM → Prop} {a : Array Value}
    (hr : va_Run p l e R s m args below meth c H locs cells slots mc ms (F0 m pc ls st0) rest (gQc f Q' a) (gA f)) (hS : va_S (gA f) s.heap H locs)
    (kk : ∀ (r : Option AV) (M' : HM) (H1 : Heap) (locs1 : List Loc), Q' r M' → gMem f M' H1 → va_S (gA f) s.heap H1 locs1 → W p l e R s m args below meth c H1 locs1 (cells + mc) (slots + ms) Qf (F0 m (pc + 3) ls ((r.map (cvv f)).toList ++ rest))) : W p l e R s m args below meth c H locs cells slots Qf (F0 m pc ls st0) := by
  intro T hT X
  obtain ⟨v, st₀, t, T', L', h0, X', hL, e1, e2, ⟨⟨r, M', hv, hq, hm⟩, hz, hk⟩, stp⟩ := hr T hT X
  cases hv
  rw [h0] at hz hk
  obtain ⟨t2, a1, b1⟩ := kk r M' T'.heap (locs ++ L') hq (by rw [e1]; exact hm)
    ⟨Nat.le_trans hS.1 (by rw [e1]; exact hz), fun q g1 g2 => by rw [e1, hk q (Nat.lt_of_lt_of_le g1 hS.1) g2]; exact hS.2.1 q g1 g2, fun q hq => by
      rcases List.mem_append.mp hq with h | h
      · exact hS.2.2 q h
      · exact hL q h⟩ T' rfl X'
  exact ⟨t2, stp t2 a1, b1⟩
/-- the words of what is left on the stack -/
def gCat (st : List AV) : Nat := (st.map fun v => match v with
  | .inr (.inl _) => 2
  | _ => 1).sum
theorem gCat_eq (f : Cf) : ∀ st : List AV, ((st.map (cvv f)).map fun v => v.category).sum = gCat st
  | [] => rfl
  | .inl x :: r => by
    show 1 + ((r.map (cvv f)).map fun v => v.category).sum = 1 + gCat r
    rw [gCat_eq f r]
  | .inr (.inl x) :: r => by
    show 2 + ((r.map (cvv f)).map fun v => v.category).sum = 2 + gCat r
    rw [gCat_eq f r]
  | .inr (.inr (.inl x)) :: r => by
    show 1 + ((r.map (cvv f)).map fun v => v.category).sum = 1 + gCat r
    rw [gCat_eq f r]
  | .inr (.inr (.inr 0)) :: r => by
    show 1 + ((r.map (cvv f)).map fun v => v.category).sum = 1 + gCat r
    rw [gCat_eq f r]
  | .inr (.inr (.inr (x + 1))) :: r => by
    show 1 + ((r.map (cvv f)).map fun v => v.category).sum = 1 + gCat r
    rw [gCat_eq f r]
theorem g_stk {f : Cf} {r : Option AV} {st : List AV} : (r.map (cvv f)).toList ++ st.map (cvv f) = (r.toList ++ st).map (cvv f) := by
  cases r <;> rfl
/-- what a call leads to: the callee's budget is used up, then the caller goes on -/
abbrev gK (sc : SC) (y : MI) (pc : Nat) (L : List (Option AV)) (st : List AV) (M : HM) (n' s' : Nat) (Q : Option AV → HM → Prop) : Option AV → HM → Prop := fun r M' => M'.2.1 = n' ∧ M'.2.2.1 = s' ∧ G sc y (pc + 3) L (r.toList ++ st) (M'.1, n', s', M.2.2.2.1, M.2.2.2.2) Q
theorem g_going {f : Cf} {l : Launch} {p : Program} {e : Env} {s : State} {m : MethodId} {args : Array Value} {below : List Frame} {meth : Method} {c : Code} {cells slots mc ms : Nat} {ls : Array Slot} {n' s' : Nat} (hn : M.2.1 ≤ n' ∧ n' ≤ M.2.2.2.1) (hs : M.2.2.1 ≤ s' ∧ s' ≤ M.2.2.2.2) (C : gCtx y p s m args meth c) (Wd : gWd f sc s) (hl : lv_has ls y.2.2.1 (lpr f 0 L)) (hB : f.1 ≤ s.heap.size) (h1 : cells + M.2.2.2.1 = mc + M.2.1) (h2 : slots + M.2.2.2.2 = ms + M.2.2.1)
    (r : Option AV) (M' : HM) (H1 : Heap) (locs1 : List Loc) (hq : gK sc y pc L st M n' s' Q r M') (hm : gMem f M' H1) (hS1 : va_S (gA f) s.heap H1 locs1) : W p l e (gRm y mc ms) s m args below meth c H1 locs1 (cells + (n' - M.2.1)) (slots + (s' - M.2.2.1)) (MQ below (gQc f Q) args s mc ms (gA f)) (F0 m (pc + 3) ls ((r.map (cvv f)).toList ++ st.map (cvv f))) := by
  rw [g_stk]
  obtain ⟨q1, q2, q3⟩ := hq
  refine q3 f l p e s m args below meth c H1 locs1 _ _ mc ms ls C Wd ?_ hS1 hl hB ?_ ?_
  · refine ⟨?_, fun k hk => hm.2 k ?_⟩
    · rw [hm.1, q1]
    · rw [q1]; exact hk
  · show cells + (n' - M.2.1) + M.2.2.2.1 = mc + n'
    omega
  · show slots + (s' - M.2.2.1) + M.2.2.2.2 = ms + s'
    omega
theorem g_map_rev {f : Cf} {av st : List AV} : (av.reverse ++ st).map (cvv f) = (av.map (cvv f)).reverse ++ st.map (cvv f) := by
  rw [List.map_append, List.map_reverse]
theorem G_callS {i n' s' : Nat} {av : List AV} (hd : decode y.2.1 pc = .ok (.invokestatic i, 3)) (hz : mS z av.length = true) (hlk : lkB y z i = true) (hcat : gCat st ≤ 8) (hn : M.2.1 ≤ n' ∧ n' ≤ M.2.2.2.1) (hs : M.2.2.1 ≤ s' ∧ s' ≤ M.2.2.2.2)
    (hM : CT sc z av (M.1, M.2.1, M.2.2.1, n', s') (gK sc y pc L st M n' s' Q)) : G sc y pc L (av.reverse ++ st) M Q := by
  intro f l p e s m args below meth c H locs cells slots mc ms ls C Wd hMm hS hl hB h1 h2
  simp only [mS, Bool.and_eq_true, decide_eq_true_eq] at hz
  simp only [lkB, Bool.and_eq_true, decide_eq_true_eq] at hlk
  obtain ⟨z1, z2, z3, z4⟩ := mB_spec hz.2
  rw [g_map_rev]
  refine g_back (Q' := gK sc y pc L st M n' s' Q) (va_runS (As := av.map (cvv f)) (rest := st.map (cvv f)) (n := av.length) (index := i) (bytes := z.2.1) (maxL := z.2.2.1) (ret := z.2.2.2.1) (Ts := gTs) (own := y.1.cls) (cc := y.2.1) (nL := y.2.2.1) ⟨C.1, C.2.1, C.2.2.1, C.2.2.2.1, C.2.2.2.2.1⟩ (hM f l) ⟨callB_of av.length C.2.2.2.2.1 (gW_good z2) rfl rfl rfl (C.2.2.2.2.1 _ z1) (C.2.2.2.2.1 _ hlk.1) ⟨z3.1, z3.2, z4⟩ hlk.2, C.2.2.2.2.1 _ hz.1⟩ ⟨gPc_blind f sc av _, fun U hU hW => ⟨rfl, by rw [hU]; exact hMm, gWd_moved Wd hS hB hU hW⟩⟩ rfl (by simp) hl.1 rfl (lv_room (by rw [gCat_eq]; exact hcat)) hd ⟨?_, ?_⟩) hS (g_going hn hs C Wd hl hB h1 h2)
  · show cells + (n' - M.2.1) ≤ mc
    omega
  · show slots + (s' - M.2.2.1) ≤ ms
    omega
theorem g_recv {f : Cf} {s : State} {H : Heap} {a ci : Nat} {F : Nat → AV} {q : vw_C} (Wd : gWd f sc s) (hM : gMem f M H) (ha : a < M.2.1) (hc : M.1 a = .inr (.inr (ci, F))) (hq : vwCl[ci]? = some q) : ∃ cell : Cell, H[f.1 + a]? = some cell ∧ cell.vm.isStatics = false ∧ s.vm.findClass q.1 = some cell.cls := by
  have ho := hM.2 a ha
  rw [hc] at ho
  obtain ⟨cell, q1, q2, q3, q4⟩ := ho
  obtain ⟨hSl, hfc, kC, hkC, hkind⟩ := Wd.1.1 ci _ hq
  exact ⟨cell, q1, by rw [q3]; rfl, by rw [q2]; exact hfc⟩
theorem G_callV {i n' s' a ci : Nat} {av : List AV} {F : Nat → AV} (hd : decode y.2.1 pc = .ok (.invokevirtual i, 3)) (hz : mV z av.length = true) (hlk : lkB y z i = true) (hcat : gCat st ≤ 8) (ha : a < M.2.1) (hc : M.1 a = .inr (.inr (ci, F))) (hci : (vwCl[ci]?).map (fun q => q.1) = some z.1.cls) (hn : M.2.1 ≤ n' ∧ n' ≤ M.2.2.2.1) (hs : M.2.2.1 ≤ s' ∧ s' ≤ M.2.2.2.2)
    (hM : CT sc z (aR a :: av) (M.1, M.2.1, M.2.2.1, n', s') (gK sc y pc L st M n' s' Q)) : G sc y pc L (av.reverse ++ aR a :: st) M Q := by
  intro f l p e s m args below meth c H locs cells slots mc ms ls C Wd hMm hS hl hB h1 h2
  simp only [mV, Bool.and_eq_true, decide_eq_true_eq] at hz
  simp only [lkB, Bool.and_eq_true, decide_eq_true_eq] at hlk
  obtain ⟨z1, z2, z3, z4⟩ := mB_spec hz.2
  cases hq : vwCl[ci]? with
  | none => rw [hq] at hci; cases hci
  | some q =>
    rw [hq] at hci
    have hqc : q.1 = z.1.cls := Option.some.inj hci
    rw [g_map_rev]
    refine g_back (Q' := gK sc y pc L st M n' s' Q) (va_runV (As := av.map (cvv f)) (rest := st.map (cvv f)) (n := av.length) (index := i) (bytes := z.2.1) (maxL := z.2.2.1) (ret := z.2.2.2.1) (Ts := gTs) (own := y.1.cls) (cc := y.2.1) (nL := y.2.2.1) (C := z.1.cls) (b := f.1 + a) ⟨C.1, C.2.1, C.2.2.1, C.2.2.2.1, C.2.2.2.2.1⟩ (hM f l) ⟨callB_of av.length C.2.2.2.2.1 (gW_good z2) rfl rfl rfl (C.2.2.2.2.1 _ z1) (C.2.2.2.2.1 _ hlk.1) ⟨z3.1, z3.2, z4⟩ hlk.2, C.2.2.2.2.1 _ hz.1.1, C.2.2.2.2.1 _ hz.1.2⟩ ⟨gPc_blind f sc _ _, by rw [← hqc]; exact g_recv Wd hMm ha hc hq, fun U hU hW => ⟨rfl, by rw [hU]; exact hMm, gWd_moved Wd hS hB hU hW⟩⟩ rfl (by simp) hl.1 rfl (lv_room (by rw [gCat_eq]; exact hcat)) hd ⟨?_, ?_⟩) hS (g_going hn hs C Wd hl hB h1 h2)
    · show cells + (n' - M.2.1) ≤ mc
      omega
    · show slots + (s' - M.2.2.1) ≤ ms
      omega
theorem G_callI {i n' s' a : Nat} {av : List AV} (hd : decode y.2.1 pc = .ok (.invokespecial i, 3)) (hz : mI z av.length = true) (hlk : lkB y z i = true) (hcat : gCat st ≤ 8) (hn : M.2.1 ≤ n' ∧ n' ≤ M.2.2.2.1) (hs : M.2.2.1 ≤ s' ∧ s' ≤ M.2.2.2.2)
    (hM : CT sc z (aR a :: av) (M.1, M.2.1, M.2.2.1, n', s') (gK sc y pc L st M n' s' Q)) : G sc y pc L (av.reverse ++ aR a :: st) M Q := by
  intro f l p e s m args below meth c H locs cells slots mc ms ls C Wd hMm hS hl hB h1 h2
  simp only [mI, Bool.and_eq_true, decide_eq_true_eq] at hz
  simp only [lkB, Bool.and_eq_true, decide_eq_true_eq] at hlk
  obtain ⟨z1, z2, z3, z4⟩ := mB_spec hz.2.1
  have hno : gW z = Cond.code z.1 z.2.1 z.2.2.1 none :: gTs := by unfold gW; rw [hz.2.2]
  rw [g_map_rev]
  refine g_back (Q' := gK sc y pc L st M n' s' Q) (va_runI (As := av.map (cvv f)) (rest := st.map (cvv f)) (n := av.length) (index := i) (bytes := z.2.1) (maxL := z.2.2.1) (Ts := gTs) (own := y.1.cls) (cc := y.2.1) (nL := y.2.2.1) (b := f.1 + a) ⟨C.1, C.2.1, C.2.2.1, C.2.2.2.1, C.2.2.2.2.1⟩ (hM f l) ⟨callB_of av.length C.2.2.2.2.1 (gW_good z2) hno rfl rfl (C.2.2.2.2.1 _ z1) (C.2.2.2.2.1 _ hlk.1) ⟨z3.1, z3.2, z4⟩ hlk.2, hz.1.2, C.2.2.2.2.1 _ hz.1.1⟩ ⟨gPc_blind f sc _ _, fun U hU hW => ⟨rfl, by rw [hU]; exact hMm, gWd_moved Wd hS hB hU hW⟩⟩ rfl (by simp) hl.1 rfl (lv_room (by rw [gCat_eq]; exact hcat)) hd ⟨?_, ?_⟩) hS (g_going hn hs C Wd hl hB h1 h2)
  · show cells + (n' - M.2.1) ≤ mc
    omega
  · show slots + (s' - M.2.2.1) ≤ ms
    omega
theorem G_callIN {i n' s' a : Nat} {av : List AV} (hd : decode y.2.1 pc = .ok (.invokespecial i, 3)) (hz : mI z av.length = true) (hlk : lkN y z i = true) (hcat : gCat st ≤ 8) (hn : M.2.1 ≤ n' ∧ n' ≤ M.2.2.2.1) (hs : M.2.2.1 ≤ s' ∧ s' ≤ M.2.2.2.2)
    (hM : CT sc z (aR a :: av) (M.1, M.2.1, M.2.2.1, n', s') (gK sc y pc L st M n' s' Q)) : G sc y pc L (av.reverse ++ aR a :: st) M Q := by
  intro f l p e s m args below meth c H locs cells slots mc ms ls C Wd hMm hS hl hB h1 h2
  simp only [mI, Bool.and_eq_true, decide_eq_true_eq] at hz
  simp only [lkN, Bool.and_eq_true, decide_eq_true_eq] at hlk
  obtain ⟨z1, z2, z3, z4⟩ := mB_spec hz.2.1
  have hno : gW z = Cond.code z.1 z.2.1 z.2.2.1 none :: gTs := by unfold gW; rw [hz.2.2]
  rw [g_map_rev]
  refine g_back (Q' := gK sc y pc L st M n' s' Q) (va_runIN (As := av.map (cvv f)) (rest := st.map (cvv f)) (n := av.length) (index := i) (bytes := z.2.1) (maxL := z.2.2.1) (Ts := gTs) (own := y.1.cls) (host := RX9) (cc := y.2.1) (nL := y.2.2.1) (b := f.1 + a) ⟨C.1, C.2.1, C.2.2.1, C.2.2.2.1, C.2.2.2.2.1⟩ (hM f l) ⟨va_cnB av.length C.2.2.2.2.1 (gW_good z2) hno rfl rfl (Wd.2.2.1 _ hlk.1) (C.2.2.2.2.1 _ z1) ⟨z3.1, z3.2, z4⟩ hlk.2, hz.1.2, C.2.2.2.2.1 _ hz.1.1⟩ ⟨gPc_blind f sc _ _, fun U hU hW => ⟨rfl, by rw [hU]; exact hMm, gWd_moved Wd hS hB hU hW⟩⟩ rfl (by simp) hl.1 rfl (lv_room (by rw [gCat_eq]; exact hcat)) hd ⟨?_, ?_⟩) hS (g_going hn hs C Wd hl hB h1 h2)
  · show cells + (n' - M.2.1) ≤ mc
    omega
  · show slots + (s' - M.2.2.1) ≤ ms
    omega
end GC
end
section
/-! rules of G that make cells, rows of references, Object's constructor, texts -/
def gDef (ci j : Nat) : AV := match vwCl[ci]? with
  | some q => match parseFieldDescriptor (q.2.1 j).2.2.1 with
    | some (.object _) => aE 0
    | some (.array _) => aE 0
    | some .long => aL 0
    | _ => aI 0
  | none => aI 0
/-- one cell more, of n slots -/
def gAdd (M : HM) (c : Cel) (n : Nat) : HM := (fun j => if j = M.2.1 then c else M.1 j, M.2.1 + 1, M.2.2.1 + n, M.2.2.2)
theorem gAt_lt {f : Cf} {a : Nat} {c : Cel} {H : Heap} (h : gAt f a c H) : a < H.size := by
  rcases c with ⟨t, n, g⟩ | ⟨t, n, g⟩ | ⟨ci, F⟩
  · exact (Array.getElem?_eq_some_iff.mp h).1
  · exact (Array.getElem?_eq_some_iff.mp h).1
  · obtain ⟨cell, h1, -⟩ := h
    exact (Array.getElem?_eq_some_iff.mp h1).1
theorem gMem_add {f : Cf} {M : HM} {H H1 : Heap} {c : Cel} {n : Nat} (hM : gMem f M H) (z : H1.size = H.size + 1) (oq : ∀ q, q < H.size → H1[q]? = H[q]?) (hc : gAt f H.size c H1) : gMem f (gAdd M c n) H1 := by
  refine ⟨by show H1.size = f.1 + (M.2.1 + 1); rw [z, hM.1]; omega, fun j hj => ?_⟩
  have hj : j < M.2.1 + 1 := hj
  show gAt f (f.1 + j) (if j = M.2.1 then c else M.1 j) H1
  by_cases h : j = M.2.1
  · subst h
    rw [if_pos rfl, ← hM.1]
    exact hc
  · rw [if_neg h]
    have h1 := hM.2 j (by omega)
    exact gAt_kept h1 (oq _ (gAt_lt h1))
def gNew (y : MI) (i ci : Nat) : Bool := match vwCl[ci]? with
  | some q => decide (Cond.classLink y.1.cls i q.1 ∈ gTs) && (decide (Cond.instantiable q.1 q.2.2 ∈ gTs) && decide (Cond.initialized q.1 ∈ gTs))
  | none => false
theorem defV (f : Cf) {ci j : Nat} {q : vw_C} (hq : vwCl[ci]? = some q) {ty : FieldType} (h : parseFieldDescriptor (q.2.1 j).2.2.1 = some ty) (hn : ty ≠ .float ∧ ty ≠ .double) : defaultValue ty = cvv f (gDef ci j) := by
  unfold gDef
  rw [hq]
  dsimp only
  rw [h]
  cases ty <;> first | rfl | exact absurd rfl hn.1 | exact absurd rfl hn.2
def gPlain (ci : Nat) : Bool := match vwCl[ci]? with
  | some q => (List.range q.2.2).all (fun j => match parseFieldDescriptor (q.2.1 j).2.2.1 with | some .float => false | some .double => false | _ => true)
  | none => false
def gNob (ty : FieldType) : Bool := match ty with
  | .object _ => false
  | _ => true
section GN
variable {sc : SC} {y : MI} {pc : Nat} {L : List (Option AV)} {st : List AV} {M : HM} {Q : Option AV → HM → Prop}
theorem va_S.grow {A : Nat → Prop} {H0 H H1 : Heap} {locs : List Loc} (hS : va_S A H0 H locs) (z : H1.size = H.size + 1) (o1 : ∀ q, q < H.size → H1[q]? = H[q]?) : va_S A H0 H1 locs := ⟨Nat.le_trans hS.1 (by omega), fun x h1 h2 => (o1 x (Nat.lt_of_lt_of_le h1 hS.1)).trans (hS.2.1 x h1 h2), hS.2.2⟩
theorem G_new {i ci N : Nat} (hd : decode y.2.1 pc = .ok (.new i, 3)) (hw : gNew y i ci = true) (hpl : gPlain ci = true) (hN : gN ci = N) (h1n : M.2.1 + 1 ≤ M.2.2.2.1) (h1s : M.2.2.1 + N ≤ M.2.2.2.2)
    (kk : G sc y (pc + 3) L (aR M.2.1 :: st) (gAdd M (.inr (.inr (ci, gDef ci))) N) Q) : G sc y pc L st M Q := by
  intro f l p e s m args below meth c H locs cells slots mc ms ls C Wd hM hS hl hB h1 h2
  unfold gNew at hw
  split at hw
  · rename_i q hq
    simp only [Bool.and_eq_true, decide_eq_true_eq] at hw
    have hNq : N = q.2.2 := by rw [← hN]; simp [gN, hq]
    subst hNq
    have hKn := Wd.1.1 ci _ hq
    obtain ⟨ty, hty⟩ := (gCls hq).2.1
    refine W.newcK C.1 C.2.1 C.2.2.2.1 (C.2.2.2.2.1 _ hw.1) (C.2.2.2.2.1 _ hw.2.1) (C.2.2.2.2.1 _ hw.2.2) rfl hd (by show cells + 1 ≤ mc; omega) (by show slots + q.2.2 ≤ ms; omega) hKn.2.1 rfl fun H1 kC hkC e1 z1 o1 => ?_
    have hb := u_born ty C.2.2.2.2.1 (gCls hq).1 hKn hkC e1 hty
    have hat : gAt f H.size (.inr (.inr (ci, gDef ci))) H1 := by
      show t_OB H.size (f.2.1.1 ci) (gN ci) (f.2.1.2 ci) H1 (fun j => cvv f (gDef ci j))
      rw [hN]
      refine hb.to (fun k hk => defV f hq (hty k hk) ?_)
      simp only [gPlain, hq, List.all_eq_true, List.mem_range] at hpl
      have h3 := hpl k hk
      rw [hty k hk] at h3
      refine ⟨fun h4 => ?_, fun h4 => ?_⟩
      · rw [h4] at h3; cases h3
      · rw [h4] at h3; cases h3
    have hk := kk f l p e s m args below meth c H1 locs (cells + 1) (slots + q.2.2) mc ms ls C Wd (gMem_add hM z1 o1 hat) (hS.grow z1 o1) hl hB (by show cells + 1 + M.2.2.2.1 = mc + (M.2.1 + 1); omega) (by show slots + q.2.2 + M.2.2.2.2 = ms + (M.2.2.1 + q.2.2); omega)
    rw [hM.1]
    exact hk
  · cases hw
theorem g_arr {f : Cf} {s : State} {t : Nat} {ty : FieldType} {cA : ClassId} (Wd : gWd f sc s) (ht : (gTy f)[t]? = some (f.2.2.1 t, ty)) (hp : gNob ty = true) (h1 : s.vm.findClass ("[" ++ ty.toString) = some cA) : cA = f.2.2.1 t := by
  have h2 := (Wd.1.2 t _ ht).2
  cases ty <;> first | (cases hp; done) | exact Option.some.inj (h1.symm.trans h2)
theorem G_newarray {at0 : ArrayType} {t : Nat} {x : Int32} {N : Nat} {ty : FieldType} (hd : decode y.2.1 pc = .ok (.newarray at0, 2)) (hty : newarray.typeOf at0 = ty) (hw : Cond.arrayClass ty ∈ gTs) (ht : ∀ f : Cf, (gTy f)[t]? = some (f.2.2.1 t, ty)) (hp : gNob ty = true) (hdf : defaultValue ty = .int 0) (hx : ¬ x < 0) (hN : x.toNatClampNeg = N) (hb : N * componentBytes ty ≤ 536870912) (h1n : M.2.1 + 1 ≤ M.2.2.2.1) (h1s : M.2.2.1 + N ≤ M.2.2.2.2)
    (kk : G sc y (pc + 2) L (aR M.2.1 :: st) (gAdd M (.inl (t, N, fun _ => 0)) N) Q) : G sc y pc L (aI x :: st) M Q := by
  intro f l p e s m args below meth c H locs cells slots mc ms ls C Wd hM hS hl hB h1 h2
  subst hty
  refine va_newaK C.1 C.2.1 (C.2.2.2.2.1 _ hw) rfl hd rfl hx hN hb (by show cells + 1 ≤ mc; omega) (by show slots + N ≤ ms; omega) rfl fun H1 cA e1 z1 o1 hAr hNm => ?_
  have hcA := g_arr Wd (ht f) hp hNm
  subst hcA
  have hat : gAt f H.size (.inl (t, N, fun _ => 0)) H1 := by
    show H1[H.size]? = some (vp_cell _ _)
    rw [e1, vp_cell_i, hdf]
  have hk := kk f l p e s m args below meth c H1 locs (cells + 1) (slots + N) mc ms ls C Wd (gMem_add hM z1 o1 hat) (hS.grow z1 o1) hl hB (by show cells + 1 + M.2.2.2.1 = mc + (M.2.1 + 1); omega) (by show slots + N + M.2.2.2.2 = ms + (M.2.2.1 + N); omega)
  rw [hM.1]
  exact hk
theorem g_over {f : Cf} {s : State} {t : Nat} {nm : String} (Wd : gWd f sc s) (ht : t ∈ [3, 4, 5, 6]) (hc : (gTy f)[t]? = some (f.2.2.1 t, .object nm)) : va_AO nm s := by
  obtain ⟨-, -, -, -, -, -, -, h8⟩ := Wd
  simp only [List.mem_cons, List.not_mem_nil, or_false] at ht
  rcases ht with rfl | rfl | rfl | rfl <;> (cases hc)
  · exact h8.1
  · exact h8.2.1
  · exact h8.2.2.1
  · exact h8.2.2.2
theorem G_anewarray {i t : Nat} {x : Int32} {N : Nat} {nm : String} (hd : decode y.2.1 pc = .ok (.anewarray i, 3)) (hw : Cond.classLink y.1.cls i nm ∈ gTs) (ht : t ∈ [3, 4, 5, 6]) (hc : ∀ f : Cf, (gTy f)[t]? = some (f.2.2.1 t, .object nm)) (hx : ¬ x < 0) (hN : x.toNatClampNeg = N) (hb : N * 4 ≤ 536870912) (h1n : M.2.1 + 1 ≤ M.2.2.2.1) (h1s : M.2.2.1 + N ≤ M.2.2.2.2)
    (kk : G sc y (pc + 3) L (aR M.2.1 :: st) (gAdd M (.inr (.inl (t, N, fun _ => none))) N) Q) : G sc y pc L (aI x :: st) M Q := by
  intro f l p e s m args below meth c H locs cells slots mc ms ls C Wd hM hS hl hB h1 h2
  subst hN
  refine W.anew C.1 C.2.1 C.2.2.2.1 (C.2.2.2.2.1 _ hw) (va_AO.use (g_over Wd ht (hc f))) rfl hd rfl hx hb (by show cells + 1 ≤ mc; omega) (by show slots + x.toNatClampNeg ≤ ms; omega) fun cA kA comp f1 f2 f3 f4 => ?_
  obtain ⟨kA', comp', -, -, -, g4⟩ := (Wd.1.2 t _ (hc f)).2
  have hcA : cA = f.2.2.1 t := Option.some.inj (f1.symm.trans g4)
  subst hcA
  generalize hH1 : H.push ({ cls := f.2.2.1 t, slots := Array.replicate x.toNatClampNeg .null, vm := .none } : Cell) = H1
  have z1 : H1.size = H.size + 1 := by rw [← hH1, Array.size_push]
  have e1 : H1[H.size]? = some (arrV (f.2.2.1 t) x.toNatClampNeg (fun _ => .null)) := by rw [← hH1, Array.getElem?_push_size, ← arrV_new]
  have o1 : ∀ q : Nat, q < H.size → H1[q]? = H[q]? := fun q hq => by rw [← hH1, Array.getElem?_push, if_neg (Nat.ne_of_lt hq)]
  have hat : gAt f H.size (.inr (.inl (t, x.toNatClampNeg, fun _ => none))) H1 := by
    show H1[H.size]? = some (vp_cell _ _)
    rw [e1, vp_cell_q]
    rfl
  have hk := kk f l p e s m args below meth c H1 locs (cells + 1) (slots + x.toNatClampNeg) mc ms ls C Wd (gMem_add hM z1 o1 hat) (hS.grow z1 o1) hl hB (by show cells + 1 + M.2.2.2.1 = mc + (M.2.1 + 1); omega) (by show slots + x.toNatClampNeg + M.2.2.2.2 = ms + (M.2.2.1 + x.toNatClampNeg); omega)
  rw [hM.1]
  exact hk
theorem G_aastore {a t n b ci : Nat} {g : Nat → Option Nat} {F : Nat → AV} {i : Int32} (hd : decode y.2.1 pc = .ok (.aastore, 1)) (ha : a < M.2.1) (hc : M.1 a = .inr (.inl (t, n, g))) (hb : b < M.2.1) (hcb : M.1 b = .inr (.inr (ci, F))) {q : vw_C} (hq : vwCl[ci]? = some q) (ht : ∀ f : Cf, (gTy f)[t]? = some (f.2.2.1 t, .object q.1)) (hi : vp_in i n)
    (kk : G sc y (pc + 1) L st (gUp M a (.inr (.inl (t, n, va_up g i.toNatClampNeg (some b))))) Q) : G sc y pc L (aR b :: aI i :: aR a :: st) M Q := by
  intro f l p e s m args below meth c H locs cells slots mc ms ls C Wd hM hS hl hB h1 h2
  have ho := hM.2 a ha
  rw [hc] at ho
  have hlt : i.toNatClampNeg < n := Nat.not_le.mp fun q => hi (Or.inr q)
  have h0 : ¬ i < 0 := fun q => hi (Or.inl q)
  have hv := hM.2 b hb
  rw [hcb] at hv
  obtain ⟨cellV, g1, g2, g3, -⟩ := hv
  have hcls := (Wd.1.1 ci q hq).2
  obtain ⟨kA, comp, k1, k2, k3, -⟩ := (Wd.1.2 t _ (ht f)).2
  have hcomp : comp = f.2.1.1 ci := Option.some.inj (k3.symm.trans hcls.1)
  subst hcomp
  obtain ⟨kC, hkC, -⟩ := id hcls.2
  refine W.aast C.1 C.2.1 ho (fun q h => by cases h) (fun h => by cases h) k1 k2 rfl hkC ⟨h0, by show _ < (arrV _ _ _).slots.size; rw [arrV_size]; exact hlt⟩ g1 (fun q h => by rw [g3] at h; cases h) (by rw [g2]; exact hkC) (by rw [g2]; exact va_assign hcls) rfl rfl hd fun H1 e1 e2 e3 => ?_
  have hat : gAt f (f.1 + a) (.inr (.inl (t, n, va_up g i.toNatClampNeg (some b)))) H1 := by
    show H1[f.1 + a]? = some (vp_cell _ _)
    rw [e1]
    rw [vp_cell_q, vp_cell_q, arrV_store]
    congr 2
    funext q
    by_cases hq : q = i.toNatClampNeg
    · subst hq
      simp [updV, va_up, va_rf]
    · simp [updV, va_up, hq]
  exact kk f l p e s m args below meth c H1 _ cells slots mc ms ls C Wd (gMem_set hM e2 e3 hat) (hS.put e2 e3 (by show f.1 ≤ f.1 + a; omega)) hl hB h1 h2
theorem G_objInit {i a : Nat} (hd : decode y.2.1 pc = .ok (.invokespecial i, 3)) (h1w : Cond.methodLink y.1.cls i objectInit ∈ gTs) (h2w : Cond.instanceMethod objectInit ∈ gTs) (h3w : Cond.code objectInit ⟨#[0xb1]⟩ 1 none ∈ gTs) (hf : 1 ≤ y.2.2.2.2.1) (hlo : gCat st + 12 ≤ y.2.2.2.2.2)
    (kk : G sc y (pc + 3) L st M Q) : G sc y pc L (aR a :: st) M Q := by
  intro f l p e s m args below meth c H locs cells slots mc ms ls C Wd hM hS hl hB h1 h2
  exact W.objInit C.1 C.2.1 C.2.2.2.1 (C.2.2.2.2.1 _ h1w) (C.2.2.2.2.1 _ h2w) (C.2.2.2.2.1 _ h3w) rfl (by rw [C.2.2.1]; exact hl.1) rfl hd hf (by show 2 * 0 + ((st.map (cvv f)).map fun v => v.category).sum + 12 ≤ _; rw [gCat_eq]; show 2 * 0 + gCat st + 12 ≤ y.2.2.2.2.2; omega) (kk f l p e s m args below meth c H locs cells slots mc ms ls C Wd hM hS hl hB h1 h2)
end GN
end
