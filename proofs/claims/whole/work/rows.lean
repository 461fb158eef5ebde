section
-- ===== PART A: goes FIRST, ahead of the names: the tables' words, and 'selects' of the private methods out of them =====
/-- a private method of a class that the tables say can be made, by its rows of tables_1 -/
def lw_okq (q : MethodName × Nat) : Prop := (q.1.cls ≠ "java/lang/invoke/MethodHandle" ∧ q.1.cls ≠ "java/lang/invoke/VarHandle") ∧ Cond.instantiable q.1.cls q.2 ∈ tables_1 ∧ Cond.privateMethod q.1 ∈ tables_1 ∧ Cond.instanceMethod q.1 ∈ tables_1
theorem lw_p0 : lw_okq (⟨"ShownOnce", "addThing", "(LShownOnce$Row;)I"⟩, 14) := ⟨⟨by decide +kernel, by decide +kernel⟩, List.mem_of_getElem? (i := 21) (by decide +kernel), List.mem_of_getElem? (i := 320) (by decide +kernel), List.mem_of_getElem? (i := 321) (by decide +kernel)⟩
theorem lw_p1 : lw_okq (⟨"ShownOnce$Thing", "findRuns", "(II)V"⟩, 5) := ⟨⟨by decide +kernel, by decide +kernel⟩, List.mem_of_getElem? (i := 211) (by decide +kernel), List.mem_of_getElem? (i := 337) (by decide +kernel), List.mem_of_getElem? (i := 338) (by decide +kernel)⟩
theorem lw_p2 : lw_okq (⟨"ShownOnce$Thing", "setRun", "(III)V"⟩, 5) := ⟨⟨by decide +kernel, by decide +kernel⟩, List.mem_of_getElem? (i := 211) (by decide +kernel), List.mem_of_getElem? (i := 353) (by decide +kernel), List.mem_of_getElem? (i := 354) (by decide +kernel)⟩
theorem lw_p3 : lw_okq (⟨"ShownOnce", "isThing", "(I)Z"⟩, 14) := ⟨⟨by decide +kernel, by decide +kernel⟩, List.mem_of_getElem? (i := 21) (by decide +kernel), List.mem_of_getElem? (i := 380) (by decide +kernel), List.mem_of_getElem? (i := 381) (by decide +kernel)⟩
theorem lw_p4 : lw_okq (⟨"ShownOnce", "showTapeOf", "(LShownOnce$Thing;)I"⟩, 14) := ⟨⟨by decide +kernel, by decide +kernel⟩, List.mem_of_getElem? (i := 21) (by decide +kernel), List.mem_of_getElem? (i := 411) (by decide +kernel), List.mem_of_getElem? (i := 412) (by decide +kernel)⟩
theorem lw_p5 : lw_okq (⟨"ShownOnce", "howMany", "(I)I"⟩, 14) := ⟨⟨by decide +kernel, by decide +kernel⟩, List.mem_of_getElem? (i := 21) (by decide +kernel), List.mem_of_getElem? (i := 415) (by decide +kernel), List.mem_of_getElem? (i := 416) (by decide +kernel)⟩
theorem lw_p6 : lw_okq (⟨"ShownOnce$Thing", "markBeginnings", "(II)V"⟩, 5) := ⟨⟨by decide +kernel, by decide +kernel⟩, List.mem_of_getElem? (i := 211) (by decide +kernel), List.mem_of_getElem? (i := 426) (by decide +kernel), List.mem_of_getElem? (i := 427) (by decide +kernel)⟩
theorem lw_p7 : lw_okq (⟨"ShownOnce$Thing", "markClosings", "(II)V"⟩, 5) := ⟨⟨by decide +kernel, by decide +kernel⟩, List.mem_of_getElem? (i := 211) (by decide +kernel), List.mem_of_getElem? (i := 430) (by decide +kernel), List.mem_of_getElem? (i := 431) (by decide +kernel)⟩
theorem lw_p8 : lw_okq (⟨"ShownOnce", "showingChanged", "()V"⟩, 14) := ⟨⟨by decide +kernel, by decide +kernel⟩, List.mem_of_getElem? (i := 21) (by decide +kernel), List.mem_of_getElem? (i := 434) (by decide +kernel), List.mem_of_getElem? (i := 435) (by decide +kernel)⟩
theorem lw_p9 : lw_okq (⟨"ShownOnce", "fitRefusal", "()I"⟩, 14) := ⟨⟨by decide +kernel, by decide +kernel⟩, List.mem_of_getElem? (i := 21) (by decide +kernel), List.mem_of_getElem? (i := 447) (by decide +kernel), List.mem_of_getElem? (i := 448) (by decide +kernel)⟩
theorem lw_p10 : lw_okq (⟨"ShownOnce", "measureWithout", "(I)V"⟩, 14) := ⟨⟨by decide +kernel, by decide +kernel⟩, List.mem_of_getElem? (i := 21) (by decide +kernel), List.mem_of_getElem? (i := 451) (by decide +kernel), List.mem_of_getElem? (i := 452) (by decide +kernel)⟩
theorem lw_p11 : lw_okq (⟨"ShownOnce$Fit", "findCommonPlaces", "()V"⟩, 17) := ⟨⟨by decide +kernel, by decide +kernel⟩, List.mem_of_getElem? (i := 55) (by decide +kernel), List.mem_of_getElem? (i := 471) (by decide +kernel), List.mem_of_getElem? (i := 472) (by decide +kernel)⟩
theorem lw_p12 : lw_okq (⟨"ShownOnce$Fit", "addCuts", "(II)V"⟩, 17) := ⟨⟨by decide +kernel, by decide +kernel⟩, List.mem_of_getElem? (i := 55) (by decide +kernel), List.mem_of_getElem? (i := 475) (by decide +kernel), List.mem_of_getElem? (i := 476) (by decide +kernel)⟩
theorem lw_p13 : lw_okq (⟨"ShownOnce$Fit", "addFirst", "(II)V"⟩, 17) := ⟨⟨by decide +kernel, by decide +kernel⟩, List.mem_of_getElem? (i := 55) (by decide +kernel), List.mem_of_getElem? (i := 483) (by decide +kernel), List.mem_of_getElem? (i := 484) (by decide +kernel)⟩
theorem lw_p14 : lw_okq (⟨"ShownOnce$Lasts", "openGroup", "(I)V"⟩, 9) := ⟨⟨by decide +kernel, by decide +kernel⟩, List.mem_of_getElem? (i := 62) (by decide +kernel), List.mem_of_getElem? (i := 491) (by decide +kernel), List.mem_of_getElem? (i := 492) (by decide +kernel)⟩
theorem lw_p15 : lw_okq (⟨"ShownOnce$Fit", "addTyped", "(I)V"⟩, 17) := ⟨⟨by decide +kernel, by decide +kernel⟩, List.mem_of_getElem? (i := 55) (by decide +kernel), List.mem_of_getElem? (i := 499) (by decide +kernel), List.mem_of_getElem? (i := 500) (by decide +kernel)⟩
def lw_privs_1 : List (MethodName × Nat) := [(⟨"ShownOnce", "addThing", "(LShownOnce$Row;)I"⟩, 14), (⟨"ShownOnce$Thing", "findRuns", "(II)V"⟩, 5), (⟨"ShownOnce$Thing", "setRun", "(III)V"⟩, 5), (⟨"ShownOnce", "isThing", "(I)Z"⟩, 14), (⟨"ShownOnce", "showTapeOf", "(LShownOnce$Thing;)I"⟩, 14), (⟨"ShownOnce", "howMany", "(I)I"⟩, 14), (⟨"ShownOnce$Thing", "markBeginnings", "(II)V"⟩, 5), (⟨"ShownOnce$Thing", "markClosings", "(II)V"⟩, 5), (⟨"ShownOnce", "showingChanged", "()V"⟩, 14), (⟨"ShownOnce", "fitRefusal", "()I"⟩, 14), (⟨"ShownOnce", "measureWithout", "(I)V"⟩, 14), (⟨"ShownOnce$Fit", "findCommonPlaces", "()V"⟩, 17), (⟨"ShownOnce$Fit", "addCuts", "(II)V"⟩, 17), (⟨"ShownOnce$Fit", "addFirst", "(II)V"⟩, 17), (⟨"ShownOnce$Lasts", "openGroup", "(I)V"⟩, 9), (⟨"ShownOnce$Fit", "addTyped", "(I)V"⟩, 17)]
theorem lw_r1 : ∀ q ∈ lw_privs_1, lw_okq q := List.forall_mem_cons.mpr ⟨lw_p0, List.forall_mem_cons.mpr ⟨lw_p1, List.forall_mem_cons.mpr ⟨lw_p2, List.forall_mem_cons.mpr ⟨lw_p3, List.forall_mem_cons.mpr ⟨lw_p4, List.forall_mem_cons.mpr ⟨lw_p5, List.forall_mem_cons.mpr ⟨lw_p6, List.forall_mem_cons.mpr ⟨lw_p7, List.forall_mem_cons.mpr ⟨lw_p8, List.forall_mem_cons.mpr ⟨lw_p9, List.forall_mem_cons.mpr ⟨lw_p10, List.forall_mem_cons.mpr ⟨lw_p11, List.forall_mem_cons.mpr ⟨lw_p12, List.forall_mem_cons.mpr ⟨lw_p13, List.forall_mem_cons.mpr ⟨lw_p14, List.forall_mem_cons.mpr ⟨lw_p15, fun _ h => absurd h List.not_mem_nil⟩⟩⟩⟩⟩⟩⟩⟩⟩⟩⟩⟩⟩⟩⟩⟩
theorem lw_p16 : lw_okq (⟨"ShownOnce$Fit", "typedIn", "(II)I"⟩, 17) := ⟨⟨by decide +kernel, by decide +kernel⟩, List.mem_of_getElem? (i := 55) (by decide +kernel), List.mem_of_getElem? (i := 503) (by decide +kernel), List.mem_of_getElem? (i := 504) (by decide +kernel)⟩
theorem lw_p17 : lw_okq (⟨"ShownOnce$Fit", "leastSize", "()I"⟩, 17) := ⟨⟨by decide +kernel, by decide +kernel⟩, List.mem_of_getElem? (i := 55) (by decide +kernel), List.mem_of_getElem? (i := 507) (by decide +kernel), List.mem_of_getElem? (i := 508) (by decide +kernel)⟩
theorem lw_p18 : lw_okq (⟨"ShownOnce$Fit", "joinPieces", "()V"⟩, 17) := ⟨⟨by decide +kernel, by decide +kernel⟩, List.mem_of_getElem? (i := 55) (by decide +kernel), List.mem_of_getElem? (i := 514) (by decide +kernel), List.mem_of_getElem? (i := 515) (by decide +kernel)⟩
theorem lw_p19 : lw_okq (⟨"ShownOnce$Fit", "isRanked", "()Z"⟩, 17) := ⟨⟨by decide +kernel, by decide +kernel⟩, List.mem_of_getElem? (i := 55) (by decide +kernel), List.mem_of_getElem? (i := 526) (by decide +kernel), List.mem_of_getElem? (i := 527) (by decide +kernel)⟩
theorem lw_p20 : lw_okq (⟨"ShownOnce$Fit", "rankWholes", "(I)V"⟩, 17) := ⟨⟨by decide +kernel, by decide +kernel⟩, List.mem_of_getElem? (i := 55) (by decide +kernel), List.mem_of_getElem? (i := 534) (by decide +kernel), List.mem_of_getElem? (i := 535) (by decide +kernel)⟩
theorem lw_p21 : lw_okq (⟨"ShownOnce$Fit", "nextNearest", "()LShownOnce$Program;"⟩, 17) := ⟨⟨by decide +kernel, by decide +kernel⟩, List.mem_of_getElem? (i := 55) (by decide +kernel), List.mem_of_getElem? (i := 539) (by decide +kernel), List.mem_of_getElem? (i := 540) (by decide +kernel)⟩
theorem lw_p22 : lw_okq (⟨"ShownOnce$Fit", "rankPairs", "(II)V"⟩, 17) := ⟨⟨by decide +kernel, by decide +kernel⟩, List.mem_of_getElem? (i := 55) (by decide +kernel), List.mem_of_getElem? (i := 551) (by decide +kernel), List.mem_of_getElem? (i := 552) (by decide +kernel)⟩
theorem lw_p23 : lw_okq (⟨"ShownOnce$Fit", "rankTriples", "(II)V"⟩, 17) := ⟨⟨by decide +kernel, by decide +kernel⟩, List.mem_of_getElem? (i := 55) (by decide +kernel), List.mem_of_getElem? (i := 567) (by decide +kernel), List.mem_of_getElem? (i := 568) (by decide +kernel)⟩
theorem lw_p24 : lw_okq (⟨"ShownOnce$Tally", "likeLatest", "()I"⟩, 3) := ⟨⟨by decide +kernel, by decide +kernel⟩, List.mem_of_getElem? (i := 168) (by decide +kernel), List.mem_of_getElem? (i := 605) (by decide +kernel), List.mem_of_getElem? (i := 606) (by decide +kernel)⟩
theorem lw_p25 : lw_okq (⟨"ShownOnce", "makesOddEnd", "(LShownOnce$Thing;)Z"⟩, 14) := ⟨⟨by decide +kernel, by decide +kernel⟩, List.mem_of_getElem? (i := 21) (by decide +kernel), List.mem_of_getElem? (i := 628) (by decide +kernel), List.mem_of_getElem? (i := 629) (by decide +kernel)⟩
theorem lw_p26 : lw_okq (⟨"ShownOnce", "leastSlips", "()I"⟩, 14) := ⟨⟨by decide +kernel, by decide +kernel⟩, List.mem_of_getElem? (i := 21) (by decide +kernel), List.mem_of_getElem? (i := 642) (by decide +kernel), List.mem_of_getElem? (i := 643) (by decide +kernel)⟩
theorem lw_p27 : lw_okq (⟨"ShownOnce", "keepProgram", "(LShownOnce$Program;)I"⟩, 14) := ⟨⟨by decide +kernel, by decide +kernel⟩, List.mem_of_getElem? (i := 21) (by decide +kernel), List.mem_of_getElem? (i := 680) (by decide +kernel), List.mem_of_getElem? (i := 681) (by decide +kernel)⟩
theorem lw_p28 : lw_okq (⟨"ShownOnce$TextReader", "readPiece", "()Z"⟩, 3) := ⟨⟨by decide +kernel, by decide +kernel⟩, List.mem_of_getElem? (i := 189) (by decide +kernel), List.mem_of_getElem? (i := 700) (by decide +kernel), List.mem_of_getElem? (i := 701) (by decide +kernel)⟩
theorem lw_p29 : lw_okq (⟨"ShownOnce$TextReader", "look", "()I"⟩, 3) := ⟨⟨by decide +kernel, by decide +kernel⟩, List.mem_of_getElem? (i := 189) (by decide +kernel), List.mem_of_getElem? (i := 704) (by decide +kernel), List.mem_of_getElem? (i := 705) (by decide +kernel)⟩
theorem lw_p30 : lw_okq (⟨"ShownOnce$TextReader", "readTyped", "()Z"⟩, 3) := ⟨⟨by decide +kernel, by decide +kernel⟩, List.mem_of_getElem? (i := 189) (by decide +kernel), List.mem_of_getElem? (i := 708) (by decide +kernel), List.mem_of_getElem? (i := 709) (by decide +kernel)⟩
theorem lw_p31 : lw_okq (⟨"ShownOnce$TextReader", "readCut", "()Z"⟩, 3) := ⟨⟨by decide +kernel, by decide +kernel⟩, List.mem_of_getElem? (i := 189) (by decide +kernel), List.mem_of_getElem? (i := 714) (by decide +kernel), List.mem_of_getElem? (i := 715) (by decide +kernel)⟩
def lw_privs_2 : List (MethodName × Nat) := [(⟨"ShownOnce$Fit", "typedIn", "(II)I"⟩, 17), (⟨"ShownOnce$Fit", "leastSize", "()I"⟩, 17), (⟨"ShownOnce$Fit", "joinPieces", "()V"⟩, 17), (⟨"ShownOnce$Fit", "isRanked", "()Z"⟩, 17), (⟨"ShownOnce$Fit", "rankWholes", "(I)V"⟩, 17), (⟨"ShownOnce$Fit", "nextNearest", "()LShownOnce$Program;"⟩, 17), (⟨"ShownOnce$Fit", "rankPairs", "(II)V"⟩, 17), (⟨"ShownOnce$Fit", "rankTriples", "(II)V"⟩, 17), (⟨"ShownOnce$Tally", "likeLatest", "()I"⟩, 3), (⟨"ShownOnce", "makesOddEnd", "(LShownOnce$Thing;)Z"⟩, 14), (⟨"ShownOnce", "leastSlips", "()I"⟩, 14), (⟨"ShownOnce", "keepProgram", "(LShownOnce$Program;)I"⟩, 14), (⟨"ShownOnce$TextReader", "readPiece", "()Z"⟩, 3), (⟨"ShownOnce$TextReader", "look", "()I"⟩, 3), (⟨"ShownOnce$TextReader", "readTyped", "()Z"⟩, 3), (⟨"ShownOnce$TextReader", "readCut", "()Z"⟩, 3)]
theorem lw_r2 : ∀ q ∈ lw_privs_2, lw_okq q := List.forall_mem_cons.mpr ⟨lw_p16, List.forall_mem_cons.mpr ⟨lw_p17, List.forall_mem_cons.mpr ⟨lw_p18, List.forall_mem_cons.mpr ⟨lw_p19, List.forall_mem_cons.mpr ⟨lw_p20, List.forall_mem_cons.mpr ⟨lw_p21, List.forall_mem_cons.mpr ⟨lw_p22, List.forall_mem_cons.mpr ⟨lw_p23, List.forall_mem_cons.mpr ⟨lw_p24, List.forall_mem_cons.mpr ⟨lw_p25, List.forall_mem_cons.mpr ⟨lw_p26, List.forall_mem_cons.mpr ⟨lw_p27, List.forall_mem_cons.mpr ⟨lw_p28, List.forall_mem_cons.mpr ⟨lw_p29, List.forall_mem_cons.mpr ⟨lw_p30, List.forall_mem_cons.mpr ⟨lw_p31, fun _ h => absurd h List.not_mem_nil⟩⟩⟩⟩⟩⟩⟩⟩⟩⟩⟩⟩⟩⟩⟩⟩
theorem lw_p32 : lw_okq (⟨"ShownOnce$TextReader", "readPlace", "()I"⟩, 3) := ⟨⟨by decide +kernel, by decide +kernel⟩, List.mem_of_getElem? (i := 189) (by decide +kernel), List.mem_of_getElem? (i := 718) (by decide +kernel), List.mem_of_getElem? (i := 719) (by decide +kernel)⟩
theorem lw_p33 : lw_okq (⟨"ShownOnce$TextReader", "readDistance", "(I)I"⟩, 3) := ⟨⟨by decide +kernel, by decide +kernel⟩, List.mem_of_getElem? (i := 189) (by decide +kernel), List.mem_of_getElem? (i := 722) (by decide +kernel), List.mem_of_getElem? (i := 723) (by decide +kernel)⟩
theorem lw_p34 : lw_okq (⟨"ShownOnce$TextReader", "readRun", "(I)I"⟩, 3) := ⟨⟨by decide +kernel, by decide +kernel⟩, List.mem_of_getElem? (i := 189) (by decide +kernel), List.mem_of_getElem? (i := 726) (by decide +kernel), List.mem_of_getElem? (i := 727) (by decide +kernel)⟩
theorem lw_p35 : lw_okq (⟨"ShownOnce$TextReader", "readTurn", "()I"⟩, 3) := ⟨⟨by decide +kernel, by decide +kernel⟩, List.mem_of_getElem? (i := 189) (by decide +kernel), List.mem_of_getElem? (i := 814) (by decide +kernel), List.mem_of_getElem? (i := 815) (by decide +kernel)⟩
theorem lw_p36 : lw_okq (⟨"ShownOnce$TextReader", "canGoOn", "()Z"⟩, 3) := ⟨⟨by decide +kernel, by decide +kernel⟩, List.mem_of_getElem? (i := 189) (by decide +kernel), List.mem_of_getElem? (i := 818) (by decide +kernel), List.mem_of_getElem? (i := 819) (by decide +kernel)⟩
theorem lw_p37 : lw_okq (⟨"ShownOnce", "isProgram", "(I)Z"⟩, 14) := ⟨⟨by decide +kernel, by decide +kernel⟩, List.mem_of_getElem? (i := 21) (by decide +kernel), List.mem_of_getElem? (i := 834) (by decide +kernel), List.mem_of_getElem? (i := 835) (by decide +kernel)⟩
theorem lw_p38 : lw_okq (⟨"ShownOnceModel", "addThing", "(I)I"⟩, 34) := ⟨⟨by decide +kernel, by decide +kernel⟩, List.mem_of_getElem? (i := 881) (by decide +kernel), List.mem_of_getElem? (i := 1007) (by decide +kernel), List.mem_of_getElem? (i := 1008) (by decide +kernel)⟩
theorem lw_p39 : lw_okq (⟨"ShownOnceModel", "isThing", "(I)Z"⟩, 34) := ⟨⟨by decide +kernel, by decide +kernel⟩, List.mem_of_getElem? (i := 881) (by decide +kernel), List.mem_of_getElem? (i := 1015) (by decide +kernel), List.mem_of_getElem? (i := 1016) (by decide +kernel)⟩
theorem lw_p40 : lw_okq (⟨"ShownOnceModel", "placeOf", "(II)I"⟩, 34) := ⟨⟨by decide +kernel, by decide +kernel⟩, List.mem_of_getElem? (i := 881) (by decide +kernel), List.mem_of_getElem? (i := 1025) (by decide +kernel), List.mem_of_getElem? (i := 1026) (by decide +kernel)⟩
theorem lw_p41 : lw_okq (⟨"ShownOnceModel", "runOf", "(IIII)I"⟩, 34) := ⟨⟨by decide +kernel, by decide +kernel⟩, List.mem_of_getElem? (i := 881) (by decide +kernel), List.mem_of_getElem? (i := 1029) (by decide +kernel), List.mem_of_getElem? (i := 1030) (by decide +kernel)⟩
theorem lw_p42 : lw_okq (⟨"ShownOnceModel", "makePiece", "(II)Z"⟩, 34) := ⟨⟨by decide +kernel, by decide +kernel⟩, List.mem_of_getElem? (i := 881) (by decide +kernel), List.mem_of_getElem? (i := 1059) (by decide +kernel), List.mem_of_getElem? (i := 1060) (by decide +kernel)⟩
theorem lw_p43 : lw_okq (⟨"ShownOnceModel", "byteOf", "(I)I"⟩, 34) := ⟨⟨by decide +kernel, by decide +kernel⟩, List.mem_of_getElem? (i := 881) (by decide +kernel), List.mem_of_getElem? (i := 1067) (by decide +kernel), List.mem_of_getElem? (i := 1068) (by decide +kernel)⟩
theorem lw_p44 : lw_okq (⟨"ShownOnceModel", "countOf", "(I)I"⟩, 34) := ⟨⟨by decide +kernel, by decide +kernel⟩, List.mem_of_getElem? (i := 881) (by decide +kernel), List.mem_of_getElem? (i := 1076) (by decide +kernel), List.mem_of_getElem? (i := 1077) (by decide +kernel)⟩
theorem lw_p45 : lw_okq (⟨"ShownOnceModel", "findShown", "(I)V"⟩, 34) := ⟨⟨by decide +kernel, by decide +kernel⟩, List.mem_of_getElem? (i := 881) (by decide +kernel), List.mem_of_getElem? (i := 1090) (by decide +kernel), List.mem_of_getElem? (i := 1091) (by decide +kernel)⟩
theorem lw_p46 : lw_okq (⟨"ShownOnceModel", "findPieces", "()V"⟩, 34) := ⟨⟨by decide +kernel, by decide +kernel⟩, List.mem_of_getElem? (i := 881) (by decide +kernel), List.mem_of_getElem? (i := 1094) (by decide +kernel), List.mem_of_getElem? (i := 1095) (by decide +kernel)⟩
theorem lw_p47 : lw_okq (⟨"ShownOnceModel", "longOf", "(IZ)I"⟩, 34) := ⟨⟨by decide +kernel, by decide +kernel⟩, List.mem_of_getElem? (i := 881) (by decide +kernel), List.mem_of_getElem? (i := 1098) (by decide +kernel), List.mem_of_getElem? (i := 1099) (by decide +kernel)⟩
def lw_privs_3 : List (MethodName × Nat) := [(⟨"ShownOnce$TextReader", "readPlace", "()I"⟩, 3), (⟨"ShownOnce$TextReader", "readDistance", "(I)I"⟩, 3), (⟨"ShownOnce$TextReader", "readRun", "(I)I"⟩, 3), (⟨"ShownOnce$TextReader", "readTurn", "()I"⟩, 3), (⟨"ShownOnce$TextReader", "canGoOn", "()Z"⟩, 3), (⟨"ShownOnce", "isProgram", "(I)Z"⟩, 14), (⟨"ShownOnceModel", "addThing", "(I)I"⟩, 34), (⟨"ShownOnceModel", "isThing", "(I)Z"⟩, 34), (⟨"ShownOnceModel", "placeOf", "(II)I"⟩, 34), (⟨"ShownOnceModel", "runOf", "(IIII)I"⟩, 34), (⟨"ShownOnceModel", "makePiece", "(II)Z"⟩, 34), (⟨"ShownOnceModel", "byteOf", "(I)I"⟩, 34), (⟨"ShownOnceModel", "countOf", "(I)I"⟩, 34), (⟨"ShownOnceModel", "findShown", "(I)V"⟩, 34), (⟨"ShownOnceModel", "findPieces", "()V"⟩, 34), (⟨"ShownOnceModel", "longOf", "(IZ)I"⟩, 34)]
theorem lw_r3 : ∀ q ∈ lw_privs_3, lw_okq q := List.forall_mem_cons.mpr ⟨lw_p32, List.forall_mem_cons.mpr ⟨lw_p33, List.forall_mem_cons.mpr ⟨lw_p34, List.forall_mem_cons.mpr ⟨lw_p35, List.forall_mem_cons.mpr ⟨lw_p36, List.forall_mem_cons.mpr ⟨lw_p37, List.forall_mem_cons.mpr ⟨lw_p38, List.forall_mem_cons.mpr ⟨lw_p39, List.forall_mem_cons.mpr ⟨lw_p40, List.forall_mem_cons.mpr ⟨lw_p41, List.forall_mem_cons.mpr ⟨lw_p42, List.forall_mem_cons.mpr ⟨lw_p43, List.forall_mem_cons.mpr ⟨lw_p44, List.forall_mem_cons.mpr ⟨lw_p45, List.forall_mem_cons.mpr ⟨lw_p46, List.forall_mem_cons.mpr ⟨lw_p47, fun _ h => absurd h List.not_mem_nil⟩⟩⟩⟩⟩⟩⟩⟩⟩⟩⟩⟩⟩⟩⟩⟩
theorem lw_p48 : lw_okq (⟨"ShownOnceModel", "standsAt", "(II)Z"⟩, 34) := ⟨⟨by decide +kernel, by decide +kernel⟩, List.mem_of_getElem? (i := 881) (by decide +kernel), List.mem_of_getElem? (i := 1102) (by decide +kernel), List.mem_of_getElem? (i := 1103) (by decide +kernel)⟩
theorem lw_p49 : lw_okq (⟨"ShownOnceModel", "noteFront", "(II)V"⟩, 34) := ⟨⟨by decide +kernel, by decide +kernel⟩, List.mem_of_getElem? (i := 881) (by decide +kernel), List.mem_of_getElem? (i := 1106) (by decide +kernel), List.mem_of_getElem? (i := 1107) (by decide +kernel)⟩
theorem lw_p50 : lw_okq (⟨"ShownOnceModel", "noteBehind", "(II)V"⟩, 34) := ⟨⟨by decide +kernel, by decide +kernel⟩, List.mem_of_getElem? (i := 881) (by decide +kernel), List.mem_of_getElem? (i := 1110) (by decide +kernel), List.mem_of_getElem? (i := 1111) (by decide +kernel)⟩
theorem lw_p51 : lw_okq (⟨"ShownOnceModel", "typedAt", "(II)I"⟩, 34) := ⟨⟨by decide +kernel, by decide +kernel⟩, List.mem_of_getElem? (i := 881) (by decide +kernel), List.mem_of_getElem? (i := 1114) (by decide +kernel), List.mem_of_getElem? (i := 1115) (by decide +kernel)⟩
theorem lw_p52 : lw_okq (⟨"ShownOnceModel", "fittingOf", "(I)J"⟩, 34) := ⟨⟨by decide +kernel, by decide +kernel⟩, List.mem_of_getElem? (i := 881) (by decide +kernel), List.mem_of_getElem? (i := 1118) (by decide +kernel), List.mem_of_getElem? (i := 1119) (by decide +kernel)⟩
theorem lw_p53 : lw_okq (⟨"ShownOnceModel", "isAll", "(I)Z"⟩, 34) := ⟨⟨by decide +kernel, by decide +kernel⟩, List.mem_of_getElem? (i := 881) (by decide +kernel), List.mem_of_getElem? (i := 1122) (by decide +kernel), List.mem_of_getElem? (i := 1123) (by decide +kernel)⟩
theorem lw_p54 : lw_okq (⟨"ShownOnceModel", "leftOf", "(II)I"⟩, 34) := ⟨⟨by decide +kernel, by decide +kernel⟩, List.mem_of_getElem? (i := 881) (by decide +kernel), List.mem_of_getElem? (i := 1126) (by decide +kernel), List.mem_of_getElem? (i := 1127) (by decide +kernel)⟩
theorem lw_p55 : lw_okq (⟨"ShownOnceModel", "lacksFit", "()I"⟩, 34) := ⟨⟨by decide +kernel, by decide +kernel⟩, List.mem_of_getElem? (i := 881) (by decide +kernel), List.mem_of_getElem? (i := 1135) (by decide +kernel), List.mem_of_getElem? (i := 1136) (by decide +kernel)⟩
theorem lw_p56 : lw_okq (⟨"ShownOnceModel", "findNearest", "()V"⟩, 34) := ⟨⟨by decide +kernel, by decide +kernel⟩, List.mem_of_getElem? (i := 881) (by decide +kernel), List.mem_of_getElem? (i := 1139) (by decide +kernel), List.mem_of_getElem? (i := 1140) (by decide +kernel)⟩
theorem lw_p57 : lw_okq (⟨"ShownOnceModel", "noteNear", "(III)V"⟩, 34) := ⟨⟨by decide +kernel, by decide +kernel⟩, List.mem_of_getElem? (i := 881) (by decide +kernel), List.mem_of_getElem? (i := 1146) (by decide +kernel), List.mem_of_getElem? (i := 1147) (by decide +kernel)⟩
theorem lw_p58 : lw_okq (⟨"ShownOnceModel", "noteWith", "(IIII)V"⟩, 34) := ⟨⟨by decide +kernel, by decide +kernel⟩, List.mem_of_getElem? (i := 881) (by decide +kernel), List.mem_of_getElem? (i := 1150) (by decide +kernel), List.mem_of_getElem? (i := 1151) (by decide +kernel)⟩
theorem lw_p59 : lw_okq (⟨"ShownOnceModel", "runRow", "([III)Z"⟩, 34) := ⟨⟨by decide +kernel, by decide +kernel⟩, List.mem_of_getElem? (i := 881) (by decide +kernel), List.mem_of_getElem? (i := 1161) (by decide +kernel), List.mem_of_getElem? (i := 1162) (by decide +kernel)⟩
theorem lw_p60 : lw_okq (⟨"ShownOnceModel", "sortEnds", "(IZ)I"⟩, 34) := ⟨⟨by decide +kernel, by decide +kernel⟩, List.mem_of_getElem? (i := 881) (by decide +kernel), List.mem_of_getElem? (i := 1169) (by decide +kernel), List.mem_of_getElem? (i := 1170) (by decide +kernel)⟩
theorem lw_p61 : lw_okq (⟨"ShownOnceModel", "findEnds", "(I)V"⟩, 34) := ⟨⟨by decide +kernel, by decide +kernel⟩, List.mem_of_getElem? (i := 881) (by decide +kernel), List.mem_of_getElem? (i := 1173) (by decide +kernel), List.mem_of_getElem? (i := 1174) (by decide +kernel)⟩
theorem lw_p62 : lw_okq (⟨"ShownOnceModel", "areAlike", "(II)Z"⟩, 34) := ⟨⟨by decide +kernel, by decide +kernel⟩, List.mem_of_getElem? (i := 881) (by decide +kernel), List.mem_of_getElem? (i := 1177) (by decide +kernel), List.mem_of_getElem? (i := 1178) (by decide +kernel)⟩
theorem lw_p63 : lw_okq (⟨"ShownOnceModel", "isOdd", "(I)Z"⟩, 34) := ⟨⟨by decide +kernel, by decide +kernel⟩, List.mem_of_getElem? (i := 881) (by decide +kernel), List.mem_of_getElem? (i := 1189) (by decide +kernel), List.mem_of_getElem? (i := 1190) (by decide +kernel)⟩
def lw_privs_4 : List (MethodName × Nat) := [(⟨"ShownOnceModel", "standsAt", "(II)Z"⟩, 34), (⟨"ShownOnceModel", "noteFront", "(II)V"⟩, 34), (⟨"ShownOnceModel", "noteBehind", "(II)V"⟩, 34), (⟨"ShownOnceModel", "typedAt", "(II)I"⟩, 34), (⟨"ShownOnceModel", "fittingOf", "(I)J"⟩, 34), (⟨"ShownOnceModel", "isAll", "(I)Z"⟩, 34), (⟨"ShownOnceModel", "leftOf", "(II)I"⟩, 34), (⟨"ShownOnceModel", "lacksFit", "()I"⟩, 34), (⟨"ShownOnceModel", "findNearest", "()V"⟩, 34), (⟨"ShownOnceModel", "noteNear", "(III)V"⟩, 34), (⟨"ShownOnceModel", "noteWith", "(IIII)V"⟩, 34), (⟨"ShownOnceModel", "runRow", "([III)Z"⟩, 34), (⟨"ShownOnceModel", "sortEnds", "(IZ)I"⟩, 34), (⟨"ShownOnceModel", "findEnds", "(I)V"⟩, 34), (⟨"ShownOnceModel", "areAlike", "(II)Z"⟩, 34), (⟨"ShownOnceModel", "isOdd", "(I)Z"⟩, 34)]
theorem lw_r4 : ∀ q ∈ lw_privs_4, lw_okq q := List.forall_mem_cons.mpr ⟨lw_p48, List.forall_mem_cons.mpr ⟨lw_p49, List.forall_mem_cons.mpr ⟨lw_p50, List.forall_mem_cons.mpr ⟨lw_p51, List.forall_mem_cons.mpr ⟨lw_p52, List.forall_mem_cons.mpr ⟨lw_p53, List.forall_mem_cons.mpr ⟨lw_p54, List.forall_mem_cons.mpr ⟨lw_p55, List.forall_mem_cons.mpr ⟨lw_p56, List.forall_mem_cons.mpr ⟨lw_p57, List.forall_mem_cons.mpr ⟨lw_p58, List.forall_mem_cons.mpr ⟨lw_p59, List.forall_mem_cons.mpr ⟨lw_p60, List.forall_mem_cons.mpr ⟨lw_p61, List.forall_mem_cons.mpr ⟨lw_p62, List.forall_mem_cons.mpr ⟨lw_p63, fun _ h => absurd h List.not_mem_nil⟩⟩⟩⟩⟩⟩⟩⟩⟩⟩⟩⟩⟩⟩⟩⟩
theorem lw_p64 : lw_okq (⟨"ShownOnceModel", "findShape", "([III)V"⟩, 34) := ⟨⟨by decide +kernel, by decide +kernel⟩, List.mem_of_getElem? (i := 881) (by decide +kernel), List.mem_of_getElem? (i := 1193) (by decide +kernel), List.mem_of_getElem? (i := 1194) (by decide +kernel)⟩
theorem lw_p65 : lw_okq (⟨"ShownOnceModel", "hasShape", "(I)Z"⟩, 34) := ⟨⟨by decide +kernel, by decide +kernel⟩, List.mem_of_getElem? (i := 881) (by decide +kernel), List.mem_of_getElem? (i := 1200) (by decide +kernel), List.mem_of_getElem? (i := 1201) (by decide +kernel)⟩
theorem lw_p66 : lw_okq (⟨"ShownOnceModel", "fitsBut", "(I)Z"⟩, 34) := ⟨⟨by decide +kernel, by decide +kernel⟩, List.mem_of_getElem? (i := 881) (by decide +kernel), List.mem_of_getElem? (i := 1211) (by decide +kernel), List.mem_of_getElem? (i := 1212) (by decide +kernel)⟩
theorem lw_p67 : lw_okq (⟨"ShownOnceModel", "addKept", "([I)I"⟩, 34) := ⟨⟨by decide +kernel, by decide +kernel⟩, List.mem_of_getElem? (i := 881) (by decide +kernel), List.mem_of_getElem? (i := 1239) (by decide +kernel), List.mem_of_getElem? (i := 1240) (by decide +kernel)⟩
theorem lw_p68 : lw_okq (⟨"ShownOnceModel", "readProgram", "()Z"⟩, 34) := ⟨⟨by decide +kernel, by decide +kernel⟩, List.mem_of_getElem? (i := 881) (by decide +kernel), List.mem_of_getElem? (i := 1247) (by decide +kernel), List.mem_of_getElem? (i := 1248) (by decide +kernel)⟩
theorem lw_p69 : lw_okq (⟨"ShownOnceModel", "next", "()I"⟩, 34) := ⟨⟨by decide +kernel, by decide +kernel⟩, List.mem_of_getElem? (i := 881) (by decide +kernel), List.mem_of_getElem? (i := 1251) (by decide +kernel), List.mem_of_getElem? (i := 1252) (by decide +kernel)⟩
theorem lw_p70 : lw_okq (⟨"ShownOnceModel", "readTyped", "()I"⟩, 34) := ⟨⟨by decide +kernel, by decide +kernel⟩, List.mem_of_getElem? (i := 881) (by decide +kernel), List.mem_of_getElem? (i := 1255) (by decide +kernel), List.mem_of_getElem? (i := 1256) (by decide +kernel)⟩
theorem lw_p71 : lw_okq (⟨"ShownOnceModel", "readCut", "()I"⟩, 34) := ⟨⟨by decide +kernel, by decide +kernel⟩, List.mem_of_getElem? (i := 881) (by decide +kernel), List.mem_of_getElem? (i := 1259) (by decide +kernel), List.mem_of_getElem? (i := 1260) (by decide +kernel)⟩
theorem lw_p72 : lw_okq (⟨"ShownOnceModel", "readPlace", "()I"⟩, 34) := ⟨⟨by decide +kernel, by decide +kernel⟩, List.mem_of_getElem? (i := 881) (by decide +kernel), List.mem_of_getElem? (i := 1263) (by decide +kernel), List.mem_of_getElem? (i := 1264) (by decide +kernel)⟩
theorem lw_p73 : lw_okq (⟨"ShownOnceModel", "oneOf", "(JI)I"⟩, 34) := ⟨⟨by decide +kernel, by decide +kernel⟩, List.mem_of_getElem? (i := 881) (by decide +kernel), List.mem_of_getElem? (i := 1268) (by decide +kernel), List.mem_of_getElem? (i := 1269) (by decide +kernel)⟩
theorem lw_p74 : lw_okq (⟨"ShownOnceModel", "isKept", "(I)Z"⟩, 34) := ⟨⟨by decide +kernel, by decide +kernel⟩, List.mem_of_getElem? (i := 881) (by decide +kernel), List.mem_of_getElem? (i := 1279) (by decide +kernel), List.mem_of_getElem? (i := 1280) (by decide +kernel)⟩
theorem lw_p75 : lw_okq (⟨"ShownOnceModel", "lacksRow", "(II)I"⟩, 34) := ⟨⟨by decide +kernel, by decide +kernel⟩, List.mem_of_getElem? (i := 881) (by decide +kernel), List.mem_of_getElem? (i := 1307) (by decide +kernel), List.mem_of_getElem? (i := 1308) (by decide +kernel)⟩
def lw_privs_5 : List (MethodName × Nat) := [(⟨"ShownOnceModel", "findShape", "([III)V"⟩, 34), (⟨"ShownOnceModel", "hasShape", "(I)Z"⟩, 34), (⟨"ShownOnceModel", "fitsBut", "(I)Z"⟩, 34), (⟨"ShownOnceModel", "addKept", "([I)I"⟩, 34), (⟨"ShownOnceModel", "readProgram", "()Z"⟩, 34), (⟨"ShownOnceModel", "next", "()I"⟩, 34), (⟨"ShownOnceModel", "readTyped", "()I"⟩, 34), (⟨"ShownOnceModel", "readCut", "()I"⟩, 34), (⟨"ShownOnceModel", "readPlace", "()I"⟩, 34), (⟨"ShownOnceModel", "oneOf", "(JI)I"⟩, 34), (⟨"ShownOnceModel", "isKept", "(I)Z"⟩, 34), (⟨"ShownOnceModel", "lacksRow", "(II)I"⟩, 34)]
theorem lw_r5 : ∀ q ∈ lw_privs_5, lw_okq q := List.forall_mem_cons.mpr ⟨lw_p64, List.forall_mem_cons.mpr ⟨lw_p65, List.forall_mem_cons.mpr ⟨lw_p66, List.forall_mem_cons.mpr ⟨lw_p67, List.forall_mem_cons.mpr ⟨lw_p68, List.forall_mem_cons.mpr ⟨lw_p69, List.forall_mem_cons.mpr ⟨lw_p70, List.forall_mem_cons.mpr ⟨lw_p71, List.forall_mem_cons.mpr ⟨lw_p72, List.forall_mem_cons.mpr ⟨lw_p73, List.forall_mem_cons.mpr ⟨lw_p74, List.forall_mem_cons.mpr ⟨lw_p75, fun _ h => absurd h List.not_mem_nil⟩⟩⟩⟩⟩⟩⟩⟩⟩⟩⟩⟩
def lw_privs : List (MethodName × Nat) := lw_privs_1 ++ (lw_privs_2 ++ (lw_privs_3 ++ (lw_privs_4 ++ (lw_privs_5))))
def lw_tbl : List Cond := k2_sels lw_privs ++ tables_1
theorem lw_privs_ok : ∀ q ∈ lw_privs, lw_okq q := by
  show ∀ q ∈ lw_privs_1 ++ (lw_privs_2 ++ (lw_privs_3 ++ (lw_privs_4 ++ (lw_privs_5)))), lw_okq q
  exact List.forall_mem_append.mpr ⟨lw_r1, List.forall_mem_append.mpr ⟨lw_r2, List.forall_mem_append.mpr ⟨lw_r3, List.forall_mem_append.mpr ⟨lw_r4, lw_r5⟩⟩⟩⟩
end
section
def RX0 : String := "ShownOnce$Fit"
def TX0 : u_T := fun k => match k with
  | 0 => ("ShownOnce$Fit", "shown", "[LShownOnce$Thing;", true)
  | 1 => ("ShownOnce$Fit", "shownCount", "I", false)
  | 2 => ("ShownOnce$Fit", "full", "I", false)
  | 3 => ("ShownOnce$Fit", "step", "I", false)
  | 4 => ("ShownOnce$Fit", "commonPlaces", "[I", true)
  | 5 => ("ShownOnce$Fit", "commonCount", "I", false)
  | 6 => ("ShownOnce$Fit", "firsts", "[I", true)
  | 7 => ("ShownOnce$Fit", "stops", "[I", true)
  | 8 => ("ShownOnce$Fit", "followers", "[B", true)
  | 9 => ("ShownOnce$Fit", "firstCount", "I", false)
  | 10 => ("ShownOnce$Fit", "lasts", "LShownOnce$Lasts;", true)
  | 11 => ("ShownOnce$Fit", "wholes", "[I", true)
  | 12 => ("ShownOnce$Fit", "wholeCount", "I", false)
  | 13 => ("ShownOnce$Fit", "pairs", "I", false)
  | 14 => ("ShownOnce$Fit", "triples", "I", false)
  | 15 => ("ShownOnce$Fit", "nearest", "[LShownOnce$Program;", true)
  | _ => ("ShownOnce$Fit", "nearestCount", "I", false)
def tyX0 : Nat → FieldType := fun k => match k with
  | 0 => .array (.object "ShownOnce$Thing")
  | 1 => .int
  | 2 => .int
  | 3 => .int
  | 4 => .array .int
  | 5 => .int
  | 6 => .array .int
  | 7 => .array .int
  | 8 => .array .byte
  | 9 => .int
  | 10 => .object "ShownOnce$Lasts"
  | 11 => .array .int
  | 12 => .int
  | 13 => .int
  | 14 => .int
  | 15 => .array (.object "ShownOnce$Program")
  | _ => .int
abbrev wsX00 : List Cond := u_ws RX0 TX0 17
theorem nmX0 : ∀ a, a < 17 → ∀ b, b < 17 → a ≠ b → (TX0 a).2.1 ≠ (TX0 b).2.1 := by decide +kernel
theorem tyX0_ok : ∀ k, k < 17 → parseFieldDescriptor (TX0 k).2.2.1 = some (tyX0 k) := by decide +kernel
abbrev cX0_init : ByteArray := prog_2_method_1_code
def yX0_init : MethodName := ⟨RX0, "<init>", "()V"⟩
abbrev cX0_clear : ByteArray := prog_2_method_2_code
def yX0_clear : MethodName := ⟨RX0, "clear", "()V"⟩
abbrev cX0_take : ByteArray := prog_2_method_3_code
def yX0_take : MethodName := ⟨RX0, "take", "(LShownOnce$Thing;)V"⟩
abbrev cX0_howMany : ByteArray := prog_2_method_4_code
def yX0_howMany : MethodName := ⟨RX0, "howMany", "(I)I"⟩
abbrev cX0_measure : ByteArray := prog_2_method_5_code
def yX0_measure : MethodName := ⟨RX0, "measure", "()V"⟩
abbrev cX0_findCommonPlaces : ByteArray := prog_2_method_6_code
def yX0_findCommonPlaces : MethodName := ⟨RX0, "findCommonPlaces", "()V"⟩
abbrev cX0_addCuts : ByteArray := prog_2_method_7_code
def yX0_addCuts : MethodName := ⟨RX0, "addCuts", "(II)V"⟩
abbrev cX0_addTyped : ByteArray := prog_2_method_8_code
def yX0_addTyped : MethodName := ⟨RX0, "addTyped", "(I)V"⟩
abbrev cX0_addFirst : ByteArray := prog_2_method_9_code
def yX0_addFirst : MethodName := ⟨RX0, "addFirst", "(II)V"⟩
abbrev cX0_leastSize : ByteArray := prog_2_method_10_code
def yX0_leastSize : MethodName := ⟨RX0, "leastSize", "()I"⟩
abbrev cX0_typedIn : ByteArray := prog_2_method_11_code
def yX0_typedIn : MethodName := ⟨RX0, "typedIn", "(II)I"⟩
abbrev cX0_joinPieces : ByteArray := prog_2_method_12_code
def yX0_joinPieces : MethodName := ⟨RX0, "joinPieces", "()V"⟩
abbrev cX0_rank : ByteArray := prog_2_method_13_code
def yX0_rank : MethodName := ⟨RX0, "rank", "()V"⟩
abbrev cX0_isRanked : ByteArray := prog_2_method_14_code
def yX0_isRanked : MethodName := ⟨RX0, "isRanked", "()Z"⟩
abbrev cX0_rankWholes : ByteArray := prog_2_method_15_code
def yX0_rankWholes : MethodName := ⟨RX0, "rankWholes", "(I)V"⟩
abbrev cX0_rankPairs : ByteArray := prog_2_method_16_code
def yX0_rankPairs : MethodName := ⟨RX0, "rankPairs", "(II)V"⟩
abbrev cX0_rankTriples : ByteArray := prog_2_method_17_code
def yX0_rankTriples : MethodName := ⟨RX0, "rankTriples", "(II)V"⟩
abbrev cX0_nextNearest : ByteArray := prog_2_method_18_code
def yX0_nextNearest : MethodName := ⟨RX0, "nextNearest", "()LShownOnce$Program;"⟩
def RX1 : String := "ShownOnce$Kinds"
def TX1 : u_T := fun k => match k with
  | _ => ("", "", "", false)
def tyX1 : Nat → FieldType := fun k => match k with
  | _ => .int
abbrev wsX10 : List Cond := u_ws RX1 TX1 0
theorem nmX1 : ∀ a, a < 0 → ∀ b, b < 0 → a ≠ b → (TX1 a).2.1 ≠ (TX1 b).2.1 := by decide +kernel
theorem tyX1_ok : ∀ k, k < 0 → parseFieldDescriptor (TX1 k).2.2.1 = some (tyX1 k) := by decide +kernel
abbrev cX1_isDigit : ByteArray := prog_3_method_2_code
def yX1_isDigit : MethodName := ⟨RX1, "isDigit", "(I)Z"⟩
abbrev cX1_isCapital : ByteArray := prog_3_method_3_code
def yX1_isCapital : MethodName := ⟨RX1, "isCapital", "(I)Z"⟩
abbrev cX1_isSmall : ByteArray := prog_3_method_4_code
def yX1_isSmall : MethodName := ⟨RX1, "isSmall", "(I)Z"⟩
abbrev cX1_isOfRun : ByteArray := prog_3_method_5_code
def yX1_isOfRun : MethodName := ⟨RX1, "isOfRun", "(II)Z"⟩
abbrev cX1_turned : ByteArray := prog_3_method_6_code
def yX1_turned : MethodName := ⟨RX1, "turned", "(II)I"⟩
abbrev cX1_shapeKindOf : ByteArray := prog_3_method_7_code
def yX1_shapeKindOf : MethodName := ⟨RX1, "shapeKindOf", "(I)I"⟩
abbrev cX1_shapeOf : ByteArray := prog_3_method_8_code
def yX1_shapeOf : MethodName := ⟨RX1, "shapeOf", "(LShownOnce$Row;)I"⟩
def RX2 : String := "ShownOnce$Lasts"
def TX2 : u_T := fun k => match k with
  | 0 => ("ShownOnce$Lasts", "groupOf", "[S", true)
  | 1 => ("ShownOnce$Lasts", "startOf", "[I", true)
  | 2 => ("ShownOnce$Lasts", "ways", "[I", true)
  | 3 => ("ShownOnce$Lasts", "heads", "[I", true)
  | 4 => ("ShownOnce$Lasts", "tails", "[I", true)
  | 5 => ("ShownOnce$Lasts", "groups", "I", false)
  | 6 => ("ShownOnce$Lasts", "pieces", "[I", true)
  | 7 => ("ShownOnce$Lasts", "nexts", "[I", true)
  | _ => ("ShownOnce$Lasts", "size", "I", false)
def tyX2 : Nat → FieldType := fun k => match k with
  | 0 => .array .short
  | 1 => .array .int
  | 2 => .array .int
  | 3 => .array .int
  | 4 => .array .int
  | 5 => .int
  | 6 => .array .int
  | 7 => .array .int
  | _ => .int
abbrev wsX20 : List Cond := u_ws RX2 TX2 9
theorem nmX2 : ∀ a, a < 9 → ∀ b, b < 9 → a ≠ b → (TX2 a).2.1 ≠ (TX2 b).2.1 := by decide +kernel
theorem tyX2_ok : ∀ k, k < 9 → parseFieldDescriptor (TX2 k).2.2.1 = some (tyX2 k) := by decide +kernel
abbrev cX2_init : ByteArray := prog_4_method_1_code
def yX2_init : MethodName := ⟨RX2, "<init>", "()V"⟩
abbrev cX2_clear : ByteArray := prog_4_method_2_code
def yX2_clear : MethodName := ⟨RX2, "clear", "()V"⟩
abbrev cX2_add : ByteArray := prog_4_method_3_code
def yX2_add : MethodName := ⟨RX2, "add", "(II)V"⟩
abbrev cX2_openGroup : ByteArray := prog_4_method_4_code
def yX2_openGroup : MethodName := ⟨RX2, "openGroup", "(I)V"⟩
abbrev cX2_waysFrom : ByteArray := prog_4_method_5_code
def yX2_waysFrom : MethodName := ⟨RX2, "waysFrom", "(I)I"⟩
abbrev cX2_headOf : ByteArray := prog_4_method_6_code
def yX2_headOf : MethodName := ⟨RX2, "headOf", "(II)I"⟩
abbrev cX2_nextOf : ByteArray := prog_4_method_7_code
def yX2_nextOf : MethodName := ⟨RX2, "nextOf", "(I)I"⟩
abbrev cX2_pieceAt : ByteArray := prog_4_method_8_code
def yX2_pieceAt : MethodName := ⟨RX2, "pieceAt", "(I)I"⟩
def RX3 : String := "ShownOnce$Program"
def TX3 : u_T := fun k => match k with
  | 0 => ("ShownOnce$Program", "pieces", "[I", true)
  | _ => ("ShownOnce$Program", "size", "I", false)
def tyX3 : Nat → FieldType := fun k => match k with
  | 0 => .array .int
  | _ => .int
abbrev wsX30 : List Cond := u_ws RX3 TX3 2
theorem nmX3 : ∀ a, a < 2 → ∀ b, b < 2 → a ≠ b → (TX3 a).2.1 ≠ (TX3 b).2.1 := by decide +kernel
theorem tyX3_ok : ∀ k, k < 2 → parseFieldDescriptor (TX3 k).2.2.1 = some (tyX3 k) := by decide +kernel
abbrev cX3_init : ByteArray := prog_5_method_1_code
def yX3_init : MethodName := ⟨RX3, "<init>", "()V"⟩
abbrev cX3_costOf : ByteArray := prog_5_method_2_code
def yX3_costOf : MethodName := ⟨RX3, "costOf", "(I)I"⟩
abbrev cX3_clear : ByteArray := prog_5_method_3_code
def yX3_clear : MethodName := ⟨RX3, "clear", "()V"⟩
abbrev cX3_add : ByteArray := prog_5_method_4_code
def yX3_add : MethodName := ⟨RX3, "add", "(I)V"⟩
abbrev cX3_copyOf : ByteArray := prog_5_method_5_code
def yX3_copyOf : MethodName := ⟨RX3, "copyOf", "(LShownOnce$Program;)V"⟩
abbrev cX3_endsWithCut : ByteArray := prog_5_method_6_code
def yX3_endsWithCut : MethodName := ⟨RX3, "endsWithCut", "()Z"⟩
abbrev cX3_pieceCount : ByteArray := prog_5_method_7_code
def yX3_pieceCount : MethodName := ⟨RX3, "pieceCount", "()I"⟩
abbrev cX3_told : ByteArray := prog_5_method_8_code
def yX3_told : MethodName := ⟨RX3, "told", "(I)I"⟩
abbrev cX3_makeOf : ByteArray := prog_5_method_9_code
def yX3_makeOf : MethodName := ⟨RX3, "makeOf", "(LShownOnce$Thing;LShownOnce$Row;)Z"⟩
abbrev cX3_writeTyped : ByteArray := prog_5_method_10_code
def yX3_writeTyped : MethodName := ⟨RX3, "writeTyped", "(ILShownOnce$Row;)V"⟩
def RX4 : String := "ShownOnce$Row"
def TX4 : u_T := fun k => match k with
  | 0 => ("ShownOnce$Row", "bytes", "[B", true)
  | _ => ("ShownOnce$Row", "size", "I", false)
def tyX4 : Nat → FieldType := fun k => match k with
  | 0 => .array .byte
  | _ => .int
abbrev wsX40 : List Cond := u_ws RX4 TX4 2
theorem nmX4 : ∀ a, a < 2 → ∀ b, b < 2 → a ≠ b → (TX4 a).2.1 ≠ (TX4 b).2.1 := by decide +kernel
theorem tyX4_ok : ∀ k, k < 2 → parseFieldDescriptor (TX4 k).2.2.1 = some (tyX4 k) := by decide +kernel
abbrev cX4_init : ByteArray := prog_6_method_1_code
def yX4_init : MethodName := ⟨RX4, "<init>", "(I)V"⟩
abbrev cX4_clear : ByteArray := prog_6_method_2_code
def yX4_clear : MethodName := ⟨RX4, "clear", "()V"⟩
abbrev cX4_add : ByteArray := prog_6_method_3_code
def yX4_add : MethodName := ⟨RX4, "add", "(I)V"⟩
abbrev cX4_told : ByteArray := prog_6_method_4_code
def yX4_told : MethodName := ⟨RX4, "told", "(I)I"⟩
abbrev cX4_copyOf : ByteArray := prog_6_method_5_code
def yX4_copyOf : MethodName := ⟨RX4, "copyOf", "(LShownOnce$Row;)V"⟩
abbrev cX4_isLike : ByteArray := prog_6_method_6_code
def yX4_isLike : MethodName := ⟨RX4, "isLike", "(LShownOnce$Row;)Z"⟩
def RX5 : String := "ShownOnce$Sheet"
def TX5 : u_T := fun k => match k with
  | 0 => ("ShownOnce$Sheet", "items", "[I", true)
  | 1 => ("ShownOnce$Sheet", "size", "I", false)
  | _ => ("ShownOnce$Sheet", "lane", "I", false)
def tyX5 : Nat → FieldType := fun k => match k with
  | 0 => .array .int
  | 1 => .int
  | _ => .int
abbrev wsX50 : List Cond := u_ws RX5 TX5 3
theorem nmX5 : ∀ a, a < 3 → ∀ b, b < 3 → a ≠ b → (TX5 a).2.1 ≠ (TX5 b).2.1 := by decide +kernel
theorem tyX5_ok : ∀ k, k < 3 → parseFieldDescriptor (TX5 k).2.2.1 = some (tyX5 k) := by decide +kernel
abbrev cX5_init : ByteArray := prog_7_method_1_code
def yX5_init : MethodName := ⟨RX5, "<init>", "()V"⟩
abbrev cX5_isThere : ByteArray := prog_7_method_2_code
def yX5_isThere : MethodName := ⟨RX5, "isThere", "()Z"⟩
abbrev cX5_renew : ByteArray := prog_7_method_3_code
def yX5_renew : MethodName := ⟨RX5, "renew", "(II)V"⟩
abbrev cX5_vanish : ByteArray := prog_7_method_4_code
def yX5_vanish : MethodName := ⟨RX5, "vanish", "()V"⟩
abbrev cX5_refusalOf : ByteArray := prog_7_method_5_code
def yX5_refusalOf : MethodName := ⟨RX5, "refusalOf", "(I)I"⟩
abbrev cX5_holds : ByteArray := prog_7_method_6_code
def yX5_holds : MethodName := ⟨RX5, "holds", "(II)Z"⟩
abbrev cX5_write : ByteArray := prog_7_method_7_code
def yX5_write : MethodName := ⟨RX5, "write", "(II)V"⟩
def RX6 : String := "ShownOnce$Tally"
def TX6 : u_T := fun k => match k with
  | 0 => ("ShownOnce$Tally", "rows", "[LShownOnce$Row;", true)
  | 1 => ("ShownOnce$Tally", "makers", "[I", true)
  | _ => ("ShownOnce$Tally", "ends", "I", false)
def tyX6 : Nat → FieldType := fun k => match k with
  | 0 => .array (.object "ShownOnce$Row")
  | 1 => .array .int
  | _ => .int
abbrev wsX60 : List Cond := u_ws RX6 TX6 3
theorem nmX6 : ∀ a, a < 3 → ∀ b, b < 3 → a ≠ b → (TX6 a).2.1 ≠ (TX6 b).2.1 := by decide +kernel
theorem tyX6_ok : ∀ k, k < 3 → parseFieldDescriptor (TX6 k).2.2.1 = some (tyX6 k) := by decide +kernel
abbrev cX6_init : ByteArray := prog_8_method_1_code
def yX6_init : MethodName := ⟨RX6, "<init>", "()V"⟩
abbrev cX6_take : ByteArray := prog_8_method_2_code
def yX6_take : MethodName := ⟨RX6, "take", "(LShownOnce$Fit;LShownOnce$Thing;)V"⟩
abbrev cX6_likeLatest : ByteArray := prog_8_method_3_code
def yX6_likeLatest : MethodName := ⟨RX6, "likeLatest", "()I"⟩
abbrev cX6_greatest : ByteArray := prog_8_method_4_code
def yX6_greatest : MethodName := ⟨RX6, "greatest", "()I"⟩
def RX7 : String := "ShownOnce$TextReader"
def TX7 : u_T := fun k => match k with
  | 0 => ("ShownOnce$TextReader", "program", "LShownOnce$Program;", true)
  | 1 => ("ShownOnce$TextReader", "told", "LShownOnce$Row;", true)
  | _ => ("ShownOnce$TextReader", "at", "I", false)
def tyX7 : Nat → FieldType := fun k => match k with
  | 0 => .object "ShownOnce$Program"
  | 1 => .object "ShownOnce$Row"
  | _ => .int
abbrev wsX70 : List Cond := u_ws RX7 TX7 3
theorem nmX7 : ∀ a, a < 3 → ∀ b, b < 3 → a ≠ b → (TX7 a).2.1 ≠ (TX7 b).2.1 := by decide +kernel
theorem tyX7_ok : ∀ k, k < 3 → parseFieldDescriptor (TX7 k).2.2.1 = some (tyX7 k) := by decide +kernel
abbrev cX7_init : ByteArray := prog_9_method_1_code
def yX7_init : MethodName := ⟨RX7, "<init>", "()V"⟩
abbrev cX7_read : ByteArray := prog_9_method_2_code
def yX7_read : MethodName := ⟨RX7, "read", "(LShownOnce$Row;)I"⟩
abbrev cX7_canGoOn : ByteArray := prog_9_method_3_code
def yX7_canGoOn : MethodName := ⟨RX7, "canGoOn", "()Z"⟩
abbrev cX7_look : ByteArray := prog_9_method_4_code
def yX7_look : MethodName := ⟨RX7, "look", "()I"⟩
abbrev cX7_readPiece : ByteArray := prog_9_method_5_code
def yX7_readPiece : MethodName := ⟨RX7, "readPiece", "()Z"⟩
abbrev cX7_readTyped : ByteArray := prog_9_method_6_code
def yX7_readTyped : MethodName := ⟨RX7, "readTyped", "()Z"⟩
abbrev cX7_readCut : ByteArray := prog_9_method_7_code
def yX7_readCut : MethodName := ⟨RX7, "readCut", "()Z"⟩
abbrev cX7_readTurn : ByteArray := prog_9_method_8_code
def yX7_readTurn : MethodName := ⟨RX7, "readTurn", "()I"⟩
abbrev cX7_readPlace : ByteArray := prog_9_method_9_code
def yX7_readPlace : MethodName := ⟨RX7, "readPlace", "()I"⟩
abbrev cX7_readDistance : ByteArray := prog_9_method_10_code
def yX7_readDistance : MethodName := ⟨RX7, "readDistance", "(I)I"⟩
abbrev cX7_readRun : ByteArray := prog_9_method_11_code
def yX7_readRun : MethodName := ⟨RX7, "readRun", "(I)I"⟩
def RX8 : String := "ShownOnce$Thing"
def TX8 : u_T := fun k => match k with
  | 0 => ("ShownOnce$Thing", "line", "LShownOnce$Row;", true)
  | 1 => ("ShownOnce$Thing", "places", "[I", true)
  | 2 => ("ShownOnce$Thing", "end", "LShownOnce$Row;", true)
  | 3 => ("ShownOnce$Thing", "state", "I", false)
  | _ => ("ShownOnce$Thing", "spans", "[B", true)
def tyX8 : Nat → FieldType := fun k => match k with
  | 0 => .object "ShownOnce$Row"
  | 1 => .array .int
  | 2 => .object "ShownOnce$Row"
  | 3 => .int
  | _ => .array .byte
abbrev wsX80 : List Cond := u_ws RX8 TX8 5
theorem nmX8 : ∀ a, a < 5 → ∀ b, b < 5 → a ≠ b → (TX8 a).2.1 ≠ (TX8 b).2.1 := by decide +kernel
theorem tyX8_ok : ∀ k, k < 5 → parseFieldDescriptor (TX8 k).2.2.1 = some (tyX8 k) := by decide +kernel
abbrev cX8_init : ByteArray := prog_10_method_1_code
def yX8_init : MethodName := ⟨RX8, "<init>", "()V"⟩
abbrev cX8_findPlaces : ByteArray := prog_10_method_2_code
def yX8_findPlaces : MethodName := ⟨RX8, "findPlaces", "()V"⟩
abbrev cX8_findRuns : ByteArray := prog_10_method_3_code
def yX8_findRuns : MethodName := ⟨RX8, "findRuns", "(II)V"⟩
abbrev cX8_setRun : ByteArray := prog_10_method_4_code
def yX8_setRun : MethodName := ⟨RX8, "setRun", "(III)V"⟩
abbrev cX8_cutInto : ByteArray := prog_10_method_5_code
def yX8_cutInto : MethodName := ⟨RX8, "cutInto", "(ILShownOnce$Row;)Z"⟩
abbrev cX8_compareSpans : ByteArray := prog_10_method_6_code
def yX8_compareSpans : MethodName := ⟨RX8, "compareSpans", "()V"⟩
abbrev cX8_markBeginnings : ByteArray := prog_10_method_7_code
def yX8_markBeginnings : MethodName := ⟨RX8, "markBeginnings", "(II)V"⟩
abbrev cX8_markClosings : ByteArray := prog_10_method_8_code
def yX8_markClosings : MethodName := ⟨RX8, "markClosings", "(II)V"⟩
abbrev cX8_spanBits : ByteArray := prog_10_method_9_code
def yX8_spanBits : MethodName := ⟨RX8, "spanBits", "(II)I"⟩
def RX9 : String := "ShownOnce"
def TX9 : u_T := fun k => match k with
  | 0 => ("ShownOnce", "tape", "LShownOnce$Row;", true)
  | 1 => ("ShownOnce", "scratch", "LShownOnce$Row;", true)
  | 2 => ("ShownOnce", "things", "[LShownOnce$Thing;", true)
  | 3 => ("ShownOnce", "thingCount", "I", false)
  | 4 => ("ShownOnce", "fit", "LShownOnce$Fit;", true)
  | 5 => ("ShownOnce", "fitIsFresh", "Z", false)
  | 6 => ("ShownOnce", "slipBits", "I", false)
  | 7 => ("ShownOnce", "tally", "LShownOnce$Tally;", true)
  | 8 => ("ShownOnce", "doings", "[I", true)
  | 9 => ("ShownOnce", "doingCount", "I", false)
  | 10 => ("ShownOnce", "programs", "[LShownOnce$Program;", true)
  | 11 => ("ShownOnce", "programCount", "I", false)
  | 12 => ("ShownOnce", "reader", "LShownOnce$TextReader;", true)
  | _ => ("ShownOnce", "sheets", "[LShownOnce$Sheet;", true)
def tyX9 : Nat → FieldType := fun k => match k with
  | 0 => .object "ShownOnce$Row"
  | 1 => .object "ShownOnce$Row"
  | 2 => .array (.object "ShownOnce$Thing")
  | 3 => .int
  | 4 => .object "ShownOnce$Fit"
  | 5 => .boolean
  | 6 => .int
  | 7 => .object "ShownOnce$Tally"
  | 8 => .array .int
  | 9 => .int
  | 10 => .array (.object "ShownOnce$Program")
  | 11 => .int
  | 12 => .object "ShownOnce$TextReader"
  | _ => .array (.object "ShownOnce$Sheet")
abbrev wsX90 : List Cond := u_ws RX9 TX9 14
theorem nmX9 : ∀ a, a < 14 → ∀ b, b < 14 → a ≠ b → (TX9 a).2.1 ≠ (TX9 b).2.1 := by decide +kernel
theorem tyX9_ok : ∀ k, k < 14 → parseFieldDescriptor (TX9 k).2.2.1 = some (tyX9 k) := by decide +kernel
abbrev cX9_init : ByteArray := prog_1_method_1_code
def yX9_init : MethodName := ⟨RX9, "<init>", "()V"⟩
abbrev cX9_type : ByteArray := prog_1_method_2_code
def yX9_type : MethodName := ⟨RX9, "type", "(JI)I"⟩
abbrev cX9_thing : ByteArray := prog_1_method_3_code
def yX9_thing : MethodName := ⟨RX9, "thing", "()I"⟩
abbrev cX9_line : ByteArray := prog_1_method_4_code
def yX9_line : MethodName := ⟨RX9, "line", "(IIII)I"⟩
abbrev cX9_byteAt : ByteArray := prog_1_method_5_code
def yX9_byteAt : MethodName := ⟨RX9, "byteAt", "(II)I"⟩
abbrev cX9_place : ByteArray := prog_1_method_6_code
def yX9_place : MethodName := ⟨RX9, "place", "(II)I"⟩
abbrev cX9_made : ByteArray := prog_1_method_7_code
def yX9_made : MethodName := ⟨RX9, "made", "(III)I"⟩
abbrev cX9_show : ByteArray := prog_1_method_8_code
def yX9_show : MethodName := ⟨RX9, "show", "(I)I"⟩
abbrev cX9_forget : ByteArray := prog_1_method_9_code
def yX9_forget : MethodName := ⟨RX9, "forget", "(I)I"⟩
abbrev cX9_fitting : ByteArray := prog_1_method_10_code
def yX9_fitting : MethodName := ⟨RX9, "fitting", "(I)J"⟩
abbrev cX9_shortest : ByteArray := prog_1_method_11_code
def yX9_shortest : MethodName := ⟨RX9, "shortest", "(I)I"⟩
abbrev cX9_paper : ByteArray := prog_1_method_12_code
def yX9_paper : MethodName := ⟨RX9, "paper", "(II)I"⟩
abbrev cX9_differs : ByteArray := prog_1_method_13_code
def yX9_differs : MethodName := ⟨RX9, "differs", "(I)I"⟩
abbrev cX9_settle : ByteArray := prog_1_method_14_code
def yX9_settle : MethodName := ⟨RX9, "settle", "()I"⟩
abbrev cX9_odd : ByteArray := prog_1_method_15_code
def yX9_odd : MethodName := ⟨RX9, "odd", "(I)I"⟩
abbrev cX9_slips : ByteArray := prog_1_method_16_code
def yX9_slips : MethodName := ⟨RX9, "slips", "()I"⟩
abbrev cX9_state : ByteArray := prog_1_method_17_code
def yX9_state : MethodName := ⟨RX9, "state", "(I)I"⟩
abbrev cX9_doing : ByteArray := prog_1_method_18_code
def yX9_doing : MethodName := ⟨RX9, "doing", "(I)I"⟩
abbrev cX9_back : ByteArray := prog_1_method_19_code
def yX9_back : MethodName := ⟨RX9, "back", "()I"⟩
abbrev cX9_end : ByteArray := prog_1_method_20_code
def yX9_end : MethodName := ⟨RX9, "end", "(II)I"⟩
abbrev cX9_otherwise : ByteArray := prog_1_method_21_code
def yX9_otherwise : MethodName := ⟨RX9, "otherwise", "()I"⟩
abbrev cX9_keep : ByteArray := prog_1_method_22_code
def yX9_keep : MethodName := ⟨RX9, "keep", "()I"⟩
abbrev cX9_text : ByteArray := prog_1_method_23_code
def yX9_text : MethodName := ⟨RX9, "text", "()I"⟩
abbrev cX9_kept : ByteArray := prog_1_method_24_code
def yX9_kept : MethodName := ⟨RX9, "kept", "(II)I"⟩
abbrev cX9_run : ByteArray := prog_1_method_25_code
def yX9_run : MethodName := ⟨RX9, "run", "(III)I"⟩
abbrev cX9_count : ByteArray := prog_1_method_26_code
def yX9_count : MethodName := ⟨RX9, "count", "(I)I"⟩
abbrev cX9_sheet : ByteArray := prog_1_method_27_code
def yX9_sheet : MethodName := ⟨RX9, "sheet", "(III)I"⟩
abbrev cX9_drop : ByteArray := prog_1_method_28_code
def yX9_drop : MethodName := ⟨RX9, "drop", "(I)I"⟩
abbrev cX9_item : ByteArray := prog_1_method_29_code
def yX9_item : MethodName := ⟨RX9, "item", "(IIII)I"⟩
abbrev cX9_put : ByteArray := prog_1_method_30_code
def yX9_put : MethodName := ⟨RX9, "put", "(IIIII)I"⟩
abbrev cX9_isThing : ByteArray := prog_1_method_31_code
def yX9_isThing : MethodName := ⟨RX9, "isThing", "(I)Z"⟩
abbrev cX9_isProgram : ByteArray := prog_1_method_32_code
def yX9_isProgram : MethodName := ⟨RX9, "isProgram", "(I)Z"⟩
abbrev cX9_isCut : ByteArray := prog_1_method_33_code
def yX9_isCut : MethodName := ⟨RX9, "isCut", "(I)Z"⟩
abbrev cX9_isSheet : ByteArray := prog_1_method_34_code
def yX9_isSheet : MethodName := ⟨RX9, "isSheet", "(I)Z"⟩
abbrev cX9_isLane : ByteArray := prog_1_method_35_code
def yX9_isLane : MethodName := ⟨RX9, "isLane", "(I)Z"⟩
abbrev cX9_isLineByte : ByteArray := prog_1_method_36_code
def yX9_isLineByte : MethodName := ⟨RX9, "isLineByte", "(I)Z"⟩
abbrev cX9_byteOf : ByteArray := prog_1_method_37_code
def yX9_byteOf : MethodName := ⟨RX9, "byteOf", "(JI)I"⟩
abbrev cX9_addThing : ByteArray := prog_1_method_38_code
def yX9_addThing : MethodName := ⟨RX9, "addThing", "(LShownOnce$Row;)I"⟩
abbrev cX9_showTapeOf : ByteArray := prog_1_method_39_code
def yX9_showTapeOf : MethodName := ⟨RX9, "showTapeOf", "(LShownOnce$Thing;)I"⟩
abbrev cX9_howMany : ByteArray := prog_1_method_40_code
def yX9_howMany : MethodName := ⟨RX9, "howMany", "(I)I"⟩
abbrev cX9_showingChanged : ByteArray := prog_1_method_41_code
def yX9_showingChanged : MethodName := ⟨RX9, "showingChanged", "()V"⟩
abbrev cX9_fitRefusal : ByteArray := prog_1_method_42_code
def yX9_fitRefusal : MethodName := ⟨RX9, "fitRefusal", "()I"⟩
abbrev cX9_measureWithout : ByteArray := prog_1_method_43_code
def yX9_measureWithout : MethodName := ⟨RX9, "measureWithout", "(I)V"⟩
abbrev cX9_leastSlips : ByteArray := prog_1_method_44_code
def yX9_leastSlips : MethodName := ⟨RX9, "leastSlips", "()I"⟩
abbrev cX9_spread : ByteArray := prog_1_method_45_code
def yX9_spread : MethodName := ⟨RX9, "spread", "(II)I"⟩
abbrev cX9_makesOddEnd : ByteArray := prog_1_method_46_code
def yX9_makesOddEnd : MethodName := ⟨RX9, "makesOddEnd", "(LShownOnce$Thing;)Z"⟩
abbrev cX9_keepProgram : ByteArray := prog_1_method_47_code
def yX9_keepProgram : MethodName := ⟨RX9, "keepProgram", "(LShownOnce$Program;)I"⟩
def RX10 : String := "ShownOnceModel"
def TX10 : u_T := fun k => match k with
  | 0 => ("ShownOnceModel", "things", "I", false)
  | 1 => ("ShownOnceModel", "bytes", "[I", true)
  | 2 => ("ShownOnceModel", "sizes", "[I", true)
  | 3 => ("ShownOnceModel", "states", "[I", true)
  | 4 => ("ShownOnceModel", "ends", "[I", true)
  | 5 => ("ShownOnceModel", "endSizes", "[I", true)
  | 6 => ("ShownOnceModel", "doneBy", "[I", true)
  | 7 => ("ShownOnceModel", "doings", "I", false)
  | 8 => ("ShownOnceModel", "tape", "[I", true)
  | 9 => ("ShownOnceModel", "taped", "I", false)
  | 10 => ("ShownOnceModel", "at", "I", false)
  | 11 => ("ShownOnceModel", "out", "[I", true)
  | 12 => ("ShownOnceModel", "outSize", "I", false)
  | 13 => ("ShownOnceModel", "shownMany", "I", false)
  | 14 => ("ShownOnceModel", "shown", "[I", true)
  | 15 => ("ShownOnceModel", "fronts", "I", false)
  | 16 => ("ShownOnceModel", "frontPiece", "[I", true)
  | 17 => ("ShownOnceModel", "frontLong", "[I", true)
  | 18 => ("ShownOnceModel", "behinds", "I", false)
  | 19 => ("ShownOnceModel", "behindPiece", "[I", true)
  | 20 => ("ShownOnceModel", "behindLong", "[I", true)
  | 21 => ("ShownOnceModel", "manyBehind", "[I", true)
  | 22 => ("ShownOnceModel", "near", "I", false)
  | 23 => ("ShownOnceModel", "nears", "[I", true)
  | 24 => ("ShownOnceModel", "nearEnds", "[I", true)
  | 25 => ("ShownOnceModel", "nearSizes", "[I", true)
  | 26 => ("ShownOnceModel", "shape", "[I", true)
  | 27 => ("ShownOnceModel", "shapeSize", "I", false)
  | 28 => ("ShownOnceModel", "keptMany", "I", false)
  | 29 => ("ShownOnceModel", "keeps", "[I", true)
  | 30 => ("ShownOnceModel", "read", "[I", true)
  | 31 => ("ShownOnceModel", "lanes", "[I", true)
  | 32 => ("ShownOnceModel", "rowSizes", "[I", true)
  | _ => ("ShownOnceModel", "items", "[I", true)
def tyX10 : Nat → FieldType := fun k => match k with
  | 0 => .int
  | 1 => .array .int
  | 2 => .array .int
  | 3 => .array .int
  | 4 => .array .int
  | 5 => .array .int
  | 6 => .array .int
  | 7 => .int
  | 8 => .array .int
  | 9 => .int
  | 10 => .int
  | 11 => .array .int
  | 12 => .int
  | 13 => .int
  | 14 => .array .int
  | 15 => .int
  | 16 => .array .int
  | 17 => .array .int
  | 18 => .int
  | 19 => .array .int
  | 20 => .array .int
  | 21 => .array .int
  | 22 => .int
  | 23 => .array .int
  | 24 => .array .int
  | 25 => .array .int
  | 26 => .array .int
  | 27 => .int
  | 28 => .int
  | 29 => .array .int
  | 30 => .array .int
  | 31 => .array .int
  | 32 => .array .int
  | _ => .array .int
abbrev wsX100 : List Cond := u_ws RX10 TX10 34
theorem nmX10 : ∀ a, a < 34 → ∀ b, b < 34 → a ≠ b → (TX10 a).2.1 ≠ (TX10 b).2.1 := by decide +kernel
theorem tyX10_ok : ∀ k, k < 34 → parseFieldDescriptor (TX10 k).2.2.1 = some (tyX10 k) := by decide +kernel
abbrev cX10_in : ByteArray := prog_12_method_1_code
def yX10_in : MethodName := ⟨RX10, "in", "(JJJ)Z"⟩
abbrev cX10_init : ByteArray := prog_12_method_2_code
def yX10_init : MethodName := ⟨RX10, "<init>", "()V"⟩
abbrev cX10_isThing : ByteArray := prog_12_method_3_code
def yX10_isThing : MethodName := ⟨RX10, "isThing", "(I)Z"⟩
abbrev cX10_type : ByteArray := prog_12_method_4_code
def yX10_type : MethodName := ⟨RX10, "type", "(JI)I"⟩
abbrev cX10_addThing : ByteArray := prog_12_method_5_code
def yX10_addThing : MethodName := ⟨RX10, "addThing", "(I)I"⟩
abbrev cX10_thing : ByteArray := prog_12_method_6_code
def yX10_thing : MethodName := ⟨RX10, "thing", "()I"⟩
abbrev cX10_byteAt : ByteArray := prog_12_method_7_code
def yX10_byteAt : MethodName := ⟨RX10, "byteAt", "(II)I"⟩
abbrev cX10_isDigit : ByteArray := prog_12_method_8_code
def yX10_isDigit : MethodName := ⟨RX10, "isDigit", "(I)Z"⟩
abbrev cX10_isCapital : ByteArray := prog_12_method_9_code
def yX10_isCapital : MethodName := ⟨RX10, "isCapital", "(I)Z"⟩
abbrev cX10_isSmall : ByteArray := prog_12_method_10_code
def yX10_isSmall : MethodName := ⟨RX10, "isSmall", "(I)Z"⟩
abbrev cX10_isSign : ByteArray := prog_12_method_11_code
def yX10_isSign : MethodName := ⟨RX10, "isSign", "(I)Z"⟩
abbrev cX10_isOf : ByteArray := prog_12_method_12_code
def yX10_isOf : MethodName := ⟨RX10, "isOf", "(II)Z"⟩
abbrev cX10_runOf : ByteArray := prog_12_method_13_code
def yX10_runOf : MethodName := ⟨RX10, "runOf", "(IIII)I"⟩
abbrev cX10_placeOf : ByteArray := prog_12_method_14_code
def yX10_placeOf : MethodName := ⟨RX10, "placeOf", "(II)I"⟩
abbrev cX10_place : ByteArray := prog_12_method_15_code
def yX10_place : MethodName := ⟨RX10, "place", "(II)I"⟩
abbrev cX10_turned : ByteArray := prog_12_method_16_code
def yX10_turned : MethodName := ⟨RX10, "turned", "(II)I"⟩
abbrev cX10_makePiece : ByteArray := prog_12_method_17_code
def yX10_makePiece : MethodName := ⟨RX10, "makePiece", "(II)Z"⟩
abbrev cX10_byteOf : ByteArray := prog_12_method_18_code
def yX10_byteOf : MethodName := ⟨RX10, "byteOf", "(I)I"⟩
abbrev cX10_made : ByteArray := prog_12_method_19_code
def yX10_made : MethodName := ⟨RX10, "made", "(III)I"⟩
abbrev cX10_findShown : ByteArray := prog_12_method_20_code
def yX10_findShown : MethodName := ⟨RX10, "findShown", "(I)V"⟩
abbrev cX10_countOf : ByteArray := prog_12_method_21_code
def yX10_countOf : MethodName := ⟨RX10, "countOf", "(I)I"⟩
abbrev cX10_show : ByteArray := prog_12_method_22_code
def yX10_show : MethodName := ⟨RX10, "show", "(I)I"⟩
abbrev cX10_forget : ByteArray := prog_12_method_23_code
def yX10_forget : MethodName := ⟨RX10, "forget", "(I)I"⟩
abbrev cX10_costOf : ByteArray := prog_12_method_24_code
def yX10_costOf : MethodName := ⟨RX10, "costOf", "(I)I"⟩
abbrev cX10_standsAt : ByteArray := prog_12_method_25_code
def yX10_standsAt : MethodName := ⟨RX10, "standsAt", "(II)Z"⟩
abbrev cX10_longOf : ByteArray := prog_12_method_26_code
def yX10_longOf : MethodName := ⟨RX10, "longOf", "(IZ)I"⟩
abbrev cX10_typedAt : ByteArray := prog_12_method_27_code
def yX10_typedAt : MethodName := ⟨RX10, "typedAt", "(II)I"⟩
abbrev cX10_noteFront : ByteArray := prog_12_method_28_code
def yX10_noteFront : MethodName := ⟨RX10, "noteFront", "(II)V"⟩
abbrev cX10_noteBehind : ByteArray := prog_12_method_29_code
def yX10_noteBehind : MethodName := ⟨RX10, "noteBehind", "(II)V"⟩
abbrev cX10_findPieces : ByteArray := prog_12_method_30_code
def yX10_findPieces : MethodName := ⟨RX10, "findPieces", "()V"⟩
abbrev cX10_leftOf : ByteArray := prog_12_method_31_code
def yX10_leftOf : MethodName := ⟨RX10, "leftOf", "(II)I"⟩
abbrev cX10_isAll : ByteArray := prog_12_method_32_code
def yX10_isAll : MethodName := ⟨RX10, "isAll", "(I)Z"⟩
abbrev cX10_fittingOf : ByteArray := prog_12_method_33_code
def yX10_fittingOf : MethodName := ⟨RX10, "fittingOf", "(I)J"⟩
abbrev cX10_fitting : ByteArray := prog_12_method_34_code
def yX10_fitting : MethodName := ⟨RX10, "fitting", "(I)J"⟩
abbrev cX10_noteNear : ByteArray := prog_12_method_35_code
def yX10_noteNear : MethodName := ⟨RX10, "noteNear", "(III)V"⟩
abbrev cX10_noteWith : ByteArray := prog_12_method_36_code
def yX10_noteWith : MethodName := ⟨RX10, "noteWith", "(IIII)V"⟩
abbrev cX10_findNearest : ByteArray := prog_12_method_37_code
def yX10_findNearest : MethodName := ⟨RX10, "findNearest", "()V"⟩
abbrev cX10_lacksFit : ByteArray := prog_12_method_38_code
def yX10_lacksFit : MethodName := ⟨RX10, "lacksFit", "()I"⟩
abbrev cX10_runRow : ByteArray := prog_12_method_39_code
def yX10_runRow : MethodName := ⟨RX10, "runRow", "([III)Z"⟩
abbrev cX10_toldOf : ByteArray := prog_12_method_40_code
def yX10_toldOf : MethodName := ⟨RX10, "toldOf", "([III)I"⟩
abbrev cX10_shortest : ByteArray := prog_12_method_41_code
def yX10_shortest : MethodName := ⟨RX10, "shortest", "(I)I"⟩
abbrev cX10_paper : ByteArray := prog_12_method_42_code
def yX10_paper : MethodName := ⟨RX10, "paper", "(II)I"⟩
abbrev cX10_findEnds : ByteArray := prog_12_method_43_code
def yX10_findEnds : MethodName := ⟨RX10, "findEnds", "(I)V"⟩
abbrev cX10_areAlike : ByteArray := prog_12_method_44_code
def yX10_areAlike : MethodName := ⟨RX10, "areAlike", "(II)Z"⟩
abbrev cX10_sortEnds : ByteArray := prog_12_method_45_code
def yX10_sortEnds : MethodName := ⟨RX10, "sortEnds", "(IZ)I"⟩
abbrev cX10_differs : ByteArray := prog_12_method_46_code
def yX10_differs : MethodName := ⟨RX10, "differs", "(I)I"⟩
abbrev cX10_settle : ByteArray := prog_12_method_47_code
def yX10_settle : MethodName := ⟨RX10, "settle", "()I"⟩
abbrev cX10_kindOf : ByteArray := prog_12_method_48_code
def yX10_kindOf : MethodName := ⟨RX10, "kindOf", "(I)I"⟩
abbrev cX10_findShape : ByteArray := prog_12_method_49_code
def yX10_findShape : MethodName := ⟨RX10, "findShape", "([III)V"⟩
abbrev cX10_hasShape : ByteArray := prog_12_method_50_code
def yX10_hasShape : MethodName := ⟨RX10, "hasShape", "(I)Z"⟩
abbrev cX10_isOdd : ByteArray := prog_12_method_51_code
def yX10_isOdd : MethodName := ⟨RX10, "isOdd", "(I)Z"⟩
abbrev cX10_odd : ByteArray := prog_12_method_52_code
def yX10_odd : MethodName := ⟨RX10, "odd", "(I)I"⟩
abbrev cX10_ones : ByteArray := prog_12_method_53_code
def yX10_ones : MethodName := ⟨RX10, "ones", "(I)I"⟩
abbrev cX10_fitsBut : ByteArray := prog_12_method_54_code
def yX10_fitsBut : MethodName := ⟨RX10, "fitsBut", "(I)Z"⟩
abbrev cX10_slips : ByteArray := prog_12_method_55_code
def yX10_slips : MethodName := ⟨RX10, "slips", "()I"⟩
abbrev cX10_state : ByteArray := prog_12_method_56_code
def yX10_state : MethodName := ⟨RX10, "state", "(I)I"⟩
abbrev cX10_doing : ByteArray := prog_12_method_57_code
def yX10_doing : MethodName := ⟨RX10, "doing", "(I)I"⟩
abbrev cX10_back : ByteArray := prog_12_method_58_code
def yX10_back : MethodName := ⟨RX10, "back", "()I"⟩
abbrev cX10_end : ByteArray := prog_12_method_59_code
def yX10_end : MethodName := ⟨RX10, "end", "(II)I"⟩
abbrev cX10_otherwise : ByteArray := prog_12_method_60_code
def yX10_otherwise : MethodName := ⟨RX10, "otherwise", "()I"⟩
abbrev cX10_addKept : ByteArray := prog_12_method_61_code
def yX10_addKept : MethodName := ⟨RX10, "addKept", "([I)I"⟩
abbrev cX10_keep : ByteArray := prog_12_method_62_code
def yX10_keep : MethodName := ⟨RX10, "keep", "()I"⟩
abbrev cX10_next : ByteArray := prog_12_method_63_code
def yX10_next : MethodName := ⟨RX10, "next", "()I"⟩
abbrev cX10_oneOf : ByteArray := prog_12_method_64_code
def yX10_oneOf : MethodName := ⟨RX10, "oneOf", "(JI)I"⟩
abbrev cX10_readPlace : ByteArray := prog_12_method_65_code
def yX10_readPlace : MethodName := ⟨RX10, "readPlace", "()I"⟩
abbrev cX10_readTyped : ByteArray := prog_12_method_66_code
def yX10_readTyped : MethodName := ⟨RX10, "readTyped", "()I"⟩
abbrev cX10_readCut : ByteArray := prog_12_method_67_code
def yX10_readCut : MethodName := ⟨RX10, "readCut", "()I"⟩
abbrev cX10_readProgram : ByteArray := prog_12_method_68_code
def yX10_readProgram : MethodName := ⟨RX10, "readProgram", "()Z"⟩
abbrev cX10_text : ByteArray := prog_12_method_69_code
def yX10_text : MethodName := ⟨RX10, "text", "()I"⟩
abbrev cX10_isKept : ByteArray := prog_12_method_70_code
def yX10_isKept : MethodName := ⟨RX10, "isKept", "(I)Z"⟩
abbrev cX10_kept : ByteArray := prog_12_method_71_code
def yX10_kept : MethodName := ⟨RX10, "kept", "(II)I"⟩
abbrev cX10_run : ByteArray := prog_12_method_72_code
def yX10_run : MethodName := ⟨RX10, "run", "(III)I"⟩
abbrev cX10_count : ByteArray := prog_12_method_73_code
def yX10_count : MethodName := ⟨RX10, "count", "(I)I"⟩
abbrev cX10_isSheet : ByteArray := prog_12_method_74_code
def yX10_isSheet : MethodName := ⟨RX10, "isSheet", "(II)Z"⟩
abbrev cX10_sheet : ByteArray := prog_12_method_75_code
def yX10_sheet : MethodName := ⟨RX10, "sheet", "(III)I"⟩
abbrev cX10_drop : ByteArray := prog_12_method_76_code
def yX10_drop : MethodName := ⟨RX10, "drop", "(I)I"⟩
abbrev cX10_lacksRow : ByteArray := prog_12_method_77_code
def yX10_lacksRow : MethodName := ⟨RX10, "lacksRow", "(II)I"⟩
abbrev cX10_item : ByteArray := prog_12_method_78_code
def yX10_item : MethodName := ⟨RX10, "item", "(IIII)I"⟩
abbrev cX10_line : ByteArray := prog_12_method_79_code
def yX10_line : MethodName := ⟨RX10, "line", "(IIII)I"⟩
abbrev cX10_put : ByteArray := prog_12_method_80_code
def yX10_put : MethodName := ⟨RX10, "put", "(IIIII)I"⟩
def RJ11 : String := "java/lang/Character"
def TJ11 : u_T := fun k => match k with
  | _ => ("", "", "", false)
def tyJ11 : Nat → FieldType := fun k => match k with
  | _ => .int
abbrev wsJ110 : List Cond := u_ws RJ11 TJ11 0
theorem nmJ11 : ∀ a, a < 0 → ∀ b, b < 0 → a ≠ b → (TJ11 a).2.1 ≠ (TJ11 b).2.1 := by decide +kernel
theorem tyJ11_ok : ∀ k, k < 0 → parseFieldDescriptor (TJ11 k).2.2.1 = some (tyJ11 k) := by decide +kernel
abbrev cJ11_isValidCodePoint_9a6ad : ByteArray := prog_13_method_11_code
def yJ11_isValidCodePoint_9a6ad : MethodName := ⟨RJ11, "isValidCodePoint", "(I)Z"⟩
abbrev cJ11_highSurrogate_5068e : ByteArray := prog_13_method_28_code
def yJ11_highSurrogate_5068e : MethodName := ⟨RJ11, "highSurrogate", "(I)C"⟩
abbrev cJ11_lowSurrogate_5068e : ByteArray := prog_13_method_29_code
def yJ11_lowSurrogate_5068e : MethodName := ⟨RJ11, "lowSurrogate", "(I)C"⟩
def RJ6 : String := "java/lang/Integer"
def TJ6 : u_T := fun k => match k with
  | _ => ("", "", "", false)
def tyJ6 : Nat → FieldType := fun k => match k with
  | _ => .int
abbrev wsJ60 : List Cond := u_ws RJ6 TJ6 0
theorem nmJ6 : ∀ a, a < 0 → ∀ b, b < 0 → a ≠ b → (TJ6 a).2.1 ≠ (TJ6 b).2.1 := by decide +kernel
theorem tyJ6_ok : ∀ k, k < 0 → parseFieldDescriptor (TJ6 k).2.2.1 = some (tyJ6 k) := by decide +kernel
abbrev cJ6_bitCount_0f7a4 : ByteArray := prog_14_method_49_code
def yJ6_bitCount_0f7a4 : MethodName := ⟨RJ6, "bitCount", "(I)I"⟩
def RJ9 : String := "java/lang/Math"
def TJ9 : u_T := fun k => match k with
  | _ => ("", "", "", false)
def tyJ9 : Nat → FieldType := fun k => match k with
  | _ => .int
abbrev wsJ90 : List Cond := u_ws RJ9 TJ9 0
theorem nmJ9 : ∀ a, a < 0 → ∀ b, b < 0 → a ≠ b → (TJ9 a).2.1 ≠ (TJ9 b).2.1 := by decide +kernel
theorem tyJ9_ok : ∀ k, k < 0 → parseFieldDescriptor (TJ9 k).2.2.1 = some (tyJ9 k) := by decide +kernel
abbrev cJ9_max_7cf53 : ByteArray := prog_15_method_65_code
def yJ9_max_7cf53 : MethodName := ⟨RJ9, "max", "(II)I"⟩
abbrev cJ9_min_7cf53 : ByteArray := prog_15_method_69_code
def yJ9_min_7cf53 : MethodName := ⟨RJ9, "min", "(II)I"⟩
def RJ0 : String := "java/lang/String"
def TJ0 : u_T := fun k => match k with
  | _ => ("", "", "", false)
def tyJ0 : Nat → FieldType := fun k => match k with
  | _ => .int
abbrev wsJ00 : List Cond := u_ws RJ0 TJ0 0
theorem nmJ0 : ∀ a, a < 0 → ∀ b, b < 0 → a ≠ b → (TJ0 a).2.1 ≠ (TJ0 b).2.1 := by decide +kernel
theorem tyJ0_ok : ∀ k, k < 0 → parseFieldDescriptor (TJ0 k).2.2.1 = some (tyJ0 k) := by decide +kernel
abbrev cJ0_length_8abf5 : ByteArray := prog_16_method_54_code
def yJ0_length_8abf5 : MethodName := ⟨RJ0, "length", "()I"⟩
abbrev cJ0_indexOf_0f7a4 : ByteArray := prog_16_method_79_code
def yJ0_indexOf_0f7a4 : MethodName := ⟨RJ0, "indexOf", "(I)I"⟩
abbrev cJ0_indexOf_7cf53 : ByteArray := prog_16_method_80_code
def yJ0_indexOf_7cf53 : MethodName := ⟨RJ0, "indexOf", "(II)I"⟩
abbrev cJ0_coder_7d493 : ByteArray := prog_16_method_152_code
def yJ0_coder_7d493 : MethodName := ⟨RJ0, "coder", "()B"⟩
abbrev cJ0_isLatin1_aae02 : ByteArray := prog_16_method_154_code
def yJ0_isLatin1_aae02 : MethodName := ⟨RJ0, "isLatin1", "()Z"⟩
abbrev cJ0_checkBoundsBeginEnd_23922 : ByteArray := prog_16_method_158_code
def yJ0_checkBoundsBeginEnd_23922 : MethodName := ⟨RJ0, "checkBoundsBeginEnd", "(III)V"⟩
def RJ1 : String := "java/lang/StringLatin1"
def TJ1 : u_T := fun k => match k with
  | _ => ("", "", "", false)
def tyJ1 : Nat → FieldType := fun k => match k with
  | _ => .int
abbrev wsJ10 : List Cond := u_ws RJ1 TJ1 0
theorem nmJ1 : ∀ a, a < 0 → ∀ b, b < 0 → a ≠ b → (TJ1 a).2.1 ≠ (TJ1 b).2.1 := by decide +kernel
theorem tyJ1_ok : ∀ k, k < 0 → parseFieldDescriptor (TJ1 k).2.2.1 = some (tyJ1 k) := by decide +kernel
abbrev cJ1_canEncode_9a6ad : ByteArray := prog_17_method_4_code
def yJ1_canEncode_9a6ad : MethodName := ⟨RJ1, "canEncode", "(I)Z"⟩
abbrev cJ1_indexOf_4cfef : ByteArray := prog_17_method_22_code
def yJ1_indexOf_4cfef : MethodName := ⟨RJ1, "indexOf", "([BIII)I"⟩
abbrev cJ1_indexOfChar_4cfef : ByteArray := prog_17_method_23_code
def yJ1_indexOfChar_4cfef : MethodName := ⟨RJ1, "indexOfChar", "([BIII)I"⟩
def RJ2 : String := "java/lang/StringUTF16"
def TJ2 : u_T := fun k => match k with
  | _ => ("", "", "", false)
def tyJ2 : Nat → FieldType := fun k => match k with
  | _ => .int
abbrev wsJ20 : List Cond := u_ws RJ2 TJ2 0
theorem nmJ2 : ∀ a, a < 0 → ∀ b, b < 0 → a ≠ b → (TJ2 a).2.1 ≠ (TJ2 b).2.1 := by decide +kernel
theorem tyJ2_ok : ∀ k, k < 0 → parseFieldDescriptor (TJ2 k).2.2.1 = some (tyJ2 k) := by decide +kernel
abbrev cJ2_getChar_3b067 : ByteArray := prog_18_method_5_code
def yJ2_getChar_3b067 : MethodName := ⟨RJ2, "getChar", "([BI)C"⟩
abbrev cJ2_length_9d52b : ByteArray := prog_18_method_6_code
def yJ2_length_9d52b : MethodName := ⟨RJ2, "length", "([B)I"⟩
abbrev cJ2_indexOf_4cfef : ByteArray := prog_18_method_40_code
def yJ2_indexOf_4cfef : MethodName := ⟨RJ2, "indexOf", "([BIII)I"⟩
abbrev cJ2_indexOfChar_4cfef : ByteArray := prog_18_method_47_code
def yJ2_indexOfChar_4cfef : MethodName := ⟨RJ2, "indexOfChar", "([BIII)I"⟩
abbrev cJ2_indexOfCharUnsafe_4cfef : ByteArray := prog_18_method_48_code
def yJ2_indexOfCharUnsafe_4cfef : MethodName := ⟨RJ2, "indexOfCharUnsafe", "([BIII)I"⟩
abbrev cJ2_indexOfSupplementary_4cfef : ByteArray := prog_18_method_49_code
def yJ2_indexOfSupplementary_4cfef : MethodName := ⟨RJ2, "indexOfSupplementary", "([BIII)I"⟩
abbrev cJ2_checkBoundsBeginEnd_d044e : ByteArray := prog_18_method_93_code
def yJ2_checkBoundsBeginEnd_d044e : MethodName := ⟨RJ2, "checkBoundsBeginEnd", "(II[B)V"⟩
def RJ7 : String := "java/util/Arrays"
def TJ7 : u_T := fun k => match k with
  | _ => ("", "", "", false)
def tyJ7 : Nat → FieldType := fun k => match k with
  | _ => .int
abbrev wsJ70 : List Cond := u_ws RJ7 TJ7 0
theorem nmJ7 : ∀ a, a < 0 → ∀ b, b < 0 → a ≠ b → (TJ7 a).2.1 ≠ (TJ7 b).2.1 := by decide +kernel
theorem tyJ7_ok : ∀ k, k < 0 → parseFieldDescriptor (TJ7 k).2.2.1 = some (tyJ7 k) := by decide +kernel
abbrev cJ7_fill_53178 : ByteArray := prog_19_method_103_code
def yJ7_fill_53178 : MethodName := ⟨RJ7, "fill", "([II)V"⟩
abbrev cJ7_fill_031fb : ByteArray := prog_19_method_109_code
def yJ7_fill_031fb : MethodName := ⟨RJ7, "fill", "([BB)V"⟩
def RJ3 : String := "jdk/internal/util/Preconditions"
def TJ3 : u_T := fun k => match k with
  | _ => ("", "", "", false)
def tyJ3 : Nat → FieldType := fun k => match k with
  | _ => .int
abbrev wsJ30 : List Cond := u_ws RJ3 TJ3 0
theorem nmJ3 : ∀ a, a < 0 → ∀ b, b < 0 → a ≠ b → (TJ3 a).2.1 ≠ (TJ3 b).2.1 := by decide +kernel
theorem tyJ3_ok : ∀ k, k < 0 → parseFieldDescriptor (TJ3 k).2.2.1 = some (tyJ3 k) := by decide +kernel
abbrev cJ3_checkFromToIndex_8c36e : ByteArray := prog_20_method_12_code
def yJ3_checkFromToIndex_8c36e : MethodName := ⟨RJ3, "checkFromToIndex", "(IIILjava/util/function/BiFunction;)I"⟩
def RL : String := "ShownOnceLaw"
abbrev cL_law : ByteArray := code
def yL_law : MethodName := ⟨RL, "law", "([I)Z"⟩
abbrev vwCl : List vw_C := [(RX0, TX0, 17), (RX2, TX2, 9), (RX3, TX3, 2), (RX4, TX4, 2), (RX5, TX5, 3), (RX6, TX6, 3), (RX7, TX7, 3), (RX8, TX8, 5), (RX9, TX9, 14), (RX10, TX10, 34)]
end
section
/-! G: one judgement for all methods. A frame and a memory of numbered cells; 'from here the method comes to its end with an answer and a memory of which Q holds'. -/
def gTs : List Cond := lw_tbl.filter goodWord
theorem gTs_good : ∀ w ∈ gTs, goodWord w = true := fun _ h => (List.mem_filter.mp h).2
/-- values: an int; a long; the cell k of ours; outside: 0 null, 1 the script, 2 + 2i the text i, 3 + 2i its bytes -/
abbrev AV : Type := Int32 ⊕ Int64 ⊕ Nat ⊕ Nat
abbrev aI (x : Int32) : AV := Sum.inl x
abbrev aL (x : Int64) : AV := Sum.inr (Sum.inl x)
abbrev aR (k : Nat) : AV := Sum.inr (Sum.inr (Sum.inl k))
abbrev aE (k : Nat) : AV := Sum.inr (Sum.inr (Sum.inr k))
/-- a cell: a row of ints (its kind, its length, what it holds); a row of references; an object (its class, its fields) -/
abbrev Cel : Type := (Nat × Nat × (Nat → Int32)) ⊕ (Nat × Nat × (Nat → Option Nat)) ⊕ (Nat × (Nat → AV))
/-- the cells; how many; how many slots; how many cells and slots there may be at the method's end -/
abbrev HM : Type := (Nat → Cel) × Nat × Nat × Nat × Nat
/-- where the cells begin; the classes' numbers and slots; the rows' classes; the outside's addresses -/
abbrev Cf : Type := Nat × va_G × (Nat → ClassId) × (Nat → Nat)
/-- the script: how long, what it holds -/
abbrev SC : Type := Nat × (Nat → Int32)
/-- a method: name, code, locals, what it returns, frames and locals' words below it -/
abbrev MI : Type := MethodName × ByteArray × Nat × Option FieldType × Nat × Nat
def cvv (f : Cf) (v : AV) : Value := match v with
  | .inl x => .int x
  | .inr (.inl x) => .long x
  | .inr (.inr (.inl k)) => .ref (f.1 + k)
  | .inr (.inr (.inr 0)) => .null
  | .inr (.inr (.inr (k + 1))) => .ref (f.2.2.2 k)
def gN (ci : Nat) : Nat := match vwCl[ci]? with
  | some q => q.2.2
  | none => 0
def gTy (f : Cf) : List (ClassId × FieldType) := [(f.2.2.1 0, .int), (f.2.2.1 1, .byte), (f.2.2.1 2, .short), (f.2.2.1 3, .object RX8), (f.2.2.1 4, .object RX3), (f.2.2.1 5, .object RX4), (f.2.2.1 6, .object RX5)]
def gAt (f : Cf) (a : Nat) (c : Cel) (H : Heap) : Prop := match c with
  | .inl (t, n, g) => H[a]? = some (vp_cell (f.2.2.1 t) (n, .inl g))
  | .inr (.inl (t, n, g)) => H[a]? = some (vp_cell (f.2.2.1 t) (n, .inr (.inr (.inr (.inr (fun i => (g i).map (fun k => f.1 + k)))))))
  | .inr (.inr (ci, F)) => t_OB a (f.2.1.1 ci) (gN ci) (f.2.1.2 ci) H (fun j => cvv f (F j))
def gMem (f : Cf) (M : HM) (H : Heap) : Prop := H.size = f.1 + M.2.1 ∧ ∀ k, k < M.2.1 → gAt f (f.1 + k) (M.1 k) H
def gNest : List (String × Nat × MethodName × String) := [(RX0, 49, yX2_init, RX9), (RX0, 75, yX3_init, RX9), (RX9, 70, yX7_init, RX9), (RX7, 11, yX3_init, RX9), (RX9, 81, yX8_init, RX9), (RX9, 82, yX3_init, RX9), (RX9, 83, yX5_init, RX9)]
abbrev gA (f : Cf) : Nat → Prop := fun q => f.1 ≤ q
/-- what holds outside of our cells, and of the classes, all the time -/
def gWd (f : Cf) (sc : SC) (s : State) : Prop :=
  va_K f.2.1 vwCl (gTy f) s ∧ (va_X (f.2.2.2 0) sc.1 sc.2 s s.heap ∧ f.2.2.2 0 < f.1) ∧ (∀ q ∈ gNest, va_Nw (.methodLinkNest q.1 q.2.1 q.2.2.1 q.2.2.2) s) ∧
  vk_S 2 [4, 3] [[100, 119, 99, 115], [49, 50, 122]] (fun i => f.2.2.2 (1 + 2 * i)) (fun i => f.2.2.2 (2 + 2 * i)) (gA f) s s.heap ∧ vk_R RX7 85 "dwcs" (f.2.2.2 1) s ∧ vk_R RX7 92 "12z" (f.2.2.2 3) s ∧ va_Z "java/lang/String" "COMPACT_STRINGS" "Z" (.int 1) (gA f) s s.heap ∧ (va_AO RX8 s ∧ va_AO RX3 s ∧ va_AO RX4 s ∧ va_AO RX5 s)
def lpr (f : Cf) : Nat → List (Option AV) → List (Nat × Value)
  | _, [] => []
  | i, none :: r => lpr f (i + 1) r
  | i, some v :: r => (i, cvv f v) :: lpr f (i + 1) r
def gCtx (y : MI) (p : Program) (s : State) (m : MethodId) (args : Array Value) (meth : Method) (c : Code) : Prop :=
  p.tables.exec = Jvm.exec ∧ c.code = y.2.1 ∧ c.maxLocals = y.2.2.1 ∧ s.vm.findClass y.1.cls = some m.cls ∧ (∀ w ∈ gTs, w.before args s = true) ∧ meth.sig.returnType = y.2.2.2.1 ∧ meth.locks = false ∧ meth.name = y.1.name
def gRm (y : MI) (mc ms : Nat) : Room := { frames := y.2.2.2.2.1, cells := mc, slots := ms, locals := y.2.2.2.2.2 }
def gQc (f : Cf) (Q : Option AV → HM → Prop) : Array Value → State → Outcome → State → Prop := fun _ st o t => (∃ (r : Option AV) (M : HM), o = .returned (r.map (cvv f)) ∧ Q r M ∧ gMem f M t.heap) ∧ va_F (gA f) st t
def G (sc : SC) (y : MI) (pc : Nat) (L : List (Option AV)) (st : List AV) (M : HM) (Q : Option AV → HM → Prop) : Prop :=
  ∀ (f : Cf) (l : Launch) (p : Program) (e : Env) (s : State) (m : MethodId) (args : Array Value) (below : List Frame) (meth : Method) (c : Code) (H : Heap) (locs : List Loc) (cells slots mc ms : Nat) (ls : Array Slot),
    gCtx y p s m args meth c → gWd f sc s → gMem f M H → va_S (gA f) s.heap H locs → lv_has ls y.2.2.1 (lpr f 0 L) → f.1 ≤ s.heap.size → cells + M.2.2.2.1 = mc + M.2.1 → slots + M.2.2.2.2 = ms + M.2.2.1 →
    W p l e (gRm y mc ms) s m args below meth c H locs cells slots (MQ below (gQc f Q) args s mc ms (gA f)) (F0 m pc ls (st.map (cvv f)))
def gW (z : MI) : List Cond := Cond.code z.1 z.2.1 z.2.2.1 z.2.2.2.1 :: gTs
def gPc (f : Cf) (sc : SC) (av : List AV) (M : HM) : Array Value → State → Prop := fun v U => v = (av.map (cvv f)).toArray ∧ gMem f M U.heap ∧ gWd f sc U
/-- the contract of a method at these arguments and this memory -/
def CT (sc : SC) (z : MI) (av : List AV) (M : HM) (Q : Option AV → HM → Prop) : Prop :=
  ∀ (f : Cf) (l : Launch), Met l z.1 (gW z) (gRm z (M.2.2.2.1 - M.2.1) (M.2.2.2.2 - M.2.2.1)) (gPc f sc av M) (gQc f Q) (M.2.2.2.1 - M.2.1) (M.2.2.2.2 - M.2.2.1) (gA f)
theorem gWd_moved {f : Cf} {sc : SC} {s U : State} {H : Heap} {locs : List Loc} (h : gWd f sc s) (hS : va_S (gA f) s.heap H locs) (hB : f.1 ≤ s.heap.size) (hU : U.heap = H) (hW : s.WarmedH U.vm) : gWd f sc U := by
  obtain ⟨h1, ⟨h2, h2'⟩, h3, h4, h5, h6, h7, h8⟩ := h
  have hA : ¬ gA f (f.2.2.2 0) := by show ¬ f.1 ≤ _; omega
  refine ⟨va_K.moved hW.alike h1, ⟨?_, h2'⟩, fun q hq => va_Nw.warmM hW (h3 q hq), ?_, vk_R.warm hW h5, vk_R.warm hW h6, ?_, h8.1.moved hW.alike, h8.2.1.moved hW.alike, h8.2.2.1.moved hW.alike, h8.2.2.2.moved hW.alike⟩
  · rw [hU]
    exact (h2.kept (hS.2.1 _ (by omega) hA)).moved hW.alike
  · rw [hU]
    exact (h4.kept hS.2.1).moved hW.alike
  · rw [hU]
    exact (h7.kept hS.2.1).moved hW.alike
theorem gWd_calling {f : Cf} {sc : SC} {U : State} {g : JFrame} {mk : MethodId} {a : Array Value} (h : gWd f sc U) : gWd f sc (U.calling g mk a) := by
  obtain ⟨h1, ⟨h2, h2'⟩, h3, h4, h5, h6, h7, h8⟩ := h
  have hv : U.vm.Alike (U.calling g mk a).vm := Vm.Alike.refl U.vm
  exact ⟨va_K.moved hv h1, ⟨va_X.moved hv h2, h2'⟩, fun q hq => va_Nw.same rfl rfl (h3 q hq), h4.moved hv, vk_R.same rfl h5, vk_R.same rfl h6, h7.moved hv, h8.1.moved hv, h8.2.1.moved hv, h8.2.2.1.moved hv, h8.2.2.2.moved hv⟩
theorem gPc_blind (f : Cf) (sc : SC) (av : List AV) (M : HM) : FrameBlind (gPc f sc av M) := fun _ _ _ _ h => ⟨h.1, h.2.1, gWd_calling h.2.2⟩
theorem lpr_mem {f : Cf} : ∀ (L : List (Option AV)) (j i : Nat) (v : AV), L[i]? = some (some v) → (j + i, cvv f v) ∈ lpr f j L
  | [], _, _, _, h => by simp at h
  | none :: r, j, 0, v, h => by simp at h
  | none :: r, j, i + 1, v, h => by
    have := lpr_mem (f := f) r (j + 1) i v (by simpa using h)
    rw [show j + 1 + i = j + (i + 1) by omega] at this
    exact this
  | some w :: r, j, 0, v, h => by
    simp at h
    subst h
    exact List.mem_cons_self
  | some w :: r, j, i + 1, v, h => by
    have := lpr_mem (f := f) r (j + 1) i v (by simpa using h)
    rw [show j + 1 + i = j + (i + 1) by omega] at this
    exact List.mem_cons_of_mem _ this
theorem lpr_at {f : Cf} : ∀ (L : List (Option AV)) (j : Nat) (q : Nat × Value), q ∈ lpr f j L → ∃ (i : Nat) (v : AV), q = (j + i, cvv f v) ∧ L[i]? = some (some v)
  | [], _, _, h => by cases h
  | none :: r, j, q, h => by
    obtain ⟨i, v, h1, h2⟩ := lpr_at r (j + 1) q h
    exact ⟨i + 1, v, by rw [h1]; congr 1; omega, by simpa using h2⟩
  | some w :: r, j, q, h => by
    rcases List.mem_cons.mp h with h | h
    · exact ⟨0, w, h, rfl⟩
    · obtain ⟨i, v, h1, h2⟩ := lpr_at r (j + 1) q h
      exact ⟨i + 1, v, by rw [h1]; congr 1; omega, by simpa using h2⟩
theorem g_lv {f : Cf} {ls : Array Slot} {n : Nat} {L : List (Option AV)} {i : Nat} {v : AV} (hl : lv_has ls n (lpr f 0 L)) (h : L[i]? = some (some v)) : ls[i]? = some (.val (cvv f v)) := by
  have := hl.2.2 _ (lpr_mem (f := f) L 0 i v h)
  simpa using this
/-- no long stands just ahead -/
def gOk (L : List (Option AV)) (i : Nat) : Bool := match i with
  | 0 => true
  | j + 1 => match L[j]? with
    | some (some (.inr (.inl _))) => false
    | _ => true
theorem cvv_cat2 {f : Cf} {v : AV} (h : (cvv f v).category = 2) : ∃ x, v = aL x := by
  rcases v with x | x | k | k
  · simp [cvv, Value.category] at h
  · exact ⟨x, rfl⟩
  · simp [cvv, Value.category] at h
  · cases k <;> simp [cvv, Value.category] at h
theorem g_st1 {f : Cf} {ls : Array Slot} {n : Nat} {L : List (Option AV)} {i : Nat} {v : AV} (hok : gOk L i = true) (h : lv_has ls n ((i, cvv f v) :: (lpr f 0 L).filter (fun q => !(q.1 == i) && !(q.1 + 1 == i && q.2.category == 2)))) : lv_has ls n (lpr f 0 (L.set i (some v))) := by
  refine ⟨h.1, h.2.1, fun q hq => ?_⟩
  obtain ⟨j, w, rfl, hj⟩ := lpr_at _ _ _ hq
  rw [List.getElem?_set] at hj
  by_cases hij : i = j
  · subst hij
    rw [if_pos rfl] at hj
    split at hj
    · cases hj
      exact h.2.2 _ (by simp)
    · cases hj
  · rw [if_neg hij] at hj
    refine h.2.2 _ (List.mem_cons_of_mem _ (List.mem_filter.mpr ⟨lpr_mem L 0 j w hj, ?_⟩))
    have h1 : ¬ (0 + j = i) := by omega
    simp only [Bool.and_eq_true, Bool.not_eq_true', beq_eq_false_iff_ne, ne_eq, Bool.and_eq_false_iff]
    refine ⟨h1, ?_⟩
    by_cases h2 : 0 + j + 1 = i
    · refine Or.inr fun h3 => ?_
      obtain ⟨x, rfl⟩ := cvv_cat2 h3
      have : i = j + 1 := by omega
      subst this
      simp [gOk, hj] at hok
    · exact Or.inl h2
theorem g_st2 {f : Cf} {ls : Array Slot} {n : Nat} {L : List (Option AV)} {i : Nat} {v : AV} (hok : gOk L i = true) (h : lv_has ls n ((i, cvv f v) :: (lpr f 0 L).filter (fun q => !(q.1 == i) && (!(q.1 == i + 1) && !(q.1 + 1 == i && q.2.category == 2))))) : lv_has ls n (lpr f 0 ((L.set i (some v)).set (i + 1) none)) := by
  refine ⟨h.1, h.2.1, fun q hq => ?_⟩
  obtain ⟨j, w, rfl, hj⟩ := lpr_at _ _ _ hq
  rw [List.getElem?_set] at hj
  by_cases hi1 : i + 1 = j
  · rw [if_pos hi1] at hj
    split at hj <;> cases hj
  · rw [if_neg hi1, List.getElem?_set] at hj
    by_cases hij : i = j
    · subst hij
      rw [if_pos rfl] at hj
      split at hj
      · cases hj
        exact h.2.2 _ (by simp)
      · cases hj
    · rw [if_neg hij] at hj
      refine h.2.2 _ (List.mem_cons_of_mem _ (List.mem_filter.mpr ⟨lpr_mem L 0 j w hj, ?_⟩))
      have h1 : ¬ (0 + j = i) := by omega
      have h1' : ¬ (0 + j = i + 1) := by omega
      simp only [Bool.and_eq_true, Bool.not_eq_true', beq_eq_false_iff_ne, ne_eq, Bool.and_eq_false_iff]
      refine ⟨h1, h1', ?_⟩
      by_cases h2 : 0 + j + 1 = i
      · refine Or.inr fun h3 => ?_
        obtain ⟨x, rfl⟩ := cvv_cat2 h3
        have : i = j + 1 := by omega
        subst this
        simp [gOk, hj] at hok
      · exact Or.inl h2
end
section
section GR
variable {sc : SC} {y : MI} {pc : Nat} {L : List (Option AV)} {st : List AV} {M : HM} {Q : Option AV → HM → Prop}
theorem G_iconst {n : Int} {v : Int32} (hd : decode y.2.1 pc = .ok (.iconst n, 1)) (hv : Int32.ofInt n = v) (k : G sc y (pc + 1) L (aI v :: st) M Q) : G sc y pc L (st) M Q := by
  intro f l p e s m args below meth c H locs cells slots mc ms ls C Wd hM hS hl hB h1 h2
  exact lv_iconst C.1 C.2.1 hd hv (k f l p e s m args below meth c H locs cells slots mc ms ls C Wd hM hS hl hB h1 h2)
theorem G_bipush {n : Int} {v : Int32} (hd : decode y.2.1 pc = .ok (.bipush n, 2)) (hv : (Int8.ofInt n).toInt32 = v) (k : G sc y (pc + 2) L (aI v :: st) M Q) : G sc y pc L (st) M Q := by
  intro f l p e s m args below meth c H locs cells slots mc ms ls C Wd hM hS hl hB h1 h2
  exact lv_bipush C.1 C.2.1 hd hv (k f l p e s m args below meth c H locs cells slots mc ms ls C Wd hM hS hl hB h1 h2)
theorem G_sipush {n : Int} {v : Int32} (hd : decode y.2.1 pc = .ok (.sipush n, 3)) (hv : (Int16.ofInt n).toInt32 = v) (k : G sc y (pc + 3) L (aI v :: st) M Q) : G sc y pc L (st) M Q := by
  intro f l p e s m args below meth c H locs cells slots mc ms ls C Wd hM hS hl hB h1 h2
  exact lv_sipush C.1 C.2.1 hd hv (k f l p e s m args below meth c H locs cells slots mc ms ls C Wd hM hS hl hB h1 h2)
theorem G_lconst {n : Fin 2} {v : Int64} (hd : decode y.2.1 pc = .ok (.lconst n, 1)) (hv : Int64.ofNat (n : Nat) = v) (k : G sc y (pc + 1) L (aL v :: st) M Q) : G sc y pc L (st) M Q := by
  intro f l p e s m args below meth c H locs cells slots mc ms ls C Wd hM hS hl hB h1 h2
  exact lv_lconst C.1 C.2.1 hd hv (k f l p e s m args below meth c H locs cells slots mc ms ls C Wd hM hS hl hB h1 h2)
theorem G_iadd {x z : Int32} (hd : decode y.2.1 pc = .ok (.iadd, 1)) (k : G sc y (pc + 1) L (aI (x + z) :: st) M Q) : G sc y pc L (aI z :: aI x :: st) M Q := by
  intro f l p e s m args below meth c H locs cells slots mc ms ls C Wd hM hS hl hB h1 h2
  exact lv_iadd C.1 C.2.1 hd (k f l p e s m args below meth c H locs cells slots mc ms ls C Wd hM hS hl hB h1 h2)
theorem G_isub {x z : Int32} (hd : decode y.2.1 pc = .ok (.isub, 1)) (k : G sc y (pc + 1) L (aI (x - z) :: st) M Q) : G sc y pc L (aI z :: aI x :: st) M Q := by
  intro f l p e s m args below meth c H locs cells slots mc ms ls C Wd hM hS hl hB h1 h2
  exact lv_isub C.1 C.2.1 hd (k f l p e s m args below meth c H locs cells slots mc ms ls C Wd hM hS hl hB h1 h2)
theorem G_imul {x z : Int32} (hd : decode y.2.1 pc = .ok (.imul, 1)) (k : G sc y (pc + 1) L (aI (x * z) :: st) M Q) : G sc y pc L (aI z :: aI x :: st) M Q := by
  intro f l p e s m args below meth c H locs cells slots mc ms ls C Wd hM hS hl hB h1 h2
  exact lv_imul C.1 C.2.1 hd (k f l p e s m args below meth c H locs cells slots mc ms ls C Wd hM hS hl hB h1 h2)
theorem G_iand {x z : Int32} (hd : decode y.2.1 pc = .ok (.iand, 1)) (k : G sc y (pc + 1) L (aI (x &&& z) :: st) M Q) : G sc y pc L (aI z :: aI x :: st) M Q := by
  intro f l p e s m args below meth c H locs cells slots mc ms ls C Wd hM hS hl hB h1 h2
  exact lv_iand C.1 C.2.1 hd (k f l p e s m args below meth c H locs cells slots mc ms ls C Wd hM hS hl hB h1 h2)
theorem G_ior {x z : Int32} (hd : decode y.2.1 pc = .ok (.ior, 1)) (k : G sc y (pc + 1) L (aI (x ||| z) :: st) M Q) : G sc y pc L (aI z :: aI x :: st) M Q := by
  intro f l p e s m args below meth c H locs cells slots mc ms ls C Wd hM hS hl hB h1 h2
  exact lv_ior C.1 C.2.1 hd (k f l p e s m args below meth c H locs cells slots mc ms ls C Wd hM hS hl hB h1 h2)
theorem G_ixor {x z : Int32} (hd : decode y.2.1 pc = .ok (.ixor, 1)) (k : G sc y (pc + 1) L (aI (x ^^^ z) :: st) M Q) : G sc y pc L (aI z :: aI x :: st) M Q := by
  intro f l p e s m args below meth c H locs cells slots mc ms ls C Wd hM hS hl hB h1 h2
  exact lv_ixor C.1 C.2.1 hd (k f l p e s m args below meth c H locs cells slots mc ms ls C Wd hM hS hl hB h1 h2)
theorem G_ishl {x z : Int32} (hd : decode y.2.1 pc = .ok (.ishl, 1)) (k : G sc y (pc + 1) L (aI (x <<< (z &&& 31)) :: st) M Q) : G sc y pc L (aI z :: aI x :: st) M Q := by
  intro f l p e s m args below meth c H locs cells slots mc ms ls C Wd hM hS hl hB h1 h2
  exact lv_ishl C.1 C.2.1 hd (k f l p e s m args below meth c H locs cells slots mc ms ls C Wd hM hS hl hB h1 h2)
theorem G_ishr {x z : Int32} (hd : decode y.2.1 pc = .ok (.ishr, 1)) (k : G sc y (pc + 1) L (aI (x >>> (z &&& 31)) :: st) M Q) : G sc y pc L (aI z :: aI x :: st) M Q := by
  intro f l p e s m args below meth c H locs cells slots mc ms ls C Wd hM hS hl hB h1 h2
  exact lv_ishr C.1 C.2.1 hd (k f l p e s m args below meth c H locs cells slots mc ms ls C Wd hM hS hl hB h1 h2)
theorem G_idiv {x z : Int32} (hd : decode y.2.1 pc = .ok (.idiv, 1)) (hne : ¬ z = 0) (k : G sc y (pc + 1) L (aI (x / z) :: st) M Q) : G sc y pc L (aI z :: aI x :: st) M Q := by
  intro f l p e s m args below meth c H locs cells slots mc ms ls C Wd hM hS hl hB h1 h2
  exact lv_idiv C.1 C.2.1 hd hne (k f l p e s m args below meth c H locs cells slots mc ms ls C Wd hM hS hl hB h1 h2)
theorem G_irem {x z : Int32} (hd : decode y.2.1 pc = .ok (.irem, 1)) (hne : ¬ z = 0) (k : G sc y (pc + 1) L (aI (x - x / z * z) :: st) M Q) : G sc y pc L (aI z :: aI x :: st) M Q := by
  intro f l p e s m args below meth c H locs cells slots mc ms ls C Wd hM hS hl hB h1 h2
  exact lv_irem C.1 C.2.1 hd hne (k f l p e s m args below meth c H locs cells slots mc ms ls C Wd hM hS hl hB h1 h2)
theorem G_iushr {x z : Int32} (hd : decode y.2.1 pc = .ok (.iushr, 1)) (k : G sc y (pc + 1) L (aI ((x.toUInt32 >>> (z.toUInt32 &&& Int32.toUInt32 31)).toInt32) :: st) M Q) : G sc y pc L (aI z :: aI x :: st) M Q := by
  intro f l p e s m args below meth c H locs cells slots mc ms ls C Wd hM hS hl hB h1 h2
  exact lv_iushr C.1 C.2.1 hd rfl (k f l p e s m args below meth c H locs cells slots mc ms ls C Wd hM hS hl hB h1 h2)
theorem G_ladd {x z : Int64} (hd : decode y.2.1 pc = .ok (.ladd, 1)) (k : G sc y (pc + 1) L (aL (x + z) :: st) M Q) : G sc y pc L (aL z :: aL x :: st) M Q := by
  intro f l p e s m args below meth c H locs cells slots mc ms ls C Wd hM hS hl hB h1 h2
  exact lv_ladd C.1 C.2.1 hd (k f l p e s m args below meth c H locs cells slots mc ms ls C Wd hM hS hl hB h1 h2)
theorem G_lsub {x z : Int64} (hd : decode y.2.1 pc = .ok (.lsub, 1)) (k : G sc y (pc + 1) L (aL (x - z) :: st) M Q) : G sc y pc L (aL z :: aL x :: st) M Q := by
  intro f l p e s m args below meth c H locs cells slots mc ms ls C Wd hM hS hl hB h1 h2
  exact lv_lsub C.1 C.2.1 hd (k f l p e s m args below meth c H locs cells slots mc ms ls C Wd hM hS hl hB h1 h2)
theorem G_land {x z : Int64} (hd : decode y.2.1 pc = .ok (.land, 1)) (k : G sc y (pc + 1) L (aL (x &&& z) :: st) M Q) : G sc y pc L (aL z :: aL x :: st) M Q := by
  intro f l p e s m args below meth c H locs cells slots mc ms ls C Wd hM hS hl hB h1 h2
  exact lv_land C.1 C.2.1 hd (k f l p e s m args below meth c H locs cells slots mc ms ls C Wd hM hS hl hB h1 h2)
theorem G_lor {x z : Int64} (hd : decode y.2.1 pc = .ok (.lor, 1)) (k : G sc y (pc + 1) L (aL (x ||| z) :: st) M Q) : G sc y pc L (aL z :: aL x :: st) M Q := by
  intro f l p e s m args below meth c H locs cells slots mc ms ls C Wd hM hS hl hB h1 h2
  exact lv_lor C.1 C.2.1 hd (k f l p e s m args below meth c H locs cells slots mc ms ls C Wd hM hS hl hB h1 h2)
theorem G_lushr {x : Int64} {z : Int32} (hd : decode y.2.1 pc = .ok (.lushr, 1)) (k : G sc y (pc + 1) L (aL ((x.toUInt64 >>> (z.toInt64.toUInt64 &&& Int64.toUInt64 63)).toInt64) :: st) M Q) : G sc y pc L (aI z :: aL x :: st) M Q := by
  intro f l p e s m args below meth c H locs cells slots mc ms ls C Wd hM hS hl hB h1 h2
  exact lv_lushr C.1 C.2.1 hd rfl (k f l p e s m args below meth c H locs cells slots mc ms ls C Wd hM hS hl hB h1 h2)
theorem G_lshl {x : Int64} {z : Int32} (hd : decode y.2.1 pc = .ok (.lshl, 1)) (k : G sc y (pc + 1) L (aL (x <<< (z.toInt64 &&& 63)) :: st) M Q) : G sc y pc L (aI z :: aL x :: st) M Q := by
  intro f l p e s m args below meth c H locs cells slots mc ms ls C Wd hM hS hl hB h1 h2
  exact lv_lshl C.1 C.2.1 hd rfl (k f l p e s m args below meth c H locs cells slots mc ms ls C Wd hM hS hl hB h1 h2)
theorem G_lshr {x : Int64} {z : Int32} (hd : decode y.2.1 pc = .ok (.lshr, 1)) (k : G sc y (pc + 1) L (aL (x >>> (z.toInt64 &&& 63)) :: st) M Q) : G sc y pc L (aI z :: aL x :: st) M Q := by
  intro f l p e s m args below meth c H locs cells slots mc ms ls C Wd hM hS hl hB h1 h2
  exact lv_lshr C.1 C.2.1 hd rfl (k f l p e s m args below meth c H locs cells slots mc ms ls C Wd hM hS hl hB h1 h2)
theorem G_i2l {x : Int32} (hd : decode y.2.1 pc = .ok (.i2l, 1)) (k : G sc y (pc + 1) L (aL x.toInt64 :: st) M Q) : G sc y pc L (aI x :: st) M Q := by
  intro f l p e s m args below meth c H locs cells slots mc ms ls C Wd hM hS hl hB h1 h2
  exact lv_i2l C.1 C.2.1 hd rfl (k f l p e s m args below meth c H locs cells slots mc ms ls C Wd hM hS hl hB h1 h2)
theorem G_l2i {x : Int64} (hd : decode y.2.1 pc = .ok (.l2i, 1)) (k : G sc y (pc + 1) L (aI x.toInt32 :: st) M Q) : G sc y pc L (aL x :: st) M Q := by
  intro f l p e s m args below meth c H locs cells slots mc ms ls C Wd hM hS hl hB h1 h2
  exact lv_l2i C.1 C.2.1 hd rfl (k f l p e s m args below meth c H locs cells slots mc ms ls C Wd hM hS hl hB h1 h2)
theorem G_i2b {x : Int32} (hd : decode y.2.1 pc = .ok (.i2b, 1)) (k : G sc y (pc + 1) L (aI x.toInt8.toInt32 :: st) M Q) : G sc y pc L (aI x :: st) M Q := by
  intro f l p e s m args below meth c H locs cells slots mc ms ls C Wd hM hS hl hB h1 h2
  exact lv_i2b C.1 C.2.1 hd rfl (k f l p e s m args below meth c H locs cells slots mc ms ls C Wd hM hS hl hB h1 h2)
theorem G_i2s {x : Int32} (hd : decode y.2.1 pc = .ok (.i2s, 1)) (k : G sc y (pc + 1) L (aI x.toInt16.toInt32 :: st) M Q) : G sc y pc L (aI x :: st) M Q := by
  intro f l p e s m args below meth c H locs cells slots mc ms ls C Wd hM hS hl hB h1 h2
  exact lv_i2s C.1 C.2.1 hd rfl (k f l p e s m args below meth c H locs cells slots mc ms ls C Wd hM hS hl hB h1 h2)
theorem G_i2c {x : Int32} (hd : decode y.2.1 pc = .ok (.i2c, 1)) (k : G sc y (pc + 1) L (aI (x.toUInt32 % 65536).toInt32 :: st) M Q) : G sc y pc L (aI x :: st) M Q := by
  intro f l p e s m args below meth c H locs cells slots mc ms ls C Wd hM hS hl hB h1 h2
  exact lv_i2c C.1 C.2.1 hd rfl (k f l p e s m args below meth c H locs cells slots mc ms ls C Wd hM hS hl hB h1 h2)
theorem G_lcmp {x z : Int64} (hd : decode y.2.1 pc = .ok (.lcmp, 1)) (k : G sc y (pc + 1) L (aI (lg_cmp x z) :: st) M Q) : G sc y pc L (aL z :: aL x :: st) M Q := by
  intro f l p e s m args below meth c H locs cells slots mc ms ls C Wd hM hS hl hB h1 h2
  exact W.lcmp C.1 C.2.1 hd (k f l p e s m args below meth c H locs cells slots mc ms ls C Wd hM hS hl hB h1 h2)
def gC1 (v : AV) : Bool := match v with
  | .inr (.inl _) => false
  | _ => true
theorem gC1_cat {f : Cf} {v : AV} (h : gC1 v = true) : (cvv f v).category = 1 := by
  rcases v with x | x | k | k
  · rfl
  · cases h
  · rfl
  · cases k <;> rfl
theorem G_dup {v : AV} (hd : decode y.2.1 pc = .ok (.dup, 1)) (hv : gC1 v = true) (k : G sc y (pc + 1) L (v :: v :: st) M Q) : G sc y pc L (v :: st) M Q := by
  intro f l p e s m args below meth c H locs cells slots mc ms ls C Wd hM hS hl hB h1 h2
  exact lv_dup C.1 C.2.1 hd (gC1_cat hv) (k f l p e s m args below meth c H locs cells slots mc ms ls C Wd hM hS hl hB h1 h2)
theorem G_pop {v : AV} (hd : decode y.2.1 pc = .ok (.pop, 1)) (hv : gC1 v = true) (k : G sc y (pc + 1) L (st) M Q) : G sc y pc L (v :: st) M Q := by
  intro f l p e s m args below meth c H locs cells slots mc ms ls C Wd hM hS hl hB h1 h2
  exact lv_pop C.1 C.2.1 hd (gC1_cat hv) (k f l p e s m args below meth c H locs cells slots mc ms ls C Wd hM hS hl hB h1 h2)
theorem G_dup2 {v w : AV} (hd : decode y.2.1 pc = .ok (.dup2, 1)) (hv : gC1 v = true) (hw : gC1 w = true) (k : G sc y (pc + 1) L (v :: w :: v :: w :: st) M Q) : G sc y pc L (v :: w :: st) M Q := by
  intro f l p e s m args below meth c H locs cells slots mc ms ls C Wd hM hS hl hB h1 h2
  exact lv_dup2_11 C.1 C.2.1 hd (gC1_cat hv) (gC1_cat hw) (k f l p e s m args below meth c H locs cells slots mc ms ls C Wd hM hS hl hB h1 h2)
theorem G_dup_x1 {v w : AV} (hd : decode y.2.1 pc = .ok (.dup_x1, 1)) (hv : gC1 v = true) (hw : gC1 w = true) (k : G sc y (pc + 1) L (v :: w :: v :: st) M Q) : G sc y pc L (v :: w :: st) M Q := by
  intro f l p e s m args below meth c H locs cells slots mc ms ls C Wd hM hS hl hB h1 h2
  exact lv_dup_x1 C.1 C.2.1 hd (gC1_cat hv) (gC1_cat hw) (k f l p e s m args below meth c H locs cells slots mc ms ls C Wd hM hS hl hB h1 h2)
theorem G_iload_n {j : Fin 4} {i : Nat} {x : Int32} (hd : decode y.2.1 pc = .ok (.iload_n j, 1)) (hi : (j : Nat) = i) (hx : L[i]? = some (some (aI x))) (k : G sc y (pc + 1) L (aI x :: st) M Q) : G sc y pc L st M Q := by
  intro f l p e s m args below meth c H locs cells slots mc ms ls C Wd hM hS hl hB h1 h2
  exact lv_iload_n C.1 C.2.1 hd hi (g_lv hl hx) (k f l p e s m args below meth c H locs cells slots mc ms ls C Wd hM hS hl hB h1 h2)
theorem G_iload {i : Nat} {x : Int32} (hd : decode y.2.1 pc = .ok (.iload i, 2)) (hx : L[i]? = some (some (aI x))) (k : G sc y (pc + 2) L (aI x :: st) M Q) : G sc y pc L st M Q := by
  intro f l p e s m args below meth c H locs cells slots mc ms ls C Wd hM hS hl hB h1 h2
  exact lv_iload C.1 C.2.1 hd (g_lv hl hx) (k f l p e s m args below meth c H locs cells slots mc ms ls C Wd hM hS hl hB h1 h2)
theorem G_lload_n {j : Fin 4} {i : Nat} {x : Int64} (hd : decode y.2.1 pc = .ok (.lload_n j, 1)) (hi : (j : Nat) = i) (hx : L[i]? = some (some (aL x))) (k : G sc y (pc + 1) L (aL x :: st) M Q) : G sc y pc L st M Q := by
  intro f l p e s m args below meth c H locs cells slots mc ms ls C Wd hM hS hl hB h1 h2
  exact lv_lload_n C.1 C.2.1 hd hi (g_lv hl hx) (k f l p e s m args below meth c H locs cells slots mc ms ls C Wd hM hS hl hB h1 h2)
theorem G_lload {i : Nat} {x : Int64} (hd : decode y.2.1 pc = .ok (.lload i, 2)) (hx : L[i]? = some (some (aL x))) (k : G sc y (pc + 2) L (aL x :: st) M Q) : G sc y pc L st M Q := by
  intro f l p e s m args below meth c H locs cells slots mc ms ls C Wd hM hS hl hB h1 h2
  exact lv_lload C.1 C.2.1 hd (g_lv hl hx) (k f l p e s m args below meth c H locs cells slots mc ms ls C Wd hM hS hl hB h1 h2)
theorem G_aload_n {j : Fin 4} {i : Nat} {x : Nat} (hd : decode y.2.1 pc = .ok (.aload_n j, 1)) (hi : (j : Nat) = i) (hx : L[i]? = some (some (aR x))) (k : G sc y (pc + 1) L (aR x :: st) M Q) : G sc y pc L st M Q := by
  intro f l p e s m args below meth c H locs cells slots mc ms ls C Wd hM hS hl hB h1 h2
  exact lv_aload_n C.1 C.2.1 hd hi (g_lv hl hx) (k f l p e s m args below meth c H locs cells slots mc ms ls C Wd hM hS hl hB h1 h2)
theorem G_aload {i : Nat} {x : Nat} (hd : decode y.2.1 pc = .ok (.aload i, 2)) (hx : L[i]? = some (some (aR x))) (k : G sc y (pc + 2) L (aR x :: st) M Q) : G sc y pc L st M Q := by
  intro f l p e s m args below meth c H locs cells slots mc ms ls C Wd hM hS hl hB h1 h2
  exact lv_aload C.1 C.2.1 hd (g_lv hl hx) (k f l p e s m args below meth c H locs cells slots mc ms ls C Wd hM hS hl hB h1 h2)
theorem G_eload_n {j : Fin 4} {i x : Nat} (hd : decode y.2.1 pc = .ok (.aload_n j, 1)) (hi : (j : Nat) = i) (hx : L[i]? = some (some (aE (x + 1)))) (k : G sc y (pc + 1) L (aE (x + 1) :: st) M Q) : G sc y pc L st M Q := by
  intro f l p e s m args below meth c H locs cells slots mc ms ls C Wd hM hS hl hB h1 h2
  exact lv_aload_n C.1 C.2.1 hd hi (g_lv hl hx) (k f l p e s m args below meth c H locs cells slots mc ms ls C Wd hM hS hl hB h1 h2)
theorem G_eload {i x : Nat} (hd : decode y.2.1 pc = .ok (.aload i, 2)) (hx : L[i]? = some (some (aE (x + 1)))) (k : G sc y (pc + 2) L (aE (x + 1) :: st) M Q) : G sc y pc L st M Q := by
  intro f l p e s m args below meth c H locs cells slots mc ms ls C Wd hM hS hl hB h1 h2
  exact lv_aload C.1 C.2.1 hd (g_lv hl hx) (k f l p e s m args below meth c H locs cells slots mc ms ls C Wd hM hS hl hB h1 h2)
theorem G_istore_n {j : Fin 4} {i : Nat} {x : Int32} (hd : decode y.2.1 pc = .ok (.istore_n j, 1)) (hi : (j : Nat) = i) (hn : i < y.2.2.1) (hok : gOk L i = true) (k : G sc y (pc + 1) (L.set i (some (aI x))) st M Q) : G sc y pc L (aI x :: st) M Q := by
  intro f l p e s m args below meth c H locs cells slots mc ms ls C Wd hM hS hl hB h1 h2
  exact lv_istore_n C.1 C.2.1 hd hi hl hn rfl (fun ls9 hl9 => k f l p e s m args below meth c H locs cells slots mc ms ls9 C Wd hM hS (g_st1 hok hl9) hB h1 h2)
theorem G_istore {i : Nat} {x : Int32} (hd : decode y.2.1 pc = .ok (.istore i, 2)) (hn : i < y.2.2.1) (hok : gOk L i = true) (k : G sc y (pc + 2) (L.set i (some (aI x))) st M Q) : G sc y pc L (aI x :: st) M Q := by
  intro f l p e s m args below meth c H locs cells slots mc ms ls C Wd hM hS hl hB h1 h2
  exact lv_istore C.1 C.2.1 hd hl hn rfl (fun ls9 hl9 => k f l p e s m args below meth c H locs cells slots mc ms ls9 C Wd hM hS (g_st1 hok hl9) hB h1 h2)
theorem G_astore_n {j : Fin 4} {i : Nat} {x : Nat} (hd : decode y.2.1 pc = .ok (.astore_n j, 1)) (hi : (j : Nat) = i) (hn : i < y.2.2.1) (hok : gOk L i = true) (k : G sc y (pc + 1) (L.set i (some (aR x))) st M Q) : G sc y pc L (aR x :: st) M Q := by
  intro f l p e s m args below meth c H locs cells slots mc ms ls C Wd hM hS hl hB h1 h2
  exact lv_astore_n C.1 C.2.1 hd hi hl hn rfl (fun ls9 hl9 => k f l p e s m args below meth c H locs cells slots mc ms ls9 C Wd hM hS (g_st1 hok hl9) hB h1 h2)
theorem G_astore {i : Nat} {x : Nat} (hd : decode y.2.1 pc = .ok (.astore i, 2)) (hn : i < y.2.2.1) (hok : gOk L i = true) (k : G sc y (pc + 2) (L.set i (some (aR x))) st M Q) : G sc y pc L (aR x :: st) M Q := by
  intro f l p e s m args below meth c H locs cells slots mc ms ls C Wd hM hS hl hB h1 h2
  exact lv_astore C.1 C.2.1 hd hl hn rfl (fun ls9 hl9 => k f l p e s m args below meth c H locs cells slots mc ms ls9 C Wd hM hS (g_st1 hok hl9) hB h1 h2)
theorem G_lstore_n {j : Fin 4} {i : Nat} {x : Int64} (hd : decode y.2.1 pc = .ok (.lstore_n j, 1)) (hi : (j : Nat) = i) (hn : i + 1 < y.2.2.1) (hok : gOk L i = true) (k : G sc y (pc + 1) ((L.set i (some (aL x))).set (i + 1) none) st M Q) : G sc y pc L (aL x :: st) M Q := by
  intro f l p e s m args below meth c H locs cells slots mc ms ls C Wd hM hS hl hB h1 h2
  exact lv_lstore_n C.1 C.2.1 hd hi hl hn rfl (fun ls9 hl9 => k f l p e s m args below meth c H locs cells slots mc ms ls9 C Wd hM hS (g_st2 hok hl9) hB h1 h2)
theorem G_estore_n {j : Fin 4} {i x : Nat} (hd : decode y.2.1 pc = .ok (.astore_n j, 1)) (hi : (j : Nat) = i) (hn : i < y.2.2.1) (hok : gOk L i = true) (k : G sc y (pc + 1) (L.set i (some (aE (x + 1)))) st M Q) : G sc y pc L (aE (x + 1) :: st) M Q := by
  intro f l p e s m args below meth c H locs cells slots mc ms ls C Wd hM hS hl hB h1 h2
  exact lv_astore_n C.1 C.2.1 hd hi hl hn rfl (fun ls9 hl9 => k f l p e s m args below meth c H locs cells slots mc ms ls9 C Wd hM hS (g_st1 hok hl9) hB h1 h2)
theorem G_iinc {i : Nat} {n : Int} {x v : Int32} (hd : decode y.2.1 pc = .ok (.iinc i n, 3)) (hx : L[i]? = some (some (aI x))) (hv : x + Int32.ofInt n = v) (hn : i < y.2.2.1) (hok : gOk L i = true) (k : G sc y (pc + 3) (L.set i (some (aI v))) st M Q) : G sc y pc L st M Q := by
  intro f l p e s m args below meth c H locs cells slots mc ms ls C Wd hM hS hl hB h1 h2
  obtain ⟨q, hq⟩ := List.getElem?_of_mem (lpr_mem (f := f) L 0 i _ hx)
  exact lv_iinc C.1 C.2.1 hd hl (k := q) (by rw [hq]; simp [cvv]) hv hn rfl (fun ls9 hl9 => k f l p e s m args below meth c H locs cells slots mc ms ls9 C Wd hM hS (g_st1 (v := aI v) hok hl9) hB h1 h2)
theorem G_if_eq {x : Int32} {off : Int} {tgt : Nat} (hd : decode y.2.1 pc = .ok (.ifCond .eq off, 3)) (ht : (pc : Int) + off = (tgt : Int)) (kt : x = 0 → G sc y tgt L st M Q) (kf : ¬ x = 0 → G sc y (pc + 3) L st M Q) : G sc y pc L (aI x :: st) M Q := by
  intro f l p e s m args below meth c H locs cells slots mc ms ls C Wd hM hS hl hB h1 h2
  exact lv_if_eq C.1 C.2.1 hd ht (fun h9 => kt h9 f l p e s m args below meth c H locs cells slots mc ms ls C Wd hM hS hl hB h1 h2) (fun h9 => kf h9 f l p e s m args below meth c H locs cells slots mc ms ls C Wd hM hS hl hB h1 h2)
theorem G_icmp_eq {x z : Int32} {off : Int} {tgt : Nat} (hd : decode y.2.1 pc = .ok (.if_icmp .eq off, 3)) (ht : (pc : Int) + off = (tgt : Int)) (kt : x = z → G sc y tgt L st M Q) (kf : ¬ x = z → G sc y (pc + 3) L st M Q) : G sc y pc L (aI z :: aI x :: st) M Q := by
  intro f l p e s m args below meth c H locs cells slots mc ms ls C Wd hM hS hl hB h1 h2
  exact lv_icmp_eq C.1 C.2.1 hd ht (fun h9 => kt h9 f l p e s m args below meth c H locs cells slots mc ms ls C Wd hM hS hl hB h1 h2) (fun h9 => kf h9 f l p e s m args below meth c H locs cells slots mc ms ls C Wd hM hS hl hB h1 h2)
theorem G_if_ne {x : Int32} {off : Int} {tgt : Nat} (hd : decode y.2.1 pc = .ok (.ifCond .ne off, 3)) (ht : (pc : Int) + off = (tgt : Int)) (kt : ¬ x = 0 → G sc y tgt L st M Q) (kf : x = 0 → G sc y (pc + 3) L st M Q) : G sc y pc L (aI x :: st) M Q := by
  intro f l p e s m args below meth c H locs cells slots mc ms ls C Wd hM hS hl hB h1 h2
  exact lv_if_ne C.1 C.2.1 hd ht (fun h9 => kt h9 f l p e s m args below meth c H locs cells slots mc ms ls C Wd hM hS hl hB h1 h2) (fun h9 => kf h9 f l p e s m args below meth c H locs cells slots mc ms ls C Wd hM hS hl hB h1 h2)
theorem G_icmp_ne {x z : Int32} {off : Int} {tgt : Nat} (hd : decode y.2.1 pc = .ok (.if_icmp .ne off, 3)) (ht : (pc : Int) + off = (tgt : Int)) (kt : ¬ x = z → G sc y tgt L st M Q) (kf : x = z → G sc y (pc + 3) L st M Q) : G sc y pc L (aI z :: aI x :: st) M Q := by
  intro f l p e s m args below meth c H locs cells slots mc ms ls C Wd hM hS hl hB h1 h2
  exact lv_icmp_ne C.1 C.2.1 hd ht (fun h9 => kt h9 f l p e s m args below meth c H locs cells slots mc ms ls C Wd hM hS hl hB h1 h2) (fun h9 => kf h9 f l p e s m args below meth c H locs cells slots mc ms ls C Wd hM hS hl hB h1 h2)
theorem G_if_lt {x : Int32} {off : Int} {tgt : Nat} (hd : decode y.2.1 pc = .ok (.ifCond .lt off, 3)) (ht : (pc : Int) + off = (tgt : Int)) (kt : x < 0 → G sc y tgt L st M Q) (kf : ¬ x < 0 → G sc y (pc + 3) L st M Q) : G sc y pc L (aI x :: st) M Q := by
  intro f l p e s m args below meth c H locs cells slots mc ms ls C Wd hM hS hl hB h1 h2
  exact lv_if_lt C.1 C.2.1 hd ht (fun h9 => kt h9 f l p e s m args below meth c H locs cells slots mc ms ls C Wd hM hS hl hB h1 h2) (fun h9 => kf h9 f l p e s m args below meth c H locs cells slots mc ms ls C Wd hM hS hl hB h1 h2)
theorem G_icmp_lt {x z : Int32} {off : Int} {tgt : Nat} (hd : decode y.2.1 pc = .ok (.if_icmp .lt off, 3)) (ht : (pc : Int) + off = (tgt : Int)) (kt : x < z → G sc y tgt L st M Q) (kf : ¬ x < z → G sc y (pc + 3) L st M Q) : G sc y pc L (aI z :: aI x :: st) M Q := by
  intro f l p e s m args below meth c H locs cells slots mc ms ls C Wd hM hS hl hB h1 h2
  exact lv_icmp_lt C.1 C.2.1 hd ht (fun h9 => kt h9 f l p e s m args below meth c H locs cells slots mc ms ls C Wd hM hS hl hB h1 h2) (fun h9 => kf h9 f l p e s m args below meth c H locs cells slots mc ms ls C Wd hM hS hl hB h1 h2)
theorem G_if_ge {x : Int32} {off : Int} {tgt : Nat} (hd : decode y.2.1 pc = .ok (.ifCond .ge off, 3)) (ht : (pc : Int) + off = (tgt : Int)) (kt : 0 ≤ x → G sc y tgt L st M Q) (kf : ¬ 0 ≤ x → G sc y (pc + 3) L st M Q) : G sc y pc L (aI x :: st) M Q := by
  intro f l p e s m args below meth c H locs cells slots mc ms ls C Wd hM hS hl hB h1 h2
  exact lv_if_ge C.1 C.2.1 hd ht (fun h9 => kt h9 f l p e s m args below meth c H locs cells slots mc ms ls C Wd hM hS hl hB h1 h2) (fun h9 => kf h9 f l p e s m args below meth c H locs cells slots mc ms ls C Wd hM hS hl hB h1 h2)
theorem G_icmp_ge {x z : Int32} {off : Int} {tgt : Nat} (hd : decode y.2.1 pc = .ok (.if_icmp .ge off, 3)) (ht : (pc : Int) + off = (tgt : Int)) (kt : z ≤ x → G sc y tgt L st M Q) (kf : ¬ z ≤ x → G sc y (pc + 3) L st M Q) : G sc y pc L (aI z :: aI x :: st) M Q := by
  intro f l p e s m args below meth c H locs cells slots mc ms ls C Wd hM hS hl hB h1 h2
  exact lv_icmp_ge C.1 C.2.1 hd ht (fun h9 => kt h9 f l p e s m args below meth c H locs cells slots mc ms ls C Wd hM hS hl hB h1 h2) (fun h9 => kf h9 f l p e s m args below meth c H locs cells slots mc ms ls C Wd hM hS hl hB h1 h2)
theorem G_if_gt {x : Int32} {off : Int} {tgt : Nat} (hd : decode y.2.1 pc = .ok (.ifCond .gt off, 3)) (ht : (pc : Int) + off = (tgt : Int)) (kt : 0 < x → G sc y tgt L st M Q) (kf : ¬ 0 < x → G sc y (pc + 3) L st M Q) : G sc y pc L (aI x :: st) M Q := by
  intro f l p e s m args below meth c H locs cells slots mc ms ls C Wd hM hS hl hB h1 h2
  exact lv_if_gt C.1 C.2.1 hd ht (fun h9 => kt h9 f l p e s m args below meth c H locs cells slots mc ms ls C Wd hM hS hl hB h1 h2) (fun h9 => kf h9 f l p e s m args below meth c H locs cells slots mc ms ls C Wd hM hS hl hB h1 h2)
theorem G_icmp_gt {x z : Int32} {off : Int} {tgt : Nat} (hd : decode y.2.1 pc = .ok (.if_icmp .gt off, 3)) (ht : (pc : Int) + off = (tgt : Int)) (kt : z < x → G sc y tgt L st M Q) (kf : ¬ z < x → G sc y (pc + 3) L st M Q) : G sc y pc L (aI z :: aI x :: st) M Q := by
  intro f l p e s m args below meth c H locs cells slots mc ms ls C Wd hM hS hl hB h1 h2
  exact lv_icmp_gt C.1 C.2.1 hd ht (fun h9 => kt h9 f l p e s m args below meth c H locs cells slots mc ms ls C Wd hM hS hl hB h1 h2) (fun h9 => kf h9 f l p e s m args below meth c H locs cells slots mc ms ls C Wd hM hS hl hB h1 h2)
theorem G_if_le {x : Int32} {off : Int} {tgt : Nat} (hd : decode y.2.1 pc = .ok (.ifCond .le off, 3)) (ht : (pc : Int) + off = (tgt : Int)) (kt : x ≤ 0 → G sc y tgt L st M Q) (kf : ¬ x ≤ 0 → G sc y (pc + 3) L st M Q) : G sc y pc L (aI x :: st) M Q := by
  intro f l p e s m args below meth c H locs cells slots mc ms ls C Wd hM hS hl hB h1 h2
  exact lv_if_le C.1 C.2.1 hd ht (fun h9 => kt h9 f l p e s m args below meth c H locs cells slots mc ms ls C Wd hM hS hl hB h1 h2) (fun h9 => kf h9 f l p e s m args below meth c H locs cells slots mc ms ls C Wd hM hS hl hB h1 h2)
theorem G_icmp_le {x z : Int32} {off : Int} {tgt : Nat} (hd : decode y.2.1 pc = .ok (.if_icmp .le off, 3)) (ht : (pc : Int) + off = (tgt : Int)) (kt : x ≤ z → G sc y tgt L st M Q) (kf : ¬ x ≤ z → G sc y (pc + 3) L st M Q) : G sc y pc L (aI z :: aI x :: st) M Q := by
  intro f l p e s m args below meth c H locs cells slots mc ms ls C Wd hM hS hl hB h1 h2
  exact lv_icmp_le C.1 C.2.1 hd ht (fun h9 => kt h9 f l p e s m args below meth c H locs cells slots mc ms ls C Wd hM hS hl hB h1 h2) (fun h9 => kf h9 f l p e s m args below meth c H locs cells slots mc ms ls C Wd hM hS hl hB h1 h2)
theorem G_goto {off : Int} {tgt : Nat} (hd : decode y.2.1 pc = .ok (.goto off, 3)) (ht : (pc : Int) + off = (tgt : Int)) (k : G sc y tgt L st M Q) : G sc y pc L st M Q := by
  intro f l p e s m args below meth c H locs cells slots mc ms ls C Wd hM hS hl hB h1 h2
  exact lv_goto C.1 C.2.1 hd ht (k f l p e s m args below meth c H locs cells slots mc ms ls C Wd hM hS hl hB h1 h2)
theorem G_tableOut {dflt lo hi : Int} {offs : Array Int} {len : Nat} {x : Int32} {tgt : Nat} (hd : decode y.2.1 pc = .ok (.tableswitch dflt lo hi offs, len)) (h : x.toInt < lo ∨ hi < x.toInt) (ht : (pc : Int) + dflt = (tgt : Int)) (k : G sc y tgt L st M Q) : G sc y pc L (aI x :: st) M Q := by
  intro f l p e s m args below meth c H locs cells slots mc ms ls C Wd hM hS hl hB h1 h2
  exact lv_tableOut C.1 C.2.1 hd h ht (k f l p e s m args below meth c H locs cells slots mc ms ls C Wd hM hS hl hB h1 h2)
theorem G_tableIn {dflt lo hi : Int} {offs : Array Int} {len : Nat} {x : Int32} {off : Int} {tgt : Nat} (hd : decode y.2.1 pc = .ok (.tableswitch dflt lo hi offs, len)) (g1 : ¬ x.toInt < lo) (g2 : ¬ hi < x.toInt) (ho : offs[(x.toInt - lo).toNat]? = some off) (ht : (pc : Int) + off = (tgt : Int)) (k : G sc y tgt L st M Q) : G sc y pc L (aI x :: st) M Q := by
  intro f l p e s m args below meth c H locs cells slots mc ms ls C Wd hM hS hl hB h1 h2
  exact lv_tableIn C.1 C.2.1 hd g1 g2 ho ht (k f l p e s m args below meth c H locs cells slots mc ms ls C Wd hM hS hl hB h1 h2)
theorem G_ldc {i : Nat} {v : Int32} (hd : decode y.2.1 pc = .ok (.ldc i, 2)) (hc : Cond.constant y.1.cls i v ∈ gTs) (k : G sc y (pc + 2) L (aI v :: st) M Q) : G sc y pc L st M Q := by
  intro f l p e s m args below meth c H locs cells slots mc ms ls C Wd hM hS hl hB h1 h2
  exact lv_ldc C.1 C.2.1 C.2.2.2.1 (C.2.2.2.2.1 _ hc) hd (k f l p e s m args below meth c H locs cells slots mc ms ls C Wd hM hS hl hB h1 h2)
theorem G_ldcw {i : Nat} {v : Int32} (hd : decode y.2.1 pc = .ok (.ldc_w i, 3)) (hc : Cond.constant y.1.cls i v ∈ gTs) (k : G sc y (pc + 3) L (aI v :: st) M Q) : G sc y pc L st M Q := by
  intro f l p e s m args below meth c H locs cells slots mc ms ls C Wd hM hS hl hB h1 h2
  exact lv_ldcw C.1 C.2.1 C.2.2.2.1 (C.2.2.2.2.1 _ hc) hd (k f l p e s m args below meth c H locs cells slots mc ms ls C Wd hM hS hl hB h1 h2)
theorem G_ldc2 {i : Nat} {v : Int64} (hd : decode y.2.1 pc = .ok (.ldc2_w i, 3)) (hc : Cond.constantLong y.1.cls i v ∈ gTs) (k : G sc y (pc + 3) L (aL v :: st) M Q) : G sc y pc L st M Q := by
  intro f l p e s m args below meth c H locs cells slots mc ms ls C Wd hM hS hl hB h1 h2
  exact lv_ldc2 C.1 C.2.1 C.2.2.2.1 (C.2.2.2.2.1 _ hc) hd (k f l p e s m args below meth c H locs cells slots mc ms ls C Wd hM hS hl hB h1 h2)
theorem g_ret {f : Cf} {r : Option AV} {s t : State} {H : Heap} {locs : List Loc} {args : Array Value} (hq : Q r M) (hM : gMem f M H) (hS : va_S (gA f) s.heap H locs) (ht : t.heap = H) : gQc f Q args s (.returned (r.map (cvv f))) t := ⟨⟨r, M, rfl, hq, by rw [ht]; exact hM⟩, hS.F ht⟩
theorem G_iret {x : Int32} (hd : decode y.2.1 pc = .ok (.ireturn, 1)) (hr : y.2.2.2.1 = some .int) (hN : M.2.1 ≤ M.2.2.2.1) (hN2 : M.2.2.1 ≤ M.2.2.2.2) (hq : Q (some (aI x)) M) : G sc y pc L [aI x] M Q := by
  intro f l p e s m args below meth c H locs cells slots mc ms ls C Wd hM hS hl hB h1 h2
  have hc : cells ≤ mc := by omega
  have hs : slots ≤ ms := by omega
  exact W.widen hc hs (W.iret C.1 C.2.1 (C.2.2.2.2.2.1.trans hr) (fun t ht _ => g_ret hq hM hS ht) hS.2.2 hd C.2.2.2.2.2.2.1)
theorem G_zret {x : Int32} {ty : FieldType} (hd : decode y.2.1 pc = .ok (.ireturn, 1)) (hr : y.2.2.2.1 = some ty) (hn : narrow ty (.int x) = .int x) (hN : M.2.1 ≤ M.2.2.2.1) (hN2 : M.2.2.1 ≤ M.2.2.2.2) (hq : Q (some (aI x)) M) : G sc y pc L [aI x] M Q := by
  intro f l p e s m args below meth c H locs cells slots mc ms ls C Wd hM hS hl hB h1 h2
  have hc : cells ≤ mc := by omega
  have hs : slots ≤ ms := by omega
  exact W.widen hc hs (W.zret C.1 C.2.1 (C.2.2.2.2.2.1.trans hr) hn (fun t ht _ => g_ret hq hM hS ht) hS.2.2 hd C.2.2.2.2.2.2.1)
theorem G_lret {x : Int64} (hd : decode y.2.1 pc = .ok (.lreturn, 1)) (hr : y.2.2.2.1 = some .long) (hN : M.2.1 ≤ M.2.2.2.1) (hN2 : M.2.2.1 ≤ M.2.2.2.2) (hq : Q (some (aL x)) M) : G sc y pc L [aL x] M Q := by
  intro f l p e s m args below meth c H locs cells slots mc ms ls C Wd hM hS hl hB h1 h2
  have hc : cells ≤ mc := by omega
  have hs : slots ≤ ms := by omega
  exact W.widen hc hs (W.lret C.1 C.2.1 (C.2.2.2.2.2.1.trans hr) (fun t ht _ => g_ret hq hM hS ht) hS.2.2 hd C.2.2.2.2.2.2.1)
theorem G_vret (hd : decode y.2.1 pc = .ok (.return_, 1)) (hr : y.2.2.2.1 = none) (hN : M.2.1 ≤ M.2.2.2.1) (hN2 : M.2.2.1 ≤ M.2.2.2.2) (hq : Q none M) : G sc y pc L [] M Q := by
  intro f l p e s m args below meth c H locs cells slots mc ms ls C Wd hM hS hl hB h1 h2
  have hc : cells ≤ mc := by omega
  have hs : slots ≤ ms := by omega
  exact W.widen hc hs (W.vret C.1 C.2.1 (C.2.2.2.2.2.1.trans hr) (fun t ht _ => g_ret hq hM hS ht) hS.2.2 hd C.2.2.2.2.2.2.1)
theorem G_aret {x : Nat} {n : String} (hd : decode y.2.1 pc = .ok (.areturn, 1)) (hr : y.2.2.2.1 = some (.object n)) (hN : M.2.1 ≤ M.2.2.2.1) (hN2 : M.2.2.1 ≤ M.2.2.2.2) (hq : Q (some (aR x)) M) : G sc y pc L [aR x] M Q := by
  intro f l p e s m args below meth c H locs cells slots mc ms ls C Wd hM hS hl hB h1 h2
  have hc : cells ≤ mc := by omega
  have hs : slots ≤ ms := by omega
  exact W.widen hc hs (W.aret C.1 C.2.1 (C.2.2.2.2.2.1.trans hr) (Or.inl ⟨n, rfl⟩) (Or.inr ⟨_, rfl⟩) (fun t ht _ => g_ret hq hM hS ht) hS.2.2 hd C.2.2.2.2.2.2.1)
end GR
end
section
/-! rules of G that read and write cells -/
def gUp (M : HM) (k : Nat) (c : Cel) : HM := (fun j => if j = k then c else M.1 j, M.2)
theorem gAt_kept {f : Cf} {a : Nat} {c : Cel} {H H1 : Heap} (h : gAt f a c H) (hq : H1[a]? = H[a]?) : gAt f a c H1 := by
  rcases c with ⟨t, n, g⟩ | ⟨t, n, g⟩ | ⟨ci, F⟩
  · exact hq.trans h
  · exact hq.trans h
  · exact t_OB.kept h hq
theorem gMem_set {f : Cf} {M : HM} {H H1 : Heap} {k : Nat} {c : Cel} (hM : gMem f M H) (z : H1.size = H.size) (oq : ∀ q, q ≠ f.1 + k → H1[q]? = H[q]?) (hc : gAt f (f.1 + k) c H1) : gMem f (gUp M k c) H1 := by
  refine ⟨z.trans hM.1, fun j hj => ?_⟩
  show gAt f (f.1 + j) (if j = k then c else M.1 j) H1
  by_cases h : j = k
  · subst h
    rw [if_pos rfl]
    exact hc
  · rw [if_neg h]
    exact gAt_kept (hM.2 j hj) (oq _ (by omega))
/-- the class ci: its words, types, names -/
theorem gCls {ci : Nat} {q : vw_C} (h : vwCl[ci]? = some q) : (∀ w ∈ u_ws q.1 q.2.1 q.2.2, w ∈ gTs) ∧ (∃ ty : Nat → FieldType, ∀ k, k < q.2.2 → parseFieldDescriptor (q.2.1 k).2.2.1 = some (ty k)) ∧ ∀ a, a < q.2.2 → ∀ b, b < q.2.2 → a ≠ b → (q.2.1 a).2.1 ≠ (q.2.1 b).2.1 := by
  match ci, h with
  | 0, h => cases h; exact ⟨by decide +kernel, ⟨tyX0, tyX0_ok⟩, nmX0⟩
  | 1, h => cases h; exact ⟨by decide +kernel, ⟨tyX2, tyX2_ok⟩, nmX2⟩
  | 2, h => cases h; exact ⟨by decide +kernel, ⟨tyX3, tyX3_ok⟩, nmX3⟩
  | 3, h => cases h; exact ⟨by decide +kernel, ⟨tyX4, tyX4_ok⟩, nmX4⟩
  | 4, h => cases h; exact ⟨by decide +kernel, ⟨tyX5, tyX5_ok⟩, nmX5⟩
  | 5, h => cases h; exact ⟨by decide +kernel, ⟨tyX6, tyX6_ok⟩, nmX6⟩
  | 6, h => cases h; exact ⟨by decide +kernel, ⟨tyX7, tyX7_ok⟩, nmX7⟩
  | 7, h => cases h; exact ⟨by decide +kernel, ⟨tyX8, tyX8_ok⟩, nmX8⟩
  | 8, h => cases h; exact ⟨by decide +kernel, ⟨tyX9, tyX9_ok⟩, nmX9⟩
  | 9, h => cases h; exact ⟨by decide +kernel, ⟨tyX10, tyX10_ok⟩, nmX10⟩
  | n + 10, h => simp [vwCl] at h
/-- in the class own the pool's entry i is the field k of the class ci -/
def flB (own : String) (i ci k : Nat) : Prop := ∃ q : vw_C, vwCl[ci]? = some q ∧ k < q.2.2 ∧ Cond.fieldLink own i q.1 (q.2.1 k).2.1 (q.2.1 k).2.2.1 ∈ gTs ∧ (q.2.1 k).1 = q.1
theorem flB_spec {own : String} {i ci k : Nat} (h : flB own i ci k) : ∃ q : vw_C, vwCl[ci]? = some q ∧ k < q.2.2 ∧ Cond.fieldLink own i q.1 (q.2.1 k).2.1 (q.2.1 k).2.2.1 ∈ gTs ∧ (q.2.1 k).1 = q.1 := h
theorem gmem {w : Cond} (i : Nat) (h : lw_tbl[i]? = some w) (hg : goodWord w = true) : w ∈ gTs := List.mem_filter.mpr ⟨List.mem_of_getElem? h, hg⟩
/-- and its type is ty, not final -/
def fpB (ci k : Nat) (ty : FieldType) : Bool := match vwCl[ci]? with
  | some q => decide (parseFieldDescriptor (q.2.1 k).2.2.1 = some ty) && decide ((q.2.1 k).2.2.2 = false)
  | none => false
def ffB (ci k : Nat) (ty : FieldType) : Bool := match vwCl[ci]? with
  | some q => decide (parseFieldDescriptor (q.2.1 k).2.2.1 = some ty) && decide ((q.2.1 k).2.2.2 = true)
  | none => false
section GM
variable {sc : SC} {y : MI} {pc : Nat} {L : List (Option AV)} {st : List AV} {M : HM} {Q : Option AV → HM → Prop}
theorem G_getfield {i a ci k : Nat} {F : Nat → AV} (hd : decode y.2.1 pc = .ok (.getfield i, 3)) (hf : flB y.1.cls i ci k) (ha : a < M.2.1) (hc : M.1 a = .inr (.inr (ci, F))) (kk : G sc y (pc + 3) L (F k :: st) M Q) : G sc y pc L (aR a :: st) M Q := by
  intro f l p e s m args below meth c H locs cells slots mc ms ls C Wd hM hS hl hB h1 h2
  obtain ⟨q, hq, hk, hw, he⟩ := flB_spec hf
  have ho := hM.2 a ha
  rw [hc] at ho
  obtain ⟨cell, q1, q2, q3, q4⟩ := ho
  obtain ⟨hSl, hfc, kC, hkC, hkind⟩ := Wd.1.1 ci _ hq
  obtain ⟨cf, kf, fi, fd, hi, hsl⟩ := hSl k hk
  have hN : gN ci = q.2.2 := by simp [gN, hq]
  refine W.getf C.1 C.2.1 C.2.2.2.1 (C.2.2.2.2.1 _ hw) (by rw [← he]; exact hi) (u_facts hfc hkC (u_lays C.2.2.2.2.1 (gCls hq).1 hk) hi).1 q1 (by rw [q3]; exact fun h => by cases h) (v := cvv f (F k)) ?_ rfl rfl hd (kk f l p e s m args below meth c H locs cells slots mc ms ls C Wd hM hS hl hB h1 h2)
  rw [hsl, q4 k (by rw [hN]; exact hk)]
theorem g_putAt {f : Cf} {s : State} {args : Array Value} {H1 : Heap} {a ci k : Nat} {F : Nat → AV} {v : AV} {cell : Cell} (hts : ∀ w ∈ gTs, w.before args s = true) (hK : va_K f.2.1 vwCl (gTy f) s) {q : vw_C} (hq : vwCl[ci]? = some q) (hk : k < q.2.2) (q2 : cell.cls = f.2.1.1 ci) (q3 : cell.vm = .none) (q4 : ∀ j, j < gN ci → cell.slots[f.2.1.2 ci j]? = some (cvv f (F j))) (e1 : H1[a]? = some (cell.setSlot (f.2.1.2 ci k) (cvv f v))) : gAt f a (.inr (.inr (ci, fun j => if j = k then v else F j))) H1 := by
  obtain ⟨ty0, hty⟩ := (gCls hq).2.1
  have hN : gN ci = q.2.2 := by simp [gN, hq]
  have hap := va_apart (own := q.1) hts (gCls hq).1 ty0 hty (gCls hq).2.2 hK hq
  refine ⟨_, e1, q2, q3, fun j hj => ?_⟩
  rw [hN] at hj q4
  rw [t_set q4 hap hk (cvv f v) j hj]
  unfold updV
  by_cases h : j = k
  · simp [h]
  · simp [h]
theorem G_putfield {i a ci k : Nat} {F : Nat → AV} {v : AV} {ty : FieldType} (hd : decode y.2.1 pc = .ok (.putfield i, 3)) (hf : flB y.1.cls i ci k) (hp : fpB ci k ty = true) (hn : ∀ f : Cf, narrow ty (cvv f v) = cvv f v ∧ fits ty (cvv f v) = true) (ha : a < M.2.1) (hc : M.1 a = .inr (.inr (ci, F)))
    (kk : G sc y (pc + 3) L st (gUp M a (.inr (.inr (ci, fun j => if j = k then v else F j)))) Q) : G sc y pc L (v :: aR a :: st) M Q := by
  intro f l p e s m args below meth c H locs cells slots mc ms ls C Wd hM hS hl hB h1 h2
  obtain ⟨q, hq, hk, hw, he⟩ := flB_spec hf
  have ho := hM.2 a ha
  rw [hc] at ho
  obtain ⟨cell, q1, q2, q3, q4⟩ := ho
  obtain ⟨hSl, hfc, kC, hkC, hkind⟩ := Wd.1.1 ci _ hq
  obtain ⟨cf, kf, fi, fd, hi, hsl⟩ := hSl k hk
  have hN : gN ci = q.2.2 := by simp [gN, hq]
  have hp2 : parseFieldDescriptor (q.2.1 k).2.2.1 = some ty ∧ (q.2.1 k).2.2.2 = false := by simpa [fpB, hq] using hp
  have hlay := C.2.2.2.2.1 _ ((gCls hq).1 _ (u_in_lay hk))
  unfold u_lay at hlay
  rw [if_neg (by rw [hp2.2]; decide)] at hlay
  have hst := (u_facts hfc hkC (u_lays C.2.2.2.2.1 (gCls hq).1 hk) hi).1
  have h6 := u_store hfc hkC hkind hlay hi hp2.1 (hn f).1 (hn f).2
  refine W.putK C.1 C.2.1 (f := fd) ⟨C.2.2.2.1, C.2.2.2.2.1 _ hw, ⟨_, _, _, by rw [← he]; exact hi⟩, hst⟩ (by rw [q2]; exact h6) q1 q3 (by rw [hsl]; exact k2_hasslot (q4 k (by rw [hN]; exact hk))) rfl rfl hd fun H1 e1 e2 e3 => ?_
  rw [hsl] at e1 ⊢
  exact kk f l p e s m args below meth c H1 _ cells slots mc ms ls C Wd (gMem_set hM e2 e3 (g_putAt C.2.2.2.2.1 Wd.1 hq hk q2 q3 q4 e1)) (hS.put e2 e3 (by show f.1 ≤ f.1 + a; omega)) hl hB h1 h2
theorem G_putfinal {i a ci k : Nat} {F : Nat → AV} {v : AV} {ty : FieldType} (hd : decode y.2.1 pc = .ok (.putfield i, 3)) (hf : flB y.1.cls i ci k) (hp : ffB ci k ty = true) (hy : y.1.name = "<init>") (hy2 : (match vwCl[ci]? with | some q => decide (q.1 = y.1.cls) | none => false) = true) (hn : ∀ f : Cf, narrow ty (cvv f v) = cvv f v ∧ fits ty (cvv f v) = true) (ha : a < M.2.1) (hc : M.1 a = .inr (.inr (ci, F)))
    (kk : G sc y (pc + 3) L st (gUp M a (.inr (.inr (ci, fun j => if j = k then v else F j)))) Q) : G sc y pc L (v :: aR a :: st) M Q := by
  intro f l p e s m args below meth c H locs cells slots mc ms ls C Wd hM hS hl hB h1 h2
  obtain ⟨q, hq, hk, hw, he⟩ := flB_spec hf
  have ho := hM.2 a ha
  rw [hc] at ho
  obtain ⟨cell, q1, q2, q3, q4⟩ := ho
  obtain ⟨hSl, hfc, kC, hkC, hkind⟩ := Wd.1.1 ci _ hq
  obtain ⟨cf, kf, fi, fd, hi, hsl⟩ := hSl k hk
  have hN : gN ci = q.2.2 := by simp [gN, hq]
  have hp2 : parseFieldDescriptor (q.2.1 k).2.2.1 = some ty ∧ (q.2.1 k).2.2.2 = true := by simpa [ffB, hq] using hp
  have hy3 : q.1 = y.1.cls := by simpa [hq] using hy2
  have hlay := C.2.2.2.2.1 _ ((gCls hq).1 _ (u_in_lay hk))
  unfold u_lay at hlay
  rw [if_pos hp2.2] at hlay
  have hst := (u_facts hfc hkC (u_lays C.2.2.2.2.1 (gCls hq).1 hk) hi).1
  have hcf : m.cls = cf := by
    obtain ⟨_, _, c', _, _, _, -, -, hf', -, -, -, hown2, -⟩ := Cond.laysFinal_spec hlay
    have e1 : c' = cf := by have := hi.symm.trans hf'; simp at this; exact this.1.symm
    rw [he, hy3] at hown2
    rw [← e1]; exact Option.some.inj (C.2.2.2.1.symm.trans hown2)
  have h6 := u_fits hfc hkC hkind (Or.inr hlay) hi hp2.1 (hn f).1 (hn f).2
  refine W.putFinK C.1 C.2.1 C.2.2.2.1 (C.2.2.2.2.1 _ hw) (by rw [← he]; exact hi) hst hcf (C.2.2.2.2.2.2.2.trans hy) (by rw [q2]; exact h6) q1 q3 (by rw [hsl]; exact k2_hasslot (q4 k (by rw [hN]; exact hk))) rfl rfl hd fun H1 e1 e2 e3 => ?_
  rw [hsl] at e1 ⊢
  exact kk f l p e s m args below meth c H1 _ cells slots mc ms ls C Wd (gMem_set hM e2 e3 (g_putAt C.2.2.2.2.1 Wd.1 hq hk q2 q3 q4 e1)) (hS.put e2 e3 (by show f.1 ≤ f.1 + a; omega)) hl hB h1 h2
theorem G_iaload {a n : Nat} {g : Nat → Int32} {i : Int32} (hd : decode y.2.1 pc = .ok (.iaload, 1)) (ha : a < M.2.1) (hc : M.1 a = .inl (0, n, g)) (hi : vp_in i n) (kk : G sc y (pc + 1) L (aI (g i.toNatClampNeg) :: st) M Q) : G sc y pc L (aI i :: aR a :: st) M Q := by
  intro f l p e s m args below meth c H locs cells slots mc ms ls C Wd hM hS hl hB h1 h2
  have ho := hM.2 a ha
  rw [hc] at ho
  have hlt : i.toNatClampNeg < n := Nat.not_le.mp fun q => hi (Or.inr q)
  exact W.iald C.1 C.2.1 ho ((Wd.1.2 0 _ rfl).1 n (fun j => .int (g j))) (fun q => by cases q) (by show ¬ (i < 0 ∨ (arrV _ _ _).slots.size ≤ _); rw [arrV_size]; exact hi) (v := .int (g i.toNatClampNeg)) (by show (arrV _ _ _).slots[_]? = _; rw [arrV_read _ _ hlt]) rfl rfl hd (kk f l p e s m args below meth c H locs cells slots mc ms ls C Wd hM hS hl hB h1 h2)
theorem g_astAt {f : Cf} {H1 : Heap} {a t n : Nat} {g : Nat → Int32} {i x : Int32} (v : Value) (hv : v = .int x) (e : H1[a]? = some ((vp_cell (f.2.2.1 t) (n, .inl g)).setSlot i.toNatClampNeg v)) : gAt f a (.inl (t, n, upd g i.toNatClampNeg x)) H1 := by
  show H1[a]? = some (vp_cell _ _)
  rw [e]
  rw [vp_cell_i, vp_cell_i, arrV_store]
  congr 2
  funext q
  by_cases hq : q = i.toNatClampNeg
  · subst hq
    simp [updV, upd, hv]
  · simp [updV, upd, hq]
theorem G_iastore {a n : Nat} {g : Nat → Int32} {i x : Int32} (hd : decode y.2.1 pc = .ok (.iastore, 1)) (ha : a < M.2.1) (hc : M.1 a = .inl (0, n, g)) (hi : vp_in i n) (kk : G sc y (pc + 1) L st (gUp M a (.inl (0, n, upd g i.toNatClampNeg x))) Q) : G sc y pc L (aI x :: aI i :: aR a :: st) M Q := by
  intro f l p e s m args below meth c H locs cells slots mc ms ls C Wd hM hS hl hB h1 h2
  have ho := hM.2 a ha
  rw [hc] at ho
  refine W.iast C.1 C.2.1 ho ((Wd.1.2 0 _ rfl).1 n (fun j => .int (g j))) (fun q => by cases q) (by show ¬ (i < 0 ∨ (arrV _ _ _).slots.size ≤ _); rw [arrV_size]; exact hi) rfl rfl hd fun H1 e1 e2 e3 => ?_
  exact kk f l p e s m args below meth c H1 _ cells slots mc ms ls C Wd (gMem_set hM e2 e3 (g_astAt _ rfl e1)) (hS.put e2 e3 (by show f.1 ≤ f.1 + a; omega)) hl hB h1 h2
theorem G_baload {a n : Nat} {g : Nat → Int32} {i : Int32} (hd : decode y.2.1 pc = .ok (.baload, 1)) (ha : a < M.2.1) (hc : M.1 a = .inl (1, n, g)) (hi : vp_in i n) (kk : G sc y (pc + 1) L (aI (g i.toNatClampNeg) :: st) M Q) : G sc y pc L (aI i :: aR a :: st) M Q := by
  intro f l p e s m args below meth c H locs cells slots mc ms ls C Wd hM hS hl hB h1 h2
  have ho := hM.2 a ha
  rw [hc] at ho
  refine va_bald (D := f.2.1) (cl := vwCl) (tys := gTy f) (ws := [(f.1 + a, .inl (f.2.2.1 1, n, .inl g))]) C.1 C.2.1 Wd.1 (fun k q hk => ?_) 0 1 rfl rfl hi hd (kk f l p e s m args below meth c H locs cells slots mc ms ls C Wd hM hS hl hB h1 h2)
  match k, hk with
  | 0, hk => cases hk; exact ho
  | k + 1, hk => simp at hk
theorem G_saload {a n : Nat} {g : Nat → Int32} {i : Int32} (hd : decode y.2.1 pc = .ok (.saload, 1)) (ha : a < M.2.1) (hc : M.1 a = .inl (2, n, g)) (hi : vp_in i n) (kk : G sc y (pc + 1) L (aI (g i.toNatClampNeg) :: st) M Q) : G sc y pc L (aI i :: aR a :: st) M Q := by
  intro f l p e s m args below meth c H locs cells slots mc ms ls C Wd hM hS hl hB h1 h2
  have ho := hM.2 a ha
  rw [hc] at ho
  refine va_sald (D := f.2.1) (cl := vwCl) (tys := gTy f) (ws := [(f.1 + a, .inl (f.2.2.1 2, n, .inl g))]) C.1 C.2.1 Wd.1 (fun k q hk => ?_) 0 2 rfl rfl hi hd (kk f l p e s m args below meth c H locs cells slots mc ms ls C Wd hM hS hl hB h1 h2)
  match k, hk with
  | 0, hk => cases hk; exact ho
  | k + 1, hk => simp at hk
theorem G_bastore {a n : Nat} {g : Nat → Int32} {i x : Int32} (hd : decode y.2.1 pc = .ok (.bastore, 1)) (ha : a < M.2.1) (hc : M.1 a = .inl (1, n, g)) (hi : vp_in i n) (kk : G sc y (pc + 1) L st (gUp M a (.inl (1, n, upd g i.toNatClampNeg x.toInt8.toInt32))) Q) : G sc y pc L (aI x :: aI i :: aR a :: st) M Q := by
  intro f l p e s m args below meth c H locs cells slots mc ms ls C Wd hM hS hl hB h1 h2
  have ho := hM.2 a ha
  rw [hc] at ho
  refine W.bast C.1 C.2.1 ho ((Wd.1.2 1 _ rfl).1 n (fun j => .int (g j))) (fun q => by cases q) (by show ¬ (i < 0 ∨ (arrV _ _ _).slots.size ≤ _); rw [arrV_size]; exact hi) rfl rfl hd fun H1 e1 e2 e3 => ?_
  exact kk f l p e s m args below meth c H1 _ cells slots mc ms ls C Wd (gMem_set hM e2 e3 (g_astAt _ (by rfl) e1)) (hS.put e2 e3 (by show f.1 ≤ f.1 + a; omega)) hl hB h1 h2
theorem G_sastore {a n : Nat} {g : Nat → Int32} {i x : Int32} (hd : decode y.2.1 pc = .ok (.sastore, 1)) (ha : a < M.2.1) (hc : M.1 a = .inl (2, n, g)) (hi : vp_in i n) (kk : G sc y (pc + 1) L st (gUp M a (.inl (2, n, upd g i.toNatClampNeg x.toInt16.toInt32))) Q) : G sc y pc L (aI x :: aI i :: aR a :: st) M Q := by
  intro f l p e s m args below meth c H locs cells slots mc ms ls C Wd hM hS hl hB h1 h2
  have ho := hM.2 a ha
  rw [hc] at ho
  refine W.sast C.1 C.2.1 ho ((Wd.1.2 2 _ rfl).1 n (fun j => .int (g j))) (fun q => by cases q) (by show ¬ (i < 0 ∨ (arrV _ _ _).slots.size ≤ _); rw [arrV_size]; exact hi) rfl rfl hd fun H1 e1 e2 e3 => ?_
  exact kk f l p e s m args below meth c H1 _ cells slots mc ms ls C Wd (gMem_set hM e2 e3 (g_astAt _ (by rfl) e1)) (hS.put e2 e3 (by show f.1 ≤ f.1 + a; omega)) hl hB h1 h2
theorem G_alen {a t n : Nat} {g : Nat → Int32} {v : Int32} (hd : decode y.2.1 pc = .ok (.arraylength, 1)) (ha : a < M.2.1) (ht : t < 3) (hc : M.1 a = .inl (t, n, g)) (hv : Int32.ofNat n = v) (kk : G sc y (pc + 1) L (aI v :: st) M Q) : G sc y pc L (aR a :: st) M Q := by
  intro f l p e s m args below meth c H locs cells slots mc ms ls C Wd hM hS hl hB h1 h2
  have ho := hM.2 a ha
  rw [hc] at ho
  have hw : va_P f.2.1 vwCl [(f.1 + a, .inl (f.2.2.1 t, n, .inl g))] H := fun k q hk => by
    match k, hk with
    | 0, hk => cases hk; exact ho
    | k + 1, hk => simp at hk
  have K := kk f l p e s m args below meth c H locs cells slots mc ms ls C Wd hM hS hl hB h1 h2
  match t, ht with
  | 0, _ => exact va_alen C.1 C.2.1 Wd.1 hw 0 0 rfl rfl hv hd K
  | 1, _ => exact va_alen C.1 C.2.1 Wd.1 hw 0 1 rfl rfl hv hd K
  | 2, _ => exact va_alen C.1 C.2.1 Wd.1 hw 0 2 rfl rfl hv hd K
theorem G_aaload {a t n b : Nat} {g : Nat → Option Nat} {i : Int32} (hd : decode y.2.1 pc = .ok (.aaload, 1)) (ha : a < M.2.1) (ht : 3 ≤ t ∧ t < 7) (hc : M.1 a = .inr (.inl (t, n, g))) (hi : vp_in i n) (hb : g i.toNatClampNeg = some b) (kk : G sc y (pc + 1) L (aR b :: st) M Q) : G sc y pc L (aI i :: aR a :: st) M Q := by
  intro f l p e s m args below meth c H locs cells slots mc ms ls C Wd hM hS hl hB h1 h2
  have ho := hM.2 a ha
  rw [hc] at ho
  have hw : va_P f.2.1 vwCl [(f.1 + a, .inl (f.2.2.1 t, n, .inr (.inr (.inr (.inr (fun i => (g i).map (fun k => f.1 + k)))))))] H := fun k q hk => by
    match k, hk with
    | 0, hk => cases hk; exact ho
    | k + 1, hk => simp at hk
  have K := kk f l p e s m args below meth c H locs cells slots mc ms ls C Wd hM hS hl hB h1 h2
  have K2 : W p l e (gRm y mc ms) s m args below meth c H locs cells slots (MQ below (gQc f Q) args s mc ms (gA f)) (F0 m (pc + 1) ls (va_rf ((g i.toNatClampNeg).map (fun k => f.1 + k)) :: st.map (cvv f))) := by
    rw [hb]
    exact K
  match t, ht with
  | 3, _ => exact va_aldq C.1 C.2.1 Wd.1 hw 0 3 rfl rfl hi hd K2
  | 4, _ => exact va_aldq C.1 C.2.1 Wd.1 hw 0 4 rfl rfl hi hd K2
  | 5, _ => exact va_aldq C.1 C.2.1 Wd.1 hw 0 5 rfl rfl hi hd K2
  | 6, _ => exact va_aldq C.1 C.2.1 Wd.1 hw 0 6 rfl rfl hi hd K2
theorem G_sld {i : Int32} (hd : decode y.2.1 pc = .ok (.iaload, 1)) (hi : vp_in i sc.1) (kk : G sc y (pc + 1) L (aI (sc.2 i.toNatClampNeg) :: st) M Q) : G sc y pc L (aI i :: aE 1 :: st) M Q := by
  intro f l p e s m args below meth c H locs cells slots mc ms ls C Wd hM hS hl hB h1 h2
  have hW2 := Wd.2.1
  have g1 : f.2.2.2 0 < s.heap.size := by omega
  have g2 : ¬ gA f (f.2.2.2 0) := by show ¬ f.1 ≤ _; omega
  exact va_sld C.1 C.2.1 hW2.1 g1 g2 hS hi hd (kk f l p e s m args below meth c H locs cells slots mc ms ls C Wd hM hS hl hB h1 h2)
theorem G_slen (hd : decode y.2.1 pc = .ok (.arraylength, 1)) (kk : G sc y (pc + 1) L (aI (Int32.ofNat sc.1) :: st) M Q) : G sc y pc L (aE 1 :: st) M Q := by
  intro f l p e s m args below meth c H locs cells slots mc ms ls C Wd hM hS hl hB h1 h2
  have hW2 := Wd.2.1
  have g1 : f.2.2.2 0 < s.heap.size := by omega
  have g2 : ¬ gA f (f.2.2.2 0) := by show ¬ f.1 ≤ _; omega
  exact va_slen C.1 C.2.1 hW2.1 g1 g2 hS hd (kk f l p e s m args below meth c H locs cells slots mc ms ls C Wd hM hS hl hB h1 h2)
end GM
end
section
/-! rules of G for calls, and how a contract comes from a walk -/
def gSl (av : List AV) : List (Option AV) := av.flatMap fun v => match v with
  | .inr (.inl _) => [some v, none]
  | _ => [some v]
def gEnt (n : Nat) (av : List AV) : List (Option AV) := gSl av ++ List.replicate (n - (gSl av).length) none
theorem lpr_none (f : Cf) : ∀ (k j : Nat), lpr f j (List.replicate k none) = []
  | 0, _ => rfl
  | k + 1, j => by
    show lpr f (j + 1) (List.replicate k none) = []
    exact lpr_none f k (j + 1)
theorem lpr_ent (f : Cf) (k : Nat) : ∀ (av : List AV) (j : Nat), lpr f j (gSl av ++ List.replicate k none) = lv_args j (av.map (cvv f))
  | [], j => lpr_none f k j
  | .inl x :: r, j => by
    show (j, cvv f (.inl x)) :: lpr f (j + 1) (gSl r ++ List.replicate k none) = (j, cvv f (.inl x)) :: lv_args (j + 1) (r.map (cvv f))
    rw [lpr_ent f k r (j + 1)]
  | .inr (.inl x) :: r, j => by
    show (j, cvv f (.inr (.inl x))) :: lpr f (j + 1 + 1) (gSl r ++ List.replicate k none) = (j, cvv f (.inr (.inl x))) :: lv_args (j + 2) (r.map (cvv f))
    rw [lpr_ent f k r (j + 1 + 1)]
  | .inr (.inr (.inl x)) :: r, j => by
    show (j, cvv f (.inr (.inr (.inl x)))) :: lpr f (j + 1) (gSl r ++ List.replicate k none) = (j, cvv f (.inr (.inr (.inl x)))) :: lv_args (j + 1) (r.map (cvv f))
    rw [lpr_ent f k r (j + 1)]
  | .inr (.inr (.inr 0)) :: r, j => by
    show (j, cvv f (.inr (.inr (.inr 0)))) :: lpr f (j + 1) (gSl r ++ List.replicate k none) = (j, cvv f (.inr (.inr (.inr 0)))) :: lv_args (j + 1) (r.map (cvv f))
    rw [lpr_ent f k r (j + 1)]
  | .inr (.inr (.inr (x + 1))) :: r, j => by
    show (j, cvv f (.inr (.inr (.inr (x + 1))))) :: lpr f (j + 1) (gSl r ++ List.replicate k none) = (j, cvv f (.inr (.inr (.inr (x + 1))))) :: lv_args (j + 1) (r.map (cvv f))
    rw [lpr_ent f k r (j + 1)]
theorem gSl_len (f : Cf) : ∀ av : List AV, (lg_sl (av.map (cvv f))).length = (gSl av).length
  | [] => rfl
  | .inl x :: r => by
    show (lg_sl (r.map (cvv f))).length + 1 = (gSl r).length + 1
    rw [gSl_len f r]
  | .inr (.inl x) :: r => by
    show (lg_sl (r.map (cvv f))).length + 1 + 1 = (gSl r).length + 1 + 1
    rw [gSl_len f r]
  | .inr (.inr (.inl x)) :: r => by
    show (lg_sl (r.map (cvv f))).length + 1 = (gSl r).length + 1
    rw [gSl_len f r]
  | .inr (.inr (.inr 0)) :: r => by
    show (lg_sl (r.map (cvv f))).length + 1 = (gSl r).length + 1
    rw [gSl_len f r]
  | .inr (.inr (.inr (x + 1))) :: r => by
    show (lg_sl (r.map (cvv f))).length + 1 = (gSl r).length + 1
    rw [gSl_len f r]
/-- a contract out of a walk -/
theorem CT_of {sc : SC} {z : MI} {av : List AV} {M : HM} {Q : Option AV → HM → Prop} (hp : plainName z.1.cls = true) (hL : (gSl av).length ≤ z.2.2.1) (hn : M.2.1 ≤ M.2.2.2.1) (hs : M.2.2.1 ≤ M.2.2.2.2) (k : G sc z 0 (gEnt z.2.2.1 av) [] M Q) : CT sc z av M Q := by
  intro f l
  refine Met.ofW (cc := z.2.1) (maxL := z.2.2.1) (ret := z.2.2.2.1) hp rfl ?_
  intro p e s m args below meth c s₁ B hml hv
  obtain ⟨rfl, hM, hWd⟩ := hv
  have hts := atoms_spec (ws := gW z) B.pre
  have hown : s.vm.findClass z.1.cls = some m.cls := findClass_of_methodNamed B.named
  rw [lg_entry_eq]
  have hM1 := hM.1
  refine k f l p e s m _ below meth c s.heap [] 0 0 _ _ _ ⟨B.exec, B.bytes, hml, hown, fun w h => hts w (List.mem_cons_of_mem _ h), B.returns, B.notSynchronized, (name_of_methodNamed B.named B.method).1⟩ hWd hM va_S.rf ?_ (by omega) (by omega) (by omega)
  have h1 := lv_entry (av.map (cvv f)) (n := z.2.2.1) (by rw [gSl_len]; exact hL)
  unfold gEnt
  rw [lpr_ent]
  exact h1
/-- the callee's own words -/
def mB (z : MI) (n : Nat) : Prop := Cond.initialized z.1.cls ∈ gTs ∧ Cond.code z.1 z.2.1 z.2.2.1 z.2.2.2.1 ∈ gTs ∧ (z.1.cls ≠ "java/lang/invoke/MethodHandle" ∧ z.1.cls ≠ "java/lang/invoke/VarHandle") ∧ (parseMethodDescriptor z.1.desc).map (fun d => d.parameters.length) = some n
def mS (z : MI) (n : Nat) : Prop := Cond.static z.1 ∈ gTs ∧ mB z n
def mV (z : MI) (n : Nat) : Prop := (Cond.instanceMethod z.1 ∈ gTs ∧ Cond.selects z.1.cls z.1 z.1 ∈ gTs) ∧ mB z n
def mI (z : MI) (n : Nat) : Prop := (Cond.instanceMethod z.1 ∈ gTs ∧ z.1.name = "<init>") ∧ (mB z n ∧ z.2.2.2.1 = none)
/-- a call's room, and its link -/
def lkB (y z : MI) (i : Nat) : Prop := Cond.methodLink y.1.cls i z.1 ∈ gTs ∧ (z.2.2.2.2.1 + 1 ≤ y.2.2.2.2.1 ∧ 8 + (z.2.2.1 + 11) + z.2.2.2.2.2 ≤ y.2.2.2.2.2)
def lkN (y z : MI) (i : Nat) : Prop := (y.1.cls, i, z.1, RX9) ∈ gNest ∧ (z.2.2.2.2.1 + 1 ≤ y.2.2.2.2.1 ∧ 8 + (z.2.2.1 + 11) + z.2.2.2.2.2 ≤ y.2.2.2.2.2)
theorem mB_spec {z : MI} {n : Nat} (h : mB z n) : Cond.initialized z.1.cls ∈ gTs ∧ Cond.code z.1 z.2.1 z.2.2.1 z.2.2.2.1 ∈ gTs ∧ (z.1.cls ≠ "java/lang/invoke/MethodHandle" ∧ z.1.cls ≠ "java/lang/invoke/VarHandle") ∧ (parseMethodDescriptor z.1.desc).map (fun d => d.parameters.length) = some n := h
theorem gW_good {z : MI} (h : Cond.code z.1 z.2.1 z.2.2.1 z.2.2.2.1 ∈ gTs) : GoodIn gTs (gW z) := fun w hw => by
  rcases List.mem_cons.mp hw with rfl | hw
  · exact ⟨h, good_of_word (gTs_good _ h)⟩
  · exact ⟨hw, good_of_word (gTs_good _ hw)⟩
section GC
variable {sc : SC} {y z : MI} {pc : Nat} {L : List (Option AV)} {st : List AV} {M : HM} {Q : Option AV → HM → Prop}
theorem g_back {p : Program} {l : Launch} {e : Env} {R : Room} {s : State} {m : MethodId} {args : Array Value} {below : List Frame} {meth : Method} {c : Code} {H : Heap} {locs : List Loc} {cells slots mc ms : Nat} {Qf : State → Prop} {ls : Array Slot} {st0 rest : List Value} {f : Cf} {Q' : Option AV → HM → Prop} {a : Array Value}
    (hr : va_Run p l e R s m args below meth c H locs cells slots mc ms (F0 m pc ls st0) rest (gQc f Q' a) (gA f)) (hS : va_S (gA f) s.heap H locs)
    (kk : ∀ (r : Option AV) (M' : HM) (H1 : Heap) (locs1 : List Loc), Q' r M' → gMem f M' H1 → va_S (gA f) s.heap H1 locs1 → W p l e R s m args below meth c H1 locs1 (cells + mc) (slots + ms) Qf (F0 m (pc + 3) ls ((r.map (cvv f)).toList ++ rest))) : W p l e R s m args below meth c H locs cells slots Qf (F0 m pc ls st0) := by
  intro T hT X
  obtain ⟨v, st₀, t, T', L', h0, X', hL, e1, e2, ⟨⟨r, M', hv, hq, hm⟩, hz, hk⟩, stp⟩ := hr T hT X
  cases hv
  rw [h0] at hz hk
  obtain ⟨t2, a1, b1⟩ := kk r M' T'.heap (locs ++ L') hq (by rw [e1]; exact hm)
    ⟨Nat.le_trans hS.1 (by rw [e1]; exact hz), fun q g1 g2 => by rw [e1, hk q (Nat.lt_of_lt_of_le g1 hS.1) g2]; exact hS.2.1 q g1 g2, fun q hq => by
      rcases List.mem_append.mp hq with h | h
      · exact hS.2.2 q h
      · exact hL q h⟩ T' rfl X'
  exact ⟨t2, stp t2 a1, b1⟩
/-- the words of what is left on the stack -/
def gCat (st : List AV) : Nat := (st.map fun v => match v with
  | .inr (.inl _) => 2
  | _ => 1).sum
theorem gCat_eq (f : Cf) : ∀ st : List AV, ((st.map (cvv f)).map fun v => v.category).sum = gCat st
  | [] => rfl
  | .inl x :: r => by
    show 1 + ((r.map (cvv f)).map fun v => v.category).sum = 1 + gCat r
    rw [gCat_eq f r]
  | .inr (.inl x) :: r => by
    show 2 + ((r.map (cvv f)).map fun v => v.category).sum = 2 + gCat r
    rw [gCat_eq f r]
  | .inr (.inr (.inl x)) :: r => by
    show 1 + ((r.map (cvv f)).map fun v => v.category).sum = 1 + gCat r
    rw [gCat_eq f r]
  | .inr (.inr (.inr 0)) :: r => by
    show 1 + ((r.map (cvv f)).map fun v => v.category).sum = 1 + gCat r
    rw [gCat_eq f r]
  | .inr (.inr (.inr (x + 1))) :: r => by
    show 1 + ((r.map (cvv f)).map fun v => v.category).sum = 1 + gCat r
    rw [gCat_eq f r]
theorem g_stk {f : Cf} {r : Option AV} {st : List AV} : (r.map (cvv f)).toList ++ st.map (cvv f) = (r.toList ++ st).map (cvv f) := by
  cases r <;> rfl
/-- what a call leads to: the callee's budget is used up, then the caller goes on -/
abbrev gK (sc : SC) (y : MI) (pc : Nat) (L : List (Option AV)) (st : List AV) (M : HM) (n' s' : Nat) (Q : Option AV → HM → Prop) : Option AV → HM → Prop := fun r M' => M'.2.1 = n' ∧ M'.2.2.1 = s' ∧ G sc y (pc + 3) L (r.toList ++ st) (M'.1, n', s', M.2.2.2.1, M.2.2.2.2) Q
theorem g_going {f : Cf} {l : Launch} {p : Program} {e : Env} {s : State} {m : MethodId} {args : Array Value} {below : List Frame} {meth : Method} {c : Code} {cells slots mc ms : Nat} {ls : Array Slot} {n' s' : Nat} (hn : M.2.1 ≤ n' ∧ n' ≤ M.2.2.2.1) (hs : M.2.2.1 ≤ s' ∧ s' ≤ M.2.2.2.2) (C : gCtx y p s m args meth c) (Wd : gWd f sc s) (hl : lv_has ls y.2.2.1 (lpr f 0 L)) (hB : f.1 ≤ s.heap.size) (h1 : cells + M.2.2.2.1 = mc + M.2.1) (h2 : slots + M.2.2.2.2 = ms + M.2.2.1)
    (r : Option AV) (M' : HM) (H1 : Heap) (locs1 : List Loc) (hq : gK sc y pc L st M n' s' Q r M') (hm : gMem f M' H1) (hS1 : va_S (gA f) s.heap H1 locs1) : W p l e (gRm y mc ms) s m args below meth c H1 locs1 (cells + (n' - M.2.1)) (slots + (s' - M.2.2.1)) (MQ below (gQc f Q) args s mc ms (gA f)) (F0 m (pc + 3) ls ((r.map (cvv f)).toList ++ st.map (cvv f))) := by
  rw [g_stk]
  obtain ⟨q1, q2, q3⟩ := hq
  refine q3 f l p e s m args below meth c H1 locs1 _ _ mc ms ls C Wd ?_ hS1 hl hB ?_ ?_
  · refine ⟨?_, fun k hk => hm.2 k ?_⟩
    · rw [hm.1, q1]
    · rw [q1]; exact hk
  · show cells + (n' - M.2.1) + M.2.2.2.1 = mc + n'
    omega
  · show slots + (s' - M.2.2.1) + M.2.2.2.2 = ms + s'
    omega
theorem g_map_rev {f : Cf} {av st : List AV} : (av.reverse ++ st).map (cvv f) = (av.map (cvv f)).reverse ++ st.map (cvv f) := by
  rw [List.map_append, List.map_reverse]
theorem G_callS {i n' s' : Nat} {av : List AV} (hd : decode y.2.1 pc = .ok (.invokestatic i, 3)) (hz : mS z av.length) (hlk : lkB y z i) (hcat : gCat st ≤ 8) (hn : M.2.1 ≤ n' ∧ n' ≤ M.2.2.2.1) (hs : M.2.2.1 ≤ s' ∧ s' ≤ M.2.2.2.2)
    (hM : CT sc z av (M.1, M.2.1, M.2.2.1, n', s') (gK sc y pc L st M n' s' Q)) : G sc y pc L (av.reverse ++ st) M Q := by
  intro f l p e s m args below meth c H locs cells slots mc ms ls C Wd hMm hS hl hB h1 h2
  obtain ⟨z1, z2, z3, z4⟩ := mB_spec hz.2
  rw [g_map_rev]
  refine g_back (Q' := gK sc y pc L st M n' s' Q) (va_runS (As := av.map (cvv f)) (rest := st.map (cvv f)) (n := av.length) (index := i) (bytes := z.2.1) (maxL := z.2.2.1) (ret := z.2.2.2.1) (Ts := gTs) (own := y.1.cls) (cc := y.2.1) (nL := y.2.2.1) ⟨C.1, C.2.1, C.2.2.1, C.2.2.2.1, C.2.2.2.2.1⟩ (hM f l) ⟨callB_of av.length C.2.2.2.2.1 (gW_good z2) rfl rfl rfl (C.2.2.2.2.1 _ z1) (C.2.2.2.2.1 _ hlk.1) ⟨z3.1, z3.2, z4⟩ hlk.2, C.2.2.2.2.1 _ hz.1⟩ ⟨gPc_blind f sc av _, fun U hU hW => ⟨rfl, by rw [hU]; exact hMm, gWd_moved Wd hS hB hU hW⟩⟩ rfl (by simp) hl.1 rfl (lv_room (by rw [gCat_eq]; exact hcat)) hd ⟨?_, ?_⟩) hS (g_going hn hs C Wd hl hB h1 h2)
  · show cells + (n' - M.2.1) ≤ mc
    omega
  · show slots + (s' - M.2.2.1) ≤ ms
    omega
theorem g_recv {f : Cf} {s : State} {H : Heap} {a ci : Nat} {F : Nat → AV} {q : vw_C} (Wd : gWd f sc s) (hM : gMem f M H) (ha : a < M.2.1) (hc : M.1 a = .inr (.inr (ci, F))) (hq : vwCl[ci]? = some q) : ∃ cell : Cell, H[f.1 + a]? = some cell ∧ cell.vm.isStatics = false ∧ s.vm.findClass q.1 = some cell.cls := by
  have ho := hM.2 a ha
  rw [hc] at ho
  obtain ⟨cell, q1, q2, q3, q4⟩ := ho
  obtain ⟨hSl, hfc, kC, hkC, hkind⟩ := Wd.1.1 ci _ hq
  exact ⟨cell, q1, by rw [q3]; rfl, by rw [q2]; exact hfc⟩
theorem G_callV {i n' s' a ci : Nat} {av : List AV} {F : Nat → AV} (hd : decode y.2.1 pc = .ok (.invokevirtual i, 3)) (hz : mV z av.length) (hlk : lkB y z i) (hcat : gCat st ≤ 8) (ha : a < M.2.1) (hc : M.1 a = .inr (.inr (ci, F))) (hci : (vwCl[ci]?).map (fun q => q.1) = some z.1.cls) (hn : M.2.1 ≤ n' ∧ n' ≤ M.2.2.2.1) (hs : M.2.2.1 ≤ s' ∧ s' ≤ M.2.2.2.2)
    (hM : CT sc z (aR a :: av) (M.1, M.2.1, M.2.2.1, n', s') (gK sc y pc L st M n' s' Q)) : G sc y pc L (av.reverse ++ aR a :: st) M Q := by
  intro f l p e s m args below meth c H locs cells slots mc ms ls C Wd hMm hS hl hB h1 h2
  obtain ⟨z1, z2, z3, z4⟩ := mB_spec hz.2
  cases hq : vwCl[ci]? with
  | none => rw [hq] at hci; cases hci
  | some q =>
    rw [hq] at hci
    have hqc : q.1 = z.1.cls := Option.some.inj hci
    rw [g_map_rev]
    refine g_back (Q' := gK sc y pc L st M n' s' Q) (va_runV (As := av.map (cvv f)) (rest := st.map (cvv f)) (n := av.length) (index := i) (bytes := z.2.1) (maxL := z.2.2.1) (ret := z.2.2.2.1) (Ts := gTs) (own := y.1.cls) (cc := y.2.1) (nL := y.2.2.1) (C := z.1.cls) (b := f.1 + a) ⟨C.1, C.2.1, C.2.2.1, C.2.2.2.1, C.2.2.2.2.1⟩ (hM f l) ⟨callB_of av.length C.2.2.2.2.1 (gW_good z2) rfl rfl rfl (C.2.2.2.2.1 _ z1) (C.2.2.2.2.1 _ hlk.1) ⟨z3.1, z3.2, z4⟩ hlk.2, C.2.2.2.2.1 _ hz.1.1, C.2.2.2.2.1 _ hz.1.2⟩ ⟨gPc_blind f sc _ _, by rw [← hqc]; exact g_recv Wd hMm ha hc hq, fun U hU hW => ⟨rfl, by rw [hU]; exact hMm, gWd_moved Wd hS hB hU hW⟩⟩ rfl (by simp) hl.1 rfl (lv_room (by rw [gCat_eq]; exact hcat)) hd ⟨?_, ?_⟩) hS (g_going hn hs C Wd hl hB h1 h2)
    · show cells + (n' - M.2.1) ≤ mc
      omega
    · show slots + (s' - M.2.2.1) ≤ ms
      omega
theorem G_callI {i n' s' a : Nat} {av : List AV} (hd : decode y.2.1 pc = .ok (.invokespecial i, 3)) (hz : mI z av.length) (hlk : lkB y z i) (hcat : gCat st ≤ 8) (hn : M.2.1 ≤ n' ∧ n' ≤ M.2.2.2.1) (hs : M.2.2.1 ≤ s' ∧ s' ≤ M.2.2.2.2)
    (hM : CT sc z (aR a :: av) (M.1, M.2.1, M.2.2.1, n', s') (gK sc y pc L st M n' s' Q)) : G sc y pc L (av.reverse ++ aR a :: st) M Q := by
  intro f l p e s m args below meth c H locs cells slots mc ms ls C Wd hMm hS hl hB h1 h2
  obtain ⟨z1, z2, z3, z4⟩ := mB_spec hz.2.1
  have hno : gW z = Cond.code z.1 z.2.1 z.2.2.1 none :: gTs := by unfold gW; rw [hz.2.2]
  rw [g_map_rev]
  refine g_back (Q' := gK sc y pc L st M n' s' Q) (va_runI (As := av.map (cvv f)) (rest := st.map (cvv f)) (n := av.length) (index := i) (bytes := z.2.1) (maxL := z.2.2.1) (Ts := gTs) (own := y.1.cls) (cc := y.2.1) (nL := y.2.2.1) (b := f.1 + a) ⟨C.1, C.2.1, C.2.2.1, C.2.2.2.1, C.2.2.2.2.1⟩ (hM f l) ⟨callB_of av.length C.2.2.2.2.1 (gW_good z2) hno rfl rfl (C.2.2.2.2.1 _ z1) (C.2.2.2.2.1 _ hlk.1) ⟨z3.1, z3.2, z4⟩ hlk.2, hz.1.2, C.2.2.2.2.1 _ hz.1.1⟩ ⟨gPc_blind f sc _ _, fun U hU hW => ⟨rfl, by rw [hU]; exact hMm, gWd_moved Wd hS hB hU hW⟩⟩ rfl (by simp) hl.1 rfl (lv_room (by rw [gCat_eq]; exact hcat)) hd ⟨?_, ?_⟩) hS (g_going hn hs C Wd hl hB h1 h2)
  · show cells + (n' - M.2.1) ≤ mc
    omega
  · show slots + (s' - M.2.2.1) ≤ ms
    omega
theorem G_callIN {i n' s' a : Nat} {av : List AV} (hd : decode y.2.1 pc = .ok (.invokespecial i, 3)) (hz : mI z av.length) (hlk : lkN y z i) (hcat : gCat st ≤ 8) (hn : M.2.1 ≤ n' ∧ n' ≤ M.2.2.2.1) (hs : M.2.2.1 ≤ s' ∧ s' ≤ M.2.2.2.2)
    (hM : CT sc z (aR a :: av) (M.1, M.2.1, M.2.2.1, n', s') (gK sc y pc L st M n' s' Q)) : G sc y pc L (av.reverse ++ aR a :: st) M Q := by
  intro f l p e s m args below meth c H locs cells slots mc ms ls C Wd hMm hS hl hB h1 h2
  obtain ⟨z1, z2, z3, z4⟩ := mB_spec hz.2.1
  have hno : gW z = Cond.code z.1 z.2.1 z.2.2.1 none :: gTs := by unfold gW; rw [hz.2.2]
  rw [g_map_rev]
  refine g_back (Q' := gK sc y pc L st M n' s' Q) (va_runIN (As := av.map (cvv f)) (rest := st.map (cvv f)) (n := av.length) (index := i) (bytes := z.2.1) (maxL := z.2.2.1) (Ts := gTs) (own := y.1.cls) (host := RX9) (cc := y.2.1) (nL := y.2.2.1) (b := f.1 + a) ⟨C.1, C.2.1, C.2.2.1, C.2.2.2.1, C.2.2.2.2.1⟩ (hM f l) ⟨va_cnB av.length C.2.2.2.2.1 (gW_good z2) hno rfl rfl (Wd.2.2.1 _ hlk.1) (C.2.2.2.2.1 _ z1) ⟨z3.1, z3.2, z4⟩ hlk.2, hz.1.2, C.2.2.2.2.1 _ hz.1.1⟩ ⟨gPc_blind f sc _ _, fun U hU hW => ⟨rfl, by rw [hU]; exact hMm, gWd_moved Wd hS hB hU hW⟩⟩ rfl (by simp) hl.1 rfl (lv_room (by rw [gCat_eq]; exact hcat)) hd ⟨?_, ?_⟩) hS (g_going hn hs C Wd hl hB h1 h2)
  · show cells + (n' - M.2.1) ≤ mc
    omega
  · show slots + (s' - M.2.2.1) ≤ ms
    omega
end GC
end
section
/-! rules of G that make cells, rows of references, Object's constructor, texts -/
def gDef (ci j : Nat) : AV := match vwCl[ci]? with
  | some q => match parseFieldDescriptor (q.2.1 j).2.2.1 with
    | some (.object _) => aE 0
    | some (.array _) => aE 0
    | some .long => aL 0
    | _ => aI 0
  | none => aI 0
/-- one cell more, of n slots -/
def gAdd (M : HM) (c : Cel) (n : Nat) : HM := (fun j => if j = M.2.1 then c else M.1 j, M.2.1 + 1, M.2.2.1 + n, M.2.2.2)
theorem gAt_lt {f : Cf} {a : Nat} {c : Cel} {H : Heap} (h : gAt f a c H) : a < H.size := by
  rcases c with ⟨t, n, g⟩ | ⟨t, n, g⟩ | ⟨ci, F⟩
  · exact (Array.getElem?_eq_some_iff.mp h).1
  · exact (Array.getElem?_eq_some_iff.mp h).1
  · obtain ⟨cell, h1, -⟩ := h
    exact (Array.getElem?_eq_some_iff.mp h1).1
theorem gMem_add {f : Cf} {M : HM} {H H1 : Heap} {c : Cel} {n : Nat} (hM : gMem f M H) (z : H1.size = H.size + 1) (oq : ∀ q, q < H.size → H1[q]? = H[q]?) (hc : gAt f H.size c H1) : gMem f (gAdd M c n) H1 := by
  refine ⟨by show H1.size = f.1 + (M.2.1 + 1); rw [z, hM.1]; omega, fun j hj => ?_⟩
  have hj : j < M.2.1 + 1 := hj
  show gAt f (f.1 + j) (if j = M.2.1 then c else M.1 j) H1
  by_cases h : j = M.2.1
  · subst h
    rw [if_pos rfl, ← hM.1]
    exact hc
  · rw [if_neg h]
    have h1 := hM.2 j (by omega)
    exact gAt_kept h1 (oq _ (gAt_lt h1))
def gNew (y : MI) (i ci : Nat) : Bool := match vwCl[ci]? with
  | some q => decide (Cond.classLink y.1.cls i q.1 ∈ gTs) && (decide (Cond.instantiable q.1 q.2.2 ∈ gTs) && decide (Cond.initialized q.1 ∈ gTs))
  | none => false
theorem defV (f : Cf) {ci j : Nat} {q : vw_C} (hq : vwCl[ci]? = some q) {ty : FieldType} (h : parseFieldDescriptor (q.2.1 j).2.2.1 = some ty) (hn : ty ≠ .float ∧ ty ≠ .double) : defaultValue ty = cvv f (gDef ci j) := by
  unfold gDef
  rw [hq]
  dsimp only
  rw [h]
  cases ty <;> first | rfl | exact absurd rfl hn.1 | exact absurd rfl hn.2
def gPlain (ci : Nat) : Bool := match vwCl[ci]? with
  | some q => (List.range q.2.2).all (fun j => match parseFieldDescriptor (q.2.1 j).2.2.1 with | some .float => false | some .double => false | _ => true)
  | none => false
def gNob (ty : FieldType) : Bool := match ty with
  | .object _ => false
  | _ => true
section GN
variable {sc : SC} {y : MI} {pc : Nat} {L : List (Option AV)} {st : List AV} {M : HM} {Q : Option AV → HM → Prop}
theorem va_S.grow {A : Nat → Prop} {H0 H H1 : Heap} {locs : List Loc} (hS : va_S A H0 H locs) (z : H1.size = H.size + 1) (o1 : ∀ q, q < H.size → H1[q]? = H[q]?) : va_S A H0 H1 locs := ⟨Nat.le_trans hS.1 (by omega), fun x h1 h2 => (o1 x (Nat.lt_of_lt_of_le h1 hS.1)).trans (hS.2.1 x h1 h2), hS.2.2⟩
theorem G_new {i ci N : Nat} (hd : decode y.2.1 pc = .ok (.new i, 3)) (hw : gNew y i ci = true) (hpl : gPlain ci = true) (hN : gN ci = N) (h1n : M.2.1 + 1 ≤ M.2.2.2.1) (h1s : M.2.2.1 + N ≤ M.2.2.2.2)
    (kk : G sc y (pc + 3) L (aR M.2.1 :: st) (gAdd M (.inr (.inr (ci, gDef ci))) N) Q) : G sc y pc L st M Q := by
  intro f l p e s m args below meth c H locs cells slots mc ms ls C Wd hM hS hl hB h1 h2
  unfold gNew at hw
  split at hw
  · rename_i q hq
    simp only [Bool.and_eq_true, decide_eq_true_eq] at hw
    have hNq : N = q.2.2 := by rw [← hN]; simp [gN, hq]
    subst hNq
    have hKn := Wd.1.1 ci _ hq
    obtain ⟨ty, hty⟩ := (gCls hq).2.1
    refine W.newcK C.1 C.2.1 C.2.2.2.1 (C.2.2.2.2.1 _ hw.1) (C.2.2.2.2.1 _ hw.2.1) (C.2.2.2.2.1 _ hw.2.2) rfl hd (by show cells + 1 ≤ mc; omega) (by show slots + q.2.2 ≤ ms; omega) hKn.2.1 rfl fun H1 kC hkC e1 z1 o1 => ?_
    have hb := u_born ty C.2.2.2.2.1 (gCls hq).1 hKn hkC e1 hty
    have hat : gAt f H.size (.inr (.inr (ci, gDef ci))) H1 := by
      show t_OB H.size (f.2.1.1 ci) (gN ci) (f.2.1.2 ci) H1 (fun j => cvv f (gDef ci j))
      rw [hN]
      refine hb.to (fun k hk => defV f hq (hty k hk) ?_)
      simp only [gPlain, hq, List.all_eq_true, List.mem_range] at hpl
      have h3 := hpl k hk
      rw [hty k hk] at h3
      refine ⟨fun h4 => ?_, fun h4 => ?_⟩
      · rw [h4] at h3; cases h3
      · rw [h4] at h3; cases h3
    have hk := kk f l p e s m args below meth c H1 locs (cells + 1) (slots + q.2.2) mc ms ls C Wd (gMem_add hM z1 o1 hat) (hS.grow z1 o1) hl hB (by show cells + 1 + M.2.2.2.1 = mc + (M.2.1 + 1); omega) (by show slots + q.2.2 + M.2.2.2.2 = ms + (M.2.2.1 + q.2.2); omega)
    rw [hM.1]
    exact hk
  · cases hw
theorem g_arr {f : Cf} {s : State} {t : Nat} {ty : FieldType} {cA : ClassId} (Wd : gWd f sc s) (ht : (gTy f)[t]? = some (f.2.2.1 t, ty)) (hp : gNob ty = true) (h1 : s.vm.findClass ("[" ++ ty.toString) = some cA) : cA = f.2.2.1 t := by
  have h2 := (Wd.1.2 t _ ht).2
  cases ty <;> first | (cases hp; done) | exact Option.some.inj (h1.symm.trans h2)
theorem G_newarray {at0 : ArrayType} {t : Nat} {x : Int32} {N : Nat} {ty : FieldType} (hd : decode y.2.1 pc = .ok (.newarray at0, 2)) (hty : newarray.typeOf at0 = ty) (hw : Cond.arrayClass ty ∈ gTs) (ht : ∀ f : Cf, (gTy f)[t]? = some (f.2.2.1 t, ty)) (hp : gNob ty = true) (hdf : defaultValue ty = .int 0) (hx : ¬ x < 0) (hN : x.toNatClampNeg = N) (hb : N * componentBytes ty ≤ 536870912) (h1n : M.2.1 + 1 ≤ M.2.2.2.1) (h1s : M.2.2.1 + N ≤ M.2.2.2.2)
    (kk : G sc y (pc + 2) L (aR M.2.1 :: st) (gAdd M (.inl (t, N, fun _ => 0)) N) Q) : G sc y pc L (aI x :: st) M Q := by
  intro f l p e s m args below meth c H locs cells slots mc ms ls C Wd hM hS hl hB h1 h2
  subst hty
  refine va_newaK C.1 C.2.1 (C.2.2.2.2.1 _ hw) rfl hd rfl hx hN hb (by show cells + 1 ≤ mc; omega) (by show slots + N ≤ ms; omega) rfl fun H1 cA e1 z1 o1 hAr hNm => ?_
  have hcA := g_arr Wd (ht f) hp hNm
  subst hcA
  have hat : gAt f H.size (.inl (t, N, fun _ => 0)) H1 := by
    show H1[H.size]? = some (vp_cell _ _)
    rw [e1, vp_cell_i, hdf]
  have hk := kk f l p e s m args below meth c H1 locs (cells + 1) (slots + N) mc ms ls C Wd (gMem_add hM z1 o1 hat) (hS.grow z1 o1) hl hB (by show cells + 1 + M.2.2.2.1 = mc + (M.2.1 + 1); omega) (by show slots + N + M.2.2.2.2 = ms + (M.2.2.1 + N); omega)
  rw [hM.1]
  exact hk
theorem g_over {f : Cf} {s : State} {t : Nat} {nm : String} (Wd : gWd f sc s) (ht : t ∈ [3, 4, 5, 6]) (hc : (gTy f)[t]? = some (f.2.2.1 t, .object nm)) : va_AO nm s := by
  obtain ⟨-, -, -, -, -, -, -, h8⟩ := Wd
  simp only [List.mem_cons, List.not_mem_nil, or_false] at ht
  rcases ht with rfl | rfl | rfl | rfl <;> (cases hc)
  · exact h8.1
  · exact h8.2.1
  · exact h8.2.2.1
  · exact h8.2.2.2
theorem G_anewarray {i t : Nat} {x : Int32} {N : Nat} {nm : String} (hd : decode y.2.1 pc = .ok (.anewarray i, 3)) (hw : Cond.classLink y.1.cls i nm ∈ gTs) (ht : t ∈ [3, 4, 5, 6]) (hc : ∀ f : Cf, (gTy f)[t]? = some (f.2.2.1 t, .object nm)) (hx : ¬ x < 0) (hN : x.toNatClampNeg = N) (hb : N * 4 ≤ 536870912) (h1n : M.2.1 + 1 ≤ M.2.2.2.1) (h1s : M.2.2.1 + N ≤ M.2.2.2.2)
    (kk : G sc y (pc + 3) L (aR M.2.1 :: st) (gAdd M (.inr (.inl (t, N, fun _ => none))) N) Q) : G sc y pc L (aI x :: st) M Q := by
  intro f l p e s m args below meth c H locs cells slots mc ms ls C Wd hM hS hl hB h1 h2
  subst hN
  refine W.anew C.1 C.2.1 C.2.2.2.1 (C.2.2.2.2.1 _ hw) (va_AO.use (g_over Wd ht (hc f))) rfl hd rfl hx hb (by show cells + 1 ≤ mc; omega) (by show slots + x.toNatClampNeg ≤ ms; omega) fun cA kA comp f1 f2 f3 f4 => ?_
  obtain ⟨kA', comp', -, -, -, g4⟩ := (Wd.1.2 t _ (hc f)).2
  have hcA : cA = f.2.2.1 t := Option.some.inj (f1.symm.trans g4)
  subst hcA
  generalize hH1 : H.push ({ cls := f.2.2.1 t, slots := Array.replicate x.toNatClampNeg .null, vm := .none } : Cell) = H1
  have z1 : H1.size = H.size + 1 := by rw [← hH1, Array.size_push]
  have e1 : H1[H.size]? = some (arrV (f.2.2.1 t) x.toNatClampNeg (fun _ => .null)) := by rw [← hH1, Array.getElem?_push_size, ← arrV_new]
  have o1 : ∀ q : Nat, q < H.size → H1[q]? = H[q]? := fun q hq => by rw [← hH1, Array.getElem?_push, if_neg (Nat.ne_of_lt hq)]
  have hat : gAt f H.size (.inr (.inl (t, x.toNatClampNeg, fun _ => none))) H1 := by
    show H1[H.size]? = some (vp_cell _ _)
    rw [e1, vp_cell_q]
    rfl
  have hk := kk f l p e s m args below meth c H1 locs (cells + 1) (slots + x.toNatClampNeg) mc ms ls C Wd (gMem_add hM z1 o1 hat) (hS.grow z1 o1) hl hB (by show cells + 1 + M.2.2.2.1 = mc + (M.2.1 + 1); omega) (by show slots + x.toNatClampNeg + M.2.2.2.2 = ms + (M.2.2.1 + x.toNatClampNeg); omega)
  rw [hM.1]
  exact hk
theorem G_aastore {a t n b ci : Nat} {g : Nat → Option Nat} {F : Nat → AV} {i : Int32} (hd : decode y.2.1 pc = .ok (.aastore, 1)) (ha : a < M.2.1) (hc : M.1 a = .inr (.inl (t, n, g))) (hb : b < M.2.1) (hcb : M.1 b = .inr (.inr (ci, F))) {q : vw_C} (hq : vwCl[ci]? = some q) (ht : ∀ f : Cf, (gTy f)[t]? = some (f.2.2.1 t, .object q.1)) (hi : vp_in i n)
    (kk : G sc y (pc + 1) L st (gUp M a (.inr (.inl (t, n, va_up g i.toNatClampNeg (some b))))) Q) : G sc y pc L (aR b :: aI i :: aR a :: st) M Q := by
  intro f l p e s m args below meth c H locs cells slots mc ms ls C Wd hM hS hl hB h1 h2
  have ho := hM.2 a ha
  rw [hc] at ho
  have hlt : i.toNatClampNeg < n := Nat.not_le.mp fun q => hi (Or.inr q)
  have h0 : ¬ i < 0 := fun q => hi (Or.inl q)
  have hv := hM.2 b hb
  rw [hcb] at hv
  obtain ⟨cellV, g1, g2, g3, -⟩ := hv
  have hcls := (Wd.1.1 ci q hq).2
  obtain ⟨kA, comp, k1, k2, k3, -⟩ := (Wd.1.2 t _ (ht f)).2
  have hcomp : comp = f.2.1.1 ci := Option.some.inj (k3.symm.trans hcls.1)
  subst hcomp
  obtain ⟨kC, hkC, -⟩ := id hcls.2
  refine W.aast C.1 C.2.1 ho (fun q h => by cases h) (fun h => by cases h) k1 k2 rfl hkC ⟨h0, by show _ < (arrV _ _ _).slots.size; rw [arrV_size]; exact hlt⟩ g1 (fun q h => by rw [g3] at h; cases h) (by rw [g2]; exact hkC) (by rw [g2]; exact va_assign hcls) rfl rfl hd fun H1 e1 e2 e3 => ?_
  have hat : gAt f (f.1 + a) (.inr (.inl (t, n, va_up g i.toNatClampNeg (some b)))) H1 := by
    show H1[f.1 + a]? = some (vp_cell _ _)
    rw [e1]
    rw [vp_cell_q, vp_cell_q, arrV_store]
    congr 2
    funext q
    by_cases hq : q = i.toNatClampNeg
    · subst hq
      simp [updV, va_up, va_rf]
    · simp [updV, va_up, hq]
  exact kk f l p e s m args below meth c H1 _ cells slots mc ms ls C Wd (gMem_set hM e2 e3 hat) (hS.put e2 e3 (by show f.1 ≤ f.1 + a; omega)) hl hB h1 h2
theorem G_objInit {i a : Nat} (hd : decode y.2.1 pc = .ok (.invokespecial i, 3)) (h1w : Cond.methodLink y.1.cls i objectInit ∈ gTs) (h2w : Cond.instanceMethod objectInit ∈ gTs) (h3w : Cond.code objectInit ⟨#[0xb1]⟩ 1 none ∈ gTs) (hf : 1 ≤ y.2.2.2.2.1) (hlo : gCat st + 12 ≤ y.2.2.2.2.2)
    (kk : G sc y (pc + 3) L st M Q) : G sc y pc L (aR a :: st) M Q := by
  intro f l p e s m args below meth c H locs cells slots mc ms ls C Wd hM hS hl hB h1 h2
  exact W.objInit C.1 C.2.1 C.2.2.2.1 (C.2.2.2.2.1 _ h1w) (C.2.2.2.2.1 _ h2w) (C.2.2.2.2.1 _ h3w) rfl (by rw [C.2.2.1]; exact hl.1) rfl hd hf (by show 2 * 0 + ((st.map (cvv f)).map fun v => v.category).sum + 12 ≤ _; rw [gCat_eq]; show 2 * 0 + gCat st + 12 ≤ y.2.2.2.2.2; omega) (kk f l p e s m args below meth c H locs cells slots mc ms ls C Wd hM hS hl hB h1 h2)
end GN
end
section
/-! the memory behind the constructors: cells stand, only ints, rows of ints and the row 'shown' of Fit change -/
/-- int fields by cell and place; rows of ints by cell; what Fit.shown holds -/
abbrev ST : Type := (Nat → Nat → Int32) × (Nat → Nat → Int32) × (Nat → Option Nat)
/-- what a cell is: below 10 an object of that class; 10 + t a row of ints of kind t and its length; 20 + t a row of references -/
def kd (k : Nat) : Nat × Nat :=
  if k < 22 then ([(8, 0), (3, 0), (11, 60), (3, 0), (11, 35), (23, 12), (0, 0), (23, 4), (10, 40), (10, 4803), (10, 4803), (11, 4803), (1, 0), (12, 65536), (10, 1604), (10, 1604), (10, 4812), (10, 4812), (10, 4803), (10, 4803), (10, 4803), (24, 64)] : List (Nat × Nat)).getD k (99, 0)
  else if k < 150 then (if k % 2 = 0 then (2, 0) else (10, 3))
  else if k < 153 then ([(5, 0), (25, 64), (10, 64)] : List (Nat × Nat)).getD (k - 150) (99, 0)
  else if k < 281 then (if k % 2 = 1 then (3, 0) else (11, 35))
  else if k < 289 then ([(10, 512), (24, 4), (6, 0), (2, 0), (10, 3), (3, 0), (11, 60), (26, 4)] : List (Nat × Nat)).getD (k - 281) (99, 0)
  else if k < 373 then ([(7, 0), (3, 0), (11, 16), (10, 40), (3, 0), (11, 35), (11, 289)] : List (Nat × Nat)).getD ((k - 289) % 7) (99, 0)
  else if k < 381 then (if k % 2 = 1 then (2, 0) else (10, 3))
  else if k < 389 then (if k % 2 = 1 then (4, 0) else (10, 20))
  else if k < 413 then ([(9, 0), (10, 192), (10, 12), (10, 12), (10, 432), (10, 12), (10, 12), (10, 60), (10, 36), (10, 4), (10, 4803), (10, 4803), (10, 4803), (10, 4803), (10, 65536), (10, 192), (10, 2304), (10, 64), (10, 36), (10, 12), (10, 3), (10, 4), (10, 4), (10, 80)] : List (Nat × Nat)).getD (k - 389) (99, 0)
  else (99, 0)
/-- where a field of references leads, counted from its object; 0: it's an int -/
def off (ci j : Nat) : Nat := (([[1, 0, 0, 0, 2, 0, 3, 4, 5, 0, 6, 14, 0, 0, 0, 15, 0], [1, 2, 3, 4, 5, 0, 6, 7, 0], [1, 0], [1, 0], [1, 0, 0], [1, 2, 0], [1, 3, 0], [1, 3, 4, 0, 6], [1, 3, 5, 0, 6, 0, 0, 150, 281, 0, 282, 0, 283, 288],
  [0, 1, 2, 3, 4, 5, 6, 0, 7, 0, 0, 8, 0, 0, 9, 0, 10, 11, 0, 12, 13, 14, 0, 15, 16, 17, 18, 0, 0, 19, 20, 21, 22, 23]] : List (List Nat)).getD ci []).getD j 0
def rfA (S : ST) (k i : Nat) : Option Nat := match k with
  | 7 => S.2.2 i
  | 5 => some (289 + 7 * i)
  | 21 => some (22 + 2 * i)
  | 151 => some (153 + 2 * i)
  | 282 => some (373 + 2 * i)
  | _ => some (381 + 2 * i)
def mkC (S : ST) (k : Nat) : Cel :=
  if (kd k).1 < 10 then .inr (.inr ((kd k).1, fun j => if off (kd k).1 j = 0 then aI (S.1 k j) else aR (k + off (kd k).1 j)))
  else if (kd k).1 < 20 then .inl ((kd k).1 - 10, (kd k).2, S.2.1 k)
  else .inr (.inl ((kd k).1 - 20, (kd k).2, rfA S k))
/-- how many slots all cells have -/
abbrev gSLn : Nat := 203887
def mk (S : ST) : HM := (mkC S, 413, gSLn, 413, gSLn)
theorem kd_out {k : Nat} (h : 413 ≤ k) : kd k = (99, 0) := by
  unfold kd
  rw [if_neg (by omega), if_neg (by omega), if_neg (by omega), if_neg (by omega), if_neg (by omega), if_neg (by omega), if_neg (by omega), if_neg (by omega), if_neg (by omega)]
theorem kd_lt {k c n : Nat} (h : kd k = (c, n)) (hc : Nat.blt c 99 = true) : k < 413 := by
  rcases Nat.lt_or_ge k 413 with q | q
  · exact q
  · rw [kd_out q] at h
    cases h
    cases hc
theorem mkC_obj {S : ST} {k c n : Nat} (h : kd k = (c, n)) (hc : Nat.blt c 10 = true) : mkC S k = .inr (.inr (c, fun j => if off c j = 0 then aI (S.1 k j) else aR (k + off c j))) := by
  have h1 : c < 10 := Nat.le_of_ble_eq_true hc
  unfold mkC
  rw [h]
  simp only [h1, if_true]
theorem mkC_row {S : ST} {k t n : Nat} (h : kd k = (10 + t, n)) (ht : Nat.blt t 10 = true) : mkC S k = .inl (t, n, S.2.1 k) := by
  have h1 : t < 10 := Nat.le_of_ble_eq_true ht
  unfold mkC
  rw [h]
  have h2 : ¬ (10 + t < 10) := by omega
  have h3 : 10 + t < 20 := by omega
  have h4 : 10 + t - 10 = t := by omega
  simp only [h2, h3, h4, if_true, if_false]
theorem mkC_ref {S : ST} {k t n : Nat} (h : kd k = (20 + t, n)) : mkC S k = .inr (.inl (t, n, rfA S k)) := by
  unfold mkC
  rw [h]
  have h2 : ¬ (20 + t < 10) := by omega
  have h3 : ¬ (20 + t < 20) := by omega
  have h4 : 20 + t - 20 = t := by omega
  simp only [h2, h3, h4, if_false]
def upX (S : ST) (a j : Nat) (v : Int32) : ST := (fun b i => if b = a ∧ i = j then v else S.1 b i, S.2)
def upI (S : ST) (a j : Nat) (v : Int32) : ST := (S.1, fun b i => if b = a ∧ i = j then v else S.2.1 b i, S.2.2)
def upS (S : ST) (j : Nat) (v : Option Nat) : ST := (S.1, S.2.1, fun i => if i = j then v else S.2.2 i)
theorem rfA_upX (S : ST) (a j : Nat) (v : Int32) : rfA (upX S a j v) = rfA S := rfl
theorem mk_upX {S : ST} {a j c n : Nat} {v : Int32} (h : kd a = (c, n)) (hc : Nat.blt c 10 = true) (ho : off c j = 0) : gUp (mk S) a (.inr (.inr (c, fun i => if i = j then aI v else (if off c i = 0 then aI (S.1 a i) else aR (a + off c i))))) = mk (upX S a j v) := by
  unfold gUp mk
  refine Prod.ext ?_ rfl
  funext k
  dsimp only
  by_cases hk : k = a
  · subst hk
    rw [if_pos rfl, mkC_obj h hc]
    congr 3
    funext i
    by_cases hi : i = j
    · subst hi
      rw [if_pos rfl, if_pos ho]
      simp [upX]
    · rw [if_neg hi]
      simp [upX, hi]
  · rw [if_neg hk]
    unfold mkC
    simp only [rfA_upX]
    simp only [upX, hk, false_and, if_false]
theorem mk_upI {S : ST} {a t n j : Nat} {v : Int32} (h : kd a = (10 + t, n)) (ht : Nat.blt t 10 = true) : gUp (mk S) a (.inl (t, n, upd (S.2.1 a) j v)) = mk (upI S a j v) := by
  unfold gUp mk
  refine Prod.ext ?_ rfl
  funext k
  dsimp only
  by_cases hk : k = a
  · subst hk
    rw [if_pos rfl, mkC_row h ht]
    congr 3
    funext i
    unfold upd upI
    simp
  · rw [if_neg hk]
    unfold mkC
    have hr : rfA (upI S a j v) = rfA S := rfl
    rw [hr]
    simp only [upI, hk, false_and, if_false]
theorem mk_upS {S : ST} {j : Nat} {v : Nat} : gUp (mk S) 7 (.inr (.inl (3, 4, va_up (S.2.2) j (some v)))) = mk (upS S j (some v)) := by
  unfold gUp mk
  refine Prod.ext ?_ rfl
  funext k
  dsimp only
  by_cases hk : k = 7
  · subst hk
    rw [if_pos rfl]
    rfl
  · rw [if_neg hk]
    unfold mkC
    have hr : rfA (upS S j (some v)) k = rfA S k := by
      unfold rfA
      split <;> first | (exact absurd rfl hk) | rfl
    rw [hr]
    rfl
section GS
variable {sc : SC} {y z : MI} {pc : Nat} {L : List (Option AV)} {st : List AV} {S : ST} {Q : Option AV → HM → Prop}
theorem S_getI {i a ci k n : Nat} (hd : decode y.2.1 pc = .ok (.getfield i, 3)) (hf : flB y.1.cls i ci k) (ho : off ci k = 0) (hk : kd a = (ci, n)) (hc : Nat.blt ci 10 = true) (kk : G sc y (pc + 3) L (aI (S.1 a k) :: st) (mk S) Q) : G sc y pc L (aR a :: st) (mk S) Q := by
  refine G_getfield hd hf (kd_lt hk (Nat.ble_eq_true_of_le (Nat.le_trans (Nat.le_of_ble_eq_true hc) (by decide)))) (mkC_obj hk hc) ?_
  rw [if_pos ho]
  exact kk
theorem S_getR {i a ci k n d : Nat} (hd : decode y.2.1 pc = .ok (.getfield i, 3)) (hf : flB y.1.cls i ci k) (ho : off ci k = d + 1) (hk : kd a = (ci, n)) (hc : Nat.blt ci 10 = true) (kk : G sc y (pc + 3) L (aR (a + (d + 1)) :: st) (mk S) Q) : G sc y pc L (aR a :: st) (mk S) Q := by
  refine G_getfield hd hf (kd_lt hk (Nat.ble_eq_true_of_le (Nat.le_trans (Nat.le_of_ble_eq_true hc) (by decide)))) (mkC_obj hk hc) ?_
  rw [if_neg (by omega), ho]
  exact kk
theorem S_putI {i a ci k n : Nat} {v : Int32} (hd : decode y.2.1 pc = .ok (.putfield i, 3)) (hf : flB y.1.cls i ci k) (hp : fpB ci k .int = true) (ho : off ci k = 0) (hk : kd a = (ci, n)) (hc : Nat.blt ci 10 = true) (kk : G sc y (pc + 3) L st (mk (upX S a k v)) Q) : G sc y pc L (aI v :: aR a :: st) (mk S) Q := by
  refine G_putfield hd hf hp (fun f => ⟨rfl, rfl⟩) (kd_lt hk (Nat.ble_eq_true_of_le (Nat.le_trans (Nat.le_of_ble_eq_true hc) (by decide)))) (mkC_obj hk hc) ?_
  rw [mk_upX hk hc ho]
  exact kk
theorem S_putZ {i a ci k n : Nat} {v : Int32} (hd : decode y.2.1 pc = .ok (.putfield i, 3)) (hf : flB y.1.cls i ci k) (hp : fpB ci k .boolean = true) (hv : narrow .boolean (.int v) = .int v ∧ fits .boolean (.int v) = true) (ho : off ci k = 0) (hk : kd a = (ci, n)) (hc : Nat.blt ci 10 = true) (kk : G sc y (pc + 3) L st (mk (upX S a k v)) Q) : G sc y pc L (aI v :: aR a :: st) (mk S) Q := by
  refine G_putfield hd hf hp (fun f => hv) (kd_lt hk (Nat.ble_eq_true_of_le (Nat.le_trans (Nat.le_of_ble_eq_true hc) (by decide)))) (mkC_obj hk hc) ?_
  rw [mk_upX hk hc ho]
  exact kk
theorem S_iald {a n : Nat} {i : Int32} (hd : decode y.2.1 pc = .ok (.iaload, 1)) (hk : kd a = (10, n)) (hi : vp_in i n) (kk : G sc y (pc + 1) L (aI (S.2.1 a i.toNatClampNeg) :: st) (mk S) Q) : G sc y pc L (aI i :: aR a :: st) (mk S) Q :=
  G_iaload hd (kd_lt hk rfl) (mkC_row (t := 0) hk rfl) hi kk
theorem S_bald {a n : Nat} {i : Int32} (hd : decode y.2.1 pc = .ok (.baload, 1)) (hk : kd a = (11, n)) (hi : vp_in i n) (kk : G sc y (pc + 1) L (aI (S.2.1 a i.toNatClampNeg) :: st) (mk S) Q) : G sc y pc L (aI i :: aR a :: st) (mk S) Q :=
  G_baload hd (kd_lt hk rfl) (mkC_row (t := 1) hk rfl) hi kk
theorem S_sald {a n : Nat} {i : Int32} (hd : decode y.2.1 pc = .ok (.saload, 1)) (hk : kd a = (12, n)) (hi : vp_in i n) (kk : G sc y (pc + 1) L (aI (S.2.1 a i.toNatClampNeg) :: st) (mk S) Q) : G sc y pc L (aI i :: aR a :: st) (mk S) Q :=
  G_saload hd (kd_lt hk rfl) (mkC_row (t := 2) hk rfl) hi kk
theorem S_iast {a n : Nat} {i x : Int32} (hd : decode y.2.1 pc = .ok (.iastore, 1)) (hk : kd a = (10, n)) (hi : vp_in i n) (kk : G sc y (pc + 1) L st (mk (upI S a i.toNatClampNeg x)) Q) : G sc y pc L (aI x :: aI i :: aR a :: st) (mk S) Q := by
  refine G_iastore hd (kd_lt hk rfl) (mkC_row (t := 0) hk rfl) hi ?_
  rw [mk_upI (t := 0) hk rfl]
  exact kk
theorem S_bast {a n : Nat} {i x : Int32} (hd : decode y.2.1 pc = .ok (.bastore, 1)) (hk : kd a = (11, n)) (hi : vp_in i n) (kk : G sc y (pc + 1) L st (mk (upI S a i.toNatClampNeg x.toInt8.toInt32)) Q) : G sc y pc L (aI x :: aI i :: aR a :: st) (mk S) Q := by
  refine G_bastore hd (kd_lt hk rfl) (mkC_row (t := 1) hk rfl) hi ?_
  rw [mk_upI (t := 1) hk rfl]
  exact kk
theorem S_sast {a n : Nat} {i x : Int32} (hd : decode y.2.1 pc = .ok (.sastore, 1)) (hk : kd a = (12, n)) (hi : vp_in i n) (kk : G sc y (pc + 1) L st (mk (upI S a i.toNatClampNeg x.toInt16.toInt32)) Q) : G sc y pc L (aI x :: aI i :: aR a :: st) (mk S) Q := by
  refine G_sastore hd (kd_lt hk rfl) (mkC_row (t := 2) hk rfl) hi ?_
  rw [mk_upI (t := 2) hk rfl]
  exact kk
theorem S_alen {a t n : Nat} {v : Int32} (hd : decode y.2.1 pc = .ok (.arraylength, 1)) (hk : kd a = (10 + t, n)) (ht : Nat.blt t 3 = true) (hv : Int32.ofNat n = v) (kk : G sc y (pc + 1) L (aI v :: st) (mk S) Q) : G sc y pc L (aR a :: st) (mk S) Q := by
  have h1 : t < 3 := Nat.le_of_ble_eq_true ht
  exact G_alen hd (kd_lt hk (Nat.ble_eq_true_of_le (by omega))) h1 (mkC_row (t := t) hk (Nat.ble_eq_true_of_le (by omega))) hv kk
theorem S_aald {a t n b : Nat} {i : Int32} (hd : decode y.2.1 pc = .ok (.aaload, 1)) (hk : kd a = (20 + t, n)) (ht : 3 ≤ t ∧ t < 7) (hi : vp_in i n) (hb : rfA S a i.toNatClampNeg = some b) (kk : G sc y (pc + 1) L (aR b :: st) (mk S) Q) : G sc y pc L (aI i :: aR a :: st) (mk S) Q :=
  G_aaload hd (kd_lt hk (Nat.ble_eq_true_of_le (by omega))) ht (mkC_ref hk) hi hb kk
/-- Fit.shown takes a Thing -/
theorem S_aast {b n : Nat} {i : Int32} (hd : decode y.2.1 pc = .ok (.aastore, 1)) (hb : kd b = (7, n)) (hi : vp_in i 4) (kk : G sc y (pc + 1) L st (mk (upS S i.toNatClampNeg (some b))) Q) : G sc y pc L (aR b :: aI i :: aR 7 :: st) (mk S) Q := by
  refine G_aastore (t := 3) (n := 4) (g := S.2.2) hd (show 7 < 413 by decide) rfl (kd_lt hb rfl) (mkC_obj hb rfl) (q := (RX8, TX8, 5)) rfl (fun f => rfl) hi ?_
  rw [mk_upS]
  exact kk
/-- a static contract: what z answers, and the state behind it -/
abbrev gJ (sc : SC) (y : MI) (pc : Nat) (L : List (Option AV)) (st : List AV) (Q : Option AV → HM → Prop) : Option AV → HM → Prop := fun r M' => ∃ S' : ST, M' = mk S' ∧ G sc y (pc + 3) L (r.toList ++ st) (mk S') Q
theorem CT_mono {av : List AV} {M : HM} {Q1 Q2 : Option AV → HM → Prop} (h : CT sc z av M Q1) (hi : ∀ r M', Q1 r M' → Q2 r M') : CT sc z av M Q2 := by
  intro f l
  have h1 := h f l
  intro p e ha hc hk s m args below hf h2 h3 h4
  obtain ⟨k, o, g1, g2, g3, ⟨⟨⟨r, M', e1, e2, e3⟩, hF⟩, hL⟩⟩ := h1 p e ha hc hk s m args below hf h2 h3 h4
  exact ⟨k, o, g1, g2, g3, ⟨⟨r, M', e1, hi _ _ e2, e3⟩, hF⟩, hL⟩
theorem S_callS {i : Nat} {av : List AV} (hd : decode y.2.1 pc = .ok (.invokestatic i, 3)) (hz : mS z av.length) (hlk : lkB y z i) (hcat : gCat st ≤ 8) (hM : CT sc z av (mk S) (gJ sc y pc L st Q)) : G sc y pc L (av.reverse ++ st) (mk S) Q :=
  G_callS (n' := 413) (s' := gSLn) hd hz hlk hcat ⟨Nat.le_refl _, Nat.le_refl _⟩ ⟨Nat.le_refl _, Nat.le_refl _⟩ (CT_mono hM (fun r M' h => by obtain ⟨S', rfl, h2⟩ := h; exact ⟨rfl, rfl, h2⟩))
theorem S_callV {i a ci n : Nat} {av : List AV} (hd : decode y.2.1 pc = .ok (.invokevirtual i, 3)) (hz : mV z av.length) (hlk : lkB y z i) (hcat : gCat st ≤ 8) (hk : kd a = (ci, n)) (hc : Nat.blt ci 10 = true) (hci : (vwCl[ci]?).map (fun q => q.1) = some z.1.cls) (hM : CT sc z (aR a :: av) (mk S) (gJ sc y pc L st Q)) : G sc y pc L (av.reverse ++ aR a :: st) (mk S) Q :=
  G_callV (n' := 413) (s' := gSLn) hd hz hlk hcat (kd_lt hk (Nat.ble_eq_true_of_le (Nat.le_trans (Nat.le_of_ble_eq_true hc) (by decide)))) (mkC_obj hk hc) hci ⟨Nat.le_refl _, Nat.le_refl _⟩ ⟨Nat.le_refl _, Nat.le_refl _⟩ (CT_mono hM (fun r M' h => by obtain ⟨S', rfl, h2⟩ := h; exact ⟨rfl, rfl, h2⟩))
theorem S_iret {x : Int32} (hd : decode y.2.1 pc = .ok (.ireturn, 1)) (hr : y.2.2.2.1 = some .int) (hq : Q (some (aI x)) (mk S)) : G sc y pc L [aI x] (mk S) Q := G_iret hd hr (Nat.le_refl _) (Nat.le_refl _) hq
theorem S_zret {x : Int32} (hd : decode y.2.1 pc = .ok (.ireturn, 1)) (hr : y.2.2.2.1 = some .boolean) (hn : narrow .boolean (.int x) = .int x) (hq : Q (some (aI x)) (mk S)) : G sc y pc L [aI x] (mk S) Q := G_zret hd hr hn (Nat.le_refl _) (Nat.le_refl _) hq
theorem S_lret {x : Int64} (hd : decode y.2.1 pc = .ok (.lreturn, 1)) (hr : y.2.2.2.1 = some .long) (hq : Q (some (aL x)) (mk S)) : G sc y pc L [aL x] (mk S) Q := G_lret hd hr (Nat.le_refl _) (Nat.le_refl _) hq
theorem S_vret (hd : decode y.2.1 pc = .ok (.return_, 1)) (hr : y.2.2.2.1 = none) (hq : Q none (mk S)) : G sc y pc L [] (mk S) Q := G_vret hd hr (Nat.le_refl _) (Nat.le_refl _) hq
theorem S_aret {x : Nat} {n : String} (hd : decode y.2.1 pc = .ok (.areturn, 1)) (hr : y.2.2.2.1 = some (.object n)) (hq : Q (some (aR x)) (mk S)) : G sc y pc L [aR x] (mk S) Q := G_aret hd hr (Nat.le_refl _) (Nat.le_refl _) hq
theorem S_of {av : List AV} (hp : plainName z.1.cls = true) (hL : Nat.ble (gSl av).length z.2.2.1 = true) (k : G sc z 0 (gEnt z.2.2.1 av) [] (mk S) Q) : CT sc z av (mk S) Q := CT_of hp (Nat.le_of_ble_eq_true hL) (Nat.le_refl _) (Nat.le_refl _) k
end GS
end
section
/-! the methods: name, code, locals, answer, room below (written by wip/whole/gen_meths.py) -/
def mX0_init : MI := (yX0_init, cX0_init, 2, none, 2, 40)
def mX0_clear : MI := (yX0_clear, cX0_clear, 1, none, 1, 21)
def mX0_take : MI := (yX0_take, cX0_take, 2, none, 0, 0)
def mX0_howMany : MI := (yX0_howMany, cX0_howMany, 2, (some .int), 0, 0)
def mX0_measure : MI := (yX0_measure, cX0_measure, 3, none, 3, 72)
def mX0_findCommonPlaces : MI := (yX0_findCommonPlaces, cX0_findCommonPlaces, 4, none, 0, 0)
def mX0_addCuts : MI := (yX0_addCuts, cX0_addCuts, 7, none, 2, 46)
def mX0_addTyped : MI := (yX0_addTyped, cX0_addTyped, 4, none, 2, 46)
def mX0_addFirst : MI := (yX0_addFirst, cX0_addFirst, 3, none, 0, 0)
def mX0_leastSize : MI := (yX0_leastSize, cX0_leastSize, 3, (some .int), 1, 21)
def mX0_typedIn : MI := (yX0_typedIn, cX0_typedIn, 10, (some .int), 0, 0)
def mX0_joinPieces : MI := (yX0_joinPieces, cX0_joinPieces, 8, none, 1, 29)
def mX0_rank : MI := (yX0_rank, cX0_rank, 3, none, 3, 67)
def mX0_isRanked : MI := (yX0_isRanked, cX0_isRanked, 1, (some .boolean), 1, 21)
def mX0_rankWholes : MI := (yX0_rankWholes, cX0_rankWholes, 3, none, 2, 41)
def mX0_rankPairs : MI := (yX0_rankPairs, cX0_rankPairs, 6, none, 2, 41)
def mX0_rankTriples : MI := (yX0_rankTriples, cX0_rankTriples, 7, none, 2, 41)
def mX0_nextNearest : MI := (yX0_nextNearest, cX0_nextNearest, 2, (some (.object "ShownOnce$Program")), 1, 20)
def mX1_isDigit : MI := (yX1_isDigit, cX1_isDigit, 1, (some .boolean), 0, 0)
def mX1_isCapital : MI := (yX1_isCapital, cX1_isCapital, 1, (some .boolean), 0, 0)
def mX1_isSmall : MI := (yX1_isSmall, cX1_isSmall, 1, (some .boolean), 0, 0)
def mX1_isOfRun : MI := (yX1_isOfRun, cX1_isOfRun, 2, (some .boolean), 1, 20)
def mX1_turned : MI := (yX1_turned, cX1_turned, 2, (some .int), 1, 20)
def mX1_shapeKindOf : MI := (yX1_shapeKindOf, cX1_shapeKindOf, 1, (some .int), 1, 20)
def mX1_shapeOf : MI := (yX1_shapeOf, cX1_shapeOf, 6, (some .int), 2, 40)
def mX2_init : MI := (yX2_init, cX2_init, 1, none, 1, 20)
def mX2_clear : MI := (yX2_clear, cX2_clear, 2, none, 0, 0)
def mX2_add : MI := (yX2_add, cX2_add, 5, none, 1, 22)
def mX2_openGroup : MI := (yX2_openGroup, cX2_openGroup, 3, none, 0, 0)
def mX2_waysFrom : MI := (yX2_waysFrom, cX2_waysFrom, 3, (some .int), 0, 0)
def mX2_headOf : MI := (yX2_headOf, cX2_headOf, 4, (some .int), 0, 0)
def mX2_nextOf : MI := (yX2_nextOf, cX2_nextOf, 2, (some .int), 0, 0)
def mX2_pieceAt : MI := (yX2_pieceAt, cX2_pieceAt, 2, (some .int), 0, 0)
def mX3_init : MI := (yX3_init, cX3_init, 1, none, 1, 20)
def mX3_costOf : MI := (yX3_costOf, cX3_costOf, 1, (some .int), 0, 0)
def mX3_clear : MI := (yX3_clear, cX3_clear, 1, none, 0, 0)
def mX3_add : MI := (yX3_add, cX3_add, 2, none, 0, 0)
def mX3_copyOf : MI := (yX3_copyOf, cX3_copyOf, 3, none, 1, 21)
def mX3_endsWithCut : MI := (yX3_endsWithCut, cX3_endsWithCut, 1, (some .boolean), 0, 0)
def mX3_pieceCount : MI := (yX3_pieceCount, cX3_pieceCount, 1, (some .int), 0, 0)
def mX3_told : MI := (yX3_told, cX3_told, 4, (some .int), 1, 20)
def mX3_makeOf : MI := (yX3_makeOf, cX3_makeOf, 4, (some .boolean), 3, 67)
def mX3_writeTyped : MI := (yX3_writeTyped, cX3_writeTyped, 3, none, 1, 21)
def mX4_init : MI := (yX4_init, cX4_init, 2, none, 1, 20)
def mX4_clear : MI := (yX4_clear, cX4_clear, 1, none, 0, 0)
def mX4_add : MI := (yX4_add, cX4_add, 2, none, 0, 0)
def mX4_told : MI := (yX4_told, cX4_told, 2, (some .int), 0, 0)
def mX4_copyOf : MI := (yX4_copyOf, cX4_copyOf, 3, none, 1, 21)
def mX4_isLike : MI := (yX4_isLike, cX4_isLike, 3, (some .boolean), 0, 0)
def mX5_init : MI := (yX5_init, cX5_init, 1, none, 1, 20)
def mX5_isThere : MI := (yX5_isThere, cX5_isThere, 1, (some .boolean), 0, 0)
def mX5_renew : MI := (yX5_renew, cX5_renew, 3, none, 1, 23)
def mX5_vanish : MI := (yX5_vanish, cX5_vanish, 1, none, 0, 0)
def mX5_refusalOf : MI := (yX5_refusalOf, cX5_refusalOf, 2, (some .int), 0, 0)
def mX5_holds : MI := (yX5_holds, cX5_holds, 3, (some .boolean), 0, 0)
def mX5_write : MI := (yX5_write, cX5_write, 3, none, 0, 0)
def mX6_init : MI := (yX6_init, cX6_init, 2, none, 2, 41)
def mX6_take : MI := (yX6_take, cX6_take, 5, none, 4, 90)
def mX6_likeLatest : MI := (yX6_likeLatest, cX6_likeLatest, 2, (some .int), 1, 22)
def mX6_greatest : MI := (yX6_greatest, cX6_greatest, 3, (some .int), 1, 21)
def mX7_init : MI := (yX7_init, cX7_init, 1, none, 2, 41)
def mX7_read : MI := (yX7_read, cX7_read, 4, (some .int), 8, 177)
def mX7_canGoOn : MI := (yX7_canGoOn, cX7_canGoOn, 2, (some .boolean), 1, 20)
def mX7_look : MI := (yX7_look, cX7_look, 1, (some .int), 0, 0)
def mX7_readPiece : MI := (yX7_readPiece, cX7_readPiece, 1, (some .boolean), 7, 157)
def mX7_readTyped : MI := (yX7_readTyped, cX7_readTyped, 4, (some .boolean), 1, 21)
def mX7_readCut : MI := (yX7_readCut, cX7_readCut, 3, (some .boolean), 6, 135)
def mX7_readTurn : MI := (yX7_readTurn, cX7_readTurn, 2, (some .int), 1, 20)
def mX7_readPlace : MI := (yX7_readPlace, cX7_readPlace, 2, (some .int), 5, 114)
def mX7_readDistance : MI := (yX7_readDistance, cX7_readDistance, 3, (some .int), 1, 20)
def mX7_readRun : MI := (yX7_readRun, cX7_readRun, 4, (some .int), 4, 91)
def mX8_init : MI := (yX8_init, cX8_init, 1, none, 2, 41)
def mX8_findPlaces : MI := (yX8_findPlaces, cX8_findPlaces, 3, none, 3, 66)
def mX8_findRuns : MI := (yX8_findRuns, cX8_findRuns, 6, none, 2, 41)
def mX8_setRun : MI := (yX8_setRun, cX8_setRun, 4, none, 0, 0)
def mX8_cutInto : MI := (yX8_cutInto, cX8_cutInto, 7, (some .boolean), 2, 41)
def mX8_compareSpans : MI := (yX8_compareSpans, cX8_compareSpans, 3, none, 3, 64)
def mX8_markBeginnings : MI := (yX8_markBeginnings, cX8_markBeginnings, 4, none, 2, 41)
def mX8_markClosings : MI := (yX8_markClosings, cX8_markClosings, 4, none, 2, 41)
def mX8_spanBits : MI := (yX8_spanBits, cX8_spanBits, 5, (some .int), 0, 0)
def mX9_init : MI := (yX9_init, cX9_init, 2, none, 3, 62)
def mX9_type : MI := (yX9_type, cX9_type, 5, (some .int), 1, 22)
def mX9_thing : MI := (yX9_thing, cX9_thing, 2, (some .int), 5, 110)
def mX9_line : MI := (yX9_line, cX9_line, 8, (some .int), 5, 110)
def mX9_byteAt : MI := (yX9_byteAt, cX9_byteAt, 3, (some .int), 1, 21)
def mX9_place : MI := (yX9_place, cX9_place, 4, (some .int), 1, 21)
def mX9_made : MI := (yX9_made, cX9_made, 4, (some .int), 3, 67)
def mX9_show : MI := (yX9_show, cX9_show, 3, (some .int), 5, 107)
def mX9_forget : MI := (yX9_forget, cX9_forget, 2, (some .int), 1, 23)
def mX9_fitting : MI := (yX9_fitting, cX9_fitting, 2, (some .long), 6, 136)
def mX9_shortest : MI := (yX9_shortest, cX9_shortest, 3, (some .int), 6, 136)
def mX9_paper : MI := (yX9_paper, cX9_paper, 4, (some .int), 6, 136)
def mX9_differs : MI := (yX9_differs, cX9_differs, 3, (some .int), 6, 136)
def mX9_settle : MI := (yX9_settle, cX9_settle, 6, (some .int), 6, 136)
def mX9_odd : MI := (yX9_odd, cX9_odd, 3, (some .int), 6, 136)
def mX9_slips : MI := (yX9_slips, cX9_slips, 2, (some .int), 6, 141)
def mX9_state : MI := (yX9_state, cX9_state, 2, (some .int), 1, 21)
def mX9_doing : MI := (yX9_doing, cX9_doing, 8, (some .int), 6, 136)
def mX9_back : MI := (yX9_back, cX9_back, 5, (some .int), 0, 0)
def mX9_end : MI := (yX9_end, cX9_end, 4, (some .int), 1, 21)
def mX9_otherwise : MI := (yX9_otherwise, cX9_otherwise, 6, (some .int), 6, 136)
def mX9_keep : MI := (yX9_keep, cX9_keep, 2, (some .int), 6, 136)
def mX9_text : MI := (yX9_text, cX9_text, 2, (some .int), 9, 200)
def mX9_kept : MI := (yX9_kept, cX9_kept, 3, (some .int), 2, 43)
def mX9_run : MI := (yX9_run, cX9_run, 4, (some .int), 4, 90)
def mX9_count : MI := (yX9_count, cX9_count, 2, (some .int), 1, 23)
def mX9_sheet : MI := (yX9_sheet, cX9_sheet, 4, (some .int), 2, 45)
def mX9_drop : MI := (yX9_drop, cX9_drop, 4, (some .int), 1, 20)
def mX9_item : MI := (yX9_item, cX9_item, 7, (some .int), 1, 22)
def mX9_put : MI := (yX9_put, cX9_put, 9, (some .int), 3, 67)
def mX9_isThing : MI := (yX9_isThing, cX9_isThing, 2, (some .boolean), 0, 0)
def mX9_isProgram : MI := (yX9_isProgram, cX9_isProgram, 2, (some .boolean), 0, 0)
def mX9_isCut : MI := (yX9_isCut, cX9_isCut, 1, (some .boolean), 0, 0)
def mX9_isSheet : MI := (yX9_isSheet, cX9_isSheet, 1, (some .boolean), 0, 0)
def mX9_isLane : MI := (yX9_isLane, cX9_isLane, 1, (some .boolean), 0, 0)
def mX9_isLineByte : MI := (yX9_isLineByte, cX9_isLineByte, 1, (some .boolean), 0, 0)
def mX9_byteOf : MI := (yX9_byteOf, cX9_byteOf, 3, (some .int), 0, 0)
def mX9_addThing : MI := (yX9_addThing, cX9_addThing, 3, (some .int), 4, 88)
def mX9_showTapeOf : MI := (yX9_showTapeOf, cX9_showTapeOf, 2, (some .int), 4, 86)
def mX9_howMany : MI := (yX9_howMany, cX9_howMany, 4, (some .int), 0, 0)
def mX9_showingChanged : MI := (yX9_showingChanged, cX9_showingChanged, 1, none, 0, 0)
def mX9_fitRefusal : MI := (yX9_fitRefusal, cX9_fitRefusal, 1, (some .int), 5, 116)
def mX9_measureWithout : MI := (yX9_measureWithout, cX9_measureWithout, 3, none, 4, 94)
def mX9_leastSlips : MI := (yX9_leastSlips, cX9_leastSlips, 6, (some .int), 5, 116)
def mX9_spread : MI := (yX9_spread, cX9_spread, 5, (some .int), 0, 0)
def mX9_makesOddEnd : MI := (yX9_makesOddEnd, cX9_makesOddEnd, 4, (some .boolean), 4, 90)
def mX9_keepProgram : MI := (yX9_keepProgram, cX9_keepProgram, 2, (some .int), 2, 43)
def mX10_in : MI := (yX10_in, cX10_in, 6, (some .boolean), 0, 0)
def mX10_init : MI := (yX10_init, cX10_init, 2, none, 1, 20)
def mX10_isThing : MI := (yX10_isThing, cX10_isThing, 2, (some .boolean), 1, 25)
def mX10_type : MI := (yX10_type, cX10_type, 5, (some .int), 1, 25)
def mX10_addThing : MI := (yX10_addThing, cX10_addThing, 2, (some .int), 0, 0)
def mX10_thing : MI := (yX10_thing, cX10_thing, 3, (some .int), 1, 25)
def mX10_byteAt : MI := (yX10_byteAt, cX10_byteAt, 3, (some .int), 2, 46)
def mX10_isDigit : MI := (yX10_isDigit, cX10_isDigit, 1, (some .boolean), 1, 25)
def mX10_isCapital : MI := (yX10_isCapital, cX10_isCapital, 1, (some .boolean), 1, 25)
def mX10_isSmall : MI := (yX10_isSmall, cX10_isSmall, 1, (some .boolean), 1, 25)
def mX10_isSign : MI := (yX10_isSign, cX10_isSign, 1, (some .boolean), 2, 45)
def mX10_isOf : MI := (yX10_isOf, cX10_isOf, 2, (some .boolean), 3, 65)
def mX10_runOf : MI := (yX10_runOf, cX10_runOf, 10, (some .int), 4, 86)
def mX10_placeOf : MI := (yX10_placeOf, cX10_placeOf, 4, (some .int), 5, 115)
def mX10_place : MI := (yX10_place, cX10_place, 3, (some .int), 6, 138)
def mX10_turned : MI := (yX10_turned, cX10_turned, 2, (some .int), 2, 45)
def mX10_makePiece : MI := (yX10_makePiece, cX10_makePiece, 6, (some .boolean), 6, 138)
def mX10_byteOf : MI := (yX10_byteOf, cX10_byteOf, 2, (some .int), 0, 0)
def mX10_made : MI := (yX10_made, cX10_made, 4, (some .int), 7, 163)
def mX10_findShown : MI := (yX10_findShown, cX10_findShown, 3, none, 0, 0)
def mX10_countOf : MI := (yX10_countOf, cX10_countOf, 4, (some .int), 0, 0)
def mX10_show : MI := (yX10_show, cX10_show, 4, (some .int), 2, 46)
def mX10_forget : MI := (yX10_forget, cX10_forget, 2, (some .int), 2, 46)
def mX10_costOf : MI := (yX10_costOf, cX10_costOf, 1, (some .int), 0, 0)
def mX10_standsAt : MI := (yX10_standsAt, cX10_standsAt, 5, (some .boolean), 0, 0)
def mX10_longOf : MI := (yX10_longOf, cX10_longOf, 6, (some .int), 7, 163)
def mX10_typedAt : MI := (yX10_typedAt, cX10_typedAt, 8, (some .int), 0, 0)
def mX10_noteFront : MI := (yX10_noteFront, cX10_noteFront, 3, none, 0, 0)
def mX10_noteBehind : MI := (yX10_noteBehind, cX10_noteBehind, 3, none, 0, 0)
def mX10_findPieces : MI := (yX10_findPieces, cX10_findPieces, 7, none, 8, 188)
def mX10_leftOf : MI := (yX10_leftOf, cX10_leftOf, 6, (some .int), 0, 0)
def mX10_isAll : MI := (yX10_isAll, cX10_isAll, 4, (some .boolean), 0, 0)
def mX10_fittingOf : MI := (yX10_fittingOf, cX10_fittingOf, 7, (some .long), 1, 27)
def mX10_fitting : MI := (yX10_fitting, cX10_fitting, 2, (some .long), 9, 214)
def mX10_noteNear : MI := (yX10_noteNear, cX10_noteNear, 4, none, 0, 0)
def mX10_noteWith : MI := (yX10_noteWith, cX10_noteWith, 6, none, 1, 23)
def mX10_findNearest : MI := (yX10_findNearest, cX10_findNearest, 5, none, 9, 214)
def mX10_lacksFit : MI := (yX10_lacksFit, cX10_lacksFit, 1, (some .int), 10, 238)
def mX10_runRow : MI := (yX10_runRow, cX10_runRow, 6, (some .boolean), 7, 163)
def mX10_toldOf : MI := (yX10_toldOf, cX10_toldOf, 6, (some .int), 1, 20)
def mX10_shortest : MI := (yX10_shortest, cX10_shortest, 3, (some .int), 11, 258)
def mX10_paper : MI := (yX10_paper, cX10_paper, 4, (some .int), 11, 258)
def mX10_findEnds : MI := (yX10_findEnds, cX10_findEnds, 4, none, 8, 188)
def mX10_areAlike : MI := (yX10_areAlike, cX10_areAlike, 5, (some .boolean), 0, 0)
def mX10_sortEnds : MI := (yX10_sortEnds, cX10_sortEnds, 10, (some .int), 9, 211)
def mX10_differs : MI := (yX10_differs, cX10_differs, 3, (some .int), 11, 258)
def mX10_settle : MI := (yX10_settle, cX10_settle, 6, (some .int), 11, 258)
def mX10_kindOf : MI := (yX10_kindOf, cX10_kindOf, 1, (some .int), 2, 45)
def mX10_findShape : MI := (yX10_findShape, cX10_findShape, 6, none, 3, 65)
def mX10_hasShape : MI := (yX10_hasShape, cX10_hasShape, 6, (some .boolean), 3, 65)
def mX10_isOdd : MI := (yX10_isOdd, cX10_isOdd, 4, (some .boolean), 8, 188)
def mX10_odd : MI := (yX10_odd, cX10_odd, 3, (some .int), 11, 258)
def mX10_ones : MI := (yX10_ones, cX10_ones, 3, (some .int), 0, 0)
def mX10_fitsBut : MI := (yX10_fitsBut, cX10_fitsBut, 2, (some .boolean), 9, 214)
def mX10_slips : MI := (yX10_slips, cX10_slips, 5, (some .int), 10, 235)
def mX10_state : MI := (yX10_state, cX10_state, 2, (some .int), 2, 46)
def mX10_doing : MI := (yX10_doing, cX10_doing, 8, (some .int), 11, 258)
def mX10_back : MI := (yX10_back, cX10_back, 3, (some .int), 0, 0)
def mX10_end : MI := (yX10_end, cX10_end, 3, (some .int), 2, 46)
def mX10_otherwise : MI := (yX10_otherwise, cX10_otherwise, 6, (some .int), 11, 258)
def mX10_addKept : MI := (yX10_addKept, cX10_addKept, 3, (some .int), 0, 0)
def mX10_keep : MI := (yX10_keep, cX10_keep, 2, (some .int), 11, 258)
def mX10_next : MI := (yX10_next, cX10_next, 1, (some .int), 0, 0)
def mX10_oneOf : MI := (yX10_oneOf, cX10_oneOf, 7, (some .int), 1, 20)
def mX10_readPlace : MI := (yX10_readPlace, cX10_readPlace, 4, (some .int), 2, 46)
def mX10_readTyped : MI := (yX10_readTyped, cX10_readTyped, 3, (some .int), 0, 0)
def mX10_readCut : MI := (yX10_readCut, cX10_readCut, 4, (some .int), 3, 69)
def mX10_readProgram : MI := (yX10_readProgram, cX10_readProgram, 3, (some .boolean), 4, 92)
def mX10_text : MI := (yX10_text, cX10_text, 3, (some .int), 5, 114)
def mX10_isKept : MI := (yX10_isKept, cX10_isKept, 2, (some .boolean), 1, 25)
def mX10_kept : MI := (yX10_kept, cX10_kept, 3, (some .int), 2, 46)
def mX10_run : MI := (yX10_run, cX10_run, 4, (some .int), 8, 188)
def mX10_count : MI := (yX10_count, cX10_count, 2, (some .int), 1, 25)
def mX10_isSheet : MI := (yX10_isSheet, cX10_isSheet, 2, (some .boolean), 1, 25)
def mX10_sheet : MI := (yX10_sheet, cX10_sheet, 5, (some .int), 2, 46)
def mX10_drop : MI := (yX10_drop, cX10_drop, 2, (some .int), 1, 25)
def mX10_lacksRow : MI := (yX10_lacksRow, cX10_lacksRow, 3, (some .int), 0, 0)
def mX10_item : MI := (yX10_item, cX10_item, 6, (some .int), 2, 46)
def mX10_line : MI := (yX10_line, cX10_line, 8, (some .int), 2, 46)
def mX10_put : MI := (yX10_put, cX10_put, 8, (some .int), 7, 163)
def mJ6_bitCount_0f7a4 : MI := (yJ6_bitCount_0f7a4, cJ6_bitCount_0f7a4, 1, (some .int), 0, 0)
def mJ9_max_7cf53 : MI := (yJ9_max_7cf53, cJ9_max_7cf53, 2, (some .int), 0, 0)
def mJ9_min_7cf53 : MI := (yJ9_min_7cf53, cJ9_min_7cf53, 2, (some .int), 0, 0)
def mJ0_length_8abf5 : MI := (yJ0_length_8abf5, cJ0_length_8abf5, 1, (some .int), 1, 20)
def mJ0_indexOf_0f7a4 : MI := (yJ0_indexOf_0f7a4, cJ0_indexOf_0f7a4, 2, (some .int), 3, 70)
def mJ0_indexOf_7cf53 : MI := (yJ0_indexOf_7cf53, cJ0_indexOf_7cf53, 3, (some .int), 2, 48)
def mJ0_coder_7d493 : MI := (yJ0_coder_7d493, cJ0_coder_7d493, 1, (some .byte), 0, 0)
def mJ0_isLatin1_aae02 : MI := (yJ0_isLatin1_aae02, cJ0_isLatin1_aae02, 1, (some .boolean), 0, 0)
def mJ1_canEncode_9a6ad : MI := (yJ1_canEncode_9a6ad, cJ1_canEncode_9a6ad, 1, (some .boolean), 0, 0)
def mJ1_indexOf_4cfef : MI := (yJ1_indexOf_4cfef, cJ1_indexOf_4cfef, 4, (some .int), 1, 25)
def mJ1_indexOfChar_4cfef : MI := (yJ1_indexOfChar_4cfef, cJ1_indexOfChar_4cfef, 6, (some .int), 0, 0)
def mJ7_fill_53178 : MI := (yJ7_fill_53178, cJ7_fill_53178, 4, none, 0, 0)
def mJ7_fill_031fb : MI := (yJ7_fill_031fb, cJ7_fill_031fb, 4, none, 0, 0)
end
section
/-! what the pools say: fields, callees, calls, constants (written by wip/whole/gen_facts.py) -/
theorem fX0_11 : flB RX0 11 0 0 := ⟨(RX0, TX0, 17), rfl, by decide, gmem 188 (by decide +kernel) rfl, rfl⟩
theorem fX0_17 : flB RX0 17 0 1 := ⟨(RX0, TX0, 17), rfl, by decide, gmem 189 (by decide +kernel) rfl, rfl⟩
theorem fX0_21 : flB RX0 21 0 2 := ⟨(RX0, TX0, 17), rfl, by decide, gmem 190 (by decide +kernel) rfl, rfl⟩
theorem fX0_24 : flB RX0 24 0 3 := ⟨(RX0, TX0, 17), rfl, by decide, gmem 191 (by decide +kernel) rfl, rfl⟩
theorem fX0_27 : flB RX0 27 0 4 := ⟨(RX0, TX0, 17), rfl, by decide, gmem 192 (by decide +kernel) rfl, rfl⟩
theorem fX0_31 : flB RX0 31 0 5 := ⟨(RX0, TX0, 17), rfl, by decide, gmem 193 (by decide +kernel) rfl, rfl⟩
theorem fX0_36 : flB RX0 36 0 6 := ⟨(RX0, TX0, 17), rfl, by decide, gmem 194 (by decide +kernel) rfl, rfl⟩
theorem fX0_39 : flB RX0 39 0 7 := ⟨(RX0, TX0, 17), rfl, by decide, gmem 195 (by decide +kernel) rfl, rfl⟩
theorem fX0_42 : flB RX0 42 0 8 := ⟨(RX0, TX0, 17), rfl, by decide, gmem 196 (by decide +kernel) rfl, rfl⟩
theorem fX0_46 : flB RX0 46 0 9 := ⟨(RX0, TX0, 17), rfl, by decide, gmem 197 (by decide +kernel) rfl, rfl⟩
theorem fX0_50 : flB RX0 50 0 10 := ⟨(RX0, TX0, 17), rfl, by decide, gmem 198 (by decide +kernel) rfl, rfl⟩
theorem fX0_54 : flB RX0 54 0 11 := ⟨(RX0, TX0, 17), rfl, by decide, gmem 199 (by decide +kernel) rfl, rfl⟩
theorem fX0_57 : flB RX0 57 0 12 := ⟨(RX0, TX0, 17), rfl, by decide, gmem 200 (by decide +kernel) rfl, rfl⟩
theorem fX0_60 : flB RX0 60 0 13 := ⟨(RX0, TX0, 17), rfl, by decide, gmem 201 (by decide +kernel) rfl, rfl⟩
theorem fX0_63 : flB RX0 63 0 14 := ⟨(RX0, TX0, 17), rfl, by decide, gmem 202 (by decide +kernel) rfl, rfl⟩
theorem fX0_68 : flB RX0 68 0 15 := ⟨(RX0, TX0, 17), rfl, by decide, gmem 203 (by decide +kernel) rfl, rfl⟩
theorem fX0_72 : flB RX0 72 0 16 := ⟨(RX0, TX0, 17), rfl, by decide, gmem 206 (by decide +kernel) rfl, rfl⟩
theorem fX0_79 : flB RX0 79 7 2 := ⟨(RX8, TX8, 5), rfl, by decide, gmem 300 (by decide +kernel) rfl, rfl⟩
theorem fX0_83 : flB RX0 83 3 1 := ⟨(RX4, TX4, 2), rfl, by decide, gmem 119 (by decide +kernel) rfl, rfl⟩
theorem fX0_102 : flB RX0 102 7 1 := ⟨(RX8, TX8, 5), rfl, by decide, gmem 298 (by decide +kernel) rfl, rfl⟩
theorem fX0_127 : flB RX0 127 3 0 := ⟨(RX4, TX4, 2), rfl, by decide, gmem 114 (by decide +kernel) rfl, rfl⟩
theorem fX1_21 : flB RX1 21 3 1 := ⟨(RX4, TX4, 2), rfl, by decide, gmem 121 (by decide +kernel) rfl, rfl⟩
theorem fX1_27 : flB RX1 27 3 0 := ⟨(RX4, TX4, 2), rfl, by decide, gmem 113 (by decide +kernel) rfl, rfl⟩
theorem kX2_11 : Cond.constant RX2 11 (65536) ∈ gTs := gmem 143 (by decide +kernel) rfl
theorem fX2_12 : flB RX2 12 1 0 := ⟨(RX2, TX2, 9), rfl, by decide, gmem 144 (by decide +kernel) rfl, rfl⟩
theorem fX2_16 : flB RX2 16 1 1 := ⟨(RX2, TX2, 9), rfl, by decide, gmem 145 (by decide +kernel) rfl, rfl⟩
theorem fX2_20 : flB RX2 20 1 2 := ⟨(RX2, TX2, 9), rfl, by decide, gmem 146 (by decide +kernel) rfl, rfl⟩
theorem fX2_23 : flB RX2 23 1 3 := ⟨(RX2, TX2, 9), rfl, by decide, gmem 147 (by decide +kernel) rfl, rfl⟩
theorem fX2_26 : flB RX2 26 1 4 := ⟨(RX2, TX2, 9), rfl, by decide, gmem 148 (by decide +kernel) rfl, rfl⟩
theorem fX2_29 : flB RX2 29 1 5 := ⟨(RX2, TX2, 9), rfl, by decide, gmem 149 (by decide +kernel) rfl, rfl⟩
theorem fX2_33 : flB RX2 33 1 6 := ⟨(RX2, TX2, 9), rfl, by decide, gmem 150 (by decide +kernel) rfl, rfl⟩
theorem fX2_36 : flB RX2 36 1 7 := ⟨(RX2, TX2, 9), rfl, by decide, gmem 151 (by decide +kernel) rfl, rfl⟩
theorem fX2_39 : flB RX2 39 1 8 := ⟨(RX2, TX2, 9), rfl, by decide, gmem 152 (by decide +kernel) rfl, rfl⟩
theorem fX3_9 : flB RX3 9 2 0 := ⟨(RX3, TX3, 2), rfl, by decide, gmem 181 (by decide +kernel) rfl, rfl⟩
theorem fX3_15 : flB RX3 15 2 1 := ⟨(RX3, TX3, 2), rfl, by decide, gmem 182 (by decide +kernel) rfl, rfl⟩
theorem kX3_19 : Cond.constant RX3 19 (16777216) ∈ gTs := gmem 573 (by decide +kernel) rfl
theorem fX4_9 : flB RX4 9 3 0 := ⟨(RX4, TX4, 2), rfl, by decide, gmem 110 (by decide +kernel) rfl, rfl⟩
theorem fX4_15 : flB RX4 15 3 1 := ⟨(RX4, TX4, 2), rfl, by decide, gmem 116 (by decide +kernel) rfl, rfl⟩
theorem fX5_9 : flB RX5 9 4 0 := ⟨(RX5, TX5, 3), rfl, by decide, gmem 322 (by decide +kernel) rfl, rfl⟩
theorem fX5_15 : flB RX5 15 4 1 := ⟨(RX5, TX5, 3), rfl, by decide, gmem 324 (by decide +kernel) rfl, rfl⟩
theorem fX5_19 : flB RX5 19 4 2 := ⟨(RX5, TX5, 3), rfl, by decide, gmem 326 (by decide +kernel) rfl, rfl⟩
theorem fX6_13 : flB RX6 13 5 0 := ⟨(RX6, TX6, 3), rfl, by decide, gmem 252 (by decide +kernel) rfl, rfl⟩
theorem fX6_19 : flB RX6 19 5 1 := ⟨(RX6, TX6, 3), rfl, by decide, gmem 253 (by decide +kernel) rfl, rfl⟩
theorem fX6_23 : flB RX6 23 5 2 := ⟨(RX6, TX6, 3), rfl, by decide, gmem 254 (by decide +kernel) rfl, rfl⟩
theorem fX6_30 : flB RX6 30 0 16 := ⟨(RX0, TX0, 17), rfl, by decide, gmem 207 (by decide +kernel) rfl, rfl⟩
theorem fX6_33 : flB RX6 33 0 15 := ⟨(RX0, TX0, 17), rfl, by decide, gmem 204 (by decide +kernel) rfl, rfl⟩
theorem fX7_12 : flB RX7 12 6 0 := ⟨(RX7, TX7, 3), rfl, by decide, gmem 274 (by decide +kernel) rfl, rfl⟩
theorem fX7_23 : flB RX7 23 6 1 := ⟨(RX7, TX7, 3), rfl, by decide, gmem 276 (by decide +kernel) rfl, rfl⟩
theorem fX7_27 : flB RX7 27 6 2 := ⟨(RX7, TX7, 3), rfl, by decide, gmem 277 (by decide +kernel) rfl, rfl⟩
theorem fX7_55 : flB RX7 55 3 1 := ⟨(RX4, TX4, 2), rfl, by decide, gmem 120 (by decide +kernel) rfl, rfl⟩
theorem fX7_58 : flB RX7 58 3 0 := ⟨(RX4, TX4, 2), rfl, by decide, gmem 112 (by decide +kernel) rfl, rfl⟩
theorem kX7_68 : Cond.constant RX7 68 (16777216) ∈ gTs := gmem 787 (by decide +kernel) rfl
theorem fX8_14 : flB RX8 14 7 0 := ⟨(RX8, TX8, 5), rfl, by decide, gmem 294 (by decide +kernel) rfl, rfl⟩
theorem fX8_20 : flB RX8 20 7 1 := ⟨(RX8, TX8, 5), rfl, by decide, gmem 296 (by decide +kernel) rfl, rfl⟩
theorem fX8_24 : flB RX8 24 7 2 := ⟨(RX8, TX8, 5), rfl, by decide, gmem 299 (by decide +kernel) rfl, rfl⟩
theorem fX8_27 : flB RX8 27 7 3 := ⟨(RX8, TX8, 5), rfl, by decide, gmem 302 (by decide +kernel) rfl, rfl⟩
theorem fX8_31 : flB RX8 31 7 4 := ⟨(RX8, TX8, 5), rfl, by decide, gmem 304 (by decide +kernel) rfl, rfl⟩
theorem fX8_35 : flB RX8 35 3 1 := ⟨(RX4, TX4, 2), rfl, by decide, gmem 117 (by decide +kernel) rfl, rfl⟩
theorem fX8_44 : flB RX8 44 3 0 := ⟨(RX4, TX4, 2), rfl, by decide, gmem 111 (by decide +kernel) rfl, rfl⟩
theorem fX9_14 : flB RX9 14 8 0 := ⟨(RX9, TX9, 14), rfl, by decide, gmem 334 (by decide +kernel) rfl, rfl⟩
theorem fX9_18 : flB RX9 18 8 1 := ⟨(RX9, TX9, 14), rfl, by decide, gmem 335 (by decide +kernel) rfl, rfl⟩
theorem fX9_23 : flB RX9 23 8 2 := ⟨(RX9, TX9, 14), rfl, by decide, gmem 336 (by decide +kernel) rfl, rfl⟩
theorem fX9_27 : flB RX9 27 8 3 := ⟨(RX9, TX9, 14), rfl, by decide, gmem 337 (by decide +kernel) rfl, rfl⟩
theorem fX9_34 : flB RX9 34 8 4 := ⟨(RX9, TX9, 14), rfl, by decide, gmem 338 (by decide +kernel) rfl, rfl⟩
theorem fX9_38 : flB RX9 38 8 5 := ⟨(RX9, TX9, 14), rfl, by decide, gmem 339 (by decide +kernel) rfl, rfl⟩
theorem fX9_42 : flB RX9 42 8 6 := ⟨(RX9, TX9, 14), rfl, by decide, gmem 340 (by decide +kernel) rfl, rfl⟩
theorem fX9_48 : flB RX9 48 8 7 := ⟨(RX9, TX9, 14), rfl, by decide, gmem 341 (by decide +kernel) rfl, rfl⟩
theorem fX9_52 : flB RX9 52 8 8 := ⟨(RX9, TX9, 14), rfl, by decide, gmem 342 (by decide +kernel) rfl, rfl⟩
theorem fX9_56 : flB RX9 56 8 9 := ⟨(RX9, TX9, 14), rfl, by decide, gmem 343 (by decide +kernel) rfl, rfl⟩
theorem fX9_61 : flB RX9 61 8 10 := ⟨(RX9, TX9, 14), rfl, by decide, gmem 344 (by decide +kernel) rfl, rfl⟩
theorem fX9_65 : flB RX9 65 8 11 := ⟨(RX9, TX9, 14), rfl, by decide, gmem 345 (by decide +kernel) rfl, rfl⟩
theorem fX9_71 : flB RX9 71 8 12 := ⟨(RX9, TX9, 14), rfl, by decide, gmem 346 (by decide +kernel) rfl, rfl⟩
theorem fX9_77 : flB RX9 77 8 13 := ⟨(RX9, TX9, 14), rfl, by decide, gmem 347 (by decide +kernel) rfl, rfl⟩
theorem fX9_92 : flB RX9 92 3 1 := ⟨(RX4, TX4, 2), rfl, by decide, gmem 118 (by decide +kernel) rfl, rfl⟩
theorem fX9_119 : flB RX9 119 4 0 := ⟨(RX5, TX5, 3), rfl, by decide, gmem 323 (by decide +kernel) rfl, rfl⟩
theorem fX9_125 : flB RX9 125 7 0 := ⟨(RX8, TX8, 5), rfl, by decide, gmem 295 (by decide +kernel) rfl, rfl⟩
theorem fX9_131 : flB RX9 131 7 1 := ⟨(RX8, TX8, 5), rfl, by decide, gmem 297 (by decide +kernel) rfl, rfl⟩
theorem fX9_145 : flB RX9 145 7 3 := ⟨(RX8, TX8, 5), rfl, by decide, gmem 303 (by decide +kernel) rfl, rfl⟩
theorem kX9_154 : Cond.constantLong RX9 154 (-1) ∈ gTs := gmem 521 (by decide +kernel) rfl
theorem kX9_160 : Cond.constantLong RX9 160 (-2) ∈ gTs := gmem 647 (by decide +kernel) rfl
theorem fX9_163 : flB RX9 163 0 15 := ⟨(RX0, TX0, 17), rfl, by decide, gmem 205 (by decide +kernel) rfl, rfl⟩
theorem fX9_175 : flB RX9 175 5 2 := ⟨(RX6, TX6, 3), rfl, by decide, gmem 255 (by decide +kernel) rfl, rfl⟩
theorem fX9_188 : flB RX9 188 7 2 := ⟨(RX8, TX8, 5), rfl, by decide, gmem 301 (by decide +kernel) rfl, rfl⟩
theorem fX9_206 : flB RX9 206 6 0 := ⟨(RX7, TX7, 3), rfl, by decide, gmem 275 (by decide +kernel) rfl, rfl⟩
theorem fX9_221 : flB RX9 221 4 1 := ⟨(RX5, TX5, 3), rfl, by decide, gmem 325 (by decide +kernel) rfl, rfl⟩
theorem fX9_228 : flB RX9 228 3 0 := ⟨(RX4, TX4, 2), rfl, by decide, gmem 115 (by decide +kernel) rfl, rfl⟩
theorem fX10_7 : flB RX10 7 9 1 := ⟨(RX10, TX10, 34), rfl, by decide, gmem 964 (by decide +kernel) rfl, rfl⟩
theorem fX10_13 : flB RX10 13 9 2 := ⟨(RX10, TX10, 34), rfl, by decide, gmem 965 (by decide +kernel) rfl, rfl⟩
theorem fX10_16 : flB RX10 16 9 3 := ⟨(RX10, TX10, 34), rfl, by decide, gmem 966 (by decide +kernel) rfl, rfl⟩
theorem fX10_19 : flB RX10 19 9 4 := ⟨(RX10, TX10, 34), rfl, by decide, gmem 967 (by decide +kernel) rfl, rfl⟩
theorem fX10_22 : flB RX10 22 9 5 := ⟨(RX10, TX10, 34), rfl, by decide, gmem 968 (by decide +kernel) rfl, rfl⟩
theorem fX10_25 : flB RX10 25 9 6 := ⟨(RX10, TX10, 34), rfl, by decide, gmem 969 (by decide +kernel) rfl, rfl⟩
theorem fX10_28 : flB RX10 28 9 8 := ⟨(RX10, TX10, 34), rfl, by decide, gmem 971 (by decide +kernel) rfl, rfl⟩
theorem fX10_31 : flB RX10 31 9 11 := ⟨(RX10, TX10, 34), rfl, by decide, gmem 974 (by decide +kernel) rfl, rfl⟩
theorem fX10_34 : flB RX10 34 9 14 := ⟨(RX10, TX10, 34), rfl, by decide, gmem 977 (by decide +kernel) rfl, rfl⟩
theorem fX10_37 : flB RX10 37 9 16 := ⟨(RX10, TX10, 34), rfl, by decide, gmem 979 (by decide +kernel) rfl, rfl⟩
theorem fX10_40 : flB RX10 40 9 17 := ⟨(RX10, TX10, 34), rfl, by decide, gmem 980 (by decide +kernel) rfl, rfl⟩
theorem fX10_43 : flB RX10 43 9 19 := ⟨(RX10, TX10, 34), rfl, by decide, gmem 982 (by decide +kernel) rfl, rfl⟩
theorem fX10_46 : flB RX10 46 9 20 := ⟨(RX10, TX10, 34), rfl, by decide, gmem 983 (by decide +kernel) rfl, rfl⟩
theorem kX10_49 : Cond.constant RX10 49 (65536) ∈ gTs := gmem 962 (by decide +kernel) rfl
theorem fX10_50 : flB RX10 50 9 21 := ⟨(RX10, TX10, 34), rfl, by decide, gmem 984 (by decide +kernel) rfl, rfl⟩
theorem fX10_53 : flB RX10 53 9 23 := ⟨(RX10, TX10, 34), rfl, by decide, gmem 986 (by decide +kernel) rfl, rfl⟩
theorem fX10_56 : flB RX10 56 9 24 := ⟨(RX10, TX10, 34), rfl, by decide, gmem 987 (by decide +kernel) rfl, rfl⟩
theorem fX10_59 : flB RX10 59 9 25 := ⟨(RX10, TX10, 34), rfl, by decide, gmem 988 (by decide +kernel) rfl, rfl⟩
theorem fX10_62 : flB RX10 62 9 26 := ⟨(RX10, TX10, 34), rfl, by decide, gmem 989 (by decide +kernel) rfl, rfl⟩
theorem fX10_65 : flB RX10 65 9 29 := ⟨(RX10, TX10, 34), rfl, by decide, gmem 992 (by decide +kernel) rfl, rfl⟩
theorem fX10_68 : flB RX10 68 9 30 := ⟨(RX10, TX10, 34), rfl, by decide, gmem 993 (by decide +kernel) rfl, rfl⟩
theorem fX10_71 : flB RX10 71 9 31 := ⟨(RX10, TX10, 34), rfl, by decide, gmem 994 (by decide +kernel) rfl, rfl⟩
theorem fX10_74 : flB RX10 74 9 32 := ⟨(RX10, TX10, 34), rfl, by decide, gmem 995 (by decide +kernel) rfl, rfl⟩
theorem fX10_77 : flB RX10 77 9 33 := ⟨(RX10, TX10, 34), rfl, by decide, gmem 996 (by decide +kernel) rfl, rfl⟩
theorem fX10_80 : flB RX10 80 9 0 := ⟨(RX10, TX10, 34), rfl, by decide, gmem 963 (by decide +kernel) rfl, rfl⟩
theorem kX10_88 : Cond.constantLong RX10 88 (8) ∈ gTs := gmem 1070 (by decide +kernel) rfl
theorem kX10_90 : Cond.constantLong RX10 90 (255) ∈ gTs := gmem 1074 (by decide +kernel) rfl
theorem kX10_92 : Cond.constantLong RX10 92 (32) ∈ gTs := gmem 1075 (by decide +kernel) rfl
theorem kX10_94 : Cond.constantLong RX10 94 (126) ∈ gTs := gmem 1076 (by decide +kernel) rfl
theorem fX10_96 : flB RX10 96 9 9 := ⟨(RX10, TX10, 34), rfl, by decide, gmem 972 (by decide +kernel) rfl, rfl⟩
theorem kX10_99 : Cond.constantLong RX10 99 (16) ∈ gTs := gmem 1081 (by decide +kernel) rfl
theorem kX10_109 : Cond.constantLong RX10 109 (-1) ∈ gTs := gmem 1094 (by decide +kernel) rfl
theorem kX10_111 : Cond.constantLong RX10 111 (48) ∈ gTs := gmem 1114 (by decide +kernel) rfl
theorem kX10_113 : Cond.constantLong RX10 113 (57) ∈ gTs := gmem 1115 (by decide +kernel) rfl
theorem kX10_115 : Cond.constantLong RX10 115 (65) ∈ gTs := gmem 1119 (by decide +kernel) rfl
theorem kX10_117 : Cond.constantLong RX10 117 (90) ∈ gTs := gmem 1120 (by decide +kernel) rfl
theorem kX10_119 : Cond.constantLong RX10 119 (97) ∈ gTs := gmem 1124 (by decide +kernel) rfl
theorem kX10_121 : Cond.constantLong RX10 121 (122) ∈ gTs := gmem 1125 (by decide +kernel) rfl
theorem kX10_143 : Cond.constantLong RX10 143 (39) ∈ gTs := gmem 1099 (by decide +kernel) rfl
theorem kX10_149 : Cond.constant RX10 149 (16777216) ∈ gTs := gmem 1138 (by decide +kernel) rfl
theorem fX10_150 : flB RX10 150 9 12 := ⟨(RX10, TX10, 34), rfl, by decide, gmem 975 (by decide +kernel) rfl, rfl⟩
theorem kX10_156 : Cond.constantLong RX10 156 (4799) ∈ gTs := gmem 1133 (by decide +kernel) rfl
theorem fX10_164 : flB RX10 164 9 13 := ⟨(RX10, TX10, 34), rfl, by decide, gmem 976 (by decide +kernel) rfl, rfl⟩
theorem kX10_167 : Cond.constantLong RX10 167 (12) ∈ gTs := gmem 1150 (by decide +kernel) rfl
theorem fX10_175 : flB RX10 175 9 15 := ⟨(RX10, TX10, 34), rfl, by decide, gmem 978 (by decide +kernel) rfl, rfl⟩
theorem fX10_178 : flB RX10 178 9 18 := ⟨(RX10, TX10, 34), rfl, by decide, gmem 981 (by decide +kernel) rfl, rfl⟩
theorem kX10_201 : Cond.constantLong RX10 201 (3) ∈ gTs := gmem 1163 (by decide +kernel) rfl
theorem kX10_203 : Cond.constantLong RX10 203 (-2) ∈ gTs := gmem 1164 (by decide +kernel) rfl
theorem fX10_216 : flB RX10 216 9 22 := ⟨(RX10, TX10, 34), rfl, by decide, gmem 985 (by decide +kernel) rfl, rfl⟩
theorem kX10_233 : Cond.constantLong RX10 233 (4) ∈ gTs := gmem 1209 (by decide +kernel) rfl
theorem fX10_256 : flB RX10 256 9 27 := ⟨(RX10, TX10, 34), rfl, by decide, gmem 990 (by decide +kernel) rfl, rfl⟩
theorem fX10_278 : flB RX10 278 9 7 := ⟨(RX10, TX10, 34), rfl, by decide, gmem 970 (by decide +kernel) rfl, rfl⟩
theorem fX10_281 : flB RX10 281 9 28 := ⟨(RX10, TX10, 34), rfl, by decide, gmem 991 (by decide +kernel) rfl, rfl⟩
theorem fX10_288 : flB RX10 288 9 10 := ⟨(RX10, TX10, 34), rfl, by decide, gmem 973 (by decide +kernel) rfl, rfl⟩
theorem kX10_294 : Cond.constantLong RX10 294 (1717920353) ∈ gTs := gmem 1342 (by decide +kernel) rfl
theorem kX10_300 : Cond.constantLong RX10 300 (7) ∈ gTs := gmem 1347 (by decide +kernel) rfl
theorem kX10_302 : Cond.constantLong RX10 302 (1685545843) ∈ gTs := gmem 1348 (by decide +kernel) rfl
theorem kX10_304 : Cond.constantLong RX10 304 (3224186) ∈ gTs := gmem 1349 (by decide +kernel) rfl
theorem kX10_322 : Cond.constantLong RX10 322 (2) ∈ gTs := gmem 1373 (by decide +kernel) rfl
theorem kJ6_265 : Cond.constant RJ6 265 (1431655765) ∈ gTs := gmem 724 (by decide +kernel) rfl
theorem kJ6_266 : Cond.constant RJ6 266 (858993459) ∈ gTs := gmem 725 (by decide +kernel) rfl
theorem kJ6_267 : Cond.constant RJ6 267 (252645135) ∈ gTs := gmem 726 (by decide +kernel) rfl
theorem zX2_init : mI mX2_init 0 := ⟨⟨gmem 140 (by decide +kernel) rfl, rfl⟩, ⟨gmem 80 (by decide +kernel) rfl, gmem 141 (by decide +kernel) rfl, by decide +kernel, by decide +kernel⟩, rfl⟩
theorem lX0_init_49 : lkN mX0_init mX2_init 49 := ⟨by decide +kernel, by decide⟩
theorem zX3_init : mI mX3_init 0 := ⟨⟨gmem 178 (by decide +kernel) rfl, rfl⟩, ⟨gmem 81 (by decide +kernel) rfl, gmem 179 (by decide +kernel) rfl, by decide +kernel, by decide +kernel⟩, rfl⟩
theorem lX0_init_75 : lkN mX0_init mX3_init 75 := ⟨by decide +kernel, by decide⟩
theorem zX2_clear : mV mX2_clear 0 := ⟨⟨gmem 535 (by decide +kernel) rfl, gmem 536 (by decide +kernel) rfl⟩, ⟨gmem 80 (by decide +kernel) rfl, gmem 537 (by decide +kernel) rfl, by decide +kernel, by decide +kernel⟩⟩
theorem lX0_clear_76 : lkB mX0_clear mX2_clear 76 := ⟨gmem 534 (by decide +kernel) rfl, by decide⟩
theorem zX0_findCommonPlaces : mV mX0_findCommonPlaces 0 := ⟨⟨gmem 548 (by decide +kernel) rfl, gmem 11 (by decide +kernel) rfl⟩, ⟨gmem 79 (by decide +kernel) rfl, gmem 549 (by decide +kernel) rfl, by decide +kernel, by decide +kernel⟩⟩
theorem lX0_measure_88 : lkB mX0_measure mX0_findCommonPlaces 88 := ⟨gmem 546 (by decide +kernel) rfl, by decide⟩
theorem zX0_addCuts : mV mX0_addCuts 2 := ⟨⟨gmem 552 (by decide +kernel) rfl, gmem 12 (by decide +kernel) rfl⟩, ⟨gmem 79 (by decide +kernel) rfl, gmem 553 (by decide +kernel) rfl, by decide +kernel, by decide +kernel⟩⟩
theorem lX0_measure_91 : lkB mX0_measure mX0_addCuts 91 := ⟨gmem 550 (by decide +kernel) rfl, by decide⟩
theorem zX0_addTyped : mV mX0_addTyped 1 := ⟨⟨gmem 576 (by decide +kernel) rfl, gmem 15 (by decide +kernel) rfl⟩, ⟨gmem 79 (by decide +kernel) rfl, gmem 577 (by decide +kernel) rfl, by decide +kernel, by decide +kernel⟩⟩
theorem lX0_measure_95 : lkB mX0_measure mX0_addTyped 95 := ⟨gmem 574 (by decide +kernel) rfl, by decide⟩
theorem zX0_joinPieces : mV mX0_joinPieces 0 := ⟨⟨gmem 591 (by decide +kernel) rfl, gmem 18 (by decide +kernel) rfl⟩, ⟨gmem 79 (by decide +kernel) rfl, gmem 592 (by decide +kernel) rfl, by decide +kernel, by decide +kernel⟩⟩
theorem lX0_measure_99 : lkB mX0_measure mX0_joinPieces 99 := ⟨gmem 589 (by decide +kernel) rfl, by decide⟩
theorem zX8_spanBits : mV mX8_spanBits 2 := ⟨⟨gmem 555 (by decide +kernel) rfl, gmem 556 (by decide +kernel) rfl⟩, ⟨gmem 84 (by decide +kernel) rfl, gmem 557 (by decide +kernel) rfl, by decide +kernel, by decide +kernel⟩⟩
theorem lX0_addCuts_105 : lkB mX0_addCuts mX8_spanBits 105 := ⟨gmem 554 (by decide +kernel) rfl, by decide⟩
theorem zX0_addFirst : mV mX0_addFirst 2 := ⟨⟨gmem 560 (by decide +kernel) rfl, gmem 13 (by decide +kernel) rfl⟩, ⟨gmem 79 (by decide +kernel) rfl, gmem 561 (by decide +kernel) rfl, by decide +kernel, by decide +kernel⟩⟩
theorem lX0_addCuts_109 : lkB mX0_addCuts mX0_addFirst 109 := ⟨gmem 558 (by decide +kernel) rfl, by decide⟩
theorem zX2_add : mV mX2_add 2 := ⟨⟨gmem 563 (by decide +kernel) rfl, gmem 564 (by decide +kernel) rfl⟩, ⟨gmem 80 (by decide +kernel) rfl, gmem 565 (by decide +kernel) rfl, by decide +kernel, by decide +kernel⟩⟩
theorem lX0_addCuts_112 : lkB mX0_addCuts mX2_add 112 := ⟨gmem 562 (by decide +kernel) rfl, by decide⟩
theorem zX0_typedIn : mV mX0_typedIn 2 := ⟨⟨gmem 580 (by decide +kernel) rfl, gmem 16 (by decide +kernel) rfl⟩, ⟨gmem 79 (by decide +kernel) rfl, gmem 581 (by decide +kernel) rfl, by decide +kernel, by decide +kernel⟩⟩
theorem lX0_addTyped_115 : lkB mX0_addTyped mX0_typedIn 115 := ⟨gmem 578 (by decide +kernel) rfl, by decide⟩
theorem lX0_addTyped_109 : lkB mX0_addTyped mX0_addFirst 109 := ⟨gmem 558 (by decide +kernel) rfl, by decide⟩
theorem zX0_leastSize : mV mX0_leastSize 0 := ⟨⟨gmem 584 (by decide +kernel) rfl, gmem 17 (by decide +kernel) rfl⟩, ⟨gmem 79 (by decide +kernel) rfl, gmem 585 (by decide +kernel) rfl, by decide +kernel, by decide +kernel⟩⟩
theorem lX0_addTyped_118 : lkB mX0_addTyped mX0_leastSize 118 := ⟨gmem 582 (by decide +kernel) rfl, by decide⟩
theorem lX0_addTyped_112 : lkB mX0_addTyped mX2_add 112 := ⟨gmem 562 (by decide +kernel) rfl, by decide⟩
theorem zJ9_min_7cf53 : mS mJ9_min_7cf53 2 := ⟨gmem 587 (by decide +kernel) rfl, ⟨gmem 89 (by decide +kernel) rfl, gmem 588 (by decide +kernel) rfl, by decide +kernel, by decide +kernel⟩⟩
theorem lX0_leastSize_122 : lkB mX0_leastSize mJ9_min_7cf53 122 := ⟨gmem 586 (by decide +kernel) rfl, by decide⟩
theorem zX2_waysFrom : mV mX2_waysFrom 1 := ⟨⟨gmem 594 (by decide +kernel) rfl, gmem 595 (by decide +kernel) rfl⟩, ⟨gmem 80 (by decide +kernel) rfl, gmem 596 (by decide +kernel) rfl, by decide +kernel, by decide +kernel⟩⟩
theorem lX0_joinPieces_130 : lkB mX0_joinPieces mX2_waysFrom 130 := ⟨gmem 593 (by decide +kernel) rfl, by decide⟩
theorem lX0_joinPieces_115 : lkB mX0_joinPieces mX0_typedIn 115 := ⟨gmem 578 (by decide +kernel) rfl, by decide⟩
theorem zX0_isRanked : mV mX0_isRanked 0 := ⟨⟨gmem 603 (by decide +kernel) rfl, gmem 19 (by decide +kernel) rfl⟩, ⟨gmem 79 (by decide +kernel) rfl, gmem 604 (by decide +kernel) rfl, by decide +kernel, by decide +kernel⟩⟩
theorem lX0_rank_134 : lkB mX0_rank mX0_isRanked 134 := ⟨gmem 601 (by decide +kernel) rfl, by decide⟩
theorem zX0_rankWholes : mV mX0_rankWholes 1 := ⟨⟨gmem 611 (by decide +kernel) rfl, gmem 20 (by decide +kernel) rfl⟩, ⟨gmem 79 (by decide +kernel) rfl, gmem 612 (by decide +kernel) rfl, by decide +kernel, by decide +kernel⟩⟩
theorem lX0_rank_138 : lkB mX0_rank mX0_rankWholes 138 := ⟨gmem 609 (by decide +kernel) rfl, by decide⟩
theorem zX0_rankPairs : mV mX0_rankPairs 2 := ⟨⟨gmem 628 (by decide +kernel) rfl, gmem 22 (by decide +kernel) rfl⟩, ⟨gmem 79 (by decide +kernel) rfl, gmem 629 (by decide +kernel) rfl, by decide +kernel, by decide +kernel⟩⟩
theorem lX0_rank_141 : lkB mX0_rank mX0_rankPairs 141 := ⟨gmem 626 (by decide +kernel) rfl, by decide⟩
theorem zX0_rankTriples : mV mX0_rankTriples 2 := ⟨⟨gmem 644 (by decide +kernel) rfl, gmem 23 (by decide +kernel) rfl⟩, ⟨gmem 79 (by decide +kernel) rfl, gmem 645 (by decide +kernel) rfl, by decide +kernel, by decide +kernel⟩⟩
theorem lX0_rank_144 : lkB mX0_rank mX0_rankTriples 144 := ⟨gmem 642 (by decide +kernel) rfl, by decide⟩
theorem zX0_howMany : mV mX0_howMany 1 := ⟨⟨gmem 606 (by decide +kernel) rfl, gmem 607 (by decide +kernel) rfl⟩, ⟨gmem 79 (by decide +kernel) rfl, gmem 608 (by decide +kernel) rfl, by decide +kernel, by decide +kernel⟩⟩
theorem lX0_isRanked_147 : lkB mX0_isRanked mX0_howMany 147 := ⟨gmem 605 (by decide +kernel) rfl, by decide⟩
theorem lX0_rankWholes_134 : lkB mX0_rankWholes mX0_isRanked 134 := ⟨gmem 601 (by decide +kernel) rfl, by decide⟩
theorem zX3_costOf : mS mX3_costOf 1 := ⟨gmem 571 (by decide +kernel) rfl, ⟨gmem 81 (by decide +kernel) rfl, gmem 572 (by decide +kernel) rfl, by decide +kernel, by decide +kernel⟩⟩
theorem lX0_rankWholes_150 : lkB mX0_rankWholes mX3_costOf 150 := ⟨gmem 613 (by decide +kernel) rfl, by decide⟩
theorem zX0_nextNearest : mV mX0_nextNearest 0 := ⟨⟨gmem 616 (by decide +kernel) rfl, gmem 21 (by decide +kernel) rfl⟩, ⟨gmem 79 (by decide +kernel) rfl, gmem 617 (by decide +kernel) rfl, by decide +kernel, by decide +kernel⟩⟩
theorem lX0_rankWholes_153 : lkB mX0_rankWholes mX0_nextNearest 153 := ⟨gmem 614 (by decide +kernel) rfl, by decide⟩
theorem zX3_add : mV mX3_add 1 := ⟨⟨gmem 623 (by decide +kernel) rfl, gmem 624 (by decide +kernel) rfl⟩, ⟨gmem 81 (by decide +kernel) rfl, gmem 625 (by decide +kernel) rfl, by decide +kernel, by decide +kernel⟩⟩
theorem lX0_rankWholes_157 : lkB mX0_rankWholes mX3_add 157 := ⟨gmem 622 (by decide +kernel) rfl, by decide⟩
theorem lX0_rankPairs_150 : lkB mX0_rankPairs mX3_costOf 150 := ⟨gmem 613 (by decide +kernel) rfl, by decide⟩
theorem zX2_headOf : mV mX2_headOf 2 := ⟨⟨gmem 631 (by decide +kernel) rfl, gmem 632 (by decide +kernel) rfl⟩, ⟨gmem 80 (by decide +kernel) rfl, gmem 633 (by decide +kernel) rfl, by decide +kernel, by decide +kernel⟩⟩
theorem lX0_rankPairs_159 : lkB mX0_rankPairs mX2_headOf 159 := ⟨gmem 630 (by decide +kernel) rfl, by decide⟩
theorem lX0_rankPairs_134 : lkB mX0_rankPairs mX0_isRanked 134 := ⟨gmem 601 (by decide +kernel) rfl, by decide⟩
theorem lX0_rankPairs_153 : lkB mX0_rankPairs mX0_nextNearest 153 := ⟨gmem 614 (by decide +kernel) rfl, by decide⟩
theorem lX0_rankPairs_157 : lkB mX0_rankPairs mX3_add 157 := ⟨gmem 622 (by decide +kernel) rfl, by decide⟩
theorem zX2_pieceAt : mV mX2_pieceAt 1 := ⟨⟨gmem 635 (by decide +kernel) rfl, gmem 636 (by decide +kernel) rfl⟩, ⟨gmem 80 (by decide +kernel) rfl, gmem 637 (by decide +kernel) rfl, by decide +kernel, by decide +kernel⟩⟩
theorem lX0_rankPairs_162 : lkB mX0_rankPairs mX2_pieceAt 162 := ⟨gmem 634 (by decide +kernel) rfl, by decide⟩
theorem zX2_nextOf : mV mX2_nextOf 1 := ⟨⟨gmem 639 (by decide +kernel) rfl, gmem 640 (by decide +kernel) rfl⟩, ⟨gmem 80 (by decide +kernel) rfl, gmem 641 (by decide +kernel) rfl, by decide +kernel, by decide +kernel⟩⟩
theorem lX0_rankPairs_165 : lkB mX0_rankPairs mX2_nextOf 165 := ⟨gmem 638 (by decide +kernel) rfl, by decide⟩
theorem lX0_rankTriples_150 : lkB mX0_rankTriples mX3_costOf 150 := ⟨gmem 613 (by decide +kernel) rfl, by decide⟩
theorem lX0_rankTriples_159 : lkB mX0_rankTriples mX2_headOf 159 := ⟨gmem 630 (by decide +kernel) rfl, by decide⟩
theorem lX0_rankTriples_134 : lkB mX0_rankTriples mX0_isRanked 134 := ⟨gmem 601 (by decide +kernel) rfl, by decide⟩
theorem lX0_rankTriples_153 : lkB mX0_rankTriples mX0_nextNearest 153 := ⟨gmem 614 (by decide +kernel) rfl, by decide⟩
theorem lX0_rankTriples_157 : lkB mX0_rankTriples mX3_add 157 := ⟨gmem 622 (by decide +kernel) rfl, by decide⟩
theorem lX0_rankTriples_115 : lkB mX0_rankTriples mX0_typedIn 115 := ⟨gmem 578 (by decide +kernel) rfl, by decide⟩
theorem lX0_rankTriples_162 : lkB mX0_rankTriples mX2_pieceAt 162 := ⟨gmem 634 (by decide +kernel) rfl, by decide⟩
theorem lX0_rankTriples_165 : lkB mX0_rankTriples mX2_nextOf 165 := ⟨gmem 638 (by decide +kernel) rfl, by decide⟩
theorem zX3_clear : mV mX3_clear 0 := ⟨⟨gmem 619 (by decide +kernel) rfl, gmem 620 (by decide +kernel) rfl⟩, ⟨gmem 81 (by decide +kernel) rfl, gmem 621 (by decide +kernel) rfl, by decide +kernel, by decide +kernel⟩⟩
theorem lX0_nextNearest_168 : lkB mX0_nextNearest mX3_clear 168 := ⟨gmem 618 (by decide +kernel) rfl, by decide⟩
theorem zX1_isDigit : mS mX1_isDigit 1 := ⟨gmem 420 (by decide +kernel) rfl, ⟨gmem 87 (by decide +kernel) rfl, gmem 421 (by decide +kernel) rfl, by decide +kernel, by decide +kernel⟩⟩
theorem lX1_isOfRun_9 : lkB mX1_isOfRun mX1_isDigit 9 := ⟨gmem 419 (by decide +kernel) rfl, by decide⟩
theorem zX1_isCapital : mS mX1_isCapital 1 := ⟨gmem 423 (by decide +kernel) rfl, ⟨gmem 87 (by decide +kernel) rfl, gmem 424 (by decide +kernel) rfl, by decide +kernel, by decide +kernel⟩⟩
theorem lX1_isOfRun_15 : lkB mX1_isOfRun mX1_isCapital 15 := ⟨gmem 422 (by decide +kernel) rfl, by decide⟩
theorem zX1_isSmall : mS mX1_isSmall 1 := ⟨gmem 426 (by decide +kernel) rfl, ⟨gmem 87 (by decide +kernel) rfl, gmem 427 (by decide +kernel) rfl, by decide +kernel, by decide +kernel⟩⟩
theorem lX1_isOfRun_18 : lkB mX1_isOfRun mX1_isSmall 18 := ⟨gmem 425 (by decide +kernel) rfl, by decide⟩
theorem lX1_turned_18 : lkB mX1_turned mX1_isSmall 18 := ⟨gmem 425 (by decide +kernel) rfl, by decide⟩
theorem lX1_turned_15 : lkB mX1_turned mX1_isCapital 15 := ⟨gmem 422 (by decide +kernel) rfl, by decide⟩
theorem lX1_shapeKindOf_9 : lkB mX1_shapeKindOf mX1_isDigit 9 := ⟨gmem 419 (by decide +kernel) rfl, by decide⟩
theorem lX1_shapeKindOf_18 : lkB mX1_shapeKindOf mX1_isSmall 18 := ⟨gmem 425 (by decide +kernel) rfl, by decide⟩
theorem lX1_shapeKindOf_15 : lkB mX1_shapeKindOf mX1_isCapital 15 := ⟨gmem 422 (by decide +kernel) rfl, by decide⟩
theorem zX1_shapeKindOf : mS mX1_shapeKindOf 1 := ⟨gmem 711 (by decide +kernel) rfl, ⟨gmem 87 (by decide +kernel) rfl, gmem 712 (by decide +kernel) rfl, by decide +kernel, by decide +kernel⟩⟩
theorem lX1_shapeOf_31 : lkB mX1_shapeOf mX1_shapeKindOf 31 := ⟨gmem 710 (by decide +kernel) rfl, by decide⟩
theorem zX2_openGroup : mV mX2_openGroup 1 := ⟨⟨gmem 568 (by decide +kernel) rfl, gmem 14 (by decide +kernel) rfl⟩, ⟨gmem 80 (by decide +kernel) rfl, gmem 569 (by decide +kernel) rfl, by decide +kernel, by decide +kernel⟩⟩
theorem lX2_add_42 : lkB mX2_add mX2_openGroup 42 := ⟨gmem 566 (by decide +kernel) rfl, by decide⟩
theorem lX2_add_46 : lkB mX2_add mX3_costOf 46 := ⟨gmem 570 (by decide +kernel) rfl, by decide⟩
theorem lX3_copyOf_20 : lkB mX3_copyOf mX3_clear 20 := ⟨gmem 763 (by decide +kernel) rfl, by decide⟩
theorem lX3_copyOf_23 : lkB mX3_copyOf mX3_add 23 := ⟨gmem 764 (by decide +kernel) rfl, by decide⟩
theorem lX3_told_27 : lkB mX3_told mX3_costOf 27 := ⟨gmem 656 (by decide +kernel) rfl, by decide⟩
theorem zX4_clear : mV mX4_clear 0 := ⟨⟨gmem 404 (by decide +kernel) rfl, gmem 405 (by decide +kernel) rfl⟩, ⟨gmem 78 (by decide +kernel) rfl, gmem 406 (by decide +kernel) rfl, by decide +kernel, by decide +kernel⟩⟩
theorem lX3_makeOf_31 : lkB mX3_makeOf mX4_clear 31 := ⟨gmem 665 (by decide +kernel) rfl, by decide⟩
theorem zX3_writeTyped : mS mX3_writeTyped 2 := ⟨gmem 667 (by decide +kernel) rfl, ⟨gmem 81 (by decide +kernel) rfl, gmem 668 (by decide +kernel) rfl, by decide +kernel, by decide +kernel⟩⟩
theorem lX3_makeOf_34 : lkB mX3_makeOf mX3_writeTyped 34 := ⟨gmem 666 (by decide +kernel) rfl, by decide⟩
theorem zX8_cutInto : mV mX8_cutInto 2 := ⟨⟨gmem 475 (by decide +kernel) rfl, gmem 476 (by decide +kernel) rfl⟩, ⟨gmem 84 (by decide +kernel) rfl, gmem 477 (by decide +kernel) rfl, by decide +kernel, by decide +kernel⟩⟩
theorem lX3_makeOf_38 : lkB mX3_makeOf mX8_cutInto 38 := ⟨gmem 670 (by decide +kernel) rfl, by decide⟩
theorem zX4_add : mV mX4_add 1 := ⟨⟨gmem 388 (by decide +kernel) rfl, gmem 389 (by decide +kernel) rfl⟩, ⟨gmem 78 (by decide +kernel) rfl, gmem 390 (by decide +kernel) rfl, by decide +kernel, by decide +kernel⟩⟩
theorem lX3_writeTyped_44 : lkB mX3_writeTyped mX4_add 44 := ⟨gmem 669 (by decide +kernel) rfl, by decide⟩
theorem lX4_copyOf_19 : lkB mX4_copyOf mX4_clear 19 := ⟨gmem 403 (by decide +kernel) rfl, by decide⟩
theorem lX4_copyOf_22 : lkB mX4_copyOf mX4_add 22 := ⟨gmem 407 (by decide +kernel) rfl, by decide⟩
theorem zJ7_fill_53178 : mS mJ7_fill_53178 2 := ⟨gmem 930 (by decide +kernel) rfl, ⟨gmem 88 (by decide +kernel) rfl, gmem 931 (by decide +kernel) rfl, by decide +kernel, by decide +kernel⟩⟩
theorem lX5_renew_22 : lkB mX5_renew mJ7_fill_53178 22 := ⟨gmem 929 (by decide +kernel) rfl, by decide⟩
theorem zX4_init : mI mX4_init 1 := ⟨⟨gmem 107 (by decide +kernel) rfl, rfl⟩, ⟨gmem 78 (by decide +kernel) rfl, gmem 108 (by decide +kernel) rfl, by decide +kernel, by decide +kernel⟩, rfl⟩
theorem lX6_init_27 : lkB mX6_init mX4_init 27 := ⟨gmem 251 (by decide +kernel) rfl, by decide⟩
theorem zX3_makeOf : mV mX3_makeOf 2 := ⟨⟨gmem 662 (by decide +kernel) rfl, gmem 663 (by decide +kernel) rfl⟩, ⟨gmem 81 (by decide +kernel) rfl, gmem 664 (by decide +kernel) rfl, by decide +kernel, by decide +kernel⟩⟩
theorem lX6_take_37 : lkB mX6_take mX3_makeOf 37 := ⟨gmem 679 (by decide +kernel) rfl, by decide⟩
theorem zX6_likeLatest : mV mX6_likeLatest 0 := ⟨⟨gmem 682 (by decide +kernel) rfl, gmem 24 (by decide +kernel) rfl⟩, ⟨gmem 82 (by decide +kernel) rfl, gmem 683 (by decide +kernel) rfl, by decide +kernel, by decide +kernel⟩⟩
theorem lX6_take_43 : lkB mX6_take mX6_likeLatest 43 := ⟨gmem 680 (by decide +kernel) rfl, by decide⟩
theorem zX4_isLike : mV mX4_isLike 1 := ⟨⟨gmem 685 (by decide +kernel) rfl, gmem 686 (by decide +kernel) rfl⟩, ⟨gmem 78 (by decide +kernel) rfl, gmem 687 (by decide +kernel) rfl, by decide +kernel, by decide +kernel⟩⟩
theorem lX6_likeLatest_47 : lkB mX6_likeLatest mX4_isLike 47 := ⟨gmem 684 (by decide +kernel) rfl, by decide⟩
theorem zJ9_max_7cf53 : mS mJ9_max_7cf53 2 := ⟨gmem 697 (by decide +kernel) rfl, ⟨gmem 89 (by decide +kernel) rfl, gmem 698 (by decide +kernel) rfl, by decide +kernel, by decide +kernel⟩⟩
theorem lX6_greatest_51 : lkB mX6_greatest mJ9_max_7cf53 51 := ⟨gmem 696 (by decide +kernel) rfl, by decide⟩
theorem lX7_init_11 : lkN mX7_init mX3_init 11 := ⟨by decide +kernel, by decide⟩
theorem lX7_init_20 : lkB mX7_init mX4_init 20 := ⟨gmem 273 (by decide +kernel) rfl, by decide⟩
theorem zX4_copyOf : mV mX4_copyOf 1 := ⟨⟨gmem 400 (by decide +kernel) rfl, gmem 401 (by decide +kernel) rfl⟩, ⟨gmem 78 (by decide +kernel) rfl, gmem 402 (by decide +kernel) rfl, by decide +kernel, by decide +kernel⟩⟩
theorem lX7_read_31 : lkB mX7_read mX4_copyOf 31 := ⟨gmem 773 (by decide +kernel) rfl, by decide⟩
theorem lX7_read_35 : lkB mX7_read mX3_clear 35 := ⟨gmem 774 (by decide +kernel) rfl, by decide⟩
theorem zX7_readPiece : mV mX7_readPiece 0 := ⟨⟨gmem 777 (by decide +kernel) rfl, gmem 28 (by decide +kernel) rfl⟩, ⟨gmem 83 (by decide +kernel) rfl, gmem 778 (by decide +kernel) rfl, by decide +kernel, by decide +kernel⟩⟩
theorem lX7_read_38 : lkB mX7_read mX7_readPiece 38 := ⟨gmem 775 (by decide +kernel) rfl, by decide⟩
theorem zX7_look : mV mX7_look 0 := ⟨⟨gmem 781 (by decide +kernel) rfl, gmem 29 (by decide +kernel) rfl⟩, ⟨gmem 83 (by decide +kernel) rfl, gmem 782 (by decide +kernel) rfl, by decide +kernel, by decide +kernel⟩⟩
theorem lX7_read_42 : lkB mX7_read mX7_look 42 := ⟨gmem 779 (by decide +kernel) rfl, by decide⟩
theorem zX7_canGoOn : mV mX7_canGoOn 0 := ⟨⟨gmem 895 (by decide +kernel) rfl, gmem 36 (by decide +kernel) rfl⟩, ⟨gmem 83 (by decide +kernel) rfl, gmem 896 (by decide +kernel) rfl, by decide +kernel, by decide +kernel⟩⟩
theorem lX7_read_46 : lkB mX7_read mX7_canGoOn 46 := ⟨gmem 893 (by decide +kernel) rfl, by decide⟩
theorem zX3_pieceCount : mV mX3_pieceCount 0 := ⟨⟨gmem 898 (by decide +kernel) rfl, gmem 899 (by decide +kernel) rfl⟩, ⟨gmem 81 (by decide +kernel) rfl, gmem 900 (by decide +kernel) rfl, by decide +kernel, by decide +kernel⟩⟩
theorem lX7_canGoOn_49 : lkB mX7_canGoOn mX3_pieceCount 49 := ⟨gmem 897 (by decide +kernel) rfl, by decide⟩
theorem zX3_endsWithCut : mV mX3_endsWithCut 0 := ⟨⟨gmem 902 (by decide +kernel) rfl, gmem 903 (by decide +kernel) rfl⟩, ⟨gmem 81 (by decide +kernel) rfl, gmem 904 (by decide +kernel) rfl, by decide +kernel, by decide +kernel⟩⟩
theorem lX7_canGoOn_52 : lkB mX7_canGoOn mX3_endsWithCut 52 := ⟨gmem 901 (by decide +kernel) rfl, by decide⟩
theorem lX7_readPiece_42 : lkB mX7_readPiece mX7_look 42 := ⟨gmem 779 (by decide +kernel) rfl, by decide⟩
theorem zX7_readTyped : mV mX7_readTyped 0 := ⟨⟨gmem 785 (by decide +kernel) rfl, gmem 30 (by decide +kernel) rfl⟩, ⟨gmem 83 (by decide +kernel) rfl, gmem 786 (by decide +kernel) rfl, by decide +kernel, by decide +kernel⟩⟩
theorem lX7_readPiece_62 : lkB mX7_readPiece mX7_readTyped 62 := ⟨gmem 783 (by decide +kernel) rfl, by decide⟩
theorem zX7_readCut : mV mX7_readCut 0 := ⟨⟨gmem 791 (by decide +kernel) rfl, gmem 31 (by decide +kernel) rfl⟩, ⟨gmem 83 (by decide +kernel) rfl, gmem 792 (by decide +kernel) rfl, by decide +kernel, by decide +kernel⟩⟩
theorem lX7_readPiece_65 : lkB mX7_readPiece mX7_readCut 65 := ⟨gmem 789 (by decide +kernel) rfl, by decide⟩
theorem lX7_readTyped_69 : lkB mX7_readTyped mX3_add 69 := ⟨gmem 788 (by decide +kernel) rfl, by decide⟩
theorem zX7_readPlace : mV mX7_readPlace 0 := ⟨⟨gmem 795 (by decide +kernel) rfl, gmem 32 (by decide +kernel) rfl⟩, ⟨gmem 83 (by decide +kernel) rfl, gmem 796 (by decide +kernel) rfl, by decide +kernel, by decide +kernel⟩⟩
theorem lX7_readCut_72 : lkB mX7_readCut mX7_readPlace 72 := ⟨gmem 793 (by decide +kernel) rfl, by decide⟩
theorem lX7_readCut_42 : lkB mX7_readCut mX7_look 42 := ⟨gmem 779 (by decide +kernel) rfl, by decide⟩
theorem zX7_readTurn : mV mX7_readTurn 0 := ⟨⟨gmem 891 (by decide +kernel) rfl, gmem 35 (by decide +kernel) rfl⟩, ⟨gmem 83 (by decide +kernel) rfl, gmem 892 (by decide +kernel) rfl, by decide +kernel, by decide +kernel⟩⟩
theorem lX7_readCut_75 : lkB mX7_readCut mX7_readTurn 75 := ⟨gmem 889 (by decide +kernel) rfl, by decide⟩
theorem lX7_readCut_69 : lkB mX7_readCut mX3_add 69 := ⟨gmem 788 (by decide +kernel) rfl, by decide⟩
theorem lX7_readTurn_42 : lkB mX7_readTurn mX7_look 42 := ⟨gmem 779 (by decide +kernel) rfl, by decide⟩
theorem lX7_readPlace_42 : lkB mX7_readPlace mX7_look 42 := ⟨gmem 779 (by decide +kernel) rfl, by decide⟩
theorem zX7_readDistance : mV mX7_readDistance 1 := ⟨⟨gmem 799 (by decide +kernel) rfl, gmem 33 (by decide +kernel) rfl⟩, ⟨gmem 83 (by decide +kernel) rfl, gmem 800 (by decide +kernel) rfl, by decide +kernel, by decide +kernel⟩⟩
theorem lX7_readPlace_78 : lkB mX7_readPlace mX7_readDistance 78 := ⟨gmem 797 (by decide +kernel) rfl, by decide⟩
theorem zX7_readRun : mV mX7_readRun 1 := ⟨⟨gmem 803 (by decide +kernel) rfl, gmem 34 (by decide +kernel) rfl⟩, ⟨gmem 83 (by decide +kernel) rfl, gmem 804 (by decide +kernel) rfl, by decide +kernel, by decide +kernel⟩⟩
theorem lX7_readPlace_82 : lkB mX7_readPlace mX7_readRun 82 := ⟨gmem 801 (by decide +kernel) rfl, by decide⟩
theorem lX7_readDistance_42 : lkB mX7_readDistance mX7_look 42 := ⟨gmem 779 (by decide +kernel) rfl, by decide⟩
theorem lX7_readRun_42 : lkB mX7_readRun mX7_look 42 := ⟨gmem 779 (by decide +kernel) rfl, by decide⟩
theorem zJ0_indexOf_0f7a4 : mV mJ0_indexOf_0f7a4 1 := ⟨⟨gmem 807 (by decide +kernel) rfl, gmem 808 (by decide +kernel) rfl⟩, ⟨gmem 91 (by decide +kernel) rfl, gmem 809 (by decide +kernel) rfl, by decide +kernel, by decide +kernel⟩⟩
theorem lX7_readRun_87 : lkB mX7_readRun mJ0_indexOf_0f7a4 87 := ⟨gmem 806 (by decide +kernel) rfl, by decide⟩
theorem lX8_init_11 : lkB mX8_init mX4_init 11 := ⟨gmem 293 (by decide +kernel) rfl, by decide⟩
theorem zX8_findRuns : mV mX8_findRuns 2 := ⟨⟨gmem 414 (by decide +kernel) rfl, gmem 1 (by decide +kernel) rfl⟩, ⟨gmem 84 (by decide +kernel) rfl, gmem 415 (by decide +kernel) rfl, by decide +kernel, by decide +kernel⟩⟩
theorem lX8_findPlaces_40 : lkB mX8_findPlaces mX8_findRuns 40 := ⟨gmem 412 (by decide +kernel) rfl, by decide⟩
theorem zX1_isOfRun : mS mX1_isOfRun 2 := ⟨gmem 417 (by decide +kernel) rfl, ⟨gmem 87 (by decide +kernel) rfl, gmem 418 (by decide +kernel) rfl, by decide +kernel, by decide +kernel⟩⟩
theorem lX8_findRuns_47 : lkB mX8_findRuns mX1_isOfRun 47 := ⟨gmem 416 (by decide +kernel) rfl, by decide⟩
theorem zX8_setRun : mV mX8_setRun 3 := ⟨⟨gmem 430 (by decide +kernel) rfl, gmem 2 (by decide +kernel) rfl⟩, ⟨gmem 84 (by decide +kernel) rfl, gmem 431 (by decide +kernel) rfl, by decide +kernel, by decide +kernel⟩⟩
theorem lX8_findRuns_51 : lkB mX8_findRuns mX8_setRun 51 := ⟨gmem 428 (by decide +kernel) rfl, by decide⟩
theorem zX1_turned : mS mX1_turned 2 := ⟨gmem 479 (by decide +kernel) rfl, ⟨gmem 87 (by decide +kernel) rfl, gmem 480 (by decide +kernel) rfl, by decide +kernel, by decide +kernel⟩⟩
theorem lX8_cutInto_55 : lkB mX8_cutInto mX1_turned 55 := ⟨gmem 478 (by decide +kernel) rfl, by decide⟩
theorem lX8_cutInto_59 : lkB mX8_cutInto mX4_add 59 := ⟨gmem 481 (by decide +kernel) rfl, by decide⟩
theorem zJ7_fill_031fb : mS mJ7_fill_031fb 2 := ⟨gmem 499 (by decide +kernel) rfl, ⟨gmem 88 (by decide +kernel) rfl, gmem 500 (by decide +kernel) rfl, by decide +kernel, by decide +kernel⟩⟩
theorem lX8_compareSpans_62 : lkB mX8_compareSpans mJ7_fill_031fb 62 := ⟨gmem 498 (by decide +kernel) rfl, by decide⟩
theorem zX8_markBeginnings : mV mX8_markBeginnings 2 := ⟨⟨gmem 503 (by decide +kernel) rfl, gmem 6 (by decide +kernel) rfl⟩, ⟨gmem 84 (by decide +kernel) rfl, gmem 504 (by decide +kernel) rfl, by decide +kernel, by decide +kernel⟩⟩
theorem lX8_compareSpans_68 : lkB mX8_compareSpans mX8_markBeginnings 68 := ⟨gmem 501 (by decide +kernel) rfl, by decide⟩
theorem zX8_markClosings : mV mX8_markClosings 2 := ⟨⟨gmem 507 (by decide +kernel) rfl, gmem 7 (by decide +kernel) rfl⟩, ⟨gmem 84 (by decide +kernel) rfl, gmem 508 (by decide +kernel) rfl, by decide +kernel, by decide +kernel⟩⟩
theorem lX8_compareSpans_71 : lkB mX8_compareSpans mX8_markClosings 71 := ⟨gmem 505 (by decide +kernel) rfl, by decide⟩
theorem lX8_markBeginnings_55 : lkB mX8_markBeginnings mX1_turned 55 := ⟨gmem 478 (by decide +kernel) rfl, by decide⟩
theorem lX8_markClosings_55 : lkB mX8_markClosings mX1_turned 55 := ⟨gmem 478 (by decide +kernel) rfl, by decide⟩
theorem lX9_init_11 : lkB mX9_init mX4_init 11 := ⟨gmem 106 (by decide +kernel) rfl, by decide⟩
theorem zX0_init : mI mX0_init 0 := ⟨⟨gmem 133 (by decide +kernel) rfl, rfl⟩, ⟨gmem 79 (by decide +kernel) rfl, gmem 134 (by decide +kernel) rfl, by decide +kernel, by decide +kernel⟩, rfl⟩
theorem lX9_init_33 : lkB mX9_init mX0_init 33 := ⟨gmem 132 (by decide +kernel) rfl, by decide⟩
theorem zX6_init : mI mX6_init 0 := ⟨⟨gmem 246 (by decide +kernel) rfl, rfl⟩, ⟨gmem 82 (by decide +kernel) rfl, gmem 247 (by decide +kernel) rfl, by decide +kernel, by decide +kernel⟩, rfl⟩
theorem lX9_init_47 : lkB mX9_init mX6_init 47 := ⟨gmem 245 (by decide +kernel) rfl, by decide⟩
theorem zX7_init : mI mX7_init 0 := ⟨⟨gmem 267 (by decide +kernel) rfl, rfl⟩, ⟨gmem 83 (by decide +kernel) rfl, gmem 268 (by decide +kernel) rfl, by decide +kernel, by decide +kernel⟩, rfl⟩
theorem lX9_init_70 : lkN mX9_init mX7_init 70 := ⟨by decide +kernel, by decide⟩
theorem zX8_init : mI mX8_init 0 := ⟨⟨gmem 289 (by decide +kernel) rfl, rfl⟩, ⟨gmem 84 (by decide +kernel) rfl, gmem 290 (by decide +kernel) rfl, by decide +kernel, by decide +kernel⟩, rfl⟩
theorem lX9_init_81 : lkN mX9_init mX8_init 81 := ⟨by decide +kernel, by decide⟩
theorem lX9_init_82 : lkN mX9_init mX3_init 82 := ⟨by decide +kernel, by decide⟩
theorem zX5_init : mI mX5_init 0 := ⟨⟨gmem 319 (by decide +kernel) rfl, rfl⟩, ⟨gmem 85 (by decide +kernel) rfl, gmem 320 (by decide +kernel) rfl, by decide +kernel, by decide +kernel⟩, rfl⟩
theorem lX9_init_83 : lkN mX9_init mX5_init 83 := ⟨by decide +kernel, by decide⟩
theorem zX9_byteOf : mS mX9_byteOf 2 := ⟨gmem 382 (by decide +kernel) rfl, ⟨gmem 77 (by decide +kernel) rfl, gmem 383 (by decide +kernel) rfl, by decide +kernel, by decide +kernel⟩⟩
theorem lX9_type_84 : lkB mX9_type mX9_byteOf 84 := ⟨gmem 381 (by decide +kernel) rfl, by decide⟩
theorem zX9_isLineByte : mS mX9_isLineByte 1 := ⟨gmem 385 (by decide +kernel) rfl, ⟨gmem 77 (by decide +kernel) rfl, gmem 386 (by decide +kernel) rfl, by decide +kernel, by decide +kernel⟩⟩
theorem lX9_type_88 : lkB mX9_type mX9_isLineByte 88 := ⟨gmem 384 (by decide +kernel) rfl, by decide⟩
theorem lX9_type_95 : lkB mX9_type mX4_add 95 := ⟨gmem 387 (by decide +kernel) rfl, by decide⟩
theorem zX9_addThing : mV mX9_addThing 1 := ⟨⟨gmem 397 (by decide +kernel) rfl, gmem 0 (by decide +kernel) rfl⟩, ⟨gmem 77 (by decide +kernel) rfl, gmem 398 (by decide +kernel) rfl, by decide +kernel, by decide +kernel⟩⟩
theorem lX9_thing_98 : lkB mX9_thing mX9_addThing 98 := ⟨gmem 395 (by decide +kernel) rfl, by decide⟩
theorem lX9_thing_102 : lkB mX9_thing mX4_clear 102 := ⟨gmem 432 (by decide +kernel) rfl, by decide⟩
theorem zX9_isSheet : mS mX9_isSheet 1 := ⟨gmem 438 (by decide +kernel) rfl, ⟨gmem 77 (by decide +kernel) rfl, gmem 439 (by decide +kernel) rfl, by decide +kernel, by decide +kernel⟩⟩
theorem lX9_line_105 : lkB mX9_line mX9_isSheet 105 := ⟨gmem 437 (by decide +kernel) rfl, by decide⟩
theorem zX9_isLane : mS mX9_isLane 1 := ⟨gmem 441 (by decide +kernel) rfl, ⟨gmem 77 (by decide +kernel) rfl, gmem 442 (by decide +kernel) rfl, by decide +kernel, by decide +kernel⟩⟩
theorem lX9_line_108 : lkB mX9_line mX9_isLane 108 := ⟨gmem 440 (by decide +kernel) rfl, by decide⟩
theorem zX5_refusalOf : mV mX5_refusalOf 1 := ⟨⟨gmem 444 (by decide +kernel) rfl, gmem 445 (by decide +kernel) rfl⟩, ⟨gmem 85 (by decide +kernel) rfl, gmem 446 (by decide +kernel) rfl, by decide +kernel, by decide +kernel⟩⟩
theorem lX9_line_111 : lkB mX9_line mX5_refusalOf 111 := ⟨gmem 443 (by decide +kernel) rfl, by decide⟩
theorem zX5_holds : mV mX5_holds 2 := ⟨⟨gmem 448 (by decide +kernel) rfl, gmem 449 (by decide +kernel) rfl⟩, ⟨gmem 85 (by decide +kernel) rfl, gmem 450 (by decide +kernel) rfl, by decide +kernel, by decide +kernel⟩⟩
theorem lX9_line_115 : lkB mX9_line mX5_holds 115 := ⟨gmem 447 (by decide +kernel) rfl, by decide⟩
theorem lX9_line_102 : lkB mX9_line mX4_clear 102 := ⟨gmem 432 (by decide +kernel) rfl, by decide⟩
theorem lX9_line_88 : lkB mX9_line mX9_isLineByte 88 := ⟨gmem 384 (by decide +kernel) rfl, by decide⟩
theorem lX9_line_95 : lkB mX9_line mX4_add 95 := ⟨gmem 387 (by decide +kernel) rfl, by decide⟩
theorem lX9_line_98 : lkB mX9_line mX9_addThing 98 := ⟨gmem 395 (by decide +kernel) rfl, by decide⟩
theorem zX9_isThing : mV mX9_isThing 1 := ⟨⟨gmem 457 (by decide +kernel) rfl, gmem 3 (by decide +kernel) rfl⟩, ⟨gmem 77 (by decide +kernel) rfl, gmem 458 (by decide +kernel) rfl, by decide +kernel, by decide +kernel⟩⟩
theorem lX9_byteAt_122 : lkB mX9_byteAt mX9_isThing 122 := ⟨gmem 455 (by decide +kernel) rfl, by decide⟩
theorem zX4_told : mV mX4_told 1 := ⟨⟨gmem 460 (by decide +kernel) rfl, gmem 461 (by decide +kernel) rfl⟩, ⟨gmem 78 (by decide +kernel) rfl, gmem 462 (by decide +kernel) rfl, by decide +kernel, by decide +kernel⟩⟩
theorem lX9_byteAt_128 : lkB mX9_byteAt mX4_told 128 := ⟨gmem 459 (by decide +kernel) rfl, by decide⟩
theorem lX9_place_122 : lkB mX9_place mX9_isThing 122 := ⟨gmem 455 (by decide +kernel) rfl, by decide⟩
theorem lX9_made_122 : lkB mX9_made mX9_isThing 122 := ⟨gmem 455 (by decide +kernel) rfl, by decide⟩
theorem zX9_isCut : mS mX9_isCut 1 := ⟨gmem 472 (by decide +kernel) rfl, ⟨gmem 77 (by decide +kernel) rfl, gmem 473 (by decide +kernel) rfl, by decide +kernel, by decide +kernel⟩⟩
theorem lX9_made_134 : lkB mX9_made mX9_isCut 134 := ⟨gmem 471 (by decide +kernel) rfl, by decide⟩
theorem lX9_made_102 : lkB mX9_made mX4_clear 102 := ⟨gmem 432 (by decide +kernel) rfl, by decide⟩
theorem lX9_made_137 : lkB mX9_made mX8_cutInto 137 := ⟨gmem 474 (by decide +kernel) rfl, by decide⟩
theorem lX9_made_128 : lkB mX9_made mX4_told 128 := ⟨gmem 459 (by decide +kernel) rfl, by decide⟩
theorem lX9_show_122 : lkB mX9_show mX9_isThing 122 := ⟨gmem 455 (by decide +kernel) rfl, by decide⟩
theorem zX9_showTapeOf : mV mX9_showTapeOf 1 := ⟨⟨gmem 488 (by decide +kernel) rfl, gmem 4 (by decide +kernel) rfl⟩, ⟨gmem 77 (by decide +kernel) rfl, gmem 489 (by decide +kernel) rfl, by decide +kernel, by decide +kernel⟩⟩
theorem lX9_show_141 : lkB mX9_show mX9_showTapeOf 141 := ⟨gmem 486 (by decide +kernel) rfl, by decide⟩
theorem lX9_show_102 : lkB mX9_show mX4_clear 102 := ⟨gmem 432 (by decide +kernel) rfl, by decide⟩
theorem lX9_forget_122 : lkB mX9_forget mX9_isThing 122 := ⟨gmem 455 (by decide +kernel) rfl, by decide⟩
theorem zX9_showingChanged : mV mX9_showingChanged 0 := ⟨⟨gmem 511 (by decide +kernel) rfl, gmem 8 (by decide +kernel) rfl⟩, ⟨gmem 77 (by decide +kernel) rfl, gmem 512 (by decide +kernel) rfl, by decide +kernel, by decide +kernel⟩⟩
theorem lX9_forget_148 : lkB mX9_forget mX9_showingChanged 148 := ⟨gmem 509 (by decide +kernel) rfl, by decide⟩
theorem zX9_howMany : mV mX9_howMany 1 := ⟨⟨gmem 492 (by decide +kernel) rfl, gmem 5 (by decide +kernel) rfl⟩, ⟨gmem 77 (by decide +kernel) rfl, gmem 493 (by decide +kernel) rfl, by decide +kernel, by decide +kernel⟩⟩
theorem lX9_forget_151 : lkB mX9_forget mX9_howMany 151 := ⟨gmem 490 (by decide +kernel) rfl, by decide⟩
theorem zX9_fitRefusal : mV mX9_fitRefusal 0 := ⟨⟨gmem 524 (by decide +kernel) rfl, gmem 9 (by decide +kernel) rfl⟩, ⟨gmem 77 (by decide +kernel) rfl, gmem 525 (by decide +kernel) rfl, by decide +kernel, by decide +kernel⟩⟩
theorem lX9_fitting_156 : lkB mX9_fitting mX9_fitRefusal 156 := ⟨gmem 522 (by decide +kernel) rfl, by decide⟩
theorem lX9_fitting_162 : lkB mX9_fitting mX0_howMany 162 := ⟨gmem 646 (by decide +kernel) rfl, by decide⟩
theorem lX9_shortest_156 : lkB mX9_shortest mX9_fitRefusal 156 := ⟨gmem 522 (by decide +kernel) rfl, by decide⟩
theorem zX3_told : mV mX3_told 1 := ⟨⟨gmem 653 (by decide +kernel) rfl, gmem 654 (by decide +kernel) rfl⟩, ⟨gmem 81 (by decide +kernel) rfl, gmem 655 (by decide +kernel) rfl, by decide +kernel, by decide +kernel⟩⟩
theorem lX9_shortest_166 : lkB mX9_shortest mX3_told 166 := ⟨gmem 652 (by decide +kernel) rfl, by decide⟩
theorem lX9_paper_122 : lkB mX9_paper mX9_isThing 122 := ⟨gmem 455 (by decide +kernel) rfl, by decide⟩
theorem lX9_paper_156 : lkB mX9_paper mX9_fitRefusal 156 := ⟨gmem 522 (by decide +kernel) rfl, by decide⟩
theorem lX9_paper_167 : lkB mX9_paper mX3_makeOf 167 := ⟨gmem 661 (by decide +kernel) rfl, by decide⟩
theorem lX9_paper_128 : lkB mX9_paper mX4_told 128 := ⟨gmem 459 (by decide +kernel) rfl, by decide⟩
theorem lX9_differs_122 : lkB mX9_differs mX9_isThing 122 := ⟨gmem 455 (by decide +kernel) rfl, by decide⟩
theorem lX9_differs_156 : lkB mX9_differs mX9_fitRefusal 156 := ⟨gmem 522 (by decide +kernel) rfl, by decide⟩
theorem zX6_take : mV mX6_take 2 := ⟨⟨gmem 676 (by decide +kernel) rfl, gmem 677 (by decide +kernel) rfl⟩, ⟨gmem 82 (by decide +kernel) rfl, gmem 678 (by decide +kernel) rfl, by decide +kernel, by decide +kernel⟩⟩
theorem lX9_differs_171 : lkB mX9_differs mX6_take 171 := ⟨gmem 675 (by decide +kernel) rfl, by decide⟩
theorem lX9_settle_156 : lkB mX9_settle mX9_fitRefusal 156 := ⟨gmem 522 (by decide +kernel) rfl, by decide⟩
theorem lX9_settle_171 : lkB mX9_settle mX6_take 171 := ⟨gmem 675 (by decide +kernel) rfl, by decide⟩
theorem zX6_greatest : mV mX6_greatest 0 := ⟨⟨gmem 693 (by decide +kernel) rfl, gmem 694 (by decide +kernel) rfl⟩, ⟨gmem 82 (by decide +kernel) rfl, gmem 695 (by decide +kernel) rfl, by decide +kernel, by decide +kernel⟩⟩
theorem lX9_settle_178 : lkB mX9_settle mX6_greatest 178 := ⟨gmem 692 (by decide +kernel) rfl, by decide⟩
theorem lX9_odd_122 : lkB mX9_odd mX9_isThing 122 := ⟨gmem 455 (by decide +kernel) rfl, by decide⟩
theorem lX9_odd_156 : lkB mX9_odd mX9_fitRefusal 156 := ⟨gmem 522 (by decide +kernel) rfl, by decide⟩
theorem zX9_makesOddEnd : mV mX9_makesOddEnd 1 := ⟨⟨gmem 705 (by decide +kernel) rfl, gmem 25 (by decide +kernel) rfl⟩, ⟨gmem 77 (by decide +kernel) rfl, gmem 706 (by decide +kernel) rfl, by decide +kernel, by decide +kernel⟩⟩
theorem lX9_odd_181 : lkB mX9_odd mX9_makesOddEnd 181 := ⟨gmem 703 (by decide +kernel) rfl, by decide⟩
theorem lX9_slips_156 : lkB mX9_slips mX9_fitRefusal 156 := ⟨gmem 522 (by decide +kernel) rfl, by decide⟩
theorem zX9_leastSlips : mV mX9_leastSlips 0 := ⟨⟨gmem 719 (by decide +kernel) rfl, gmem 26 (by decide +kernel) rfl⟩, ⟨gmem 77 (by decide +kernel) rfl, gmem 720 (by decide +kernel) rfl, by decide +kernel, by decide +kernel⟩⟩
theorem lX9_slips_185 : lkB mX9_slips mX9_leastSlips 185 := ⟨gmem 717 (by decide +kernel) rfl, by decide⟩
theorem lX9_state_122 : lkB mX9_state mX9_isThing 122 := ⟨gmem 455 (by decide +kernel) rfl, by decide⟩
theorem lX9_doing_156 : lkB mX9_doing mX9_fitRefusal 156 := ⟨gmem 522 (by decide +kernel) rfl, by decide⟩
theorem lX9_doing_181 : lkB mX9_doing mX9_makesOddEnd 181 := ⟨gmem 703 (by decide +kernel) rfl, by decide⟩
theorem lX9_doing_191 : lkB mX9_doing mX4_copyOf 191 := ⟨gmem 399 (by decide +kernel) rfl, by decide⟩
theorem lX9_end_122 : lkB mX9_end mX9_isThing 122 := ⟨gmem 455 (by decide +kernel) rfl, by decide⟩
theorem lX9_end_128 : lkB mX9_end mX4_told 128 := ⟨gmem 459 (by decide +kernel) rfl, by decide⟩
theorem lX9_otherwise_156 : lkB mX9_otherwise mX9_fitRefusal 156 := ⟨gmem 522 (by decide +kernel) rfl, by decide⟩
theorem lX9_otherwise_167 : lkB mX9_otherwise mX3_makeOf 167 := ⟨gmem 661 (by decide +kernel) rfl, by decide⟩
theorem lX9_otherwise_195 : lkB mX9_otherwise mX4_isLike 195 := ⟨gmem 750 (by decide +kernel) rfl, by decide⟩
theorem lX9_keep_156 : lkB mX9_keep mX9_fitRefusal 156 := ⟨gmem 522 (by decide +kernel) rfl, by decide⟩
theorem zX9_keepProgram : mV mX9_keepProgram 1 := ⟨⟨gmem 757 (by decide +kernel) rfl, gmem 27 (by decide +kernel) rfl⟩, ⟨gmem 77 (by decide +kernel) rfl, gmem 758 (by decide +kernel) rfl, by decide +kernel, by decide +kernel⟩⟩
theorem lX9_keep_199 : lkB mX9_keep mX9_keepProgram 199 := ⟨gmem 755 (by decide +kernel) rfl, by decide⟩
theorem zX7_read : mV mX7_read 1 := ⟨⟨gmem 770 (by decide +kernel) rfl, gmem 771 (by decide +kernel) rfl⟩, ⟨gmem 83 (by decide +kernel) rfl, gmem 772 (by decide +kernel) rfl, by decide +kernel, by decide +kernel⟩⟩
theorem lX9_text_203 : lkB mX9_text mX7_read 203 := ⟨gmem 769 (by decide +kernel) rfl, by decide⟩
theorem lX9_text_102 : lkB mX9_text mX4_clear 102 := ⟨gmem 432 (by decide +kernel) rfl, by decide⟩
theorem lX9_text_199 : lkB mX9_text mX9_keepProgram 199 := ⟨gmem 755 (by decide +kernel) rfl, by decide⟩
theorem zX9_isProgram : mV mX9_isProgram 1 := ⟨⟨gmem 911 (by decide +kernel) rfl, gmem 37 (by decide +kernel) rfl⟩, ⟨gmem 77 (by decide +kernel) rfl, gmem 912 (by decide +kernel) rfl, by decide +kernel, by decide +kernel⟩⟩
theorem lX9_kept_210 : lkB mX9_kept mX9_isProgram 210 := ⟨gmem 909 (by decide +kernel) rfl, by decide⟩
theorem lX9_kept_166 : lkB mX9_kept mX3_told 166 := ⟨gmem 652 (by decide +kernel) rfl, by decide⟩
theorem lX9_run_210 : lkB mX9_run mX9_isProgram 210 := ⟨gmem 909 (by decide +kernel) rfl, by decide⟩
theorem lX9_run_122 : lkB mX9_run mX9_isThing 122 := ⟨gmem 455 (by decide +kernel) rfl, by decide⟩
theorem lX9_run_167 : lkB mX9_run mX3_makeOf 167 := ⟨gmem 661 (by decide +kernel) rfl, by decide⟩
theorem lX9_run_128 : lkB mX9_run mX4_told 128 := ⟨gmem 459 (by decide +kernel) rfl, by decide⟩
theorem lX9_count_151 : lkB mX9_count mX9_howMany 151 := ⟨gmem 490 (by decide +kernel) rfl, by decide⟩
theorem lX9_sheet_105 : lkB mX9_sheet mX9_isSheet 105 := ⟨gmem 437 (by decide +kernel) rfl, by decide⟩
theorem lX9_sheet_108 : lkB mX9_sheet mX9_isLane 108 := ⟨gmem 440 (by decide +kernel) rfl, by decide⟩
theorem zX5_renew : mV mX5_renew 2 := ⟨⟨gmem 926 (by decide +kernel) rfl, gmem 927 (by decide +kernel) rfl⟩, ⟨gmem 85 (by decide +kernel) rfl, gmem 928 (by decide +kernel) rfl, by decide +kernel, by decide +kernel⟩⟩
theorem lX9_sheet_213 : lkB mX9_sheet mX5_renew 213 := ⟨gmem 925 (by decide +kernel) rfl, by decide⟩
theorem lX9_drop_105 : lkB mX9_drop mX9_isSheet 105 := ⟨gmem 437 (by decide +kernel) rfl, by decide⟩
theorem zX5_isThere : mV mX5_isThere 0 := ⟨⟨gmem 937 (by decide +kernel) rfl, gmem 938 (by decide +kernel) rfl⟩, ⟨gmem 85 (by decide +kernel) rfl, gmem 939 (by decide +kernel) rfl, by decide +kernel, by decide +kernel⟩⟩
theorem lX9_drop_217 : lkB mX9_drop mX5_isThere 217 := ⟨gmem 936 (by decide +kernel) rfl, by decide⟩
theorem zX5_vanish : mV mX5_vanish 0 := ⟨⟨gmem 941 (by decide +kernel) rfl, gmem 942 (by decide +kernel) rfl⟩, ⟨gmem 85 (by decide +kernel) rfl, gmem 943 (by decide +kernel) rfl, by decide +kernel, by decide +kernel⟩⟩
theorem lX9_drop_222 : lkB mX9_drop mX5_vanish 222 := ⟨gmem 940 (by decide +kernel) rfl, by decide⟩
theorem lX9_item_105 : lkB mX9_item mX9_isSheet 105 := ⟨gmem 437 (by decide +kernel) rfl, by decide⟩
theorem lX9_item_108 : lkB mX9_item mX9_isLane 108 := ⟨gmem 440 (by decide +kernel) rfl, by decide⟩
theorem lX9_item_111 : lkB mX9_item mX5_refusalOf 111 := ⟨gmem 443 (by decide +kernel) rfl, by decide⟩
theorem lX9_item_115 : lkB mX9_item mX5_holds 115 := ⟨gmem 447 (by decide +kernel) rfl, by decide⟩
theorem zX5_write : mV mX5_write 2 := ⟨⟨gmem 949 (by decide +kernel) rfl, gmem 950 (by decide +kernel) rfl⟩, ⟨gmem 85 (by decide +kernel) rfl, gmem 951 (by decide +kernel) rfl, by decide +kernel, by decide +kernel⟩⟩
theorem lX9_item_225 : lkB mX9_item mX5_write 225 := ⟨gmem 948 (by decide +kernel) rfl, by decide⟩
theorem lX9_put_122 : lkB mX9_put mX9_isThing 122 := ⟨gmem 455 (by decide +kernel) rfl, by decide⟩
theorem lX9_put_134 : lkB mX9_put mX9_isCut 134 := ⟨gmem 471 (by decide +kernel) rfl, by decide⟩
theorem lX9_put_105 : lkB mX9_put mX9_isSheet 105 := ⟨gmem 437 (by decide +kernel) rfl, by decide⟩
theorem lX9_put_108 : lkB mX9_put mX9_isLane 108 := ⟨gmem 440 (by decide +kernel) rfl, by decide⟩
theorem lX9_put_111 : lkB mX9_put mX5_refusalOf 111 := ⟨gmem 443 (by decide +kernel) rfl, by decide⟩
theorem lX9_put_102 : lkB mX9_put mX4_clear 102 := ⟨gmem 432 (by decide +kernel) rfl, by decide⟩
theorem lX9_put_137 : lkB mX9_put mX8_cutInto 137 := ⟨gmem 474 (by decide +kernel) rfl, by decide⟩
theorem lX9_put_115 : lkB mX9_put mX5_holds 115 := ⟨gmem 447 (by decide +kernel) rfl, by decide⟩
theorem lX9_put_225 : lkB mX9_put mX5_write 225 := ⟨gmem 948 (by decide +kernel) rfl, by decide⟩
theorem lX9_addThing_191 : lkB mX9_addThing mX4_copyOf 191 := ⟨gmem 399 (by decide +kernel) rfl, by decide⟩
theorem zX8_findPlaces : mV mX8_findPlaces 0 := ⟨⟨gmem 409 (by decide +kernel) rfl, gmem 410 (by decide +kernel) rfl⟩, ⟨gmem 84 (by decide +kernel) rfl, gmem 411 (by decide +kernel) rfl, by decide +kernel, by decide +kernel⟩⟩
theorem lX9_addThing_232 : lkB mX9_addThing mX8_findPlaces 232 := ⟨gmem 408 (by decide +kernel) rfl, by decide⟩
theorem lX9_showTapeOf_151 : lkB mX9_showTapeOf mX9_howMany 151 := ⟨gmem 490 (by decide +kernel) rfl, by decide⟩
theorem lX9_showTapeOf_191 : lkB mX9_showTapeOf mX4_copyOf 191 := ⟨gmem 399 (by decide +kernel) rfl, by decide⟩
theorem zX8_compareSpans : mV mX8_compareSpans 0 := ⟨⟨gmem 495 (by decide +kernel) rfl, gmem 496 (by decide +kernel) rfl⟩, ⟨gmem 84 (by decide +kernel) rfl, gmem 497 (by decide +kernel) rfl, by decide +kernel, by decide +kernel⟩⟩
theorem lX9_showTapeOf_235 : lkB mX9_showTapeOf mX8_compareSpans 235 := ⟨gmem 494 (by decide +kernel) rfl, by decide⟩
theorem lX9_showTapeOf_148 : lkB mX9_showTapeOf mX9_showingChanged 148 := ⟨gmem 509 (by decide +kernel) rfl, by decide⟩
theorem lX9_fitRefusal_151 : lkB mX9_fitRefusal mX9_howMany 151 := ⟨gmem 490 (by decide +kernel) rfl, by decide⟩
theorem zX9_measureWithout : mV mX9_measureWithout 1 := ⟨⟨gmem 528 (by decide +kernel) rfl, gmem 10 (by decide +kernel) rfl⟩, ⟨gmem 77 (by decide +kernel) rfl, gmem 529 (by decide +kernel) rfl, by decide +kernel, by decide +kernel⟩⟩
theorem lX9_fitRefusal_238 : lkB mX9_fitRefusal mX9_measureWithout 238 := ⟨gmem 526 (by decide +kernel) rfl, by decide⟩
theorem zX0_rank : mV mX0_rank 0 := ⟨⟨gmem 598 (by decide +kernel) rfl, gmem 599 (by decide +kernel) rfl⟩, ⟨gmem 79 (by decide +kernel) rfl, gmem 600 (by decide +kernel) rfl, by decide +kernel, by decide +kernel⟩⟩
theorem lX9_fitRefusal_241 : lkB mX9_fitRefusal mX0_rank 241 := ⟨gmem 597 (by decide +kernel) rfl, by decide⟩
theorem lX9_fitRefusal_162 : lkB mX9_fitRefusal mX0_howMany 162 := ⟨gmem 646 (by decide +kernel) rfl, by decide⟩
theorem zX0_clear : mV mX0_clear 0 := ⟨⟨gmem 531 (by decide +kernel) rfl, gmem 532 (by decide +kernel) rfl⟩, ⟨gmem 79 (by decide +kernel) rfl, gmem 533 (by decide +kernel) rfl, by decide +kernel, by decide +kernel⟩⟩
theorem lX9_measureWithout_244 : lkB mX9_measureWithout mX0_clear 244 := ⟨gmem 530 (by decide +kernel) rfl, by decide⟩
theorem zX0_take : mV mX0_take 1 := ⟨⟨gmem 539 (by decide +kernel) rfl, gmem 540 (by decide +kernel) rfl⟩, ⟨gmem 79 (by decide +kernel) rfl, gmem 541 (by decide +kernel) rfl, by decide +kernel, by decide +kernel⟩⟩
theorem lX9_measureWithout_245 : lkB mX9_measureWithout mX0_take 245 := ⟨gmem 538 (by decide +kernel) rfl, by decide⟩
theorem zX0_measure : mV mX0_measure 0 := ⟨⟨gmem 543 (by decide +kernel) rfl, gmem 544 (by decide +kernel) rfl⟩, ⟨gmem 79 (by decide +kernel) rfl, gmem 545 (by decide +kernel) rfl, by decide +kernel, by decide +kernel⟩⟩
theorem lX9_measureWithout_248 : lkB mX9_measureWithout mX0_measure 248 := ⟨gmem 542 (by decide +kernel) rfl, by decide⟩
theorem zJ6_bitCount_0f7a4 : mS mJ6_bitCount_0f7a4 1 := ⟨gmem 722 (by decide +kernel) rfl, ⟨gmem 90 (by decide +kernel) rfl, gmem 723 (by decide +kernel) rfl, by decide +kernel, by decide +kernel⟩⟩
theorem lX9_leastSlips_251 : lkB mX9_leastSlips mJ6_bitCount_0f7a4 251 := ⟨gmem 721 (by decide +kernel) rfl, by decide⟩
theorem zX9_spread : mS mX9_spread 2 := ⟨gmem 728 (by decide +kernel) rfl, ⟨gmem 77 (by decide +kernel) rfl, gmem 729 (by decide +kernel) rfl, by decide +kernel, by decide +kernel⟩⟩
theorem lX9_leastSlips_256 : lkB mX9_leastSlips mX9_spread 256 := ⟨gmem 727 (by decide +kernel) rfl, by decide⟩
theorem lX9_leastSlips_238 : lkB mX9_leastSlips mX9_measureWithout 238 := ⟨gmem 526 (by decide +kernel) rfl, by decide⟩
theorem lX9_leastSlips_162 : lkB mX9_leastSlips mX0_howMany 162 := ⟨gmem 646 (by decide +kernel) rfl, by decide⟩
theorem lX9_makesOddEnd_167 : lkB mX9_makesOddEnd mX3_makeOf 167 := ⟨gmem 661 (by decide +kernel) rfl, by decide⟩
theorem zX1_shapeOf : mS mX1_shapeOf 1 := ⟨gmem 708 (by decide +kernel) rfl, ⟨gmem 87 (by decide +kernel) rfl, gmem 709 (by decide +kernel) rfl, by decide +kernel, by decide +kernel⟩⟩
theorem lX9_makesOddEnd_260 : lkB mX9_makesOddEnd mX1_shapeOf 260 := ⟨gmem 707 (by decide +kernel) rfl, by decide⟩
theorem zX3_copyOf : mV mX3_copyOf 1 := ⟨⟨gmem 760 (by decide +kernel) rfl, gmem 761 (by decide +kernel) rfl⟩, ⟨gmem 81 (by decide +kernel) rfl, gmem 762 (by decide +kernel) rfl, by decide +kernel, by decide +kernel⟩⟩
theorem lX9_keepProgram_265 : lkB mX9_keepProgram mX3_copyOf 265 := ⟨gmem 759 (by decide +kernel) rfl, by decide⟩
theorem zX10_in : mS mX10_in 3 := ⟨gmem 1072 (by decide +kernel) rfl, ⟨gmem 86 (by decide +kernel) rfl, gmem 1073 (by decide +kernel) rfl, by decide +kernel, by decide +kernel⟩⟩
theorem lX10_isThing_84 : lkB mX10_isThing mX10_in 84 := ⟨gmem 1071 (by decide +kernel) rfl, by decide⟩
theorem lX10_type_84 : lkB mX10_type mX10_in 84 := ⟨gmem 1071 (by decide +kernel) rfl, by decide⟩
theorem lX10_thing_84 : lkB mX10_thing mX10_in 84 := ⟨gmem 1071 (by decide +kernel) rfl, by decide⟩
theorem zX10_addThing : mV mX10_addThing 1 := ⟨⟨gmem 1084 (by decide +kernel) rfl, gmem 38 (by decide +kernel) rfl⟩, ⟨gmem 86 (by decide +kernel) rfl, gmem 1085 (by decide +kernel) rfl, by decide +kernel, by decide +kernel⟩⟩
theorem lX10_thing_101 : lkB mX10_thing mX10_addThing 101 := ⟨gmem 1082 (by decide +kernel) rfl, by decide⟩
theorem zX10_isThing : mV mX10_isThing 1 := ⟨⟨gmem 1092 (by decide +kernel) rfl, gmem 39 (by decide +kernel) rfl⟩, ⟨gmem 86 (by decide +kernel) rfl, gmem 1093 (by decide +kernel) rfl, by decide +kernel, by decide +kernel⟩⟩
theorem lX10_byteAt_105 : lkB mX10_byteAt mX10_isThing 105 := ⟨gmem 1090 (by decide +kernel) rfl, by decide⟩
theorem lX10_byteAt_84 : lkB mX10_byteAt mX10_in 84 := ⟨gmem 1071 (by decide +kernel) rfl, by decide⟩
theorem lX10_isDigit_84 : lkB mX10_isDigit mX10_in 84 := ⟨gmem 1071 (by decide +kernel) rfl, by decide⟩
theorem lX10_isCapital_84 : lkB mX10_isCapital mX10_in 84 := ⟨gmem 1071 (by decide +kernel) rfl, by decide⟩
theorem lX10_isSmall_84 : lkB mX10_isSmall mX10_in 84 := ⟨gmem 1071 (by decide +kernel) rfl, by decide⟩
theorem zX10_isDigit : mS mX10_isDigit 1 := ⟨gmem 1112 (by decide +kernel) rfl, ⟨gmem 86 (by decide +kernel) rfl, gmem 1113 (by decide +kernel) rfl, by decide +kernel, by decide +kernel⟩⟩
theorem lX10_isSign_123 : lkB mX10_isSign mX10_isDigit 123 := ⟨gmem 1111 (by decide +kernel) rfl, by decide⟩
theorem zX10_isCapital : mS mX10_isCapital 1 := ⟨gmem 1117 (by decide +kernel) rfl, ⟨gmem 86 (by decide +kernel) rfl, gmem 1118 (by decide +kernel) rfl, by decide +kernel, by decide +kernel⟩⟩
theorem lX10_isSign_126 : lkB mX10_isSign mX10_isCapital 126 := ⟨gmem 1116 (by decide +kernel) rfl, by decide⟩
theorem zX10_isSmall : mS mX10_isSmall 1 := ⟨gmem 1122 (by decide +kernel) rfl, ⟨gmem 86 (by decide +kernel) rfl, gmem 1123 (by decide +kernel) rfl, by decide +kernel, by decide +kernel⟩⟩
theorem lX10_isSign_129 : lkB mX10_isSign mX10_isSmall 129 := ⟨gmem 1121 (by decide +kernel) rfl, by decide⟩
theorem lX10_isOf_123 : lkB mX10_isOf mX10_isDigit 123 := ⟨gmem 1111 (by decide +kernel) rfl, by decide⟩
theorem lX10_isOf_126 : lkB mX10_isOf mX10_isCapital 126 := ⟨gmem 1116 (by decide +kernel) rfl, by decide⟩
theorem lX10_isOf_129 : lkB mX10_isOf mX10_isSmall 129 := ⟨gmem 1121 (by decide +kernel) rfl, by decide⟩
theorem zX10_isSign : mS mX10_isSign 1 := ⟨gmem 1127 (by decide +kernel) rfl, ⟨gmem 86 (by decide +kernel) rfl, gmem 1128 (by decide +kernel) rfl, by decide +kernel, by decide +kernel⟩⟩
theorem lX10_isOf_132 : lkB mX10_isOf mX10_isSign 132 := ⟨gmem 1126 (by decide +kernel) rfl, by decide⟩
theorem zX10_isOf : mS mX10_isOf 2 := ⟨gmem 1109 (by decide +kernel) rfl, ⟨gmem 86 (by decide +kernel) rfl, gmem 1110 (by decide +kernel) rfl, by decide +kernel, by decide +kernel⟩⟩
theorem lX10_runOf_135 : lkB mX10_runOf mX10_isOf 135 := ⟨gmem 1108 (by decide +kernel) rfl, by decide⟩
theorem lX10_placeOf_84 : lkB mX10_placeOf mX10_in 84 := ⟨gmem 1071 (by decide +kernel) rfl, by decide⟩
theorem zX10_runOf : mV mX10_runOf 4 := ⟨⟨gmem 1106 (by decide +kernel) rfl, gmem 41 (by decide +kernel) rfl⟩, ⟨gmem 86 (by decide +kernel) rfl, gmem 1107 (by decide +kernel) rfl, by decide +kernel, by decide +kernel⟩⟩
theorem lX10_placeOf_139 : lkB mX10_placeOf mX10_runOf 139 := ⟨gmem 1104 (by decide +kernel) rfl, by decide⟩
theorem lX10_place_105 : lkB mX10_place mX10_isThing 105 := ⟨gmem 1090 (by decide +kernel) rfl, by decide⟩
theorem lX10_place_84 : lkB mX10_place mX10_in 84 := ⟨gmem 1071 (by decide +kernel) rfl, by decide⟩
theorem zX10_placeOf : mV mX10_placeOf 2 := ⟨⟨gmem 1102 (by decide +kernel) rfl, gmem 40 (by decide +kernel) rfl⟩, ⟨gmem 86 (by decide +kernel) rfl, gmem 1103 (by decide +kernel) rfl, by decide +kernel, by decide +kernel⟩⟩
theorem lX10_place_145 : lkB mX10_place mX10_placeOf 145 := ⟨gmem 1100 (by decide +kernel) rfl, by decide⟩
theorem lX10_turned_129 : lkB mX10_turned mX10_isSmall 129 := ⟨gmem 1121 (by decide +kernel) rfl, by decide⟩
theorem lX10_turned_126 : lkB mX10_turned mX10_isCapital 126 := ⟨gmem 1116 (by decide +kernel) rfl, by decide⟩
theorem lX10_makePiece_145 : lkB mX10_makePiece mX10_placeOf 145 := ⟨gmem 1100 (by decide +kernel) rfl, by decide⟩
theorem zX10_turned : mS mX10_turned 2 := ⟨gmem 1140 (by decide +kernel) rfl, ⟨gmem 86 (by decide +kernel) rfl, gmem 1141 (by decide +kernel) rfl, by decide +kernel, by decide +kernel⟩⟩
theorem lX10_makePiece_153 : lkB mX10_makePiece mX10_turned 153 := ⟨gmem 1139 (by decide +kernel) rfl, by decide⟩
theorem lX10_made_105 : lkB mX10_made mX10_isThing 105 := ⟨gmem 1090 (by decide +kernel) rfl, by decide⟩
theorem lX10_made_84 : lkB mX10_made mX10_in 84 := ⟨gmem 1071 (by decide +kernel) rfl, by decide⟩
theorem zX10_makePiece : mV mX10_makePiece 2 := ⟨⟨gmem 1136 (by decide +kernel) rfl, gmem 42 (by decide +kernel) rfl⟩, ⟨gmem 86 (by decide +kernel) rfl, gmem 1137 (by decide +kernel) rfl, by decide +kernel, by decide +kernel⟩⟩
theorem lX10_made_158 : lkB mX10_made mX10_makePiece 158 := ⟨gmem 1134 (by decide +kernel) rfl, by decide⟩
theorem zX10_byteOf : mV mX10_byteOf 1 := ⟨⟨gmem 1144 (by decide +kernel) rfl, gmem 43 (by decide +kernel) rfl⟩, ⟨gmem 86 (by decide +kernel) rfl, gmem 1145 (by decide +kernel) rfl, by decide +kernel, by decide +kernel⟩⟩
theorem lX10_made_161 : lkB mX10_made mX10_byteOf 161 := ⟨gmem 1142 (by decide +kernel) rfl, by decide⟩
theorem lX10_show_105 : lkB mX10_show mX10_isThing 105 := ⟨gmem 1090 (by decide +kernel) rfl, by decide⟩
theorem lX10_show_84 : lkB mX10_show mX10_in 84 := ⟨gmem 1071 (by decide +kernel) rfl, by decide⟩
theorem zX10_countOf : mV mX10_countOf 1 := ⟨⟨gmem 1153 (by decide +kernel) rfl, gmem 44 (by decide +kernel) rfl⟩, ⟨gmem 86 (by decide +kernel) rfl, gmem 1154 (by decide +kernel) rfl, by decide +kernel, by decide +kernel⟩⟩
theorem lX10_show_169 : lkB mX10_show mX10_countOf 169 := ⟨gmem 1151 (by decide +kernel) rfl, by decide⟩
theorem lX10_forget_105 : lkB mX10_forget mX10_isThing 105 := ⟨gmem 1090 (by decide +kernel) rfl, by decide⟩
theorem lX10_forget_169 : lkB mX10_forget mX10_countOf 169 := ⟨gmem 1151 (by decide +kernel) rfl, by decide⟩
theorem lX10_longOf_158 : lkB mX10_longOf mX10_makePiece 158 := ⟨gmem 1134 (by decide +kernel) rfl, by decide⟩
theorem zX10_standsAt : mV mX10_standsAt 2 := ⟨⟨gmem 1179 (by decide +kernel) rfl, gmem 48 (by decide +kernel) rfl⟩, ⟨gmem 86 (by decide +kernel) rfl, gmem 1180 (by decide +kernel) rfl, by decide +kernel, by decide +kernel⟩⟩
theorem lX10_longOf_172 : lkB mX10_longOf mX10_standsAt 172 := ⟨gmem 1177 (by decide +kernel) rfl, by decide⟩
theorem zX10_longOf : mV mX10_longOf 2 := ⟨⟨gmem 1175 (by decide +kernel) rfl, gmem 47 (by decide +kernel) rfl⟩, ⟨gmem 86 (by decide +kernel) rfl, gmem 1176 (by decide +kernel) rfl, by decide +kernel, by decide +kernel⟩⟩
theorem lX10_findPieces_181 : lkB mX10_findPieces mX10_longOf 181 := ⟨gmem 1173 (by decide +kernel) rfl, by decide⟩
theorem zX10_noteFront : mV mX10_noteFront 2 := ⟨⟨gmem 1183 (by decide +kernel) rfl, gmem 49 (by decide +kernel) rfl⟩, ⟨gmem 86 (by decide +kernel) rfl, gmem 1184 (by decide +kernel) rfl, by decide +kernel, by decide +kernel⟩⟩
theorem lX10_findPieces_185 : lkB mX10_findPieces mX10_noteFront 185 := ⟨gmem 1181 (by decide +kernel) rfl, by decide⟩
theorem zX10_noteBehind : mV mX10_noteBehind 2 := ⟨⟨gmem 1187 (by decide +kernel) rfl, gmem 50 (by decide +kernel) rfl⟩, ⟨gmem 86 (by decide +kernel) rfl, gmem 1188 (by decide +kernel) rfl, by decide +kernel, by decide +kernel⟩⟩
theorem lX10_findPieces_189 : lkB mX10_findPieces mX10_noteBehind 189 := ⟨gmem 1185 (by decide +kernel) rfl, by decide⟩
theorem zX10_typedAt : mV mX10_typedAt 2 := ⟨⟨gmem 1191 (by decide +kernel) rfl, gmem 51 (by decide +kernel) rfl⟩, ⟨gmem 86 (by decide +kernel) rfl, gmem 1192 (by decide +kernel) rfl, by decide +kernel, by decide +kernel⟩⟩
theorem lX10_findPieces_192 : lkB mX10_findPieces mX10_typedAt 192 := ⟨gmem 1189 (by decide +kernel) rfl, by decide⟩
theorem zX10_isAll : mV mX10_isAll 1 := ⟨⟨gmem 1199 (by decide +kernel) rfl, gmem 53 (by decide +kernel) rfl⟩, ⟨gmem 86 (by decide +kernel) rfl, gmem 1200 (by decide +kernel) rfl, by decide +kernel, by decide +kernel⟩⟩
theorem lX10_fittingOf_195 : lkB mX10_fittingOf mX10_isAll 195 := ⟨gmem 1197 (by decide +kernel) rfl, by decide⟩
theorem zX10_leftOf : mV mX10_leftOf 2 := ⟨⟨gmem 1203 (by decide +kernel) rfl, gmem 54 (by decide +kernel) rfl⟩, ⟨gmem 86 (by decide +kernel) rfl, gmem 1204 (by decide +kernel) rfl, by decide +kernel, by decide +kernel⟩⟩
theorem lX10_fittingOf_198 : lkB mX10_fittingOf mX10_leftOf 198 := ⟨gmem 1201 (by decide +kernel) rfl, by decide⟩
theorem lX10_fittingOf_192 : lkB mX10_fittingOf mX10_typedAt 192 := ⟨gmem 1189 (by decide +kernel) rfl, by decide⟩
theorem lX10_fitting_84 : lkB mX10_fitting mX10_in 84 := ⟨gmem 1071 (by decide +kernel) rfl, by decide⟩
theorem lX10_fitting_169 : lkB mX10_fitting mX10_countOf 169 := ⟨gmem 1151 (by decide +kernel) rfl, by decide⟩
theorem zX10_findShown : mV mX10_findShown 1 := ⟨⟨gmem 1167 (by decide +kernel) rfl, gmem 45 (by decide +kernel) rfl⟩, ⟨gmem 86 (by decide +kernel) rfl, gmem 1168 (by decide +kernel) rfl, by decide +kernel, by decide +kernel⟩⟩
theorem lX10_fitting_205 : lkB mX10_fitting mX10_findShown 205 := ⟨gmem 1165 (by decide +kernel) rfl, by decide⟩
theorem zX10_findPieces : mV mX10_findPieces 0 := ⟨⟨gmem 1171 (by decide +kernel) rfl, gmem 46 (by decide +kernel) rfl⟩, ⟨gmem 86 (by decide +kernel) rfl, gmem 1172 (by decide +kernel) rfl, by decide +kernel, by decide +kernel⟩⟩
theorem lX10_fitting_209 : lkB mX10_fitting mX10_findPieces 209 := ⟨gmem 1169 (by decide +kernel) rfl, by decide⟩
theorem zX10_fittingOf : mV mX10_fittingOf 1 := ⟨⟨gmem 1195 (by decide +kernel) rfl, gmem 52 (by decide +kernel) rfl⟩, ⟨gmem 86 (by decide +kernel) rfl, gmem 1196 (by decide +kernel) rfl, by decide +kernel, by decide +kernel⟩⟩
theorem lX10_fitting_212 : lkB mX10_fitting mX10_fittingOf 212 := ⟨gmem 1193 (by decide +kernel) rfl, by decide⟩
theorem zX10_costOf : mS mX10_costOf 1 := ⟨gmem 1219 (by decide +kernel) rfl, ⟨gmem 86 (by decide +kernel) rfl, gmem 1220 (by decide +kernel) rfl, by decide +kernel, by decide +kernel⟩⟩
theorem lX10_noteWith_219 : lkB mX10_noteWith mX10_costOf 219 := ⟨gmem 1218 (by decide +kernel) rfl, by decide⟩
theorem zX10_noteNear : mV mX10_noteNear 3 := ⟨⟨gmem 1223 (by decide +kernel) rfl, gmem 57 (by decide +kernel) rfl⟩, ⟨gmem 86 (by decide +kernel) rfl, gmem 1224 (by decide +kernel) rfl, by decide +kernel, by decide +kernel⟩⟩
theorem lX10_noteWith_222 : lkB mX10_noteWith mX10_noteNear 222 := ⟨gmem 1221 (by decide +kernel) rfl, by decide⟩
theorem lX10_findNearest_205 : lkB mX10_findNearest mX10_findShown 205 := ⟨gmem 1165 (by decide +kernel) rfl, by decide⟩
theorem lX10_findNearest_209 : lkB mX10_findNearest mX10_findPieces 209 := ⟨gmem 1169 (by decide +kernel) rfl, by decide⟩
theorem lX10_findNearest_195 : lkB mX10_findNearest mX10_isAll 195 := ⟨gmem 1197 (by decide +kernel) rfl, by decide⟩
theorem lX10_findNearest_219 : lkB mX10_findNearest mX10_costOf 219 := ⟨gmem 1218 (by decide +kernel) rfl, by decide⟩
theorem lX10_findNearest_222 : lkB mX10_findNearest mX10_noteNear 222 := ⟨gmem 1221 (by decide +kernel) rfl, by decide⟩
theorem lX10_findNearest_198 : lkB mX10_findNearest mX10_leftOf 198 := ⟨gmem 1201 (by decide +kernel) rfl, by decide⟩
theorem zX10_noteWith : mV mX10_noteWith 4 := ⟨⟨gmem 1227 (by decide +kernel) rfl, gmem 58 (by decide +kernel) rfl⟩, ⟨gmem 86 (by decide +kernel) rfl, gmem 1228 (by decide +kernel) rfl, by decide +kernel, by decide +kernel⟩⟩
theorem lX10_findNearest_226 : lkB mX10_findNearest mX10_noteWith 226 := ⟨gmem 1225 (by decide +kernel) rfl, by decide⟩
theorem lX10_findNearest_192 : lkB mX10_findNearest mX10_typedAt 192 := ⟨gmem 1189 (by decide +kernel) rfl, by decide⟩
theorem lX10_lacksFit_169 : lkB mX10_lacksFit mX10_countOf 169 := ⟨gmem 1151 (by decide +kernel) rfl, by decide⟩
theorem zX10_findNearest : mV mX10_findNearest 0 := ⟨⟨gmem 1216 (by decide +kernel) rfl, gmem 56 (by decide +kernel) rfl⟩, ⟨gmem 86 (by decide +kernel) rfl, gmem 1217 (by decide +kernel) rfl, by decide +kernel, by decide +kernel⟩⟩
theorem lX10_lacksFit_230 : lkB mX10_lacksFit mX10_findNearest 230 := ⟨gmem 1214 (by decide +kernel) rfl, by decide⟩
theorem lX10_runRow_158 : lkB mX10_runRow mX10_makePiece 158 := ⟨gmem 1134 (by decide +kernel) rfl, by decide⟩
theorem lX10_toldOf_219 : lkB mX10_toldOf mX10_costOf 219 := ⟨gmem 1218 (by decide +kernel) rfl, by decide⟩
theorem lX10_shortest_84 : lkB mX10_shortest mX10_in 84 := ⟨gmem 1071 (by decide +kernel) rfl, by decide⟩
theorem zX10_lacksFit : mV mX10_lacksFit 0 := ⟨⟨gmem 1212 (by decide +kernel) rfl, gmem 55 (by decide +kernel) rfl⟩, ⟨gmem 86 (by decide +kernel) rfl, gmem 1213 (by decide +kernel) rfl, by decide +kernel, by decide +kernel⟩⟩
theorem lX10_shortest_235 : lkB mX10_shortest mX10_lacksFit 235 := ⟨gmem 1210 (by decide +kernel) rfl, by decide⟩
theorem zX10_toldOf : mS mX10_toldOf 3 := ⟨gmem 1230 (by decide +kernel) rfl, ⟨gmem 86 (by decide +kernel) rfl, gmem 1231 (by decide +kernel) rfl, by decide +kernel, by decide +kernel⟩⟩
theorem lX10_shortest_239 : lkB mX10_shortest mX10_toldOf 239 := ⟨gmem 1229 (by decide +kernel) rfl, by decide⟩
theorem lX10_paper_105 : lkB mX10_paper mX10_isThing 105 := ⟨gmem 1090 (by decide +kernel) rfl, by decide⟩
theorem lX10_paper_235 : lkB mX10_paper mX10_lacksFit 235 := ⟨gmem 1210 (by decide +kernel) rfl, by decide⟩
theorem zX10_runRow : mV mX10_runRow 3 := ⟨⟨gmem 1238 (by decide +kernel) rfl, gmem 59 (by decide +kernel) rfl⟩, ⟨gmem 86 (by decide +kernel) rfl, gmem 1239 (by decide +kernel) rfl, by decide +kernel, by decide +kernel⟩⟩
theorem lX10_paper_243 : lkB mX10_paper mX10_runRow 243 := ⟨gmem 1236 (by decide +kernel) rfl, by decide⟩
theorem lX10_paper_161 : lkB mX10_paper mX10_byteOf 161 := ⟨gmem 1142 (by decide +kernel) rfl, by decide⟩
theorem lX10_findEnds_243 : lkB mX10_findEnds mX10_runRow 243 := ⟨gmem 1236 (by decide +kernel) rfl, by decide⟩
theorem zX10_findEnds : mV mX10_findEnds 1 := ⟨⟨gmem 1250 (by decide +kernel) rfl, gmem 61 (by decide +kernel) rfl⟩, ⟨gmem 86 (by decide +kernel) rfl, gmem 1251 (by decide +kernel) rfl, by decide +kernel, by decide +kernel⟩⟩
theorem lX10_sortEnds_247 : lkB mX10_sortEnds mX10_findEnds 247 := ⟨gmem 1248 (by decide +kernel) rfl, by decide⟩
theorem zX10_areAlike : mV mX10_areAlike 2 := ⟨⟨gmem 1254 (by decide +kernel) rfl, gmem 62 (by decide +kernel) rfl⟩, ⟨gmem 86 (by decide +kernel) rfl, gmem 1255 (by decide +kernel) rfl, by decide +kernel, by decide +kernel⟩⟩
theorem lX10_sortEnds_250 : lkB mX10_sortEnds mX10_areAlike 250 := ⟨gmem 1252 (by decide +kernel) rfl, by decide⟩
theorem lX10_differs_105 : lkB mX10_differs mX10_isThing 105 := ⟨gmem 1090 (by decide +kernel) rfl, by decide⟩
theorem lX10_differs_235 : lkB mX10_differs mX10_lacksFit 235 := ⟨gmem 1210 (by decide +kernel) rfl, by decide⟩
theorem zX10_sortEnds : mV mX10_sortEnds 2 := ⟨⟨gmem 1246 (by decide +kernel) rfl, gmem 60 (by decide +kernel) rfl⟩, ⟨gmem 86 (by decide +kernel) rfl, gmem 1247 (by decide +kernel) rfl, by decide +kernel, by decide +kernel⟩⟩
theorem lX10_differs_253 : lkB mX10_differs mX10_sortEnds 253 := ⟨gmem 1244 (by decide +kernel) rfl, by decide⟩
theorem lX10_settle_235 : lkB mX10_settle mX10_lacksFit 235 := ⟨gmem 1210 (by decide +kernel) rfl, by decide⟩
theorem lX10_settle_253 : lkB mX10_settle mX10_sortEnds 253 := ⟨gmem 1244 (by decide +kernel) rfl, by decide⟩
theorem lX10_kindOf_123 : lkB mX10_kindOf mX10_isDigit 123 := ⟨gmem 1111 (by decide +kernel) rfl, by decide⟩
theorem lX10_kindOf_129 : lkB mX10_kindOf mX10_isSmall 129 := ⟨gmem 1121 (by decide +kernel) rfl, by decide⟩
theorem lX10_kindOf_126 : lkB mX10_kindOf mX10_isCapital 126 := ⟨gmem 1116 (by decide +kernel) rfl, by decide⟩
theorem zX10_kindOf : mS mX10_kindOf 1 := ⟨gmem 1273 (by decide +kernel) rfl, ⟨gmem 86 (by decide +kernel) rfl, gmem 1274 (by decide +kernel) rfl, by decide +kernel, by decide +kernel⟩⟩
theorem lX10_findShape_259 : lkB mX10_findShape mX10_kindOf 259 := ⟨gmem 1272 (by decide +kernel) rfl, by decide⟩
theorem lX10_hasShape_259 : lkB mX10_hasShape mX10_kindOf 259 := ⟨gmem 1272 (by decide +kernel) rfl, by decide⟩
theorem lX10_isOdd_243 : lkB mX10_isOdd mX10_runRow 243 := ⟨gmem 1236 (by decide +kernel) rfl, by decide⟩
theorem zX10_findShape : mV mX10_findShape 3 := ⟨⟨gmem 1270 (by decide +kernel) rfl, gmem 64 (by decide +kernel) rfl⟩, ⟨gmem 86 (by decide +kernel) rfl, gmem 1271 (by decide +kernel) rfl, by decide +kernel, by decide +kernel⟩⟩
theorem lX10_isOdd_262 : lkB mX10_isOdd mX10_findShape 262 := ⟨gmem 1268 (by decide +kernel) rfl, by decide⟩
theorem zX10_hasShape : mV mX10_hasShape 1 := ⟨⟨gmem 1277 (by decide +kernel) rfl, gmem 65 (by decide +kernel) rfl⟩, ⟨gmem 86 (by decide +kernel) rfl, gmem 1278 (by decide +kernel) rfl, by decide +kernel, by decide +kernel⟩⟩
theorem lX10_isOdd_266 : lkB mX10_isOdd mX10_hasShape 266 := ⟨gmem 1275 (by decide +kernel) rfl, by decide⟩
theorem lX10_odd_105 : lkB mX10_odd mX10_isThing 105 := ⟨gmem 1090 (by decide +kernel) rfl, by decide⟩
theorem lX10_odd_235 : lkB mX10_odd mX10_lacksFit 235 := ⟨gmem 1210 (by decide +kernel) rfl, by decide⟩
theorem zX10_isOdd : mV mX10_isOdd 1 := ⟨⟨gmem 1266 (by decide +kernel) rfl, gmem 63 (by decide +kernel) rfl⟩, ⟨gmem 86 (by decide +kernel) rfl, gmem 1267 (by decide +kernel) rfl, by decide +kernel, by decide +kernel⟩⟩
theorem lX10_odd_269 : lkB mX10_odd mX10_isOdd 269 := ⟨gmem 1264 (by decide +kernel) rfl, by decide⟩
theorem lX10_fitsBut_205 : lkB mX10_fitsBut mX10_findShown 205 := ⟨gmem 1165 (by decide +kernel) rfl, by decide⟩
theorem lX10_fitsBut_209 : lkB mX10_fitsBut mX10_findPieces 209 := ⟨gmem 1169 (by decide +kernel) rfl, by decide⟩
theorem lX10_fitsBut_212 : lkB mX10_fitsBut mX10_fittingOf 212 := ⟨gmem 1193 (by decide +kernel) rfl, by decide⟩
theorem zX10_ones : mS mX10_ones 1 := ⟨gmem 1284 (by decide +kernel) rfl, ⟨gmem 86 (by decide +kernel) rfl, gmem 1285 (by decide +kernel) rfl, by decide +kernel, by decide +kernel⟩⟩
theorem lX10_slips_272 : lkB mX10_slips mX10_ones 272 := ⟨gmem 1283 (by decide +kernel) rfl, by decide⟩
theorem zX10_fitsBut : mV mX10_fitsBut 1 := ⟨⟨gmem 1288 (by decide +kernel) rfl, gmem 66 (by decide +kernel) rfl⟩, ⟨gmem 86 (by decide +kernel) rfl, gmem 1289 (by decide +kernel) rfl, by decide +kernel, by decide +kernel⟩⟩
theorem lX10_slips_275 : lkB mX10_slips mX10_fitsBut 275 := ⟨gmem 1286 (by decide +kernel) rfl, by decide⟩
theorem lX10_state_105 : lkB mX10_state mX10_isThing 105 := ⟨gmem 1090 (by decide +kernel) rfl, by decide⟩
theorem lX10_doing_84 : lkB mX10_doing mX10_in 84 := ⟨gmem 1071 (by decide +kernel) rfl, by decide⟩
theorem lX10_doing_235 : lkB mX10_doing mX10_lacksFit 235 := ⟨gmem 1210 (by decide +kernel) rfl, by decide⟩
theorem lX10_doing_269 : lkB mX10_doing mX10_isOdd 269 := ⟨gmem 1264 (by decide +kernel) rfl, by decide⟩
theorem lX10_end_105 : lkB mX10_end mX10_isThing 105 := ⟨gmem 1090 (by decide +kernel) rfl, by decide⟩
theorem lX10_otherwise_235 : lkB mX10_otherwise mX10_lacksFit 235 := ⟨gmem 1210 (by decide +kernel) rfl, by decide⟩
theorem lX10_otherwise_243 : lkB mX10_otherwise mX10_runRow 243 := ⟨gmem 1236 (by decide +kernel) rfl, by decide⟩
theorem lX10_keep_235 : lkB mX10_keep mX10_lacksFit 235 := ⟨gmem 1210 (by decide +kernel) rfl, by decide⟩
theorem zX10_addKept : mV mX10_addKept 1 := ⟨⟨gmem 1316 (by decide +kernel) rfl, gmem 67 (by decide +kernel) rfl⟩, ⟨gmem 86 (by decide +kernel) rfl, gmem 1317 (by decide +kernel) rfl, by decide +kernel, by decide +kernel⟩⟩
theorem lX10_keep_284 : lkB mX10_keep mX10_addKept 284 := ⟨gmem 1314 (by decide +kernel) rfl, by decide⟩
theorem zX10_next : mV mX10_next 0 := ⟨⟨gmem 1328 (by decide +kernel) rfl, gmem 69 (by decide +kernel) rfl⟩, ⟨gmem 86 (by decide +kernel) rfl, gmem 1329 (by decide +kernel) rfl, by decide +kernel, by decide +kernel⟩⟩
theorem lX10_oneOf_291 : lkB mX10_oneOf mX10_next 291 := ⟨gmem 1326 (by decide +kernel) rfl, by decide⟩
theorem zX10_oneOf : mV mX10_oneOf 2 := ⟨⟨gmem 1345 (by decide +kernel) rfl, gmem 73 (by decide +kernel) rfl⟩, ⟨gmem 86 (by decide +kernel) rfl, gmem 1346 (by decide +kernel) rfl, by decide +kernel, by decide +kernel⟩⟩
theorem lX10_readPlace_296 : lkB mX10_readPlace mX10_oneOf 296 := ⟨gmem 1343 (by decide +kernel) rfl, by decide⟩
theorem lX10_readPlace_291 : lkB mX10_readPlace mX10_next 291 := ⟨gmem 1326 (by decide +kernel) rfl, by decide⟩
theorem lX10_readPlace_84 : lkB mX10_readPlace mX10_in 84 := ⟨gmem 1071 (by decide +kernel) rfl, by decide⟩
theorem zX10_readPlace : mV mX10_readPlace 0 := ⟨⟨gmem 1340 (by decide +kernel) rfl, gmem 72 (by decide +kernel) rfl⟩, ⟨gmem 86 (by decide +kernel) rfl, gmem 1341 (by decide +kernel) rfl, by decide +kernel, by decide +kernel⟩⟩
theorem lX10_readCut_306 : lkB mX10_readCut mX10_readPlace 306 := ⟨gmem 1338 (by decide +kernel) rfl, by decide⟩
theorem lX10_readCut_291 : lkB mX10_readCut mX10_next 291 := ⟨gmem 1326 (by decide +kernel) rfl, by decide⟩
theorem lX10_readProgram_291 : lkB mX10_readProgram mX10_next 291 := ⟨gmem 1326 (by decide +kernel) rfl, by decide⟩
theorem zX10_readTyped : mV mX10_readTyped 0 := ⟨⟨gmem 1332 (by decide +kernel) rfl, gmem 70 (by decide +kernel) rfl⟩, ⟨gmem 86 (by decide +kernel) rfl, gmem 1333 (by decide +kernel) rfl, by decide +kernel, by decide +kernel⟩⟩
theorem lX10_readProgram_309 : lkB mX10_readProgram mX10_readTyped 309 := ⟨gmem 1330 (by decide +kernel) rfl, by decide⟩
theorem zX10_readCut : mV mX10_readCut 0 := ⟨⟨gmem 1336 (by decide +kernel) rfl, gmem 71 (by decide +kernel) rfl⟩, ⟨gmem 86 (by decide +kernel) rfl, gmem 1337 (by decide +kernel) rfl, by decide +kernel, by decide +kernel⟩⟩
theorem lX10_readProgram_312 : lkB mX10_readProgram mX10_readCut 312 := ⟨gmem 1334 (by decide +kernel) rfl, by decide⟩
theorem zX10_readProgram : mV mX10_readProgram 0 := ⟨⟨gmem 1324 (by decide +kernel) rfl, gmem 68 (by decide +kernel) rfl⟩, ⟨gmem 86 (by decide +kernel) rfl, gmem 1325 (by decide +kernel) rfl, by decide +kernel, by decide +kernel⟩⟩
theorem lX10_text_315 : lkB mX10_text mX10_readProgram 315 := ⟨gmem 1322 (by decide +kernel) rfl, by decide⟩
theorem lX10_text_284 : lkB mX10_text mX10_addKept 284 := ⟨gmem 1314 (by decide +kernel) rfl, by decide⟩
theorem lX10_isKept_84 : lkB mX10_isKept mX10_in 84 := ⟨gmem 1071 (by decide +kernel) rfl, by decide⟩
theorem zX10_isKept : mV mX10_isKept 1 := ⟨⟨gmem 1356 (by decide +kernel) rfl, gmem 74 (by decide +kernel) rfl⟩, ⟨gmem 86 (by decide +kernel) rfl, gmem 1357 (by decide +kernel) rfl, by decide +kernel, by decide +kernel⟩⟩
theorem lX10_kept_319 : lkB mX10_kept mX10_isKept 319 := ⟨gmem 1354 (by decide +kernel) rfl, by decide⟩
theorem lX10_kept_84 : lkB mX10_kept mX10_in 84 := ⟨gmem 1071 (by decide +kernel) rfl, by decide⟩
theorem lX10_kept_239 : lkB mX10_kept mX10_toldOf 239 := ⟨gmem 1229 (by decide +kernel) rfl, by decide⟩
theorem lX10_run_319 : lkB mX10_run mX10_isKept 319 := ⟨gmem 1354 (by decide +kernel) rfl, by decide⟩
theorem lX10_run_105 : lkB mX10_run mX10_isThing 105 := ⟨gmem 1090 (by decide +kernel) rfl, by decide⟩
theorem lX10_run_243 : lkB mX10_run mX10_runRow 243 := ⟨gmem 1236 (by decide +kernel) rfl, by decide⟩
theorem lX10_run_161 : lkB mX10_run mX10_byteOf 161 := ⟨gmem 1142 (by decide +kernel) rfl, by decide⟩
theorem lX10_count_84 : lkB mX10_count mX10_in 84 := ⟨gmem 1071 (by decide +kernel) rfl, by decide⟩
theorem lX10_count_169 : lkB mX10_count mX10_countOf 169 := ⟨gmem 1151 (by decide +kernel) rfl, by decide⟩
theorem lX10_isSheet_84 : lkB mX10_isSheet mX10_in 84 := ⟨gmem 1071 (by decide +kernel) rfl, by decide⟩
theorem zX10_isSheet : mS mX10_isSheet 2 := ⟨gmem 1371 (by decide +kernel) rfl, ⟨gmem 86 (by decide +kernel) rfl, gmem 1372 (by decide +kernel) rfl, by decide +kernel, by decide +kernel⟩⟩
theorem lX10_sheet_324 : lkB mX10_sheet mX10_isSheet 324 := ⟨gmem 1370 (by decide +kernel) rfl, by decide⟩
theorem lX10_drop_84 : lkB mX10_drop mX10_in 84 := ⟨gmem 1071 (by decide +kernel) rfl, by decide⟩
theorem lX10_item_324 : lkB mX10_item mX10_isSheet 324 := ⟨gmem 1370 (by decide +kernel) rfl, by decide⟩
theorem zX10_lacksRow : mV mX10_lacksRow 2 := ⟨⟨gmem 1384 (by decide +kernel) rfl, gmem 75 (by decide +kernel) rfl⟩, ⟨gmem 86 (by decide +kernel) rfl, gmem 1385 (by decide +kernel) rfl, by decide +kernel, by decide +kernel⟩⟩
theorem lX10_item_327 : lkB mX10_item mX10_lacksRow 327 := ⟨gmem 1382 (by decide +kernel) rfl, by decide⟩
theorem lX10_item_84 : lkB mX10_item mX10_in 84 := ⟨gmem 1071 (by decide +kernel) rfl, by decide⟩
theorem lX10_line_324 : lkB mX10_line mX10_isSheet 324 := ⟨gmem 1370 (by decide +kernel) rfl, by decide⟩
theorem lX10_line_84 : lkB mX10_line mX10_in 84 := ⟨gmem 1071 (by decide +kernel) rfl, by decide⟩
theorem lX10_line_327 : lkB mX10_line mX10_lacksRow 327 := ⟨gmem 1382 (by decide +kernel) rfl, by decide⟩
theorem lX10_line_101 : lkB mX10_line mX10_addThing 101 := ⟨gmem 1082 (by decide +kernel) rfl, by decide⟩
theorem lX10_put_105 : lkB mX10_put mX10_isThing 105 := ⟨gmem 1090 (by decide +kernel) rfl, by decide⟩
theorem lX10_put_84 : lkB mX10_put mX10_in 84 := ⟨gmem 1071 (by decide +kernel) rfl, by decide⟩
theorem lX10_put_324 : lkB mX10_put mX10_isSheet 324 := ⟨gmem 1370 (by decide +kernel) rfl, by decide⟩
theorem lX10_put_327 : lkB mX10_put mX10_lacksRow 327 := ⟨gmem 1382 (by decide +kernel) rfl, by decide⟩
theorem lX10_put_158 : lkB mX10_put mX10_makePiece 158 := ⟨gmem 1134 (by decide +kernel) rfl, by decide⟩
theorem zJ0_coder_7d493 : mV mJ0_coder_7d493 0 := ⟨⟨gmem 825 (by decide +kernel) rfl, gmem 826 (by decide +kernel) rfl⟩, ⟨gmem 91 (by decide +kernel) rfl, gmem 827 (by decide +kernel) rfl, by decide +kernel, by decide +kernel⟩⟩
theorem lJ0_length_8abf5_335 : lkB mJ0_length_8abf5 mJ0_coder_7d493 335 := ⟨gmem 824 (by decide +kernel) rfl, by decide⟩
theorem zJ0_indexOf_7cf53 : mV mJ0_indexOf_7cf53 2 := ⟨⟨gmem 811 (by decide +kernel) rfl, gmem 812 (by decide +kernel) rfl⟩, ⟨gmem 91 (by decide +kernel) rfl, gmem 813 (by decide +kernel) rfl, by decide +kernel, by decide +kernel⟩⟩
theorem lJ0_indexOf_0f7a4_633 : lkB mJ0_indexOf_0f7a4 mJ0_indexOf_7cf53 633 := ⟨gmem 810 (by decide +kernel) rfl, by decide⟩
theorem zJ0_isLatin1_aae02 : mV mJ0_isLatin1_aae02 0 := ⟨⟨gmem 815 (by decide +kernel) rfl, gmem 816 (by decide +kernel) rfl⟩, ⟨gmem 91 (by decide +kernel) rfl, gmem 817 (by decide +kernel) rfl, by decide +kernel, by decide +kernel⟩⟩
theorem lJ0_indexOf_7cf53_492 : lkB mJ0_indexOf_7cf53 mJ0_isLatin1_aae02 492 := ⟨gmem 814 (by decide +kernel) rfl, by decide⟩
theorem zJ0_length_8abf5 : mV mJ0_length_8abf5 0 := ⟨⟨gmem 821 (by decide +kernel) rfl, gmem 822 (by decide +kernel) rfl⟩, ⟨gmem 91 (by decide +kernel) rfl, gmem 823 (by decide +kernel) rfl, by decide +kernel, by decide +kernel⟩⟩
theorem lJ0_indexOf_7cf53_505 : lkB mJ0_indexOf_7cf53 mJ0_length_8abf5 505 := ⟨gmem 820 (by decide +kernel) rfl, by decide⟩
theorem zJ1_indexOf_4cfef : mS mJ1_indexOf_4cfef 4 := ⟨gmem 829 (by decide +kernel) rfl, ⟨gmem 92 (by decide +kernel) rfl, gmem 830 (by decide +kernel) rfl, by decide +kernel, by decide +kernel⟩⟩
theorem lJ0_indexOf_7cf53_637 : lkB mJ0_indexOf_7cf53 mJ1_indexOf_4cfef 637 := ⟨gmem 828 (by decide +kernel) rfl, by decide⟩
theorem zJ1_canEncode_9a6ad : mS mJ1_canEncode_9a6ad 1 := ⟨gmem 832 (by decide +kernel) rfl, ⟨gmem 92 (by decide +kernel) rfl, gmem 833 (by decide +kernel) rfl, by decide +kernel, by decide +kernel⟩⟩
theorem lJ1_indexOf_4cfef_88 : lkB mJ1_indexOf_4cfef mJ1_canEncode_9a6ad 88 := ⟨gmem 831 (by decide +kernel) rfl, by decide⟩
theorem lJ1_indexOf_4cfef_92 : lkB mJ1_indexOf_4cfef mJ9_max_7cf53 92 := ⟨gmem 834 (by decide +kernel) rfl, by decide⟩
theorem lJ1_indexOf_4cfef_38 : lkB mJ1_indexOf_4cfef mJ9_min_7cf53 38 := ⟨gmem 835 (by decide +kernel) rfl, by decide⟩
theorem zJ1_indexOfChar_4cfef : mS mJ1_indexOfChar_4cfef 4 := ⟨gmem 837 (by decide +kernel) rfl, ⟨gmem 92 (by decide +kernel) rfl, gmem 838 (by decide +kernel) rfl, by decide +kernel, by decide +kernel⟩⟩
theorem lJ1_indexOf_4cfef_95 : lkB mJ1_indexOf_4cfef mJ1_indexOfChar_4cfef 95 := ⟨gmem 836 (by decide +kernel) rfl, by decide⟩
theorem zX9_init : mI mX9_init 0 := ⟨⟨gmem 99 (by decide +kernel) rfl, rfl⟩, ⟨gmem 77 (by decide +kernel) rfl, gmem 100 (by decide +kernel) rfl, by decide +kernel, by decide +kernel⟩, rfl⟩
theorem zX10_init : mI mX10_init 0 := ⟨⟨gmem 959 (by decide +kernel) rfl, rfl⟩, ⟨gmem 86 (by decide +kernel) rfl, gmem 960 (by decide +kernel) rfl, by decide +kernel, by decide +kernel⟩, rfl⟩
theorem zX9_type : mV mX9_type 2 := ⟨⟨gmem 378 (by decide +kernel) rfl, gmem 379 (by decide +kernel) rfl⟩, ⟨gmem 77 (by decide +kernel) rfl, gmem 380 (by decide +kernel) rfl, by decide +kernel, by decide +kernel⟩⟩
theorem zX10_type : mV mX10_type 2 := ⟨⟨gmem 1067 (by decide +kernel) rfl, gmem 1068 (by decide +kernel) rfl⟩, ⟨gmem 86 (by decide +kernel) rfl, gmem 1069 (by decide +kernel) rfl, by decide +kernel, by decide +kernel⟩⟩
theorem zX9_thing : mV mX9_thing 0 := ⟨⟨gmem 392 (by decide +kernel) rfl, gmem 393 (by decide +kernel) rfl⟩, ⟨gmem 77 (by decide +kernel) rfl, gmem 394 (by decide +kernel) rfl, by decide +kernel, by decide +kernel⟩⟩
theorem zX10_thing : mV mX10_thing 0 := ⟨⟨gmem 1078 (by decide +kernel) rfl, gmem 1079 (by decide +kernel) rfl⟩, ⟨gmem 86 (by decide +kernel) rfl, gmem 1080 (by decide +kernel) rfl, by decide +kernel, by decide +kernel⟩⟩
theorem zX9_line : mV mX9_line 4 := ⟨⟨gmem 434 (by decide +kernel) rfl, gmem 435 (by decide +kernel) rfl⟩, ⟨gmem 77 (by decide +kernel) rfl, gmem 436 (by decide +kernel) rfl, by decide +kernel, by decide +kernel⟩⟩
theorem zX10_line : mV mX10_line 4 := ⟨⟨gmem 1387 (by decide +kernel) rfl, gmem 1388 (by decide +kernel) rfl⟩, ⟨gmem 86 (by decide +kernel) rfl, gmem 1389 (by decide +kernel) rfl, by decide +kernel, by decide +kernel⟩⟩
theorem zX9_byteAt : mV mX9_byteAt 2 := ⟨⟨gmem 452 (by decide +kernel) rfl, gmem 453 (by decide +kernel) rfl⟩, ⟨gmem 77 (by decide +kernel) rfl, gmem 454 (by decide +kernel) rfl, by decide +kernel, by decide +kernel⟩⟩
theorem zX10_byteAt : mV mX10_byteAt 2 := ⟨⟨gmem 1087 (by decide +kernel) rfl, gmem 1088 (by decide +kernel) rfl⟩, ⟨gmem 86 (by decide +kernel) rfl, gmem 1089 (by decide +kernel) rfl, by decide +kernel, by decide +kernel⟩⟩
theorem zX9_place : mV mX9_place 2 := ⟨⟨gmem 464 (by decide +kernel) rfl, gmem 465 (by decide +kernel) rfl⟩, ⟨gmem 77 (by decide +kernel) rfl, gmem 466 (by decide +kernel) rfl, by decide +kernel, by decide +kernel⟩⟩
theorem zX10_place : mV mX10_place 2 := ⟨⟨gmem 1096 (by decide +kernel) rfl, gmem 1097 (by decide +kernel) rfl⟩, ⟨gmem 86 (by decide +kernel) rfl, gmem 1098 (by decide +kernel) rfl, by decide +kernel, by decide +kernel⟩⟩
theorem zX9_made : mV mX9_made 3 := ⟨⟨gmem 468 (by decide +kernel) rfl, gmem 469 (by decide +kernel) rfl⟩, ⟨gmem 77 (by decide +kernel) rfl, gmem 470 (by decide +kernel) rfl, by decide +kernel, by decide +kernel⟩⟩
theorem zX10_made : mV mX10_made 3 := ⟨⟨gmem 1130 (by decide +kernel) rfl, gmem 1131 (by decide +kernel) rfl⟩, ⟨gmem 86 (by decide +kernel) rfl, gmem 1132 (by decide +kernel) rfl, by decide +kernel, by decide +kernel⟩⟩
theorem zX9_show : mV mX9_show 1 := ⟨⟨gmem 483 (by decide +kernel) rfl, gmem 484 (by decide +kernel) rfl⟩, ⟨gmem 77 (by decide +kernel) rfl, gmem 485 (by decide +kernel) rfl, by decide +kernel, by decide +kernel⟩⟩
theorem zX10_show : mV mX10_show 1 := ⟨⟨gmem 1147 (by decide +kernel) rfl, gmem 1148 (by decide +kernel) rfl⟩, ⟨gmem 86 (by decide +kernel) rfl, gmem 1149 (by decide +kernel) rfl, by decide +kernel, by decide +kernel⟩⟩
theorem zX9_forget : mV mX9_forget 1 := ⟨⟨gmem 514 (by decide +kernel) rfl, gmem 515 (by decide +kernel) rfl⟩, ⟨gmem 77 (by decide +kernel) rfl, gmem 516 (by decide +kernel) rfl, by decide +kernel, by decide +kernel⟩⟩
theorem zX10_forget : mV mX10_forget 1 := ⟨⟨gmem 1156 (by decide +kernel) rfl, gmem 1157 (by decide +kernel) rfl⟩, ⟨gmem 86 (by decide +kernel) rfl, gmem 1158 (by decide +kernel) rfl, by decide +kernel, by decide +kernel⟩⟩
theorem zX9_fitting : mV mX9_fitting 1 := ⟨⟨gmem 518 (by decide +kernel) rfl, gmem 519 (by decide +kernel) rfl⟩, ⟨gmem 77 (by decide +kernel) rfl, gmem 520 (by decide +kernel) rfl, by decide +kernel, by decide +kernel⟩⟩
theorem zX10_fitting : mV mX10_fitting 1 := ⟨⟨gmem 1160 (by decide +kernel) rfl, gmem 1161 (by decide +kernel) rfl⟩, ⟨gmem 86 (by decide +kernel) rfl, gmem 1162 (by decide +kernel) rfl, by decide +kernel, by decide +kernel⟩⟩
theorem zX9_shortest : mV mX9_shortest 1 := ⟨⟨gmem 649 (by decide +kernel) rfl, gmem 650 (by decide +kernel) rfl⟩, ⟨gmem 77 (by decide +kernel) rfl, gmem 651 (by decide +kernel) rfl, by decide +kernel, by decide +kernel⟩⟩
theorem zX10_shortest : mV mX10_shortest 1 := ⟨⟨gmem 1206 (by decide +kernel) rfl, gmem 1207 (by decide +kernel) rfl⟩, ⟨gmem 86 (by decide +kernel) rfl, gmem 1208 (by decide +kernel) rfl, by decide +kernel, by decide +kernel⟩⟩
theorem zX9_paper : mV mX9_paper 2 := ⟨⟨gmem 658 (by decide +kernel) rfl, gmem 659 (by decide +kernel) rfl⟩, ⟨gmem 77 (by decide +kernel) rfl, gmem 660 (by decide +kernel) rfl, by decide +kernel, by decide +kernel⟩⟩
theorem zX10_paper : mV mX10_paper 2 := ⟨⟨gmem 1233 (by decide +kernel) rfl, gmem 1234 (by decide +kernel) rfl⟩, ⟨gmem 86 (by decide +kernel) rfl, gmem 1235 (by decide +kernel) rfl, by decide +kernel, by decide +kernel⟩⟩
theorem zX9_differs : mV mX9_differs 1 := ⟨⟨gmem 672 (by decide +kernel) rfl, gmem 673 (by decide +kernel) rfl⟩, ⟨gmem 77 (by decide +kernel) rfl, gmem 674 (by decide +kernel) rfl, by decide +kernel, by decide +kernel⟩⟩
theorem zX10_differs : mV mX10_differs 1 := ⟨⟨gmem 1241 (by decide +kernel) rfl, gmem 1242 (by decide +kernel) rfl⟩, ⟨gmem 86 (by decide +kernel) rfl, gmem 1243 (by decide +kernel) rfl, by decide +kernel, by decide +kernel⟩⟩
theorem zX9_settle : mV mX9_settle 0 := ⟨⟨gmem 689 (by decide +kernel) rfl, gmem 690 (by decide +kernel) rfl⟩, ⟨gmem 77 (by decide +kernel) rfl, gmem 691 (by decide +kernel) rfl, by decide +kernel, by decide +kernel⟩⟩
theorem zX10_settle : mV mX10_settle 0 := ⟨⟨gmem 1257 (by decide +kernel) rfl, gmem 1258 (by decide +kernel) rfl⟩, ⟨gmem 86 (by decide +kernel) rfl, gmem 1259 (by decide +kernel) rfl, by decide +kernel, by decide +kernel⟩⟩
theorem zX9_odd : mV mX9_odd 1 := ⟨⟨gmem 700 (by decide +kernel) rfl, gmem 701 (by decide +kernel) rfl⟩, ⟨gmem 77 (by decide +kernel) rfl, gmem 702 (by decide +kernel) rfl, by decide +kernel, by decide +kernel⟩⟩
theorem zX10_odd : mV mX10_odd 1 := ⟨⟨gmem 1261 (by decide +kernel) rfl, gmem 1262 (by decide +kernel) rfl⟩, ⟨gmem 86 (by decide +kernel) rfl, gmem 1263 (by decide +kernel) rfl, by decide +kernel, by decide +kernel⟩⟩
theorem zX9_slips : mV mX9_slips 0 := ⟨⟨gmem 714 (by decide +kernel) rfl, gmem 715 (by decide +kernel) rfl⟩, ⟨gmem 77 (by decide +kernel) rfl, gmem 716 (by decide +kernel) rfl, by decide +kernel, by decide +kernel⟩⟩
theorem zX10_slips : mV mX10_slips 0 := ⟨⟨gmem 1280 (by decide +kernel) rfl, gmem 1281 (by decide +kernel) rfl⟩, ⟨gmem 86 (by decide +kernel) rfl, gmem 1282 (by decide +kernel) rfl, by decide +kernel, by decide +kernel⟩⟩
theorem zX9_state : mV mX9_state 1 := ⟨⟨gmem 731 (by decide +kernel) rfl, gmem 732 (by decide +kernel) rfl⟩, ⟨gmem 77 (by decide +kernel) rfl, gmem 733 (by decide +kernel) rfl, by decide +kernel, by decide +kernel⟩⟩
theorem zX10_state : mV mX10_state 1 := ⟨⟨gmem 1291 (by decide +kernel) rfl, gmem 1292 (by decide +kernel) rfl⟩, ⟨gmem 86 (by decide +kernel) rfl, gmem 1293 (by decide +kernel) rfl, by decide +kernel, by decide +kernel⟩⟩
theorem zX9_doing : mV mX9_doing 1 := ⟨⟨gmem 735 (by decide +kernel) rfl, gmem 736 (by decide +kernel) rfl⟩, ⟨gmem 77 (by decide +kernel) rfl, gmem 737 (by decide +kernel) rfl, by decide +kernel, by decide +kernel⟩⟩
theorem zX10_doing : mV mX10_doing 1 := ⟨⟨gmem 1295 (by decide +kernel) rfl, gmem 1296 (by decide +kernel) rfl⟩, ⟨gmem 86 (by decide +kernel) rfl, gmem 1297 (by decide +kernel) rfl, by decide +kernel, by decide +kernel⟩⟩
theorem zX9_back : mV mX9_back 0 := ⟨⟨gmem 739 (by decide +kernel) rfl, gmem 740 (by decide +kernel) rfl⟩, ⟨gmem 77 (by decide +kernel) rfl, gmem 741 (by decide +kernel) rfl, by decide +kernel, by decide +kernel⟩⟩
theorem zX10_back : mV mX10_back 0 := ⟨⟨gmem 1299 (by decide +kernel) rfl, gmem 1300 (by decide +kernel) rfl⟩, ⟨gmem 86 (by decide +kernel) rfl, gmem 1301 (by decide +kernel) rfl, by decide +kernel, by decide +kernel⟩⟩
theorem zX9_end : mV mX9_end 2 := ⟨⟨gmem 743 (by decide +kernel) rfl, gmem 744 (by decide +kernel) rfl⟩, ⟨gmem 77 (by decide +kernel) rfl, gmem 745 (by decide +kernel) rfl, by decide +kernel, by decide +kernel⟩⟩
theorem zX10_end : mV mX10_end 2 := ⟨⟨gmem 1303 (by decide +kernel) rfl, gmem 1304 (by decide +kernel) rfl⟩, ⟨gmem 86 (by decide +kernel) rfl, gmem 1305 (by decide +kernel) rfl, by decide +kernel, by decide +kernel⟩⟩
theorem zX9_otherwise : mV mX9_otherwise 0 := ⟨⟨gmem 747 (by decide +kernel) rfl, gmem 748 (by decide +kernel) rfl⟩, ⟨gmem 77 (by decide +kernel) rfl, gmem 749 (by decide +kernel) rfl, by decide +kernel, by decide +kernel⟩⟩
theorem zX10_otherwise : mV mX10_otherwise 0 := ⟨⟨gmem 1307 (by decide +kernel) rfl, gmem 1308 (by decide +kernel) rfl⟩, ⟨gmem 86 (by decide +kernel) rfl, gmem 1309 (by decide +kernel) rfl, by decide +kernel, by decide +kernel⟩⟩
theorem zX9_keep : mV mX9_keep 0 := ⟨⟨gmem 752 (by decide +kernel) rfl, gmem 753 (by decide +kernel) rfl⟩, ⟨gmem 77 (by decide +kernel) rfl, gmem 754 (by decide +kernel) rfl, by decide +kernel, by decide +kernel⟩⟩
theorem zX10_keep : mV mX10_keep 0 := ⟨⟨gmem 1311 (by decide +kernel) rfl, gmem 1312 (by decide +kernel) rfl⟩, ⟨gmem 86 (by decide +kernel) rfl, gmem 1313 (by decide +kernel) rfl, by decide +kernel, by decide +kernel⟩⟩
theorem zX9_text : mV mX9_text 0 := ⟨⟨gmem 766 (by decide +kernel) rfl, gmem 767 (by decide +kernel) rfl⟩, ⟨gmem 77 (by decide +kernel) rfl, gmem 768 (by decide +kernel) rfl, by decide +kernel, by decide +kernel⟩⟩
theorem zX10_text : mV mX10_text 0 := ⟨⟨gmem 1319 (by decide +kernel) rfl, gmem 1320 (by decide +kernel) rfl⟩, ⟨gmem 86 (by decide +kernel) rfl, gmem 1321 (by decide +kernel) rfl, by decide +kernel, by decide +kernel⟩⟩
theorem zX9_kept : mV mX9_kept 2 := ⟨⟨gmem 906 (by decide +kernel) rfl, gmem 907 (by decide +kernel) rfl⟩, ⟨gmem 77 (by decide +kernel) rfl, gmem 908 (by decide +kernel) rfl, by decide +kernel, by decide +kernel⟩⟩
theorem zX10_kept : mV mX10_kept 2 := ⟨⟨gmem 1351 (by decide +kernel) rfl, gmem 1352 (by decide +kernel) rfl⟩, ⟨gmem 86 (by decide +kernel) rfl, gmem 1353 (by decide +kernel) rfl, by decide +kernel, by decide +kernel⟩⟩
theorem zX9_run : mV mX9_run 3 := ⟨⟨gmem 914 (by decide +kernel) rfl, gmem 915 (by decide +kernel) rfl⟩, ⟨gmem 77 (by decide +kernel) rfl, gmem 916 (by decide +kernel) rfl, by decide +kernel, by decide +kernel⟩⟩
theorem zX10_run : mV mX10_run 3 := ⟨⟨gmem 1359 (by decide +kernel) rfl, gmem 1360 (by decide +kernel) rfl⟩, ⟨gmem 86 (by decide +kernel) rfl, gmem 1361 (by decide +kernel) rfl, by decide +kernel, by decide +kernel⟩⟩
theorem zX9_count : mV mX9_count 1 := ⟨⟨gmem 918 (by decide +kernel) rfl, gmem 919 (by decide +kernel) rfl⟩, ⟨gmem 77 (by decide +kernel) rfl, gmem 920 (by decide +kernel) rfl, by decide +kernel, by decide +kernel⟩⟩
theorem zX10_count : mV mX10_count 1 := ⟨⟨gmem 1363 (by decide +kernel) rfl, gmem 1364 (by decide +kernel) rfl⟩, ⟨gmem 86 (by decide +kernel) rfl, gmem 1365 (by decide +kernel) rfl, by decide +kernel, by decide +kernel⟩⟩
theorem zX9_sheet : mV mX9_sheet 3 := ⟨⟨gmem 922 (by decide +kernel) rfl, gmem 923 (by decide +kernel) rfl⟩, ⟨gmem 77 (by decide +kernel) rfl, gmem 924 (by decide +kernel) rfl, by decide +kernel, by decide +kernel⟩⟩
theorem zX10_sheet : mV mX10_sheet 3 := ⟨⟨gmem 1367 (by decide +kernel) rfl, gmem 1368 (by decide +kernel) rfl⟩, ⟨gmem 86 (by decide +kernel) rfl, gmem 1369 (by decide +kernel) rfl, by decide +kernel, by decide +kernel⟩⟩
theorem zX9_drop : mV mX9_drop 1 := ⟨⟨gmem 933 (by decide +kernel) rfl, gmem 934 (by decide +kernel) rfl⟩, ⟨gmem 77 (by decide +kernel) rfl, gmem 935 (by decide +kernel) rfl, by decide +kernel, by decide +kernel⟩⟩
theorem zX10_drop : mV mX10_drop 1 := ⟨⟨gmem 1375 (by decide +kernel) rfl, gmem 1376 (by decide +kernel) rfl⟩, ⟨gmem 86 (by decide +kernel) rfl, gmem 1377 (by decide +kernel) rfl, by decide +kernel, by decide +kernel⟩⟩
theorem zX9_item : mV mX9_item 4 := ⟨⟨gmem 945 (by decide +kernel) rfl, gmem 946 (by decide +kernel) rfl⟩, ⟨gmem 77 (by decide +kernel) rfl, gmem 947 (by decide +kernel) rfl, by decide +kernel, by decide +kernel⟩⟩
theorem zX10_item : mV mX10_item 4 := ⟨⟨gmem 1379 (by decide +kernel) rfl, gmem 1380 (by decide +kernel) rfl⟩, ⟨gmem 86 (by decide +kernel) rfl, gmem 1381 (by decide +kernel) rfl, by decide +kernel, by decide +kernel⟩⟩
theorem zX9_put : mV mX9_put 5 := ⟨⟨gmem 953 (by decide +kernel) rfl, gmem 954 (by decide +kernel) rfl⟩, ⟨gmem 77 (by decide +kernel) rfl, gmem 955 (by decide +kernel) rfl, by decide +kernel, by decide +kernel⟩⟩
theorem zX10_put : mV mX10_put 5 := ⟨⟨gmem 1391 (by decide +kernel) rfl, gmem 1392 (by decide +kernel) rfl⟩, ⟨gmem 86 (by decide +kernel) rfl, gmem 1393 (by decide +kernel) rfl, by decide +kernel, by decide +kernel⟩⟩
end
