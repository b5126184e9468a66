section
-- ===== PART A: goes FIRST, ahead of the names: the tables' words, and 'selects' of the private methods out of them =====
/-- a private method of a class that the tables say can be made, by its rows of tables_1 -/
def lw_okq (q : MethodName × Nat) : Prop := (q.1.cls ≠ "java/lang/invoke/MethodHandle" ∧ q.1.cls ≠ "java/lang/invoke/VarHandle") ∧ Cond.instantiable q.1.cls q.2 ∈ tables_1 ∧ Cond.privateMethod q.1 ∈ tables_1 ∧ Cond.instanceMethod q.1 ∈ tables_1
theorem lw_p0 : lw_okq (⟨"PadRound", "boxCounts", "(I)Z"⟩, 13) := ⟨⟨by decide +kernel, by decide +kernel⟩, List.mem_of_getElem? (i := 16) (by decide +kernel), List.mem_of_getElem? (i := 421) (by decide +kernel), List.mem_of_getElem? (i := 422) (by decide +kernel)⟩
theorem lw_p1 : lw_okq (⟨"PadRound", "isWord", "(I)Z"⟩, 13) := ⟨⟨by decide +kernel, by decide +kernel⟩, List.mem_of_getElem? (i := 16) (by decide +kernel), List.mem_of_getElem? (i := 425) (by decide +kernel), List.mem_of_getElem? (i := 426) (by decide +kernel)⟩
theorem lw_p2 : lw_okq (⟨"PadRound", "seatPlayer", "(IIIII)V"⟩, 13) := ⟨⟨by decide +kernel, by decide +kernel⟩, List.mem_of_getElem? (i := 16) (by decide +kernel), List.mem_of_getElem? (i := 437) (by decide +kernel), List.mem_of_getElem? (i := 438) (by decide +kernel)⟩
theorem lw_p3 : lw_okq (⟨"PadRound", "isPlayer", "(I)Z"⟩, 13) := ⟨⟨by decide +kernel, by decide +kernel⟩, List.mem_of_getElem? (i := 16) (by decide +kernel), List.mem_of_getElem? (i := 441) (by decide +kernel), List.mem_of_getElem? (i := 442) (by decide +kernel)⟩
theorem lw_p4 : lw_okq (⟨"PadRound$Drawing", "add", "(I)V"⟩, 2) := ⟨⟨by decide +kernel, by decide +kernel⟩, List.mem_of_getElem? (i := 60) (by decide +kernel), List.mem_of_getElem? (i := 466) (by decide +kernel), List.mem_of_getElem? (i := 467) (by decide +kernel)⟩
theorem lw_p5 : lw_okq (⟨"PadRound", "guessFirstPart", "(LPadRound$Player;)V"⟩, 13) := ⟨⟨by decide +kernel, by decide +kernel⟩, List.mem_of_getElem? (i := 16) (by decide +kernel), List.mem_of_getElem? (i := 487) (by decide +kernel), List.mem_of_getElem? (i := 488) (by decide +kernel)⟩
theorem lw_p6 : lw_okq (⟨"PadRound$Shares", "sumOf", "(LPadRound$Player;LPadRound$Drawing;LPadRound$Player;I)I"⟩, 4) := ⟨⟨by decide +kernel, by decide +kernel⟩, List.mem_of_getElem? (i := 79) (by decide +kernel), List.mem_of_getElem? (i := 499) (by decide +kernel), List.mem_of_getElem? (i := 500) (by decide +kernel)⟩
theorem lw_p7 : lw_okq (⟨"PadRound$Shares", "share", "(I)V"⟩, 4) := ⟨⟨by decide +kernel, by decide +kernel⟩, List.mem_of_getElem? (i := 79) (by decide +kernel), List.mem_of_getElem? (i := 512) (by decide +kernel), List.mem_of_getElem? (i := 513) (by decide +kernel)⟩
theorem lw_p8 : lw_okq (⟨"PadRound", "handsRead", "(LPadRound$Player;)I"⟩, 13) := ⟨⟨by decide +kernel, by decide +kernel⟩, List.mem_of_getElem? (i := 16) (by decide +kernel), List.mem_of_getElem? (i := 520) (by decide +kernel), List.mem_of_getElem? (i := 521) (by decide +kernel)⟩
theorem lw_p9 : lw_okq (⟨"PadRound", "isDrawer", "(I)Z"⟩, 13) := ⟨⟨by decide +kernel, by decide +kernel⟩, List.mem_of_getElem? (i := 16) (by decide +kernel), List.mem_of_getElem? (i := 537) (by decide +kernel), List.mem_of_getElem? (i := 538) (by decide +kernel)⟩
theorem lw_p10 : lw_okq (⟨"PadRound", "drawer", "(I)LPadRound$Player;"⟩, 13) := ⟨⟨by decide +kernel, by decide +kernel⟩, List.mem_of_getElem? (i := 16) (by decide +kernel), List.mem_of_getElem? (i := 554) (by decide +kernel), List.mem_of_getElem? (i := 555) (by decide +kernel)⟩
theorem lw_p11 : lw_okq (⟨"PadRound", "tableFault", "(I)I"⟩, 13) := ⟨⟨by decide +kernel, by decide +kernel⟩, List.mem_of_getElem? (i := 16) (by decide +kernel), List.mem_of_getElem? (i := 566) (by decide +kernel), List.mem_of_getElem? (i := 567) (by decide +kernel)⟩
theorem lw_p12 : lw_okq (⟨"PadRound", "seatTable", "(I)V"⟩, 13) := ⟨⟨by decide +kernel, by decide +kernel⟩, List.mem_of_getElem? (i := 16) (by decide +kernel), List.mem_of_getElem? (i := 571) (by decide +kernel), List.mem_of_getElem? (i := 572) (by decide +kernel)⟩
theorem lw_p13 : lw_okq (⟨"PadRound", "learnStep", "(II)V"⟩, 13) := ⟨⟨by decide +kernel, by decide +kernel⟩, List.mem_of_getElem? (i := 16) (by decide +kernel), List.mem_of_getElem? (i := 581) (by decide +kernel), List.mem_of_getElem? (i := 582) (by decide +kernel)⟩
theorem lw_p14 : lw_okq (⟨"PadRound$Round", "begin", "(I)V"⟩, 8) := ⟨⟨by decide +kernel, by decide +kernel⟩, List.mem_of_getElem? (i := 101) (by decide +kernel), List.mem_of_getElem? (i := 594) (by decide +kernel), List.mem_of_getElem? (i := 595) (by decide +kernel)⟩
theorem lw_p15 : lw_okq (⟨"PadRound$Round", "stepBase", "(II)I"⟩, 8) := ⟨⟨by decide +kernel, by decide +kernel⟩, List.mem_of_getElem? (i := 101) (by decide +kernel), List.mem_of_getElem? (i := 598) (by decide +kernel), List.mem_of_getElem? (i := 599) (by decide +kernel)⟩
def lw_privs_1 : List (MethodName × Nat) := [(⟨"PadRound", "boxCounts", "(I)Z"⟩, 13), (⟨"PadRound", "isWord", "(I)Z"⟩, 13), (⟨"PadRound", "seatPlayer", "(IIIII)V"⟩, 13), (⟨"PadRound", "isPlayer", "(I)Z"⟩, 13), (⟨"PadRound$Drawing", "add", "(I)V"⟩, 2), (⟨"PadRound", "guessFirstPart", "(LPadRound$Player;)V"⟩, 13), (⟨"PadRound$Shares", "sumOf", "(LPadRound$Player;LPadRound$Drawing;LPadRound$Player;I)I"⟩, 4), (⟨"PadRound$Shares", "share", "(I)V"⟩, 4), (⟨"PadRound", "handsRead", "(LPadRound$Player;)I"⟩, 13), (⟨"PadRound", "isDrawer", "(I)Z"⟩, 13), (⟨"PadRound", "drawer", "(I)LPadRound$Player;"⟩, 13), (⟨"PadRound", "tableFault", "(I)I"⟩, 13), (⟨"PadRound", "seatTable", "(I)V"⟩, 13), (⟨"PadRound", "learnStep", "(II)V"⟩, 13), (⟨"PadRound$Round", "begin", "(I)V"⟩, 8), (⟨"PadRound$Round", "stepBase", "(II)I"⟩, 8)]
theorem lw_r1 : ∀ q ∈ lw_privs_1, lw_okq q := List.forall_mem_cons.mpr ⟨lw_p0, List.forall_mem_cons.mpr ⟨lw_p1, List.forall_mem_cons.mpr ⟨lw_p2, List.forall_mem_cons.mpr ⟨lw_p3, List.forall_mem_cons.mpr ⟨lw_p4, List.forall_mem_cons.mpr ⟨lw_p5, List.forall_mem_cons.mpr ⟨lw_p6, List.forall_mem_cons.mpr ⟨lw_p7, List.forall_mem_cons.mpr ⟨lw_p8, List.forall_mem_cons.mpr ⟨lw_p9, List.forall_mem_cons.mpr ⟨lw_p10, List.forall_mem_cons.mpr ⟨lw_p11, List.forall_mem_cons.mpr ⟨lw_p12, List.forall_mem_cons.mpr ⟨lw_p13, List.forall_mem_cons.mpr ⟨lw_p14, List.forall_mem_cons.mpr ⟨lw_p15, fun _ h => absurd h List.not_mem_nil⟩⟩⟩⟩⟩⟩⟩⟩⟩⟩⟩⟩⟩⟩⟩⟩
theorem lw_p16 : lw_okq (⟨"PadRound$Round", "pass", "(I)V"⟩, 8) := ⟨⟨by decide +kernel, by decide +kernel⟩, List.mem_of_getElem? (i := 101) (by decide +kernel), List.mem_of_getElem? (i := 602) (by decide +kernel), List.mem_of_getElem? (i := 603) (by decide +kernel)⟩
theorem lw_p17 : lw_okq (⟨"PadRound", "padsFault", "(II)I"⟩, 13) := ⟨⟨by decide +kernel, by decide +kernel⟩, List.mem_of_getElem? (i := 16) (by decide +kernel), List.mem_of_getElem? (i := 647) (by decide +kernel), List.mem_of_getElem? (i := 648) (by decide +kernel)⟩
theorem lw_p18 : lw_okq (⟨"PadRound", "learnAllSteps", "()V"⟩, 13) := ⟨⟨by decide +kernel, by decide +kernel⟩, List.mem_of_getElem? (i := 16) (by decide +kernel), List.mem_of_getElem? (i := 656) (by decide +kernel), List.mem_of_getElem? (i := 657) (by decide +kernel)⟩
theorem lw_p19 : lw_okq (⟨"PadRound$Round", "sortOthers", "()V"⟩, 8) := ⟨⟨by decide +kernel, by decide +kernel⟩, List.mem_of_getElem? (i := 101) (by decide +kernel), List.mem_of_getElem? (i := 664) (by decide +kernel), List.mem_of_getElem? (i := 665) (by decide +kernel)⟩
theorem lw_p20 : lw_okq (⟨"PadRound$Round", "keptBy", "(LPadRound$Sheet;)J"⟩, 8) := ⟨⟨by decide +kernel, by decide +kernel⟩, List.mem_of_getElem? (i := 101) (by decide +kernel), List.mem_of_getElem? (i := 672) (by decide +kernel), List.mem_of_getElem? (i := 673) (by decide +kernel)⟩
theorem lw_p21 : lw_okq (⟨"PadRound", "shareBySet", "(LPadRound$Player;II)I"⟩, 13) := ⟨⟨by decide +kernel, by decide +kernel⟩, List.mem_of_getElem? (i := 16) (by decide +kernel), List.mem_of_getElem? (i := 687) (by decide +kernel), List.mem_of_getElem? (i := 688) (by decide +kernel)⟩
theorem lw_p22 : lw_okq (⟨"PadRound$Watch", "knownFrom", "()I"⟩, 6) := ⟨⟨by decide +kernel, by decide +kernel⟩, List.mem_of_getElem? (i := 139) (by decide +kernel), List.mem_of_getElem? (i := 720) (by decide +kernel), List.mem_of_getElem? (i := 721) (by decide +kernel)⟩
theorem lw_p23 : lw_okq (⟨"PadRound$Watch", "keepOrder", "()V"⟩, 6) := ⟨⟨by decide +kernel, by decide +kernel⟩, List.mem_of_getElem? (i := 139) (by decide +kernel), List.mem_of_getElem? (i := 724) (by decide +kernel), List.mem_of_getElem? (i := 725) (by decide +kernel)⟩
theorem lw_p24 : lw_okq (⟨"PadRound", "addLeaf", "(ZIIII)I"⟩, 13) := ⟨⟨by decide +kernel, by decide +kernel⟩, List.mem_of_getElem? (i := 16) (by decide +kernel), List.mem_of_getElem? (i := 750) (by decide +kernel), List.mem_of_getElem? (i := 751) (by decide +kernel)⟩
theorem lw_p25 : lw_okq (⟨"PadRound", "leavesOf", "(IZ)I"⟩, 13) := ⟨⟨by decide +kernel, by decide +kernel⟩, List.mem_of_getElem? (i := 16) (by decide +kernel), List.mem_of_getElem? (i := 780) (by decide +kernel), List.mem_of_getElem? (i := 781) (by decide +kernel)⟩
theorem lw_p26 : lw_okq (⟨"PadRound", "handOff", "(II)I"⟩, 13) := ⟨⟨by decide +kernel, by decide +kernel⟩, List.mem_of_getElem? (i := 16) (by decide +kernel), List.mem_of_getElem? (i := 788) (by decide +kernel), List.mem_of_getElem? (i := 789) (by decide +kernel)⟩
theorem lw_p27 : lw_okq (⟨"PadRound", "likelihood", "(II)J"⟩, 13) := ⟨⟨by decide +kernel, by decide +kernel⟩, List.mem_of_getElem? (i := 16) (by decide +kernel), List.mem_of_getElem? (i := 806) (by decide +kernel), List.mem_of_getElem? (i := 807) (by decide +kernel)⟩
theorem lw_p28 : lw_okq (⟨"PadRound", "nearestLeaf", "(II)I"⟩, 13) := ⟨⟨by decide +kernel, by decide +kernel⟩, List.mem_of_getElem? (i := 16) (by decide +kernel), List.mem_of_getElem? (i := 814) (by decide +kernel), List.mem_of_getElem? (i := 815) (by decide +kernel)⟩
theorem lw_p29 : lw_okq (⟨"PadRound", "guessLeaves", "()I"⟩, 13) := ⟨⟨by decide +kernel, by decide +kernel⟩, List.mem_of_getElem? (i := 16) (by decide +kernel), List.mem_of_getElem? (i := 822) (by decide +kernel), List.mem_of_getElem? (i := 823) (by decide +kernel)⟩
theorem lw_p30 : lw_okq (⟨"PadRound", "shortenSign", "(III)V"⟩, 13) := ⟨⟨by decide +kernel, by decide +kernel⟩, List.mem_of_getElem? (i := 16) (by decide +kernel), List.mem_of_getElem? (i := 830) (by decide +kernel), List.mem_of_getElem? (i := 831) (by decide +kernel)⟩
theorem lw_p31 : lw_okq (⟨"PadRound", "imageFault", "(LPadRound$Sheet;)I"⟩, 13) := ⟨⟨by decide +kernel, by decide +kernel⟩, List.mem_of_getElem? (i := 16) (by decide +kernel), List.mem_of_getElem? (i := 850) (by decide +kernel), List.mem_of_getElem? (i := 851) (by decide +kernel)⟩
def lw_privs_2 : List (MethodName × Nat) := [(⟨"PadRound$Round", "pass", "(I)V"⟩, 8), (⟨"PadRound", "padsFault", "(II)I"⟩, 13), (⟨"PadRound", "learnAllSteps", "()V"⟩, 13), (⟨"PadRound$Round", "sortOthers", "()V"⟩, 8), (⟨"PadRound$Round", "keptBy", "(LPadRound$Sheet;)J"⟩, 8), (⟨"PadRound", "shareBySet", "(LPadRound$Player;II)I"⟩, 13), (⟨"PadRound$Watch", "knownFrom", "()I"⟩, 6), (⟨"PadRound$Watch", "keepOrder", "()V"⟩, 6), (⟨"PadRound", "addLeaf", "(ZIIII)I"⟩, 13), (⟨"PadRound", "leavesOf", "(IZ)I"⟩, 13), (⟨"PadRound", "handOff", "(II)I"⟩, 13), (⟨"PadRound", "likelihood", "(II)J"⟩, 13), (⟨"PadRound", "nearestLeaf", "(II)I"⟩, 13), (⟨"PadRound", "guessLeaves", "()I"⟩, 13), (⟨"PadRound", "shortenSign", "(III)V"⟩, 13), (⟨"PadRound", "imageFault", "(LPadRound$Sheet;)I"⟩, 13)]
theorem lw_r2 : ∀ q ∈ lw_privs_2, lw_okq q := List.forall_mem_cons.mpr ⟨lw_p16, List.forall_mem_cons.mpr ⟨lw_p17, List.forall_mem_cons.mpr ⟨lw_p18, List.forall_mem_cons.mpr ⟨lw_p19, List.forall_mem_cons.mpr ⟨lw_p20, List.forall_mem_cons.mpr ⟨lw_p21, List.forall_mem_cons.mpr ⟨lw_p22, List.forall_mem_cons.mpr ⟨lw_p23, List.forall_mem_cons.mpr ⟨lw_p24, List.forall_mem_cons.mpr ⟨lw_p25, List.forall_mem_cons.mpr ⟨lw_p26, List.forall_mem_cons.mpr ⟨lw_p27, List.forall_mem_cons.mpr ⟨lw_p28, List.forall_mem_cons.mpr ⟨lw_p29, List.forall_mem_cons.mpr ⟨lw_p30, List.forall_mem_cons.mpr ⟨lw_p31, fun _ h => absurd h List.not_mem_nil⟩⟩⟩⟩⟩⟩⟩⟩⟩⟩⟩⟩⟩⟩⟩⟩
theorem lw_p32 : lw_okq (⟨"PadRound", "sloppyPlayers", "()I"⟩, 13) := ⟨⟨by decide +kernel, by decide +kernel⟩, List.mem_of_getElem? (i := 16) (by decide +kernel), List.mem_of_getElem? (i := 871) (by decide +kernel), List.mem_of_getElem? (i := 872) (by decide +kernel)⟩
theorem lw_p33 : lw_okq (⟨"PadRoundModel", "meets", "(I)I"⟩, 39) := ⟨⟨by decide +kernel, by decide +kernel⟩, List.mem_of_getElem? (i := 903) (by decide +kernel), List.mem_of_getElem? (i := 1037) (by decide +kernel), List.mem_of_getElem? (i := 1038) (by decide +kernel)⟩
theorem lw_p34 : lw_okq (⟨"PadRoundModel", "setRow", "(III)V"⟩, 39) := ⟨⟨by decide +kernel, by decide +kernel⟩, List.mem_of_getElem? (i := 903) (by decide +kernel), List.mem_of_getElem? (i := 1041) (by decide +kernel), List.mem_of_getElem? (i := 1042) (by decide +kernel)⟩
theorem lw_p35 : lw_okq (⟨"PadRoundModel", "askedRow", "(I)I"⟩, 39) := ⟨⟨by decide +kernel, by decide +kernel⟩, List.mem_of_getElem? (i := 903) (by decide +kernel), List.mem_of_getElem? (i := 1049) (by decide +kernel), List.mem_of_getElem? (i := 1050) (by decide +kernel)⟩
theorem lw_p36 : lw_okq (⟨"PadRoundModel", "rowAt", "(II)I"⟩, 39) := ⟨⟨by decide +kernel, by decide +kernel⟩, List.mem_of_getElem? (i := 903) (by decide +kernel), List.mem_of_getElem? (i := 1053) (by decide +kernel), List.mem_of_getElem? (i := 1054) (by decide +kernel)⟩
theorem lw_p37 : lw_okq (⟨"PadRoundModel", "ask", "(II)I"⟩, 39) := ⟨⟨by decide +kernel, by decide +kernel⟩, List.mem_of_getElem? (i := 903) (by decide +kernel), List.mem_of_getElem? (i := 1057) (by decide +kernel), List.mem_of_getElem? (i := 1058) (by decide +kernel)⟩
theorem lw_p38 : lw_okq (⟨"PadRoundModel", "askedText", "(I)I"⟩, 39) := ⟨⟨by decide +kernel, by decide +kernel⟩, List.mem_of_getElem? (i := 903) (by decide +kernel), List.mem_of_getElem? (i := 1089) (by decide +kernel), List.mem_of_getElem? (i := 1090) (by decide +kernel)⟩
theorem lw_p39 : lw_okq (⟨"PadRoundModel", "goesOn", "(I)I"⟩, 39) := ⟨⟨by decide +kernel, by decide +kernel⟩, List.mem_of_getElem? (i := 903) (by decide +kernel), List.mem_of_getElem? (i := 1097) (by decide +kernel), List.mem_of_getElem? (i := 1098) (by decide +kernel)⟩
theorem lw_p40 : lw_okq (⟨"PadRoundModel", "here", "(I)I"⟩, 39) := ⟨⟨by decide +kernel, by decide +kernel⟩, List.mem_of_getElem? (i := 903) (by decide +kernel), List.mem_of_getElem? (i := 1101) (by decide +kernel), List.mem_of_getElem? (i := 1102) (by decide +kernel)⟩
theorem lw_p41 : lw_okq (⟨"PadRoundModel", "readsWord", "(I)Z"⟩, 39) := ⟨⟨by decide +kernel, by decide +kernel⟩, List.mem_of_getElem? (i := 903) (by decide +kernel), List.mem_of_getElem? (i := 1105) (by decide +kernel), List.mem_of_getElem? (i := 1106) (by decide +kernel)⟩
theorem lw_p42 : lw_okq (⟨"PadRoundModel", "isLand", "(I)Z"⟩, 39) := ⟨⟨by decide +kernel, by decide +kernel⟩, List.mem_of_getElem? (i := 903) (by decide +kernel), List.mem_of_getElem? (i := 1117) (by decide +kernel), List.mem_of_getElem? (i := 1118) (by decide +kernel)⟩
theorem lw_p43 : lw_okq (⟨"PadRoundModel", "isWord", "(I)Z"⟩, 39) := ⟨⟨by decide +kernel, by decide +kernel⟩, List.mem_of_getElem? (i := 903) (by decide +kernel), List.mem_of_getElem? (i := 1121) (by decide +kernel), List.mem_of_getElem? (i := 1122) (by decide +kernel)⟩
theorem lw_p44 : lw_okq (⟨"PadRoundModel", "words", "()I"⟩, 39) := ⟨⟨by decide +kernel, by decide +kernel⟩, List.mem_of_getElem? (i := 903) (by decide +kernel), List.mem_of_getElem? (i := 1125) (by decide +kernel), List.mem_of_getElem? (i := 1126) (by decide +kernel)⟩
theorem lw_p45 : lw_okq (⟨"PadRoundModel", "use", "(III)I"⟩, 39) := ⟨⟨by decide +kernel, by decide +kernel⟩, List.mem_of_getElem? (i := 903) (by decide +kernel), List.mem_of_getElem? (i := 1129) (by decide +kernel), List.mem_of_getElem? (i := 1130) (by decide +kernel)⟩
theorem lw_p46 : lw_okq (⟨"PadRoundModel", "setPlayer", "(IIIII)V"⟩, 39) := ⟨⟨by decide +kernel, by decide +kernel⟩, List.mem_of_getElem? (i := 903) (by decide +kernel), List.mem_of_getElem? (i := 1137) (by decide +kernel), List.mem_of_getElem? (i := 1138) (by decide +kernel)⟩
theorem lw_p47 : lw_okq (⟨"PadRoundModel", "isPlayer", "(I)Z"⟩, 39) := ⟨⟨by decide +kernel, by decide +kernel⟩, List.mem_of_getElem? (i := 903) (by decide +kernel), List.mem_of_getElem? (i := 1145) (by decide +kernel), List.mem_of_getElem? (i := 1146) (by decide +kernel)⟩
def lw_privs_3 : List (MethodName × Nat) := [(⟨"PadRound", "sloppyPlayers", "()I"⟩, 13), (⟨"PadRoundModel", "meets", "(I)I"⟩, 39), (⟨"PadRoundModel", "setRow", "(III)V"⟩, 39), (⟨"PadRoundModel", "askedRow", "(I)I"⟩, 39), (⟨"PadRoundModel", "rowAt", "(II)I"⟩, 39), (⟨"PadRoundModel", "ask", "(II)I"⟩, 39), (⟨"PadRoundModel", "askedText", "(I)I"⟩, 39), (⟨"PadRoundModel", "goesOn", "(I)I"⟩, 39), (⟨"PadRoundModel", "here", "(I)I"⟩, 39), (⟨"PadRoundModel", "readsWord", "(I)Z"⟩, 39), (⟨"PadRoundModel", "isLand", "(I)Z"⟩, 39), (⟨"PadRoundModel", "isWord", "(I)Z"⟩, 39), (⟨"PadRoundModel", "words", "()I"⟩, 39), (⟨"PadRoundModel", "use", "(III)I"⟩, 39), (⟨"PadRoundModel", "setPlayer", "(IIIII)V"⟩, 39), (⟨"PadRoundModel", "isPlayer", "(I)Z"⟩, 39)]
theorem lw_r3 : ∀ q ∈ lw_privs_3, lw_okq q := List.forall_mem_cons.mpr ⟨lw_p32, List.forall_mem_cons.mpr ⟨lw_p33, List.forall_mem_cons.mpr ⟨lw_p34, List.forall_mem_cons.mpr ⟨lw_p35, List.forall_mem_cons.mpr ⟨lw_p36, List.forall_mem_cons.mpr ⟨lw_p37, List.forall_mem_cons.mpr ⟨lw_p38, List.forall_mem_cons.mpr ⟨lw_p39, List.forall_mem_cons.mpr ⟨lw_p40, List.forall_mem_cons.mpr ⟨lw_p41, List.forall_mem_cons.mpr ⟨lw_p42, List.forall_mem_cons.mpr ⟨lw_p43, List.forall_mem_cons.mpr ⟨lw_p44, List.forall_mem_cons.mpr ⟨lw_p45, List.forall_mem_cons.mpr ⟨lw_p46, List.forall_mem_cons.mpr ⟨lw_p47, fun _ h => absurd h List.not_mem_nil⟩⟩⟩⟩⟩⟩⟩⟩⟩⟩⟩⟩⟩⟩⟩⟩
theorem lw_p48 : lw_okq (⟨"PadRoundModel", "tell", "(II)I"⟩, 39) := ⟨⟨by decide +kernel, by decide +kernel⟩, List.mem_of_getElem? (i := 903) (by decide +kernel), List.mem_of_getElem? (i := 1149) (by decide +kernel), List.mem_of_getElem? (i := 1150) (by decide +kernel)⟩
theorem lw_p49 : lw_okq (⟨"PadRoundModel", "isSloppy", "(I)Z"⟩, 39) := ⟨⟨by decide +kernel, by decide +kernel⟩, List.mem_of_getElem? (i := 903) (by decide +kernel), List.mem_of_getElem? (i := 1157) (by decide +kernel), List.mem_of_getElem? (i := 1158) (by decide +kernel)⟩
theorem lw_p50 : lw_okq (⟨"PadRoundModel", "setDrawing", "(II)V"⟩, 39) := ⟨⟨by decide +kernel, by decide +kernel⟩, List.mem_of_getElem? (i := 903) (by decide +kernel), List.mem_of_getElem? (i := 1161) (by decide +kernel), List.mem_of_getElem? (i := 1162) (by decide +kernel)⟩
theorem lw_p51 : lw_okq (⟨"PadRoundModel", "see", "(II)V"⟩, 39) := ⟨⟨by decide +kernel, by decide +kernel⟩, List.mem_of_getElem? (i := 903) (by decide +kernel), List.mem_of_getElem? (i := 1165) (by decide +kernel), List.mem_of_getElem? (i := 1166) (by decide +kernel)⟩
theorem lw_p52 : lw_okq (⟨"PadRoundModel", "seeDrawing", "()V"⟩, 39) := ⟨⟨by decide +kernel, by decide +kernel⟩, List.mem_of_getElem? (i := 903) (by decide +kernel), List.mem_of_getElem? (i := 1169) (by decide +kernel), List.mem_of_getElem? (i := 1170) (by decide +kernel)⟩
theorem lw_p53 : lw_okq (⟨"PadRoundModel", "setShares", "(II)V"⟩, 39) := ⟨⟨by decide +kernel, by decide +kernel⟩, List.mem_of_getElem? (i := 903) (by decide +kernel), List.mem_of_getElem? (i := 1173) (by decide +kernel), List.mem_of_getElem? (i := 1174) (by decide +kernel)⟩
theorem lw_p54 : lw_okq (⟨"PadRoundModel", "sumOf", "(III)I"⟩, 39) := ⟨⟨by decide +kernel, by decide +kernel⟩, List.mem_of_getElem? (i := 903) (by decide +kernel), List.mem_of_getElem? (i := 1177) (by decide +kernel), List.mem_of_getElem? (i := 1178) (by decide +kernel)⟩
theorem lw_p55 : lw_okq (⟨"PadRoundModel", "drawingSet", "(II)I"⟩, 39) := ⟨⟨by decide +kernel, by decide +kernel⟩, List.mem_of_getElem? (i := 903) (by decide +kernel), List.mem_of_getElem? (i := 1181) (by decide +kernel), List.mem_of_getElem? (i := 1182) (by decide +kernel)⟩
theorem lw_p56 : lw_okq (⟨"PadRoundModel", "seeSet", "(I)V"⟩, 39) := ⟨⟨by decide +kernel, by decide +kernel⟩, List.mem_of_getElem? (i := 903) (by decide +kernel), List.mem_of_getElem? (i := 1185) (by decide +kernel), List.mem_of_getElem? (i := 1186) (by decide +kernel)⟩
theorem lw_p57 : lw_okq (⟨"PadRoundModel", "greatest", "()I"⟩, 39) := ⟨⟨by decide +kernel, by decide +kernel⟩, List.mem_of_getElem? (i := 903) (by decide +kernel), List.mem_of_getElem? (i := 1189) (by decide +kernel), List.mem_of_getElem? (i := 1190) (by decide +kernel)⟩
theorem lw_p58 : lw_okq (⟨"PadRoundModel", "rowOf", "(II)I"⟩, 39) := ⟨⟨by decide +kernel, by decide +kernel⟩, List.mem_of_getElem? (i := 903) (by decide +kernel), List.mem_of_getElem? (i := 1197) (by decide +kernel), List.mem_of_getElem? (i := 1198) (by decide +kernel)⟩
theorem lw_p59 : lw_okq (⟨"PadRoundModel", "isBy", "(I)Z"⟩, 39) := ⟨⟨by decide +kernel, by decide +kernel⟩, List.mem_of_getElem? (i := 903) (by decide +kernel), List.mem_of_getElem? (i := 1206) (by decide +kernel), List.mem_of_getElem? (i := 1207) (by decide +kernel)⟩
theorem lw_p60 : lw_okq (⟨"PadRoundModel", "askedDrawn", "(I)I"⟩, 39) := ⟨⟨by decide +kernel, by decide +kernel⟩, List.mem_of_getElem? (i := 903) (by decide +kernel), List.mem_of_getElem? (i := 1210) (by decide +kernel), List.mem_of_getElem? (i := 1211) (by decide +kernel)⟩
theorem lw_p61 : lw_okq (⟨"PadRoundModel", "seeRow", "(II)V"⟩, 39) := ⟨⟨by decide +kernel, by decide +kernel⟩, List.mem_of_getElem? (i := 903) (by decide +kernel), List.mem_of_getElem? (i := 1214) (by decide +kernel), List.mem_of_getElem? (i := 1215) (by decide +kernel)⟩
theorem lw_p62 : lw_okq (⟨"PadRoundModel", "sharesRow", "(I)V"⟩, 39) := ⟨⟨by decide +kernel, by decide +kernel⟩, List.mem_of_getElem? (i := 903) (by decide +kernel), List.mem_of_getElem? (i := 1218) (by decide +kernel), List.mem_of_getElem? (i := 1219) (by decide +kernel)⟩
theorem lw_p63 : lw_okq (⟨"PadRoundModel", "setStep", "(III)V"⟩, 39) := ⟨⟨by decide +kernel, by decide +kernel⟩, List.mem_of_getElem? (i := 903) (by decide +kernel), List.mem_of_getElem? (i := 1226) (by decide +kernel), List.mem_of_getElem? (i := 1227) (by decide +kernel)⟩
def lw_privs_4 : List (MethodName × Nat) := [(⟨"PadRoundModel", "tell", "(II)I"⟩, 39), (⟨"PadRoundModel", "isSloppy", "(I)Z"⟩, 39), (⟨"PadRoundModel", "setDrawing", "(II)V"⟩, 39), (⟨"PadRoundModel", "see", "(II)V"⟩, 39), (⟨"PadRoundModel", "seeDrawing", "()V"⟩, 39), (⟨"PadRoundModel", "setShares", "(II)V"⟩, 39), (⟨"PadRoundModel", "sumOf", "(III)I"⟩, 39), (⟨"PadRoundModel", "drawingSet", "(II)I"⟩, 39), (⟨"PadRoundModel", "seeSet", "(I)V"⟩, 39), (⟨"PadRoundModel", "greatest", "()I"⟩, 39), (⟨"PadRoundModel", "rowOf", "(II)I"⟩, 39), (⟨"PadRoundModel", "isBy", "(I)Z"⟩, 39), (⟨"PadRoundModel", "askedDrawn", "(I)I"⟩, 39), (⟨"PadRoundModel", "seeRow", "(II)V"⟩, 39), (⟨"PadRoundModel", "sharesRow", "(I)V"⟩, 39), (⟨"PadRoundModel", "setStep", "(III)V"⟩, 39)]
theorem lw_r4 : ∀ q ∈ lw_privs_4, lw_okq q := List.forall_mem_cons.mpr ⟨lw_p48, List.forall_mem_cons.mpr ⟨lw_p49, List.forall_mem_cons.mpr ⟨lw_p50, List.forall_mem_cons.mpr ⟨lw_p51, List.forall_mem_cons.mpr ⟨lw_p52, List.forall_mem_cons.mpr ⟨lw_p53, List.forall_mem_cons.mpr ⟨lw_p54, List.forall_mem_cons.mpr ⟨lw_p55, List.forall_mem_cons.mpr ⟨lw_p56, List.forall_mem_cons.mpr ⟨lw_p57, List.forall_mem_cons.mpr ⟨lw_p58, List.forall_mem_cons.mpr ⟨lw_p59, List.forall_mem_cons.mpr ⟨lw_p60, List.forall_mem_cons.mpr ⟨lw_p61, List.forall_mem_cons.mpr ⟨lw_p62, List.forall_mem_cons.mpr ⟨lw_p63, fun _ h => absurd h List.not_mem_nil⟩⟩⟩⟩⟩⟩⟩⟩⟩⟩⟩⟩⟩⟩⟩⟩
theorem lw_p64 : lw_okq (⟨"PadRoundModel", "askedTable", "(I)I"⟩, 39) := ⟨⟨by decide +kernel, by decide +kernel⟩, List.mem_of_getElem? (i := 903) (by decide +kernel), List.mem_of_getElem? (i := 1234) (by decide +kernel), List.mem_of_getElem? (i := 1235) (by decide +kernel)⟩
theorem lw_p65 : lw_okq (⟨"PadRoundModel", "askedSeats", "(I)I"⟩, 39) := ⟨⟨by decide +kernel, by decide +kernel⟩, List.mem_of_getElem? (i := 903) (by decide +kernel), List.mem_of_getElem? (i := 1238) (by decide +kernel), List.mem_of_getElem? (i := 1239) (by decide +kernel)⟩
theorem lw_p66 : lw_okq (⟨"PadRoundModel", "setOdds", "(II)V"⟩, 39) := ⟨⟨by decide +kernel, by decide +kernel⟩, List.mem_of_getElem? (i := 903) (by decide +kernel), List.mem_of_getElem? (i := 1242) (by decide +kernel), List.mem_of_getElem? (i := 1243) (by decide +kernel)⟩
theorem lw_p67 : lw_okq (⟨"PadRoundModel", "steps", "()I"⟩, 39) := ⟨⟨by decide +kernel, by decide +kernel⟩, List.mem_of_getElem? (i := 903) (by decide +kernel), List.mem_of_getElem? (i := 1246) (by decide +kernel), List.mem_of_getElem? (i := 1247) (by decide +kernel)⟩
theorem lw_p68 : lw_okq (⟨"PadRoundModel", "goOn", "(II)V"⟩, 39) := ⟨⟨by decide +kernel, by decide +kernel⟩, List.mem_of_getElem? (i := 903) (by decide +kernel), List.mem_of_getElem? (i := 1250) (by decide +kernel), List.mem_of_getElem? (i := 1251) (by decide +kernel)⟩
theorem lw_p69 : lw_okq (⟨"PadRoundModel", "part", "(JJI)I"⟩, 39) := ⟨⟨by decide +kernel, by decide +kernel⟩, List.mem_of_getElem? (i := 903) (by decide +kernel), List.mem_of_getElem? (i := 1258) (by decide +kernel), List.mem_of_getElem? (i := 1259) (by decide +kernel)⟩
theorem lw_p70 : lw_okq (⟨"PadRoundModel", "askedRound", "(I)I"⟩, 39) := ⟨⟨by decide +kernel, by decide +kernel⟩, List.mem_of_getElem? (i := 903) (by decide +kernel), List.mem_of_getElem? (i := 1266) (by decide +kernel), List.mem_of_getElem? (i := 1267) (by decide +kernel)⟩
theorem lw_p71 : lw_okq (⟨"PadRoundModel", "askedPads", "(II)I"⟩, 39) := ⟨⟨by decide +kernel, by decide +kernel⟩, List.mem_of_getElem? (i := 903) (by decide +kernel), List.mem_of_getElem? (i := 1287) (by decide +kernel), List.mem_of_getElem? (i := 1288) (by decide +kernel)⟩
theorem lw_p72 : lw_okq (⟨"PadRoundModel", "keptOf", "(I)J"⟩, 39) := ⟨⟨by decide +kernel, by decide +kernel⟩, List.mem_of_getElem? (i := 903) (by decide +kernel), List.mem_of_getElem? (i := 1291) (by decide +kernel), List.mem_of_getElem? (i := 1292) (by decide +kernel)⟩
theorem lw_p73 : lw_okq (⟨"PadRoundModel", "sit", "(III)V"⟩, 39) := ⟨⟨by decide +kernel, by decide +kernel⟩, List.mem_of_getElem? (i := 903) (by decide +kernel), List.mem_of_getElem? (i := 1300) (by decide +kernel), List.mem_of_getElem? (i := 1301) (by decide +kernel)⟩
theorem lw_p74 : lw_okq (⟨"PadRoundModel", "setFor", "(III)I"⟩, 39) := ⟨⟨by decide +kernel, by decide +kernel⟩, List.mem_of_getElem? (i := 903) (by decide +kernel), List.mem_of_getElem? (i := 1308) (by decide +kernel), List.mem_of_getElem? (i := 1309) (by decide +kernel)⟩
theorem lw_p75 : lw_okq (⟨"PadRoundModel", "rowSet", "(I)I"⟩, 39) := ⟨⟨by decide +kernel, by decide +kernel⟩, List.mem_of_getElem? (i := 903) (by decide +kernel), List.mem_of_getElem? (i := 1323) (by decide +kernel), List.mem_of_getElem? (i := 1324) (by decide +kernel)⟩
theorem lw_p76 : lw_okq (⟨"PadRoundModel", "watch", "(IIIII)V"⟩, 39) := ⟨⟨by decide +kernel, by decide +kernel⟩, List.mem_of_getElem? (i := 903) (by decide +kernel), List.mem_of_getElem? (i := 1327) (by decide +kernel), List.mem_of_getElem? (i := 1328) (by decide +kernel)⟩
theorem lw_p77 : lw_okq (⟨"PadRoundModel", "knownFrom", "(III)I"⟩, 39) := ⟨⟨by decide +kernel, by decide +kernel⟩, List.mem_of_getElem? (i := 903) (by decide +kernel), List.mem_of_getElem? (i := 1331) (by decide +kernel), List.mem_of_getElem? (i := 1332) (by decide +kernel)⟩
theorem lw_p78 : lw_okq (⟨"PadRoundModel", "newLeaf", "(IIIII)I"⟩, 39) := ⟨⟨by decide +kernel, by decide +kernel⟩, List.mem_of_getElem? (i := 903) (by decide +kernel), List.mem_of_getElem? (i := 1347) (by decide +kernel), List.mem_of_getElem? (i := 1348) (by decide +kernel)⟩
theorem lw_p79 : lw_okq (⟨"PadRoundModel", "leafTells", "(II)I"⟩, 39) := ⟨⟨by decide +kernel, by decide +kernel⟩, List.mem_of_getElem? (i := 903) (by decide +kernel), List.mem_of_getElem? (i := 1359) (by decide +kernel), List.mem_of_getElem? (i := 1360) (by decide +kernel)⟩
def lw_privs_5 : List (MethodName × Nat) := [(⟨"PadRoundModel", "askedTable", "(I)I"⟩, 39), (⟨"PadRoundModel", "askedSeats", "(I)I"⟩, 39), (⟨"PadRoundModel", "setOdds", "(II)V"⟩, 39), (⟨"PadRoundModel", "steps", "()I"⟩, 39), (⟨"PadRoundModel", "goOn", "(II)V"⟩, 39), (⟨"PadRoundModel", "part", "(JJI)I"⟩, 39), (⟨"PadRoundModel", "askedRound", "(I)I"⟩, 39), (⟨"PadRoundModel", "askedPads", "(II)I"⟩, 39), (⟨"PadRoundModel", "keptOf", "(I)J"⟩, 39), (⟨"PadRoundModel", "sit", "(III)V"⟩, 39), (⟨"PadRoundModel", "setFor", "(III)I"⟩, 39), (⟨"PadRoundModel", "rowSet", "(I)I"⟩, 39), (⟨"PadRoundModel", "watch", "(IIIII)V"⟩, 39), (⟨"PadRoundModel", "knownFrom", "(III)I"⟩, 39), (⟨"PadRoundModel", "newLeaf", "(IIIII)I"⟩, 39), (⟨"PadRoundModel", "leafTells", "(II)I"⟩, 39)]
theorem lw_r5 : ∀ q ∈ lw_privs_5, lw_okq q := List.forall_mem_cons.mpr ⟨lw_p64, List.forall_mem_cons.mpr ⟨lw_p65, List.forall_mem_cons.mpr ⟨lw_p66, List.forall_mem_cons.mpr ⟨lw_p67, List.forall_mem_cons.mpr ⟨lw_p68, List.forall_mem_cons.mpr ⟨lw_p69, List.forall_mem_cons.mpr ⟨lw_p70, List.forall_mem_cons.mpr ⟨lw_p71, List.forall_mem_cons.mpr ⟨lw_p72, List.forall_mem_cons.mpr ⟨lw_p73, List.forall_mem_cons.mpr ⟨lw_p74, List.forall_mem_cons.mpr ⟨lw_p75, List.forall_mem_cons.mpr ⟨lw_p76, List.forall_mem_cons.mpr ⟨lw_p77, List.forall_mem_cons.mpr ⟨lw_p78, List.forall_mem_cons.mpr ⟨lw_p79, fun _ h => absurd h List.not_mem_nil⟩⟩⟩⟩⟩⟩⟩⟩⟩⟩⟩⟩⟩⟩⟩⟩
theorem lw_p80 : lw_okq (⟨"PadRoundModel", "leavesOf", "(II)I"⟩, 39) := ⟨⟨by decide +kernel, by decide +kernel⟩, List.mem_of_getElem? (i := 903) (by decide +kernel), List.mem_of_getElem? (i := 1371) (by decide +kernel), List.mem_of_getElem? (i := 1372) (by decide +kernel)⟩
theorem lw_p81 : lw_okq (⟨"PadRoundModel", "isLeafOf", "(III)Z"⟩, 39) := ⟨⟨by decide +kernel, by decide +kernel⟩, List.mem_of_getElem? (i := 903) (by decide +kernel), List.mem_of_getElem? (i := 1375) (by decide +kernel), List.mem_of_getElem? (i := 1376) (by decide +kernel)⟩
theorem lw_p82 : lw_okq (⟨"PadRoundModel", "tryAs", "(II)V"⟩, 39) := ⟨⟨by decide +kernel, by decide +kernel⟩, List.mem_of_getElem? (i := 903) (by decide +kernel), List.mem_of_getElem? (i := 1379) (by decide +kernel), List.mem_of_getElem? (i := 1380) (by decide +kernel)⟩
theorem lw_p83 : lw_okq (⟨"PadRoundModel", "shareByLeaf", "(II)I"⟩, 39) := ⟨⟨by decide +kernel, by decide +kernel⟩, List.mem_of_getElem? (i := 903) (by decide +kernel), List.mem_of_getElem? (i := 1387) (by decide +kernel), List.mem_of_getElem? (i := 1388) (by decide +kernel)⟩
theorem lw_p84 : lw_okq (⟨"PadRoundModel", "takes", "(II)I"⟩, 39) := ⟨⟨by decide +kernel, by decide +kernel⟩, List.mem_of_getElem? (i := 903) (by decide +kernel), List.mem_of_getElem? (i := 1395) (by decide +kernel), List.mem_of_getElem? (i := 1396) (by decide +kernel)⟩
theorem lw_p85 : lw_okq (⟨"PadRoundModel", "setSign", "(IIII)V"⟩, 39) := ⟨⟨by decide +kernel, by decide +kernel⟩, List.mem_of_getElem? (i := 903) (by decide +kernel), List.mem_of_getElem? (i := 1407) (by decide +kernel), List.mem_of_getElem? (i := 1408) (by decide +kernel)⟩
theorem lw_p86 : lw_okq (⟨"PadRoundModel", "isPlayerBy", "(I)Z"⟩, 39) := ⟨⟨by decide +kernel, by decide +kernel⟩, List.mem_of_getElem? (i := 903) (by decide +kernel), List.mem_of_getElem? (i := 1423) (by decide +kernel), List.mem_of_getElem? (i := 1424) (by decide +kernel)⟩
theorem lw_p87 : lw_okq (⟨"PadRoundModel", "counts", "(I)I"⟩, 39) := ⟨⟨by decide +kernel, by decide +kernel⟩, List.mem_of_getElem? (i := 903) (by decide +kernel), List.mem_of_getElem? (i := 1443) (by decide +kernel), List.mem_of_getElem? (i := 1444) (by decide +kernel)⟩
theorem lw_p88 : lw_okq (⟨"PadRoundModel", "mix", "(I)V"⟩, 39) := ⟨⟨by decide +kernel, by decide +kernel⟩, List.mem_of_getElem? (i := 903) (by decide +kernel), List.mem_of_getElem? (i := 1460) (by decide +kernel), List.mem_of_getElem? (i := 1461) (by decide +kernel)⟩
theorem lw_p89 : lw_okq (⟨"PadRoundModel", "mixAll", "()V"⟩, 39) := ⟨⟨by decide +kernel, by decide +kernel⟩, List.mem_of_getElem? (i := 903) (by decide +kernel), List.mem_of_getElem? (i := 1465) (by decide +kernel), List.mem_of_getElem? (i := 1466) (by decide +kernel)⟩
def lw_privs_6 : List (MethodName × Nat) := [(⟨"PadRoundModel", "leavesOf", "(II)I"⟩, 39), (⟨"PadRoundModel", "isLeafOf", "(III)Z"⟩, 39), (⟨"PadRoundModel", "tryAs", "(II)V"⟩, 39), (⟨"PadRoundModel", "shareByLeaf", "(II)I"⟩, 39), (⟨"PadRoundModel", "takes", "(II)I"⟩, 39), (⟨"PadRoundModel", "setSign", "(IIII)V"⟩, 39), (⟨"PadRoundModel", "isPlayerBy", "(I)Z"⟩, 39), (⟨"PadRoundModel", "counts", "(I)I"⟩, 39), (⟨"PadRoundModel", "mix", "(I)V"⟩, 39), (⟨"PadRoundModel", "mixAll", "()V"⟩, 39)]
theorem lw_r6 : ∀ q ∈ lw_privs_6, lw_okq q := List.forall_mem_cons.mpr ⟨lw_p80, List.forall_mem_cons.mpr ⟨lw_p81, List.forall_mem_cons.mpr ⟨lw_p82, List.forall_mem_cons.mpr ⟨lw_p83, List.forall_mem_cons.mpr ⟨lw_p84, List.forall_mem_cons.mpr ⟨lw_p85, List.forall_mem_cons.mpr ⟨lw_p86, List.forall_mem_cons.mpr ⟨lw_p87, List.forall_mem_cons.mpr ⟨lw_p88, List.forall_mem_cons.mpr ⟨lw_p89, fun _ h => absurd h List.not_mem_nil⟩⟩⟩⟩⟩⟩⟩⟩⟩⟩
def lw_privs : List (MethodName × Nat) := lw_privs_1 ++ (lw_privs_2 ++ (lw_privs_3 ++ (lw_privs_4 ++ (lw_privs_5 ++ (lw_privs_6)))))
def lw_tbl : List Cond := k2_sels lw_privs ++ tables_1
theorem lw_privs_ok : ∀ q ∈ lw_privs, lw_okq q := by
  show ∀ q ∈ lw_privs_1 ++ (lw_privs_2 ++ (lw_privs_3 ++ (lw_privs_4 ++ (lw_privs_5 ++ (lw_privs_6))))), lw_okq q
  exact List.forall_mem_append.mpr ⟨lw_r1, List.forall_mem_append.mpr ⟨lw_r2, List.forall_mem_append.mpr ⟨lw_r3, List.forall_mem_append.mpr ⟨lw_r4, List.forall_mem_append.mpr ⟨lw_r5, lw_r6⟩⟩⟩⟩⟩
end
section
def RX0 : String := "PadRound$Answers"
def TX0 : u_T := fun k => match k with
  | 0 => ("PadRound$Answers", "findings", "[I", true)
  | 1 => ("PadRound$Answers", "finding", "I", false)
  | 2 => ("PadRound$Answers", "asked", "I", false)
  | 3 => ("PadRound$Answers", "upper", "J", false)
  | _ => ("PadRound$Answers", "lower", "J", false)
def tyX0 : Nat → FieldType := fun k => match k with
  | 0 => .array .int
  | 1 => .int
  | 2 => .int
  | 3 => .long
  | _ => .long
theorem nmX0 : ∀ a, a < 5 → ∀ b, b < 5 → a ≠ b → (TX0 a).2.1 ≠ (TX0 b).2.1 := by decide +kernel
theorem tyX0_ok : ∀ k, k < 5 → parseFieldDescriptor (TX0 k).2.2.1 = some (tyX0 k) := by decide +kernel
abbrev cX0_init : ByteArray := prog_2_method_1_code
def yX0_init : MethodName := ⟨RX0, "<init>", "()V"⟩
abbrev cX0_found : ByteArray := prog_2_method_2_code
def yX0_found : MethodName := ⟨RX0, "found", "(I)I"⟩
abbrev cX0_ask : ByteArray := prog_2_method_3_code
def yX0_ask : MethodName := ⟨RX0, "ask", "(I)I"⟩
abbrev cX0_tell : ByteArray := prog_2_method_4_code
def yX0_tell : MethodName := ⟨RX0, "tell", "(JJ)I"⟩
def RX1 : String := "PadRound$Box"
def TX1 : u_T := fun k => match k with
  | 0 => ("PadRound$Box", "figures", "[I", true)
  | _ => ("PadRound$Box", "words", "I", false)
def tyX1 : Nat → FieldType := fun k => match k with
  | 0 => .array .int
  | _ => .int
theorem nmX1 : ∀ a, a < 2 → ∀ b, b < 2 → a ≠ b → (TX1 a).2.1 ≠ (TX1 b).2.1 := by decide +kernel
theorem tyX1_ok : ∀ k, k < 2 → parseFieldDescriptor (TX1 k).2.2.1 = some (tyX1 k) := by decide +kernel
abbrev cX1_init : ByteArray := prog_3_method_1_code
def yX1_init : MethodName := ⟨RX1, "<init>", "()V"⟩
abbrev cX1_read : ByteArray := prog_3_method_2_code
def yX1_read : MethodName := ⟨RX1, "read", "(LPadRound$Sheet;)V"⟩
abbrev cX1_usualOf : ByteArray := prog_3_method_3_code
def yX1_usualOf : MethodName := ⟨RX1, "usualOf", "(II)I"⟩
abbrev cX1_usualSet : ByteArray := prog_3_method_4_code
def yX1_usualSet : MethodName := ⟨RX1, "usualSet", "(II)I"⟩
abbrev cX1_usualInAll : ByteArray := prog_3_method_5_code
def yX1_usualInAll : MethodName := ⟨RX1, "usualInAll", "(LPadRound$Drawing;)I"⟩
abbrev cX1_digestOn : ByteArray := prog_3_method_6_code
def yX1_digestOn : MethodName := ⟨RX1, "digestOn", "(J)J"⟩
def RX2 : String := "PadRound$Drawing"
def TX2 : u_T := fun k => match k with
  | 0 => ("PadRound$Drawing", "places", "[I", true)
  | _ => ("PadRound$Drawing", "size", "I", false)
def tyX2 : Nat → FieldType := fun k => match k with
  | 0 => .array .int
  | _ => .int
theorem nmX2 : ∀ a, a < 2 → ∀ b, b < 2 → a ≠ b → (TX2 a).2.1 ≠ (TX2 b).2.1 := by decide +kernel
theorem tyX2_ok : ∀ k, k < 2 → parseFieldDescriptor (TX2 k).2.2.1 = some (tyX2 k) := by decide +kernel
abbrev cX2_init : ByteArray := prog_4_method_1_code
def yX2_init : MethodName := ⟨RX2, "<init>", "()V"⟩
abbrev cX2_take : ByteArray := prog_4_method_2_code
def yX2_take : MethodName := ⟨RX2, "take", "(LPadRound$Sheet;)V"⟩
abbrev cX2_takeSet : ByteArray := prog_4_method_3_code
def yX2_takeSet : MethodName := ⟨RX2, "takeSet", "(I)V"⟩
abbrev cX2_drawBy : ByteArray := prog_4_method_4_code
def yX2_drawBy : MethodName := ⟨RX2, "drawBy", "(LPadRound$Player;I)V"⟩
abbrev cX2_add : ByteArray := prog_4_method_5_code
def yX2_add : MethodName := ⟨RX2, "add", "(I)V"⟩
abbrev cX2_mostUsual : ByteArray := prog_4_method_6_code
def yX2_mostUsual : MethodName := ⟨RX2, "mostUsual", "(LPadRound$Box;II)I"⟩
abbrev cX2_set : ByteArray := prog_4_method_7_code
def yX2_set : MethodName := ⟨RX2, "set", "()I"⟩
def RX3 : String := "PadRound$Leaf"
def TX3 : u_T := fun k => match k with
  | 0 => ("PadRound$Leaf", "drawn", "LPadRound$Drawing;", true)
  | 1 => ("PadRound$Leaf", "isGuess", "Z", false)
  | 2 => ("PadRound$Leaf", "who", "I", false)
  | 3 => ("PadRound$Leaf", "word", "I", false)
  | 4 => ("PadRound$Leaf", "set", "I", false)
  | _ => ("PadRound$Leaf", "by", "I", false)
def tyX3 : Nat → FieldType := fun k => match k with
  | 0 => .object "PadRound$Drawing"
  | 1 => .boolean
  | 2 => .int
  | 3 => .int
  | 4 => .int
  | _ => .int
theorem nmX3 : ∀ a, a < 6 → ∀ b, b < 6 → a ≠ b → (TX3 a).2.1 ≠ (TX3 b).2.1 := by decide +kernel
theorem tyX3_ok : ∀ k, k < 6 → parseFieldDescriptor (TX3 k).2.2.1 = some (tyX3 k) := by decide +kernel
abbrev cX3_init : ByteArray := prog_5_method_1_code
def yX3_init : MethodName := ⟨RX3, "<init>", "()V"⟩
abbrev cX3_write : ByteArray := prog_5_method_2_code
def yX3_write : MethodName := ⟨RX3, "write", "(ZIILPadRound$Sheet;I)V"⟩
abbrev cX3_isOf : ByteArray := prog_5_method_3_code
def yX3_isOf : MethodName := ⟨RX3, "isOf", "(IZ)Z"⟩
abbrev cX3_unlike : ByteArray := prog_5_method_4_code
def yX3_unlike : MethodName := ⟨RX3, "unlike", "(I)I"⟩
abbrev cX3_tells : ByteArray := prog_5_method_5_code
def yX3_tells : MethodName := ⟨RX3, "tells", "(I)I"⟩
def RX4 : String := "PadRound$Player"
def TX4 : u_T := fun k => match k with
  | 0 => ("PadRound$Player", "drawnSets", "[I", true)
  | 1 => ("PadRound$Player", "kind", "I", false)
  | 2 => ("PadRound$Player", "land", "I", false)
  | 3 => ("PadRound$Player", "many", "I", false)
  | 4 => ("PadRound$Player", "favourite", "I", false)
  | _ => ("PadRound$Player", "box", "LPadRound$Box;", false)
def tyX4 : Nat → FieldType := fun k => match k with
  | 0 => .array .int
  | 1 => .int
  | 2 => .int
  | 3 => .int
  | 4 => .int
  | _ => .object "PadRound$Box"
theorem nmX4 : ∀ a, a < 6 → ∀ b, b < 6 → a ≠ b → (TX4 a).2.1 ≠ (TX4 b).2.1 := by decide +kernel
theorem tyX4_ok : ∀ k, k < 6 → parseFieldDescriptor (TX4 k).2.2.1 = some (tyX4 k) := by decide +kernel
abbrev cX4_init : ByteArray := prog_6_method_1_code
def yX4_init : MethodName := ⟨RX4, "<init>", "(LPadRound$Box;)V"⟩
abbrev cX4_become : ByteArray := prog_6_method_2_code
def yX4_become : MethodName := ⟨RX4, "become", "(IIIILPadRound$Box;)V"⟩
abbrev cX4_becomeLike : ByteArray := prog_6_method_3_code
def yX4_becomeLike : MethodName := ⟨RX4, "becomeLike", "(LPadRound$Player;I)V"⟩
abbrev cX4_is : ByteArray := prog_6_method_4_code
def yX4_is : MethodName := ⟨RX4, "is", "(I)Z"⟩
abbrev cX4_drawsAtMost : ByteArray := prog_6_method_5_code
def yX4_drawsAtMost : MethodName := ⟨RX4, "drawsAtMost", "()I"⟩
abbrev cX4_tells : ByteArray := prog_6_method_6_code
def yX4_tells : MethodName := ⟨RX4, "tells", "(I)I"⟩
abbrev cX4_asNumber : ByteArray := prog_6_method_7_code
def yX4_asNumber : MethodName := ⟨RX4, "asNumber", "()I"⟩
def RX5 : String := "PadRound$Round"
def TX5 : u_T := fun k => match k with
  | 0 => ("PadRound$Round", "steps", "[I", true)
  | 1 => ("PadRound$Round", "order", "[I", true)
  | 2 => ("PadRound$Round", "best", "[I", true)
  | 3 => ("PadRound$Round", "odds", "[J", true)
  | 4 => ("PadRound$Round", "next", "[J", true)
  | 5 => ("PadRound$Round", "size", "I", false)
  | 6 => ("PadRound$Round", "words", "I", false)
  | _ => ("PadRound$Round", "bestKept", "J", false)
def tyX5 : Nat → FieldType := fun k => match k with
  | 0 => .array .int
  | 1 => .array .int
  | 2 => .array .int
  | 3 => .array .long
  | 4 => .array .long
  | 5 => .int
  | 6 => .int
  | _ => .long
theorem nmX5 : ∀ a, a < 8 → ∀ b, b < 8 → a ≠ b → (TX5 a).2.1 ≠ (TX5 b).2.1 := by decide +kernel
theorem tyX5_ok : ∀ k, k < 8 → parseFieldDescriptor (TX5 k).2.2.1 = some (tyX5 k) := by decide +kernel
abbrev cX5_init : ByteArray := prog_7_method_1_code
def yX5_init : MethodName := ⟨RX5, "<init>", "()V"⟩
abbrev cX5_seat : ByteArray := prog_7_method_2_code
def yX5_seat : MethodName := ⟨RX5, "seat", "(LPadRound$Sheet;I)V"⟩
abbrev cX5_learn : ByteArray := prog_7_method_3_code
def yX5_learn : MethodName := ⟨RX5, "learn", "(IIILPadRound$Shares;)V"⟩
abbrev cX5_whole : ByteArray := prog_7_method_4_code
def yX5_whole : MethodName := ⟨RX5, "whole", "()J"⟩
abbrev cX5_begin : ByteArray := prog_7_method_5_code
def yX5_begin : MethodName := ⟨RX5, "begin", "(I)V"⟩
abbrev cX5_beginWithAll : ByteArray := prog_7_method_6_code
def yX5_beginWithAll : MethodName := ⟨RX5, "beginWithAll", "()V"⟩
abbrev cX5_stepBase : ByteArray := prog_7_method_7_code
def yX5_stepBase : MethodName := ⟨RX5, "stepBase", "(II)I"⟩
abbrev cX5_pass : ByteArray := prog_7_method_8_code
def yX5_pass : MethodName := ⟨RX5, "pass", "(I)V"⟩
abbrev cX5_passFrom : ByteArray := prog_7_method_9_code
def yX5_passFrom : MethodName := ⟨RX5, "passFrom", "(I)V"⟩
abbrev cX5_reach : ByteArray := prog_7_method_10_code
def yX5_reach : MethodName := ⟨RX5, "reach", "(III)J"⟩
abbrev cX5_reachOffAt : ByteArray := prog_7_method_11_code
def yX5_reachOffAt : MethodName := ⟨RX5, "reachOffAt", "(III)J"⟩
abbrev cX5_keptBy : ByteArray := prog_7_method_12_code
def yX5_keptBy : MethodName := ⟨RX5, "keptBy", "(LPadRound$Sheet;)J"⟩
abbrev cX5_seatBest : ByteArray := prog_7_method_13_code
def yX5_seatBest : MethodName := ⟨RX5, "seatBest", "(LPadRound$Sheet;)I"⟩
abbrev cX5_sortOthers : ByteArray := prog_7_method_14_code
def yX5_sortOthers : MethodName := ⟨RX5, "sortOthers", "()V"⟩
def RX6 : String := "PadRound$Shares"
def TX6 : u_T := fun k => match k with
  | 0 => ("PadRound$Shares", "sums", "[I", true)
  | 1 => ("PadRound$Shares", "cut", "[I", true)
  | 2 => ("PadRound$Shares", "words", "I", false)
  | _ => ("PadRound$Shares", "greatest", "I", false)
def tyX6 : Nat → FieldType := fun k => match k with
  | 0 => .array .int
  | 1 => .array .int
  | 2 => .int
  | _ => .int
theorem nmX6 : ∀ a, a < 4 → ∀ b, b < 4 → a ≠ b → (TX6 a).2.1 ≠ (TX6 b).2.1 := by decide +kernel
theorem tyX6_ok : ∀ k, k < 4 → parseFieldDescriptor (TX6 k).2.2.1 = some (tyX6 k) := by decide +kernel
abbrev cX6_init : ByteArray := prog_8_method_1_code
def yX6_init : MethodName := ⟨RX6, "<init>", "()V"⟩
abbrev cX6_get : ByteArray := prog_8_method_2_code
def yX6_get : MethodName := ⟨RX6, "get", "(I)I"⟩
abbrev cX6_reckon : ByteArray := prog_8_method_3_code
def yX6_reckon : MethodName := ⟨RX6, "reckon", "(LPadRound$Player;LPadRound$Drawing;LPadRound$Player;)V"⟩
abbrev cX6_share : ByteArray := prog_8_method_4_code
def yX6_share : MethodName := ⟨RX6, "share", "(I)V"⟩
abbrev cX6_sumOf : ByteArray := prog_8_method_5_code
def yX6_sumOf : MethodName := ⟨RX6, "sumOf", "(LPadRound$Player;LPadRound$Drawing;LPadRound$Player;I)I"⟩
def RX7 : String := "PadRound$Sheet"
def TX7 : u_T := fun k => match k with
  | 0 => ("PadRound$Sheet", "places", "[I", true)
  | _ => ("PadRound$Sheet", "size", "I", false)
def tyX7 : Nat → FieldType := fun k => match k with
  | 0 => .array .int
  | _ => .int
theorem nmX7 : ∀ a, a < 2 → ∀ b, b < 2 → a ≠ b → (TX7 a).2.1 ≠ (TX7 b).2.1 := by decide +kernel
theorem tyX7_ok : ∀ k, k < 2 → parseFieldDescriptor (TX7 k).2.2.1 = some (tyX7 k) := by decide +kernel
abbrev cX7_init : ByteArray := prog_9_method_1_code
def yX7_init : MethodName := ⟨RX7, "<init>", "(I)V"⟩
abbrev cX7_isMissing : ByteArray := prog_9_method_2_code
def yX7_isMissing : MethodName := ⟨RX7, "isMissing", "()Z"⟩
abbrev cX7_has : ByteArray := prog_9_method_3_code
def yX7_has : MethodName := ⟨RX7, "has", "(I)Z"⟩
abbrev cX7_hasRange : ByteArray := prog_9_method_4_code
def yX7_hasRange : MethodName := ⟨RX7, "hasRange", "(II)Z"⟩
abbrev cX7_get : ByteArray := prog_9_method_5_code
def yX7_get : MethodName := ⟨RX7, "get", "(I)I"⟩
abbrev cX7_set : ByteArray := prog_9_method_6_code
def yX7_set : MethodName := ⟨RX7, "set", "(II)V"⟩
abbrev cX7_renew : ByteArray := prog_9_method_7_code
def yX7_renew : MethodName := ⟨RX7, "renew", "(II)V"⟩
abbrev cX7_take : ByteArray := prog_9_method_8_code
def yX7_take : MethodName := ⟨RX7, "take", "([II)V"⟩
abbrev cX7_remove : ByteArray := prog_9_method_9_code
def yX7_remove : MethodName := ⟨RX7, "remove", "()V"⟩
abbrev cX7_total : ByteArray := prog_9_method_10_code
def yX7_total : MethodName := ⟨RX7, "total", "()J"⟩
abbrev cX7_placeFault : ByteArray := prog_9_method_11_code
def yX7_placeFault : MethodName := ⟨RX7, "placeFault", "(I)I"⟩
abbrev cX7_drawnFault : ByteArray := prog_9_method_12_code
def yX7_drawnFault : MethodName := ⟨RX7, "drawnFault", "()I"⟩
abbrev cX7_isUnlikeBelow : ByteArray := prog_9_method_13_code
def yX7_isUnlikeBelow : MethodName := ⟨RX7, "isUnlikeBelow", "(I)Z"⟩
abbrev cX7_partSet : ByteArray := prog_9_method_14_code
def yX7_partSet : MethodName := ⟨RX7, "partSet", "()I"⟩
abbrev cX7_boxFault : ByteArray := prog_9_method_15_code
def yX7_boxFault : MethodName := ⟨RX7, "boxFault", "()I"⟩
abbrev cX7_digestOn : ByteArray := prog_9_method_16_code
def yX7_digestOn : MethodName := ⟨RX7, "digestOn", "(J)J"⟩
def RX8 : String := "PadRound$Watch"
def TX8 : u_T := fun k => match k with
  | 0 => ("PadRound$Watch", "sorted", "[I", true)
  | 1 => ("PadRound$Watch", "order", "[I", true)
  | 2 => ("PadRound$Watch", "best", "[I", true)
  | 3 => ("PadRound$Watch", "knows", "[Z", true)
  | 4 => ("PadRound$Watch", "size", "I", false)
  | _ => ("PadRound$Watch", "byFirstAlone", "Z", false)
def tyX8 : Nat → FieldType := fun k => match k with
  | 0 => .array .int
  | 1 => .array .int
  | 2 => .array .int
  | 3 => .array .boolean
  | 4 => .int
  | _ => .boolean
theorem nmX8 : ∀ a, a < 6 → ∀ b, b < 6 → a ≠ b → (TX8 a).2.1 ≠ (TX8 b).2.1 := by decide +kernel
theorem tyX8_ok : ∀ k, k < 6 → parseFieldDescriptor (TX8 k).2.2.1 = some (tyX8 k) := by decide +kernel
abbrev cX8_init : ByteArray := prog_10_method_1_code
def yX8_init : MethodName := ⟨RX8, "<init>", "()V"⟩
abbrev cX8_begin : ByteArray := prog_10_method_2_code
def yX8_begin : MethodName := ⟨RX8, "begin", "(IZ)V"⟩
abbrev cX8_partsAt : ByteArray := prog_10_method_3_code
def yX8_partsAt : MethodName := ⟨RX8, "partsAt", "(ILPadRound$Drawing;)V"⟩
abbrev cX8_learn : ByteArray := prog_10_method_4_code
def yX8_learn : MethodName := ⟨RX8, "learn", "(IZ)V"⟩
abbrev cX8_soonest : ByteArray := prog_10_method_5_code
def yX8_soonest : MethodName := ⟨RX8, "soonest", "()I"⟩
abbrev cX8_knownFrom : ByteArray := prog_10_method_6_code
def yX8_knownFrom : MethodName := ⟨RX8, "knownFrom", "()I"⟩
abbrev cX8_keepOrder : ByteArray := prog_10_method_7_code
def yX8_keepOrder : MethodName := ⟨RX8, "keepOrder", "()V"⟩
def RX9 : String := "PadRound"
def TX9 : u_T := fun k => match k with
  | 0 => ("PadRound", "rows", "[LPadRound$Sheet;", true)
  | 1 => ("PadRound", "texts", "[LPadRound$Sheet;", true)
  | 2 => ("PadRound", "boxes", "[LPadRound$Box;", true)
  | 3 => ("PadRound", "players", "[LPadRound$Player;", true)
  | 4 => ("PadRound", "leaves", "[LPadRound$Leaf;", true)
  | 5 => ("PadRound", "answers", "LPadRound$Answers;", true)
  | 6 => ("PadRound", "drawing", "LPadRound$Drawing;", true)
  | 7 => ("PadRound", "shares", "LPadRound$Shares;", true)
  | 8 => ("PadRound", "round", "LPadRound$Round;", true)
  | 9 => ("PadRound", "watch", "LPadRound$Watch;", true)
  | 10 => ("PadRound", "standIn", "LPadRound$Player;", true)
  | 11 => ("PadRound", "playerCount", "I", false)
  | _ => ("PadRound", "leafCount", "I", false)
def tyX9 : Nat → FieldType := fun k => match k with
  | 0 => .array (.object "PadRound$Sheet")
  | 1 => .array (.object "PadRound$Sheet")
  | 2 => .array (.object "PadRound$Box")
  | 3 => .array (.object "PadRound$Player")
  | 4 => .array (.object "PadRound$Leaf")
  | 5 => .object "PadRound$Answers"
  | 6 => .object "PadRound$Drawing"
  | 7 => .object "PadRound$Shares"
  | 8 => .object "PadRound$Round"
  | 9 => .object "PadRound$Watch"
  | 10 => .object "PadRound$Player"
  | 11 => .int
  | _ => .int
theorem nmX9 : ∀ a, a < 13 → ∀ b, b < 13 → a ≠ b → (TX9 a).2.1 ≠ (TX9 b).2.1 := by decide +kernel
theorem tyX9_ok : ∀ k, k < 13 → parseFieldDescriptor (TX9 k).2.2.1 = some (tyX9 k) := by decide +kernel
abbrev cX9_init : ByteArray := prog_1_method_1_code
def yX9_init : MethodName := ⟨RX9, "<init>", "()V"⟩
abbrev cX9_row : ByteArray := prog_1_method_2_code
def yX9_row : MethodName := ⟨RX9, "row", "(II)I"⟩
abbrev cX9_lay : ByteArray := prog_1_method_3_code
def yX9_lay : MethodName := ⟨RX9, "lay", "(III)I"⟩
abbrev cX9_at : ByteArray := prog_1_method_4_code
def yX9_at : MethodName := ⟨RX9, "at", "(II)I"⟩
abbrev cX9_tear : ByteArray := prog_1_method_5_code
def yX9_tear : MethodName := ⟨RX9, "tear", "(I)I"⟩
abbrev cX9_copy : ByteArray := prog_1_method_6_code
def yX9_copy : MethodName := ⟨RX9, "copy", "(IIIII)I"⟩
abbrev cX9_mean : ByteArray := prog_1_method_7_code
def yX9_mean : MethodName := ⟨RX9, "mean", "(I)I"⟩
abbrev cX9_text : ByteArray := prog_1_method_8_code
def yX9_text : MethodName := ⟨RX9, "text", "(II)I"⟩
abbrev cX9_put : ByteArray := prog_1_method_9_code
def yX9_put : MethodName := ⟨RX9, "put", "(III)I"⟩
abbrev cX9_fault : ByteArray := prog_1_method_10_code
def yX9_fault : MethodName := ⟨RX9, "fault", "(I)I"⟩
abbrev cX9_box : ByteArray := prog_1_method_11_code
def yX9_box : MethodName := ⟨RX9, "box", "(II)I"⟩
abbrev cX9_usual : ByteArray := prog_1_method_12_code
def yX9_usual : MethodName := ⟨RX9, "usual", "(III)I"⟩
abbrev cX9_player : ByteArray := prog_1_method_13_code
def yX9_player : MethodName := ⟨RX9, "player", "(IIII)I"⟩
abbrev cX9_about : ByteArray := prog_1_method_14_code
def yX9_about : MethodName := ⟨RX9, "about", "(II)I"⟩
abbrev cX9_mark : ByteArray := prog_1_method_15_code
def yX9_mark : MethodName := ⟨RX9, "mark", "(II)I"⟩
abbrev cX9_draws : ByteArray := prog_1_method_16_code
def yX9_draws : MethodName := ⟨RX9, "draws", "(III)I"⟩
abbrev cX9_guess : ByteArray := prog_1_method_17_code
def yX9_guess : MethodName := ⟨RX9, "guess", "(IIII)I"⟩
abbrev cX9_step : ByteArray := prog_1_method_18_code
def yX9_step : MethodName := ⟨RX9, "step", "(IIII)I"⟩
abbrev cX9_comes : ByteArray := prog_1_method_19_code
def yX9_comes : MethodName := ⟨RX9, "comes", "(III)I"⟩
abbrev cX9_most : ByteArray := prog_1_method_20_code
def yX9_most : MethodName := ⟨RX9, "most", "(I)I"⟩
abbrev cX9_keeps : ByteArray := prog_1_method_21_code
def yX9_keeps : MethodName := ⟨RX9, "keeps", "(III)I"⟩
abbrev cX9_was : ByteArray := prog_1_method_22_code
def yX9_was : MethodName := ⟨RX9, "was", "(III)I"⟩
abbrev cX9_off : ByteArray := prog_1_method_23_code
def yX9_off : MethodName := ⟨RX9, "off", "(IIII)I"⟩
abbrev cX9_kept : ByteArray := prog_1_method_24_code
def yX9_kept : MethodName := ⟨RX9, "kept", "(II)I"⟩
abbrev cX9_seats : ByteArray := prog_1_method_25_code
def yX9_seats : MethodName := ⟨RX9, "seats", "(III)I"⟩
abbrev cX9_parts : ByteArray := prog_1_method_26_code
def yX9_parts : MethodName := ⟨RX9, "parts", "(III)I"⟩
abbrev cX9_few : ByteArray := prog_1_method_27_code
def yX9_few : MethodName := ⟨RX9, "few", "(III)I"⟩
abbrev cX9_soon : ByteArray := prog_1_method_28_code
def yX9_soon : MethodName := ⟨RX9, "soon", "(IIII)I"⟩
abbrev cX9_common : ByteArray := prog_1_method_29_code
def yX9_common : MethodName := ⟨RX9, "common", "(II)I"⟩
abbrev cX9_land : ByteArray := prog_1_method_30_code
def yX9_land : MethodName := ⟨RX9, "land", "(I)I"⟩
abbrev cX9_leaf : ByteArray := prog_1_method_31_code
def yX9_leaf : MethodName := ⟨RX9, "leaf", "(III)I"⟩
abbrev cX9_guessed : ByteArray := prog_1_method_32_code
def yX9_guessed : MethodName := ⟨RX9, "guessed", "(IIII)I"⟩
abbrev cX9_told : ByteArray := prog_1_method_33_code
def yX9_told : MethodName := ⟨RX9, "told", "(II)I"⟩
abbrev cX9_back : ByteArray := prog_1_method_34_code
def yX9_back : MethodName := ⟨RX9, "back", "(I)I"⟩
abbrev cX9_hand : ByteArray := prog_1_method_35_code
def yX9_hand : MethodName := ⟨RX9, "hand", "(I)I"⟩
abbrev cX9_guesser : ByteArray := prog_1_method_36_code
def yX9_guesser : MethodName := ⟨RX9, "guesser", "(I)I"⟩
abbrev cX9_machine : ByteArray := prog_1_method_37_code
def yX9_machine : MethodName := ⟨RX9, "machine", "(I)I"⟩
abbrev cX9_held : ByteArray := prog_1_method_38_code
def yX9_held : MethodName := ⟨RX9, "held", "()I"⟩
abbrev cX9_sign : ByteArray := prog_1_method_39_code
def yX9_sign : MethodName := ⟨RX9, "sign", "(IIIII)I"⟩
abbrev cX9_stranger : ByteArray := prog_1_method_40_code
def yX9_stranger : MethodName := ⟨RX9, "stranger", "(IIII)I"⟩
abbrev cX9_image : ByteArray := prog_1_method_41_code
def yX9_image : MethodName := ⟨RX9, "image", "(I)I"⟩
abbrev cX9_on : ByteArray := prog_1_method_42_code
def yX9_on : MethodName := ⟨RX9, "on", "(I)I"⟩
abbrev cX9_asked : ByteArray := prog_1_method_43_code
def yX9_asked : MethodName := ⟨RX9, "asked", "()I"⟩
abbrev cX9_upper : ByteArray := prog_1_method_44_code
def yX9_upper : MethodName := ⟨RX9, "upper", "()J"⟩
abbrev cX9_lower : ByteArray := prog_1_method_45_code
def yX9_lower : MethodName := ⟨RX9, "lower", "()J"⟩
abbrev cX9_count : ByteArray := prog_1_method_46_code
def yX9_count : MethodName := ⟨RX9, "count", "(I)I"⟩
abbrev cX9_finding : ByteArray := prog_1_method_47_code
def yX9_finding : MethodName := ⟨RX9, "finding", "()I"⟩
abbrev cX9_findings : ByteArray := prog_1_method_48_code
def yX9_findings : MethodName := ⟨RX9, "findings", "(I)I"⟩
abbrev cX9_digest : ByteArray := prog_1_method_49_code
def yX9_digest : MethodName := ⟨RX9, "digest", "()J"⟩
abbrev cX9_isRow : ByteArray := prog_1_method_50_code
def yX9_isRow : MethodName := ⟨RX9, "isRow", "(I)Z"⟩
abbrev cX9_isText : ByteArray := prog_1_method_51_code
def yX9_isText : MethodName := ⟨RX9, "isText", "(I)Z"⟩
abbrev cX9_isLand : ByteArray := prog_1_method_52_code
def yX9_isLand : MethodName := ⟨RX9, "isLand", "(I)Z"⟩
abbrev cX9_isEverWord : ByteArray := prog_1_method_53_code
def yX9_isEverWord : MethodName := ⟨RX9, "isEverWord", "(I)Z"⟩
abbrev cX9_isWord : ByteArray := prog_1_method_54_code
def yX9_isWord : MethodName := ⟨RX9, "isWord", "(I)Z"⟩
abbrev cX9_isPlayer : ByteArray := prog_1_method_55_code
def yX9_isPlayer : MethodName := ⟨RX9, "isPlayer", "(I)Z"⟩
abbrev cX9_isDrawer : ByteArray := prog_1_method_56_code
def yX9_isDrawer : MethodName := ⟨RX9, "isDrawer", "(I)Z"⟩
abbrev cX9_drawer : ByteArray := prog_1_method_57_code
def yX9_drawer : MethodName := ⟨RX9, "drawer", "(I)LPadRound$Player;"⟩
abbrev cX9_boxCounts : ByteArray := prog_1_method_58_code
def yX9_boxCounts : MethodName := ⟨RX9, "boxCounts", "(I)Z"⟩
abbrev cX9_tableFault : ByteArray := prog_1_method_59_code
def yX9_tableFault : MethodName := ⟨RX9, "tableFault", "(I)I"⟩
abbrev cX9_padsFault : ByteArray := prog_1_method_60_code
def yX9_padsFault : MethodName := ⟨RX9, "padsFault", "(II)I"⟩
abbrev cX9_imageFault : ByteArray := prog_1_method_61_code
def yX9_imageFault : MethodName := ⟨RX9, "imageFault", "(LPadRound$Sheet;)I"⟩
abbrev cX9_seatPlayer : ByteArray := prog_1_method_62_code
def yX9_seatPlayer : MethodName := ⟨RX9, "seatPlayer", "(IIIII)V"⟩
abbrev cX9_guessFirstPart : ByteArray := prog_1_method_63_code
def yX9_guessFirstPart : MethodName := ⟨RX9, "guessFirstPart", "(LPadRound$Player;)V"⟩
abbrev cX9_handsRead : ByteArray := prog_1_method_64_code
def yX9_handsRead : MethodName := ⟨RX9, "handsRead", "(LPadRound$Player;)I"⟩
abbrev cX9_shareBySet : ByteArray := prog_1_method_65_code
def yX9_shareBySet : MethodName := ⟨RX9, "shareBySet", "(LPadRound$Player;II)I"⟩
abbrev cX9_seatTable : ByteArray := prog_1_method_66_code
def yX9_seatTable : MethodName := ⟨RX9, "seatTable", "(I)V"⟩
abbrev cX9_learnAllSteps : ByteArray := prog_1_method_67_code
def yX9_learnAllSteps : MethodName := ⟨RX9, "learnAllSteps", "()V"⟩
abbrev cX9_learnStep : ByteArray := prog_1_method_68_code
def yX9_learnStep : MethodName := ⟨RX9, "learnStep", "(II)V"⟩
abbrev cX9_addLeaf : ByteArray := prog_1_method_69_code
def yX9_addLeaf : MethodName := ⟨RX9, "addLeaf", "(ZIIII)I"⟩
abbrev cX9_leavesOf : ByteArray := prog_1_method_70_code
def yX9_leavesOf : MethodName := ⟨RX9, "leavesOf", "(IZ)I"⟩
abbrev cX9_guessLeaves : ByteArray := prog_1_method_71_code
def yX9_guessLeaves : MethodName := ⟨RX9, "guessLeaves", "()I"⟩
abbrev cX9_handOff : ByteArray := prog_1_method_72_code
def yX9_handOff : MethodName := ⟨RX9, "handOff", "(II)I"⟩
abbrev cX9_likelihood : ByteArray := prog_1_method_73_code
def yX9_likelihood : MethodName := ⟨RX9, "likelihood", "(II)J"⟩
abbrev cX9_nearestLeaf : ByteArray := prog_1_method_74_code
def yX9_nearestLeaf : MethodName := ⟨RX9, "nearestLeaf", "(II)I"⟩
abbrev cX9_shortenSign : ByteArray := prog_1_method_75_code
def yX9_shortenSign : MethodName := ⟨RX9, "shortenSign", "(III)V"⟩
abbrev cX9_sloppyPlayers : ByteArray := prog_1_method_76_code
def yX9_sloppyPlayers : MethodName := ⟨RX9, "sloppyPlayers", "()I"⟩
abbrev cX9_sheetsThere : ByteArray := prog_1_method_77_code
def yX9_sheetsThere : MethodName := ⟨RX9, "sheetsThere", "([LPadRound$Sheet;)I"⟩
abbrev cX9_nextOrder : ByteArray := prog_1_method_78_code
def yX9_nextOrder : MethodName := ⟨RX9, "nextOrder", "([III)Z"⟩
abbrev cX9_swap : ByteArray := prog_1_method_79_code
def yX9_swap : MethodName := ⟨RX9, "swap", "([III)V"⟩
def RX10 : String := "PadRoundModel"
def TX10 : u_T := fun k => match k with
  | 0 => ("PadRoundModel", "finding", "I", false)
  | 1 => ("PadRoundModel", "findings", "[I", true)
  | 2 => ("PadRoundModel", "asked", "I", false)
  | 3 => ("PadRoundModel", "upper", "J", false)
  | 4 => ("PadRoundModel", "lower", "J", false)
  | 5 => ("PadRoundModel", "sizes", "[I", true)
  | 6 => ("PadRoundModel", "rows", "[I", true)
  | 7 => ("PadRoundModel", "moving", "[I", true)
  | 8 => ("PadRoundModel", "lengths", "[I", true)
  | 9 => ("PadRoundModel", "texts", "[I", true)
  | 10 => ("PadRoundModel", "boxSizes", "[I", true)
  | 11 => ("PadRoundModel", "boxes", "[I", true)
  | 12 => ("PadRoundModel", "readAt", "I", false)
  | 13 => ("PadRoundModel", "playerMany", "I", false)
  | 14 => ("PadRoundModel", "players", "[I", true)
  | 15 => ("PadRoundModel", "drawing", "[I", true)
  | 16 => ("PadRoundModel", "drawnMany", "I", false)
  | 17 => ("PadRoundModel", "seen", "[I", true)
  | 18 => ("PadRoundModel", "seenMany", "I", false)
  | 19 => ("PadRoundModel", "sums", "[I", true)
  | 20 => ("PadRoundModel", "shares", "[I", true)
  | 21 => ("PadRoundModel", "table", "[I", true)
  | 22 => ("PadRoundModel", "tableSize", "I", false)
  | 23 => ("PadRoundModel", "odds", "[J", true)
  | 24 => ("PadRoundModel", "next", "[J", true)
  | 25 => ("PadRoundModel", "gone", "[J", true)
  | 26 => ("PadRoundModel", "bestPad", "I", false)
  | 27 => ("PadRoundModel", "rising", "[I", true)
  | 28 => ("PadRoundModel", "bestTable", "[I", true)
  | 29 => ("PadRoundModel", "bestKept", "J", false)
  | 30 => ("PadRoundModel", "bestMany", "I", false)
  | 31 => ("PadRoundModel", "found", "I", false)
  | 32 => ("PadRoundModel", "watched", "[I", true)
  | 33 => ("PadRoundModel", "ordered", "[I", true)
  | 34 => ("PadRoundModel", "soonest", "I", false)
  | 35 => ("PadRoundModel", "leafMany", "I", false)
  | 36 => ("PadRoundModel", "leaves", "[I", true)
  | 37 => ("PadRoundModel", "unlike", "I", false)
  | _ => ("PadRoundModel", "h0", "J", false)
def tyX10 : Nat → FieldType := fun k => match k with
  | 0 => .int
  | 1 => .array .int
  | 2 => .int
  | 3 => .long
  | 4 => .long
  | 5 => .array .int
  | 6 => .array .int
  | 7 => .array .int
  | 8 => .array .int
  | 9 => .array .int
  | 10 => .array .int
  | 11 => .array .int
  | 12 => .int
  | 13 => .int
  | 14 => .array .int
  | 15 => .array .int
  | 16 => .int
  | 17 => .array .int
  | 18 => .int
  | 19 => .array .int
  | 20 => .array .int
  | 21 => .array .int
  | 22 => .int
  | 23 => .array .long
  | 24 => .array .long
  | 25 => .array .long
  | 26 => .int
  | 27 => .array .int
  | 28 => .array .int
  | 29 => .long
  | 30 => .int
  | 31 => .int
  | 32 => .array .int
  | 33 => .array .int
  | 34 => .int
  | 35 => .int
  | 36 => .array .int
  | 37 => .int
  | _ => .long
theorem nmX10 : ∀ a, a < 39 → ∀ b, b < 39 → a ≠ b → (TX10 a).2.1 ≠ (TX10 b).2.1 := by decide +kernel
theorem tyX10_ok : ∀ k, k < 39 → parseFieldDescriptor (TX10 k).2.2.1 = some (tyX10 k) := by decide +kernel
abbrev cX10_init : ByteArray := prog_12_method_1_code
def yX10_init : MethodName := ⟨RX10, "<init>", "()V"⟩
abbrev cX10_in : ByteArray := prog_12_method_3_code
def yX10_in : MethodName := ⟨RX10, "in", "(III)Z"⟩
abbrev cX10_meets : ByteArray := prog_12_method_4_code
def yX10_meets : MethodName := ⟨RX10, "meets", "(I)I"⟩
abbrev cX10_ask : ByteArray := prog_12_method_5_code
def yX10_ask : MethodName := ⟨RX10, "ask", "(II)I"⟩
abbrev cX10_part : ByteArray := prog_12_method_6_code
def yX10_part : MethodName := ⟨RX10, "part", "(JJI)I"⟩
abbrev cX10_isRow : ByteArray := prog_12_method_7_code
def yX10_isRow : MethodName := ⟨RX10, "isRow", "(I)Z"⟩
abbrev cX10_isText : ByteArray := prog_12_method_8_code
def yX10_isText : MethodName := ⟨RX10, "isText", "(I)Z"⟩
abbrev cX10_askedRow : ByteArray := prog_12_method_9_code
def yX10_askedRow : MethodName := ⟨RX10, "askedRow", "(I)I"⟩
abbrev cX10_askedText : ByteArray := prog_12_method_10_code
def yX10_askedText : MethodName := ⟨RX10, "askedText", "(I)I"⟩
abbrev cX10_rowAt : ByteArray := prog_12_method_11_code
def yX10_rowAt : MethodName := ⟨RX10, "rowAt", "(II)I"⟩
abbrev cX10_setRow : ByteArray := prog_12_method_12_code
def yX10_setRow : MethodName := ⟨RX10, "setRow", "(III)V"⟩
abbrev cX10_row : ByteArray := prog_12_method_13_code
def yX10_row : MethodName := ⟨RX10, "row", "(II)I"⟩
abbrev cX10_at : ByteArray := prog_12_method_14_code
def yX10_at : MethodName := ⟨RX10, "at", "(II)I"⟩
abbrev cX10_lay : ByteArray := prog_12_method_15_code
def yX10_lay : MethodName := ⟨RX10, "lay", "(III)I"⟩
abbrev cX10_tear : ByteArray := prog_12_method_16_code
def yX10_tear : MethodName := ⟨RX10, "tear", "(I)I"⟩
abbrev cX10_copy : ByteArray := prog_12_method_17_code
def yX10_copy : MethodName := ⟨RX10, "copy", "(IIIII)I"⟩
abbrev cX10_mean : ByteArray := prog_12_method_18_code
def yX10_mean : MethodName := ⟨RX10, "mean", "(I)I"⟩
abbrev cX10_text : ByteArray := prog_12_method_19_code
def yX10_text : MethodName := ⟨RX10, "text", "(II)I"⟩
abbrev cX10_put : ByteArray := prog_12_method_20_code
def yX10_put : MethodName := ⟨RX10, "put", "(III)I"⟩
abbrev cX10_here : ByteArray := prog_12_method_21_code
def yX10_here : MethodName := ⟨RX10, "here", "(I)I"⟩
abbrev cX10_readsWord : ByteArray := prog_12_method_22_code
def yX10_readsWord : MethodName := ⟨RX10, "readsWord", "(I)Z"⟩
abbrev cX10_goesOn : ByteArray := prog_12_method_23_code
def yX10_goesOn : MethodName := ⟨RX10, "goesOn", "(I)I"⟩
abbrev cX10_fault : ByteArray := prog_12_method_24_code
def yX10_fault : MethodName := ⟨RX10, "fault", "(I)I"⟩
abbrev cX10_box : ByteArray := prog_12_method_25_code
def yX10_box : MethodName := ⟨RX10, "box", "(II)I"⟩
abbrev cX10_words : ByteArray := prog_12_method_26_code
def yX10_words : MethodName := ⟨RX10, "words", "()I"⟩
abbrev cX10_isLand : ByteArray := prog_12_method_27_code
def yX10_isLand : MethodName := ⟨RX10, "isLand", "(I)Z"⟩
abbrev cX10_isWord : ByteArray := prog_12_method_28_code
def yX10_isWord : MethodName := ⟨RX10, "isWord", "(I)Z"⟩
abbrev cX10_use : ByteArray := prog_12_method_29_code
def yX10_use : MethodName := ⟨RX10, "use", "(III)I"⟩
abbrev cX10_usual : ByteArray := prog_12_method_30_code
def yX10_usual : MethodName := ⟨RX10, "usual", "(III)I"⟩
abbrev cX10_isPlayer : ByteArray := prog_12_method_31_code
def yX10_isPlayer : MethodName := ⟨RX10, "isPlayer", "(I)Z"⟩
abbrev cX10_tell : ByteArray := prog_12_method_32_code
def yX10_tell : MethodName := ⟨RX10, "tell", "(II)I"⟩
abbrev cX10_setPlayer : ByteArray := prog_12_method_33_code
def yX10_setPlayer : MethodName := ⟨RX10, "setPlayer", "(IIIII)V"⟩
abbrev cX10_player : ByteArray := prog_12_method_34_code
def yX10_player : MethodName := ⟨RX10, "player", "(IIII)I"⟩
abbrev cX10_about : ByteArray := prog_12_method_35_code
def yX10_about : MethodName := ⟨RX10, "about", "(II)I"⟩
abbrev cX10_isSloppy : ByteArray := prog_12_method_36_code
def yX10_isSloppy : MethodName := ⟨RX10, "isSloppy", "(I)Z"⟩
abbrev cX10_setDrawing : ByteArray := prog_12_method_37_code
def yX10_setDrawing : MethodName := ⟨RX10, "setDrawing", "(II)V"⟩
abbrev cX10_drawingSet : ByteArray := prog_12_method_38_code
def yX10_drawingSet : MethodName := ⟨RX10, "drawingSet", "(II)I"⟩
abbrev cX10_sizeOf : ByteArray := prog_12_method_39_code
def yX10_sizeOf : MethodName := ⟨RX10, "sizeOf", "(I)I"⟩
abbrev cX10_sumOf : ByteArray := prog_12_method_40_code
def yX10_sumOf : MethodName := ⟨RX10, "sumOf", "(III)I"⟩
abbrev cX10_setShares : ByteArray := prog_12_method_41_code
def yX10_setShares : MethodName := ⟨RX10, "setShares", "(II)V"⟩
abbrev cX10_greatest : ByteArray := prog_12_method_42_code
def yX10_greatest : MethodName := ⟨RX10, "greatest", "()I"⟩
abbrev cX10_seeDrawing : ByteArray := prog_12_method_43_code
def yX10_seeDrawing : MethodName := ⟨RX10, "seeDrawing", "()V"⟩
abbrev cX10_see : ByteArray := prog_12_method_44_code
def yX10_see : MethodName := ⟨RX10, "see", "(II)V"⟩
abbrev cX10_seeSet : ByteArray := prog_12_method_45_code
def yX10_seeSet : MethodName := ⟨RX10, "seeSet", "(I)V"⟩
abbrev cX10_seeRow : ByteArray := prog_12_method_46_code
def yX10_seeRow : MethodName := ⟨RX10, "seeRow", "(II)V"⟩
abbrev cX10_askedDrawn : ByteArray := prog_12_method_47_code
def yX10_askedDrawn : MethodName := ⟨RX10, "askedDrawn", "(I)I"⟩
abbrev cX10_rowSet : ByteArray := prog_12_method_48_code
def yX10_rowSet : MethodName := ⟨RX10, "rowSet", "(I)I"⟩
abbrev cX10_mark : ByteArray := prog_12_method_49_code
def yX10_mark : MethodName := ⟨RX10, "mark", "(II)I"⟩
abbrev cX10_draws : ByteArray := prog_12_method_50_code
def yX10_draws : MethodName := ⟨RX10, "draws", "(III)I"⟩
abbrev cX10_rowOf : ByteArray := prog_12_method_51_code
def yX10_rowOf : MethodName := ⟨RX10, "rowOf", "(II)I"⟩
abbrev cX10_isBy : ByteArray := prog_12_method_52_code
def yX10_isBy : MethodName := ⟨RX10, "isBy", "(I)Z"⟩
abbrev cX10_sharesRow : ByteArray := prog_12_method_53_code
def yX10_sharesRow : MethodName := ⟨RX10, "sharesRow", "(I)V"⟩
abbrev cX10_guess : ByteArray := prog_12_method_54_code
def yX10_guess : MethodName := ⟨RX10, "guess", "(IIII)I"⟩
abbrev cX10_setStep : ByteArray := prog_12_method_55_code
def yX10_setStep : MethodName := ⟨RX10, "setStep", "(III)V"⟩
abbrev cX10_step : ByteArray := prog_12_method_56_code
def yX10_step : MethodName := ⟨RX10, "step", "(IIII)I"⟩
abbrev cX10_askedTable : ByteArray := prog_12_method_57_code
def yX10_askedTable : MethodName := ⟨RX10, "askedTable", "(I)I"⟩
abbrev cX10_askedSeats : ByteArray := prog_12_method_58_code
def yX10_askedSeats : MethodName := ⟨RX10, "askedSeats", "(I)I"⟩
abbrev cX10_steps : ByteArray := prog_12_method_59_code
def yX10_steps : MethodName := ⟨RX10, "steps", "()I"⟩
abbrev cX10_whole : ByteArray := prog_12_method_60_code
def yX10_whole : MethodName := ⟨RX10, "whole", "(I)J"⟩
abbrev cX10_goOn : ByteArray := prog_12_method_61_code
def yX10_goOn : MethodName := ⟨RX10, "goOn", "(II)V"⟩
abbrev cX10_setOdds : ByteArray := prog_12_method_62_code
def yX10_setOdds : MethodName := ⟨RX10, "setOdds", "(II)V"⟩
abbrev cX10_askedRound : ByteArray := prog_12_method_63_code
def yX10_askedRound : MethodName := ⟨RX10, "askedRound", "(I)I"⟩
abbrev cX10_comes : ByteArray := prog_12_method_64_code
def yX10_comes : MethodName := ⟨RX10, "comes", "(III)I"⟩
abbrev cX10_most : ByteArray := prog_12_method_65_code
def yX10_most : MethodName := ⟨RX10, "most", "(I)I"⟩
abbrev cX10_keeps : ByteArray := prog_12_method_66_code
def yX10_keeps : MethodName := ⟨RX10, "keeps", "(III)I"⟩
abbrev cX10_was : ByteArray := prog_12_method_67_code
def yX10_was : MethodName := ⟨RX10, "was", "(III)I"⟩
abbrev cX10_off : ByteArray := prog_12_method_68_code
def yX10_off : MethodName := ⟨RX10, "off", "(IIII)I"⟩
abbrev cX10_keptOf : ByteArray := prog_12_method_69_code
def yX10_keptOf : MethodName := ⟨RX10, "keptOf", "(I)J"⟩
abbrev cX10_askedPads : ByteArray := prog_12_method_70_code
def yX10_askedPads : MethodName := ⟨RX10, "askedPads", "(II)I"⟩
abbrev cX10_kept : ByteArray := prog_12_method_71_code
def yX10_kept : MethodName := ⟨RX10, "kept", "(II)I"⟩
abbrev cX10_sit : ByteArray := prog_12_method_72_code
def yX10_sit : MethodName := ⟨RX10, "sit", "(III)V"⟩
abbrev cX10_seats : ByteArray := prog_12_method_73_code
def yX10_seats : MethodName := ⟨RX10, "seats", "(III)I"⟩
abbrev cX10_setFor : ByteArray := prog_12_method_74_code
def yX10_setFor : MethodName := ⟨RX10, "setFor", "(III)I"⟩
abbrev cX10_parts : ByteArray := prog_12_method_75_code
def yX10_parts : MethodName := ⟨RX10, "parts", "(III)I"⟩
abbrev cX10_few : ByteArray := prog_12_method_76_code
def yX10_few : MethodName := ⟨RX10, "few", "(III)I"⟩
abbrev cX10_knownFrom : ByteArray := prog_12_method_77_code
def yX10_knownFrom : MethodName := ⟨RX10, "knownFrom", "(III)I"⟩
abbrev cX10_watch : ByteArray := prog_12_method_78_code
def yX10_watch : MethodName := ⟨RX10, "watch", "(IIIII)V"⟩
abbrev cX10_soon : ByteArray := prog_12_method_79_code
def yX10_soon : MethodName := ⟨RX10, "soon", "(IIII)I"⟩
abbrev cX10_common : ByteArray := prog_12_method_80_code
def yX10_common : MethodName := ⟨RX10, "common", "(II)I"⟩
abbrev cX10_land : ByteArray := prog_12_method_81_code
def yX10_land : MethodName := ⟨RX10, "land", "(I)I"⟩
abbrev cX10_leafTells : ByteArray := prog_12_method_82_code
def yX10_leafTells : MethodName := ⟨RX10, "leafTells", "(II)I"⟩
abbrev cX10_newLeaf : ByteArray := prog_12_method_83_code
def yX10_newLeaf : MethodName := ⟨RX10, "newLeaf", "(IIIII)I"⟩
abbrev cX10_leaf : ByteArray := prog_12_method_84_code
def yX10_leaf : MethodName := ⟨RX10, "leaf", "(III)I"⟩
abbrev cX10_guessed : ByteArray := prog_12_method_85_code
def yX10_guessed : MethodName := ⟨RX10, "guessed", "(IIII)I"⟩
abbrev cX10_told : ByteArray := prog_12_method_86_code
def yX10_told : MethodName := ⟨RX10, "told", "(II)I"⟩
abbrev cX10_back : ByteArray := prog_12_method_87_code
def yX10_back : MethodName := ⟨RX10, "back", "(I)I"⟩
abbrev cX10_isLeafOf : ByteArray := prog_12_method_88_code
def yX10_isLeafOf : MethodName := ⟨RX10, "isLeafOf", "(III)Z"⟩
abbrev cX10_tryAs : ByteArray := prog_12_method_89_code
def yX10_tryAs : MethodName := ⟨RX10, "tryAs", "(II)V"⟩
abbrev cX10_leavesOf : ByteArray := prog_12_method_90_code
def yX10_leavesOf : MethodName := ⟨RX10, "leavesOf", "(II)I"⟩
abbrev cX10_hand : ByteArray := prog_12_method_91_code
def yX10_hand : MethodName := ⟨RX10, "hand", "(I)I"⟩
abbrev cX10_shareByLeaf : ByteArray := prog_12_method_92_code
def yX10_shareByLeaf : MethodName := ⟨RX10, "shareByLeaf", "(II)I"⟩
abbrev cX10_guesser : ByteArray := prog_12_method_93_code
def yX10_guesser : MethodName := ⟨RX10, "guesser", "(I)I"⟩
abbrev cX10_takes : ByteArray := prog_12_method_94_code
def yX10_takes : MethodName := ⟨RX10, "takes", "(II)I"⟩
abbrev cX10_machine : ByteArray := prog_12_method_95_code
def yX10_machine : MethodName := ⟨RX10, "machine", "(I)I"⟩
abbrev cX10_held : ByteArray := prog_12_method_96_code
def yX10_held : MethodName := ⟨RX10, "held", "()I"⟩
abbrev cX10_setSign : ByteArray := prog_12_method_97_code
def yX10_setSign : MethodName := ⟨RX10, "setSign", "(IIII)V"⟩
abbrev cX10_sign : ByteArray := prog_12_method_98_code
def yX10_sign : MethodName := ⟨RX10, "sign", "(IIIII)I"⟩
abbrev cX10_stranger : ByteArray := prog_12_method_99_code
def yX10_stranger : MethodName := ⟨RX10, "stranger", "(IIII)I"⟩
abbrev cX10_image : ByteArray := prog_12_method_100_code
def yX10_image : MethodName := ⟨RX10, "image", "(I)I"⟩
abbrev cX10_isPlayerBy : ByteArray := prog_12_method_101_code
def yX10_isPlayerBy : MethodName := ⟨RX10, "isPlayerBy", "(I)Z"⟩
abbrev cX10_on : ByteArray := prog_12_method_102_code
def yX10_on : MethodName := ⟨RX10, "on", "(I)I"⟩
abbrev cX10_asked : ByteArray := prog_12_method_103_code
def yX10_asked : MethodName := ⟨RX10, "asked", "()I"⟩
abbrev cX10_upper : ByteArray := prog_12_method_104_code
def yX10_upper : MethodName := ⟨RX10, "upper", "()J"⟩
abbrev cX10_lower : ByteArray := prog_12_method_105_code
def yX10_lower : MethodName := ⟨RX10, "lower", "()J"⟩
abbrev cX10_counts : ByteArray := prog_12_method_106_code
def yX10_counts : MethodName := ⟨RX10, "counts", "(I)I"⟩
abbrev cX10_count : ByteArray := prog_12_method_107_code
def yX10_count : MethodName := ⟨RX10, "count", "(I)I"⟩
abbrev cX10_finding : ByteArray := prog_12_method_108_code
def yX10_finding : MethodName := ⟨RX10, "finding", "()I"⟩
abbrev cX10_findings : ByteArray := prog_12_method_109_code
def yX10_findings : MethodName := ⟨RX10, "findings", "(I)I"⟩
abbrev cX10_mix : ByteArray := prog_12_method_110_code
def yX10_mix : MethodName := ⟨RX10, "mix", "(I)V"⟩
abbrev cX10_mixAll : ByteArray := prog_12_method_111_code
def yX10_mixAll : MethodName := ⟨RX10, "mixAll", "()V"⟩
abbrev cX10_digest : ByteArray := prog_12_method_112_code
def yX10_digest : MethodName := ⟨RX10, "digest", "()J"⟩
def RJ6 : String := "java/lang/Integer"
abbrev cJ6_bitCount_0f7a4 : ByteArray := prog_13_method_49_code
def yJ6_bitCount_0f7a4 : MethodName := ⟨RJ6, "bitCount", "(I)I"⟩
def RJ9 : String := "java/lang/Math"
abbrev cJ9_max_7cf53 : ByteArray := prog_14_method_65_code
def yJ9_max_7cf53 : MethodName := ⟨RJ9, "max", "(II)I"⟩
abbrev cJ9_min_7cf53 : ByteArray := prog_14_method_69_code
def yJ9_min_7cf53 : MethodName := ⟨RJ9, "min", "(II)I"⟩
def RJ10 : String := "java/lang/System"
def RL : String := "PadRoundLaw"
abbrev cL_law : ByteArray := code
def yL_law : MethodName := ⟨RL, "law", "([I)Z"⟩
abbrev vwCl : List vw_C := [(RX0, TX0, 5), (RX1, TX1, 2), (RX2, TX2, 2), (RX3, TX3, 6), (RX4, TX4, 6), (RX5, TX5, 8), (RX6, TX6, 4), (RX7, TX7, 2), (RX8, TX8, 6), (RX9, TX9, 13), (RX10, TX10, 39)]
end
section
/-! the cells of both objects, by their numbers from the first one made on: what each is -/
def zu {α : Type} (f : Nat → α) (i : Nat) (x : α) : Nat → α := fun j => if j = i then x else f j
abbrev zM : Type := (Nat → Nat → Int32) × (Nat → Nat → Int64) × (Nat → Nat → Nat)
abbrev zE : Type := Launch × Nat × (Nat → ClassId) × (Nat → Nat → Nat) × (Nat → ClassId)
abbrev zY : Type := MethodName × ByteArray × Nat × Option FieldType
def gi (σ : zM) (a j : Nat) : Int32 := σ.1 a j
def gl (σ : zM) (a j : Nat) : Int64 := σ.2.1 a j
def gr (σ : zM) (a j : Nat) : Nat := σ.2.2 a j
def si (σ : zM) (a j : Nat) (v : Int32) : zM := (zu σ.1 a (zu (σ.1 a) j v), σ.2.1, σ.2.2)
def sl (σ : zM) (a j : Nat) (v : Int64) : zM := (σ.1, zu σ.2.1 a (zu (σ.2.1 a) j v), σ.2.2)
def sr (σ : zM) (a j : Nat) (v : Nat) : zM := (σ.1, σ.2.1, zu σ.2.2 a (zu (σ.2.2 a) j v))
/-- a whole row of ints anew -/
def sf (σ : zM) (a : Nat) (f : Nat → Int32) : zM := (zu σ.1 a f, σ.2.1, σ.2.2)
theorem gi_si (σ : zM) (a j : Nat) (v : Int32) (x y : Nat) : gi (si σ a j v) x y = if x = a ∧ y = j then v else gi σ x y := by
  unfold gi si zu
  by_cases h : x = a
  · subst h
    by_cases h2 : y = j <;> simp [h2]
  · simp [h]
theorem gi_sl (σ : zM) (a j : Nat) (v : Int64) (x y : Nat) : gi (sl σ a j v) x y = gi σ x y := rfl
theorem gi_sr (σ : zM) (a j : Nat) (v : Nat) (x y : Nat) : gi (sr σ a j v) x y = gi σ x y := rfl
theorem gi_sf (σ : zM) (a : Nat) (f : Nat → Int32) (x y : Nat) : gi (sf σ a f) x y = if x = a then f y else gi σ x y := by
  unfold gi sf zu
  by_cases h : x = a <;> simp [h]
theorem gl_si (σ : zM) (a j : Nat) (v : Int32) (x y : Nat) : gl (si σ a j v) x y = gl σ x y := rfl
theorem gl_sl (σ : zM) (a j : Nat) (v : Int64) (x y : Nat) : gl (sl σ a j v) x y = if x = a ∧ y = j then v else gl σ x y := by
  unfold gl sl zu
  by_cases h : x = a
  · subst h
    by_cases h2 : y = j <;> simp [h2]
  · simp [h]
theorem gl_sr (σ : zM) (a j : Nat) (v : Nat) (x y : Nat) : gl (sr σ a j v) x y = gl σ x y := rfl
theorem gl_sf (σ : zM) (a : Nat) (f : Nat → Int32) (x y : Nat) : gl (sf σ a f) x y = gl σ x y := rfl
theorem gr_si (σ : zM) (a j : Nat) (v : Int32) (x y : Nat) : gr (si σ a j v) x y = gr σ x y := rfl
theorem gr_sl (σ : zM) (a j : Nat) (v : Int64) (x y : Nat) : gr (sl σ a j v) x y = gr σ x y := rfl
theorem gr_sf (σ : zM) (a : Nat) (f : Nat → Int32) (x y : Nat) : gr (sf σ a f) x y = gr σ x y := rfl
theorem gr_sr (σ : zM) (a j : Nat) (v : Nat) (x y : Nat) : gr (sr σ a j v) x y = if x = a ∧ y = j then v else gr σ x y := by
  unfold gr sr zu
  by_cases h : x = a
  · subst h
    by_cases h2 : y = j <;> simp [h2]
  · simp [h]
theorem zM_ext {σ τ : zM} (h1 : ∀ a j, gi σ a j = gi τ a j) (h2 : ∀ a j, gl σ a j = gl τ a j) (h3 : ∀ a j, gr σ a j = gr τ a j) : σ = τ := by
  obtain ⟨a, b, c⟩ := σ
  obtain ⟨a', b', c'⟩ := τ
  have e1 : a = a' := funext fun x => funext fun y => h1 x y
  have e2 : b = b' := funext fun x => funext fun y => h2 x y
  have e3 : c = c' := funext fun x => funext fun y => h3 x y
  rw [e1, e2, e3]
/-- kind and size of each cell: 0 .. 10 an object by its number in vwCl, 11 ints, 12 longs, 13 booleans, 14 Sheets, 15 Boxes, 16 Players, 17 Leaves -/
def zK : List (Nat × Nat) := [(9, 13), (14, 6), (14, 4), (15, 2), (16, 8), (17, 12), (0, 5), (11, 6), (2, 2), (11, 6), (6, 4), (11, 8), (11, 8), (5, 8), (11, 4096), (11, 8), (11, 8), (12, 8), (12, 8), (8, 6), (11, 6), (11, 6), (11, 6), (13, 64),
  (7, 2), (11, 40), (7, 2), (11, 40), (7, 2), (11, 40), (7, 2), (11, 40), (7, 2), (11, 40), (7, 2), (11, 40), (7, 2), (11, 120), (7, 2), (11, 120), (7, 2), (11, 120), (7, 2), (11, 120), (1, 2), (11, 80), (1, 2), (11, 80),
  (4, 6), (11, 8), (4, 6), (11, 8), (4, 6), (11, 8), (4, 6), (11, 8), (4, 6), (11, 8), (4, 6), (11, 8), (4, 6), (11, 8), (4, 6), (11, 8),
  (3, 6), (2, 2), (11, 6), (3, 6), (2, 2), (11, 6), (3, 6), (2, 2), (11, 6), (3, 6), (2, 2), (11, 6), (3, 6), (2, 2), (11, 6), (3, 6), (2, 2), (11, 6), (3, 6), (2, 2), (11, 6), (3, 6), (2, 2), (11, 6), (3, 6), (2, 2), (11, 6), (3, 6), (2, 2), (11, 6), (3, 6), (2, 2), (11, 6), (3, 6), (2, 2), (11, 6),
  (4, 6), (11, 8), (10, 39), (11, 6), (11, 6), (11, 240), (11, 40), (11, 4), (11, 480), (11, 3), (11, 240), (11, 36), (11, 6), (11, 6), (11, 8), (11, 8), (11, 8), (12, 8), (12, 8), (12, 8), (11, 8), (11, 8), (11, 6), (11, 6), (11, 144)]
def kd (k : Nat) : Nat × Nat := zK.getD k (99, 0)
def zr (E : zE) (a : Nat) : Value := .ref (E.2.1 + a)
/-- what an object holds -/
def zO (E : zE) (ci k : Nat) (f : Nat → Int32) (g : Nat → Int64) (r : Nat → Nat) : List Value := match ci with
  | 0 => [zr E (k + 1), .int (f 1), .int (f 2), .long (g 3), .long (g 4)]
  | 1 => [zr E (k + 1), .int (f 1)]
  | 2 => [zr E (k + 1), .int (f 1)]
  | 3 => [zr E (k + 1), .int (f 1), .int (f 2), .int (f 3), .int (f 4), .int (f 5)]
  | 4 => [zr E (k + 1), .int (f 1), .int (f 2), .int (f 3), .int (f 4), zr E (r 5)]
  | 5 => [zr E (k + 1), zr E (k + 2), zr E (k + 3), zr E (k + 4), zr E (k + 5), .int (f 5), .int (f 6), .long (g 7)]
  | 6 => [zr E (k + 1), zr E (k + 2), .int (f 2), .int (f 3)]
  | 7 => [zr E (k + 1), .int (f 1)]
  | 8 => [zr E (k + 1), zr E (k + 2), zr E (k + 3), zr E (k + 4), .int (f 4), .int (f 5)]
  | 9 => [zr E 1, zr E 2, zr E 3, zr E 4, zr E 5, zr E 6, zr E 8, zr E 10, zr E 13, zr E 19, zr E 100, .int (f 11), .int (f 12)]
  | 10 => [.int (f 0), zr E 103, .int (f 2), .long (g 3), .long (g 4), zr E 104, zr E 105, zr E 106, zr E 107, zr E 108, zr E 109, zr E 110, .int (f 12), .int (f 13), zr E 111, zr E 112, .int (f 16), zr E 113, .int (f 18), zr E 114, zr E 115, zr E 116, .int (f 22), zr E 117, zr E 118, zr E 119, .int (f 26), zr E 120, zr E 121, .long (g 29), .int (f 30), .int (f 31), zr E 122, zr E 123, .int (f 34), .int (f 35), zr E 124, .int (f 37), .long (g 38)]
  | _ => []
/-- what a row of objects holds -/
def zLa (k j : Nat) : Nat := match k with
  | 1 => 24 + 2 * j
  | 2 => 36 + 2 * j
  | 3 => 44 + 2 * j
  | 4 => 48 + 2 * j
  | _ => 64 + 3 * j
def zF (E : zE) (q : Nat × Nat) (k : Nat) (f : Nat → Int32) (g : Nat → Int64) (r : Nat → Nat) : va_E :=
  if q.1 ≤ 10 then .inr (q.1, zO E q.1 k f g r)
  else if q.1 = 11 then .inl (E.2.2.2.2 0, q.2, .inl f)
  else if q.1 = 12 then .inl (E.2.2.2.2 1, q.2, .inr (.inl g))
  else if q.1 = 13 then .inl (E.2.2.2.2 2, q.2, .inl f)
  else .inl (E.2.2.2.2 (q.1 - 11), q.2, .inr (.inr (.inr (.inr (fun j => some (E.2.1 + zLa k j))))))
def zC (E : zE) (σ : zM) (k : Nat) : va_E := zF E (kd k) k (σ.1 k) (σ.2.1 k) (σ.2.2 k)
def zW (E : zE) (σ : zM) : va_W := (List.range 125).map (fun k => (E.2.1 + k, zC E σ k))
def zD (E : zE) : va_G := (E.2.2.1, E.2.2.2.1)
def zT (E : zE) : List (ClassId × FieldType) := [(E.2.2.2.2 0, .int), (E.2.2.2.2 1, .long), (E.2.2.2.2 2, .boolean), (E.2.2.2.2 3, .object "PadRound$Sheet"), (E.2.2.2.2 4, .object "PadRound$Box"), (E.2.2.2.2 5, .object "PadRound$Player"), (E.2.2.2.2 6, .object "PadRound$Leaf")]
def zA (E : zE) : Nat → Prop := fun q => E.2.1 ≤ q
theorem kd_lt {k : Nat} (h : (kd k).1 ≠ 99) : k < 125 := by
  rcases Nat.lt_or_ge k 125 with q | q
  · exact q
  · refine absurd ?_ h
    unfold kd
    rw [List.getD_eq_getElem?_getD, List.getElem?_eq_none (by exact q)]
    rfl
theorem zW_get (E : zE) (σ : zM) {k : Nat} (h : k < 125) : (zW E σ)[k]? = some (E.2.1 + k, zC E σ k) := by
  unfold zW
  rw [List.getElem?_map, List.getElem?_range h]
  rfl
theorem zW_at {E : zE} {σ : zM} {i : Nat} {q : Nat × va_E} (h : (zW E σ)[i]? = some q) : i < 125 ∧ q = (E.2.1 + i, zC E σ i) := by
  have hl : i < 125 := by
    have := (List.getElem?_eq_some_iff.mp h).1
    simpa [zW] using this
  rw [zW_get E σ hl] at h
  exact ⟨hl, (Option.some.inj h).symm⟩
theorem zW_D (E : zE) (σ : zM) : va_D (zA E) (zW E σ) := by
  refine ⟨fun i j p q hi hj hpq => ?_, fun k q hk => ?_⟩
  · obtain ⟨-, rfl⟩ := zW_at hi
    obtain ⟨-, rfl⟩ := zW_at hj
    simp at hpq
    omega
  · obtain ⟨-, rfl⟩ := zW_at hk
    exact Nat.le_add_right _ _
/-- one cell anew -/
theorem zW_set (E : zE) {σ τ : zM} {k : Nat} {c : va_E} (hk : k < 125) (h : ∀ x, x ≠ k → σ.1 x = τ.1 x ∧ σ.2.1 x = τ.2.1 x ∧ σ.2.2 x = τ.2.2 x) (hc : zC E τ k = c) : (zW E σ).set k (E.2.1 + k, c) = zW E τ := by
  apply List.ext_getElem?
  intro i
  rw [List.getElem?_set]
  by_cases hi : k = i
  · subst hi
    rw [if_pos rfl, if_pos (by simpa [zW] using hk), zW_get E τ hk, hc]
  · rw [if_neg hi]
    rcases Nat.lt_or_ge i 125 with q | q
    · rw [zW_get E σ q, zW_get E τ q]
      obtain ⟨e1, e2, e3⟩ := h i (fun e => hi e.symm)
      unfold zC
      rw [e1, e2, e3]
    · rw [List.getElem?_eq_none (by simpa [zW] using q), List.getElem?_eq_none (by simpa [zW] using q)]
theorem zC_obj {E : zE} {σ : zM} {a ci : Nat} (h : (kd a).1 = ci) (hc : ci ≤ 10) : zC E σ a = .inr (ci, zO E ci a (σ.1 a) (σ.2.1 a) (σ.2.2 a)) := by
  unfold zC zF
  rw [if_pos (by rw [h]; exact hc), h]
theorem zC_int {E : zE} {σ : zM} {a n : Nat} (h : kd a = (11, n)) : zC E σ a = .inl (E.2.2.2.2 0, n, .inl (σ.1 a)) := by
  unfold zC zF
  rw [h]
  rfl
theorem zC_long {E : zE} {σ : zM} {a n : Nat} (h : kd a = (12, n)) : zC E σ a = .inl (E.2.2.2.2 1, n, .inr (.inl (σ.2.1 a))) := by
  unfold zC zF
  rw [h]
  rfl
theorem zC_bool {E : zE} {σ : zM} {a n : Nat} (h : kd a = (13, n)) : zC E σ a = .inl (E.2.2.2.2 2, n, .inl (σ.1 a)) := by
  unfold zC zF
  rw [h]
  rfl
theorem zC_ref {E : zE} {σ : zM} {a n t : Nat} (h : kd a = (t + 14, n)) : zC E σ a = .inl (E.2.2.2.2 (t + 3), n, .inr (.inr (.inr (.inr (fun j => some (E.2.1 + zLa a j)))))) := by
  unfold zC zF
  rw [h]
  simp
end
section
/-! a method's walk over the cells: At, and what it ends with: Ret -/
def zas : Nat → List (Option Value) → List (Nat × Value)
  | _, [] => []
  | k, none :: t => zas (k + 1) t
  | k, some v :: t => (k, v) :: zas (k + 1) t
theorem zas_mem {i : Nat} {v : Value} : ∀ {ls : List (Option Value)} {k : Nat}, (i, v) ∈ zas k ls ↔ k ≤ i ∧ ls[i - k]? = some (some v) := by
  intro ls
  induction ls with
  | nil => intro k; simp [zas]
  | cons a t ih =>
    intro k
    have key : (k + 1 ≤ i ∧ t[i - (k + 1)]? = some (some v)) ↔ (k < i ∧ (a :: t)[i - k]? = some (some v)) := by
      constructor
      · rintro ⟨h1, h2⟩
        refine ⟨h1, ?_⟩
        rw [show i - k = (i - (k + 1)) + 1 by omega, List.getElem?_cons_succ]
        exact h2
      · rintro ⟨h1, h2⟩
        refine ⟨h1, ?_⟩
        rw [show i - k = (i - (k + 1)) + 1 by omega, List.getElem?_cons_succ] at h2
        exact h2
    have base : ∀ {P : Prop}, (k ≤ i ∧ P) ↔ ((k = i ∧ P) ∨ (k < i ∧ P)) := by
      intro P
      constructor
      · rintro ⟨h1, h2⟩
        rcases Nat.lt_or_ge k i with q | q
        · exact Or.inr ⟨q, h2⟩
        · exact Or.inl ⟨by omega, h2⟩
      · rintro (⟨h1, h2⟩ | ⟨h1, h2⟩)
        · exact ⟨by omega, h2⟩
        · exact ⟨by omega, h2⟩
    rw [base, ← key]
    cases a with
    | none =>
      show (i, v) ∈ zas (k + 1) t ↔ _
      rw [ih]
      constructor
      · intro h; exact Or.inr h
      · rintro (⟨rfl, h2⟩ | h)
        · simp at h2
        · exact h
    | some w =>
      show (i, v) ∈ (k, w) :: zas (k + 1) t ↔ _
      rw [List.mem_cons, ih]
      constructor
      · rintro (h | h)
        · cases h
          exact Or.inl ⟨rfl, by simp⟩
        · exact Or.inr h
      · rintro (⟨rfl, h2⟩ | h)
        · simp at h2
          exact Or.inl (by rw [h2])
        · exact Or.inr h
theorem zas_at {la : Array Slot} {n : Nat} {ls : List (Option Value)} (h : lv_has la n (zas 0 ls)) {i : Nat} {v : Value} (hi : ls[i]? = some (some v)) : la[i]? = some (.val v) := h.2.2 (i, v) (zas_mem.mpr ⟨Nat.zero_le i, hi⟩)
theorem zas_sub {la : Array Slot} {n : Nat} {l : List (Nat × Value)} (h : lv_has la n l) {ls : List (Option Value)} (hs : ∀ (i : Nat) (v : Value), ls[i]? = some (some v) → (i, v) ∈ l) : lv_has la n (zas 0 ls) := by
  refine ⟨h.1, h.2.1, ?_⟩
  rintro ⟨i, v⟩ hq
  exact h.2.2 _ (hs i v (zas_mem.mp hq).2)
/-- the place before isn't the first half of a long -/
def zck (ls : List (Option Value)) (i : Nat) : Bool := match i with
  | 0 => true
  | j + 1 => match ls[j]? with
    | some (some (.long _)) => false
    | some (some (.double _)) => false
    | _ => true
theorem zck_cat {ls : List (Option Value)} {j : Nat} {w : Value} (h : zck ls (j + 1) = true) (hw : ls[j]? = some (some w)) : ¬ w.category = 2 := by
  unfold zck at h
  simp only [hw] at h
  cases w <;> simp_all [Value.category]
theorem zas_set1 {la : Array Slot} {n i : Nat} {v : Value} {ls : List (Option Value)} (h : lv_has la n ((i, v) :: (zas 0 ls).filter (fun q => !(q.1 == i) && !(q.1 + 1 == i && q.2.category == 2)))) (hc : zck ls i = true) : lv_has la n (zas 0 (ls.set i (some v))) := by
  refine zas_sub h fun j w hj => ?_
  rw [List.getElem?_set] at hj
  by_cases hij : i = j
  · subst hij
    rw [if_pos rfl] at hj
    by_cases hl : i < ls.length
    · rw [if_pos hl] at hj
      cases hj
      exact List.mem_cons_self
    · rw [if_neg hl] at hj
      cases hj
  · rw [if_neg hij] at hj
    refine List.mem_cons_of_mem _ (List.mem_filter.mpr ⟨zas_mem.mpr ⟨Nat.zero_le j, hj⟩, ?_⟩)
    have h1 : (j == i) = false := by simp; omega
    have h2 : (j + 1 == i && w.category == 2) = false := by
      by_cases hq : j + 1 = i
      · subst hq
        have := zck_cat hc hj
        simp [this]
      · simp [hq]
    simp [h1, h2]
theorem zas_set2 {la : Array Slot} {n i : Nat} {v : Value} {ls : List (Option Value)} (h : lv_has la n ((i, v) :: (zas 0 ls).filter (fun q => !(q.1 == i) && (!(q.1 == i + 1) && !(q.1 + 1 == i && q.2.category == 2))))) (hc : zck ls i = true) : lv_has la n (zas 0 ((ls.set i (some v)).set (i + 1) none)) := by
  refine zas_sub h fun j w hj => ?_
  rw [List.getElem?_set] at hj
  by_cases hij1 : i + 1 = j
  · subst hij1
    rw [if_pos rfl] at hj
    split at hj <;> cases hj
  · rw [if_neg hij1, List.getElem?_set] at hj
    by_cases hij : i = j
    · subst hij
      rw [if_pos rfl] at hj
      split at hj
      · cases hj
        exact List.mem_cons_self
      · cases hj
    · rw [if_neg hij] at hj
      refine List.mem_cons_of_mem _ (List.mem_filter.mpr ⟨zas_mem.mpr ⟨Nat.zero_le j, hj⟩, ?_⟩)
      have h1 : (j == i) = false := by simp; omega
      have h3 : (j == i + 1) = false := by simp; omega
      have h2 : (j + 1 == i && w.category == 2) = false := by
        by_cases hq : j + 1 = i
        · subst hq
          have := zck_cat hc hj
          simp [this]
        · simp [hq]
      simp [h1, h2, h3]
/-- fewer locals -/
def zle : List (Option Value) → List (Option Value) → Prop
  | [], _ => True
  | none :: t, [] => zle t []
  | none :: t, _ :: t' => zle t t'
  | some _ :: _, [] => False
  | some v :: t, b :: t' => b = some v ∧ zle t t'
theorem zle_at : ∀ {ls ls' : List (Option Value)}, zle ls' ls → ∀ {i : Nat} {v : Value}, ls'[i]? = some (some v) → ls[i]? = some (some v) := by
  intro ls ls'
  induction ls' generalizing ls with
  | nil => intro _ i v h; simp at h
  | cons a t ih =>
    intro h i v hv
    cases a with
    | none =>
      cases i with
      | zero => simp at hv
      | succ i =>
        rw [List.getElem?_cons_succ] at hv
        cases ls with
        | nil => exact absurd (ih (ls := []) h hv) (by simp)
        | cons b t' =>
          rw [List.getElem?_cons_succ]
          exact ih h hv
    | some w =>
      cases ls with
      | nil => exact absurd h (by simp [zle])
      | cons b t' =>
        obtain ⟨h1, h2⟩ := h
        cases i with
        | zero => simp at hv ⊢; rw [h1, hv]
        | succ i =>
          rw [List.getElem?_cons_succ] at hv ⊢
          exact ih h2 hv
/-- the words stay -/
def zgw (w : Cond) : Bool := match w with
  | .fieldLinkNest _ _ _ _ _ _ => true
  | .methodLinkNest _ _ _ _ => true
  | w => goodWord w
def zTb : List Cond := lw_tbl.filter zgw
theorem zin (i : Nat) {w : Cond} (h : tables_1[i]? = some w) (hg : zgw w = true) : w ∈ zTb := List.mem_filter.mpr ⟨List.mem_append_right _ (List.mem_of_getElem? h), hg⟩
theorem zin2 (i : Nat) {w : Cond} (h : (k2_sels lw_privs)[i]? = some w) (hg : zgw w = true) : w ∈ zTb := List.mem_filter.mpr ⟨List.mem_append_left _ (List.mem_of_getElem? h), hg⟩
def zX (E : zE) (M : zY) (p : Program) (s : State) (m : MethodId) (args : Array Value) (meth : Method) (c : Code) : Prop :=
  p.tables.exec = Jvm.exec ∧ c.code = M.2.1 ∧ c.maxLocals = M.2.2.1 ∧ meth.sig.returnType = M.2.2.2 ∧ meth.locks = false ∧ s.vm.findClass M.1.cls = some m.cls ∧ (∀ w ∈ zTb, w.before args s = true) ∧ va_K (zD E) vwCl (zT E) s
def zRm (d : Nat) : Room := { frames := d + 1, cells := 0, slots := 0, locals := 64 * (d + 1) }
def zQ (E : zE) (Q : Option Value → zM → Prop) : Array Value → State → Outcome → State → Prop := fun _ st oc t => (∃ (v : Option Value) (σ : zM), oc = .returned v ∧ Q v σ ∧ va_P (zD E) vwCl (zW E σ) t.heap ∧ va_K (zD E) vwCl (zT E) t) ∧ va_F (zA E) st t
def zP (E : zE) (av : List Value) (σ : zM) : Array Value → State → Prop := va_Pc av (fun U => va_P (zD E) vwCl (zW E σ) U.heap ∧ va_K (zD E) vwCl (zT E) U)
def zws (M : zY) : List Cond := Cond.code M.1 M.2.1 M.2.2.1 M.2.2.2 :: zTb
def At (E : zE) (M : zY) (d : Nat) (Q : Option Value → zM → Prop) (pc : Nat) (ls : List (Option Value)) (st : List Value) (σ : zM) : Prop :=
  ∀ (p : Program) (e : Env) (s : State) (m : MethodId) (args : Array Value) (below : List Frame) (meth : Method) (c : Code) (H : Heap) (locs : List Loc) (la : Array Slot), zX E M p s m args meth c → va_P (zD E) vwCl (zW E σ) H → va_S (zA E) s.heap H locs → lv_has la M.2.2.1 (zas 0 ls) →
    W p E.1 e (zRm d) s m args below meth c H locs 0 0 (MQ below (zQ E Q) args s 0 0 (zA E)) (F0 m pc la st)
def Ret (E : zE) (M : zY) (d : Nat) (av : List Value) (σ : zM) (Q : Option Value → zM → Prop) : Prop := Met E.1 M.1 (zws M) (zRm d) (zP E av σ) (zQ E Q) 0 0 (zA E)
theorem z_pay {s : State} {args : Array Value} (hts : ∀ w ∈ zTb, w.before args s = true) : ∀ w ∈ zTb, ∀ (a' : Array Value) (U : State), s.WarmedH U.vm → w.before a' U = true := by
  intro w hw a' U hW
  have hg : zgw w = true := (List.mem_filter.mp hw).2
  have hb := hts w hw
  have gen : goodWord w = true → w.before a' U = true := fun h => word_at hW (good_of_word h) hb
  cases w with
  | fieldLinkNest a i b n d h => exact va_Nw.use rfl (va_Nw.warmF hW (va_Nw.of rfl hb))
  | methodLinkNest a i x h => exact va_Nw.use rfl (va_Nw.warmM hW (va_Nw.of rfl hb))
  | _ => exact gen hg
theorem z_blind (E : zE) (av : List Value) (σ : zM) : FrameBlind (zP E av σ) := by
  intro a U g mk q
  obtain ⟨q0, qP, qK⟩ := q
  exact ⟨q0, qP, va_K.moved (u := U) (U := U.calling g mk a) (Vm.Alike.refl U.vm) qK⟩
/-- from the entry -/
theorem Ret.of {E : zE} {M : zY} {d : Nat} {av : List Value} {σ : zM} {Q : Option Value → zM → Prop} (ls : List (Option Value)) (hy : plainName M.1.cls = true) (hn : (lg_sl av).length ≤ M.2.2.1) (hs : zas 0 ls = lv_args 0 av) (h : At E M d Q 0 ls [] σ) : Ret E M d av σ Q := by
  refine Met.ofW (cc := M.2.1) (maxL := M.2.2.1) (ret := M.2.2.2) (ws' := zTb) hy rfl ?_
  intro p e s m args below meth c s₁ B hml hv
  obtain ⟨rfl, hP, hK⟩ := hv
  have hts := atoms_spec (ws := zws M) B.pre
  have hl := lv_entry av (n := M.2.2.1) hn
  rw [lg_entry_eq]
  exact h p e s m _ below meth c s.heap [] _ ⟨B.exec, B.bytes, hml, B.returns, B.notSynchronized, findClass_of_methodNamed B.named, fun w hw => hts w (List.mem_cons_of_mem _ hw), hK⟩ hP va_S.rf (by rw [hs]; exact hl)
theorem Ret.imp {E : zE} {M : zY} {d : Nat} {av : List Value} {σ : zM} {Q Q' : Option Value → zM → Prop} (h : Ret E M d av σ Q) (hq : ∀ v τ, Q v τ → Q' v τ) : Ret E M d av σ Q' := by
  intro p e ha hc hk s m args below hf hs hP hT
  obtain ⟨t, o, a1, b1, b2, b3, b4⟩ := h p e ha hc hk s m args below hf hs hP hT
  obtain ⟨⟨v, τ, h1, h2, h3⟩, h4⟩ := b3
  exact ⟨t, o, a1, b1, b2, ⟨⟨v, τ, h1, hq v τ h2, h3⟩, h4⟩, b4⟩
section Rows
variable {E : zE} {M : zY} {d : Nat} {Q : Option Value → zM → Prop} {pc : Nat} {ls : List (Option Value)} {st : List Value} {σ : zM}
theorem z_sub (ls' : List (Option Value)) (h : zle ls' ls) (k : At E M d Q pc ls' st σ) : At E M d Q pc ls st σ := fun p e s m args below meth c H locs la hX hP hS hl =>
  k p e s m args below meth c H locs la hX hP hS (zas_sub hl fun i v hv => zas_mem.mpr ⟨Nat.zero_le i, zle_at h hv⟩)
theorem z_iconst (pc' : Nat) {n : Int} {v : Int32} (hd : decode M.2.1 pc = .ok (.iconst n, 1)) (hp : pc + 1 = pc') (hv : Int32.ofInt n = v) (k : At E M d Q pc' ls (.int v :: st) σ) : At E M d Q pc ls (st) σ := by
  subst hp
  exact fun p e s m args below meth c H locs la hX hP hS hl => lv_iconst hX.1 hX.2.1 hd hv (k p e s m args below meth c H locs la hX hP hS hl)
theorem z_bipush (pc' : Nat) {n : Int} {v : Int32} (hd : decode M.2.1 pc = .ok (.bipush n, 2)) (hp : pc + 2 = pc') (hv : (Int8.ofInt n).toInt32 = v) (k : At E M d Q pc' ls (.int v :: st) σ) : At E M d Q pc ls (st) σ := by
  subst hp
  exact fun p e s m args below meth c H locs la hX hP hS hl => lv_bipush hX.1 hX.2.1 hd hv (k p e s m args below meth c H locs la hX hP hS hl)
theorem z_sipush (pc' : Nat) {n : Int} {v : Int32} (hd : decode M.2.1 pc = .ok (.sipush n, 3)) (hp : pc + 3 = pc') (hv : (Int16.ofInt n).toInt32 = v) (k : At E M d Q pc' ls (.int v :: st) σ) : At E M d Q pc ls (st) σ := by
  subst hp
  exact fun p e s m args below meth c H locs la hX hP hS hl => lv_sipush hX.1 hX.2.1 hd hv (k p e s m args below meth c H locs la hX hP hS hl)
theorem z_lconst (pc' : Nat) {n : Fin 2} {v : Int64} (hd : decode M.2.1 pc = .ok (.lconst n, 1)) (hp : pc + 1 = pc') (hv : Int64.ofNat (n : Nat) = v) (k : At E M d Q pc' ls (.long v :: st) σ) : At E M d Q pc ls (st) σ := by
  subst hp
  exact fun p e s m args below meth c H locs la hX hP hS hl => lv_lconst hX.1 hX.2.1 hd hv (k p e s m args below meth c H locs la hX hP hS hl)
theorem z_null (pc' : Nat) (hd : decode M.2.1 pc = .ok (.aconst_null, 1)) (hp : pc + 1 = pc') (k : At E M d Q pc' ls (.null :: st) σ) : At E M d Q pc ls (st) σ := by
  subst hp
  exact fun p e s m args below meth c H locs la hX hP hS hl => lv_null hX.1 hX.2.1 hd (k p e s m args below meth c H locs la hX hP hS hl)
theorem z_iload (pc' : Nat) {i : Nat} {x : Int32} (hd : decode M.2.1 pc = .ok (.iload i, 2)) (hp : pc + 2 = pc') (hi : ls[i]? = some (some (.int x))) (k : At E M d Q pc' ls (.int x :: st) σ) : At E M d Q pc ls (st) σ := by
  subst hp
  exact fun p e s m args below meth c H locs la hX hP hS hl => lv_iload hX.1 hX.2.1 hd (zas_at hl hi) (k p e s m args below meth c H locs la hX hP hS hl)
theorem z_lload (pc' : Nat) {i : Nat} {x : Int64} (hd : decode M.2.1 pc = .ok (.lload i, 2)) (hp : pc + 2 = pc') (hi : ls[i]? = some (some (.long x))) (k : At E M d Q pc' ls (.long x :: st) σ) : At E M d Q pc ls (st) σ := by
  subst hp
  exact fun p e s m args below meth c H locs la hX hP hS hl => lv_lload hX.1 hX.2.1 hd (zas_at hl hi) (k p e s m args below meth c H locs la hX hP hS hl)
theorem z_iload_n (pc' : Nat) {n : Fin 4} {x : Int32} (hd : decode M.2.1 pc = .ok (.iload_n n, 1)) (hp : pc + 1 = pc') (hi : ls[(n : Nat)]? = some (some (.int x))) (k : At E M d Q pc' ls (.int x :: st) σ) : At E M d Q pc ls (st) σ := by
  subst hp
  exact fun p e s m args below meth c H locs la hX hP hS hl => lv_iload_n hX.1 hX.2.1 hd rfl (zas_at hl hi) (k p e s m args below meth c H locs la hX hP hS hl)
theorem z_lload_n (pc' : Nat) {n : Fin 4} {x : Int64} (hd : decode M.2.1 pc = .ok (.lload_n n, 1)) (hp : pc + 1 = pc') (hi : ls[(n : Nat)]? = some (some (.long x))) (k : At E M d Q pc' ls (.long x :: st) σ) : At E M d Q pc ls (st) σ := by
  subst hp
  exact fun p e s m args below meth c H locs la hX hP hS hl => lv_lload_n hX.1 hX.2.1 hd rfl (zas_at hl hi) (k p e s m args below meth c H locs la hX hP hS hl)
theorem z_aload (pc' : Nat) {i : Nat} {x : Nat} (hd : decode M.2.1 pc = .ok (.aload i, 2)) (hp : pc + 2 = pc') (hi : ls[i]? = some (some (zr E x))) (k : At E M d Q pc' ls (zr E x :: st) σ) : At E M d Q pc ls (st) σ := by
  subst hp
  exact fun p e s m args below meth c H locs la hX hP hS hl => lv_aload hX.1 hX.2.1 hd (zas_at hl hi) (k p e s m args below meth c H locs la hX hP hS hl)
theorem z_aload_n (pc' : Nat) {n : Fin 4} {x : Nat} (hd : decode M.2.1 pc = .ok (.aload_n n, 1)) (hp : pc + 1 = pc') (hi : ls[(n : Nat)]? = some (some (zr E x))) (k : At E M d Q pc' ls (zr E x :: st) σ) : At E M d Q pc ls (st) σ := by
  subst hp
  exact fun p e s m args below meth c H locs la hX hP hS hl => lv_aload_n hX.1 hX.2.1 hd rfl (zas_at hl hi) (k p e s m args below meth c H locs la hX hP hS hl)
theorem z_aloadN (pc' : Nat) {i : Nat} (hd : decode M.2.1 pc = .ok (.aload i, 2)) (hp : pc + 2 = pc') (hi : ls[i]? = some (some .null)) (k : At E M d Q pc' ls (.null :: st) σ) : At E M d Q pc ls (st) σ := by
  subst hp
  exact fun p e s m args below meth c H locs la hX hP hS hl => lv_aloadN hX.1 hX.2.1 hd (zas_at hl hi) (k p e s m args below meth c H locs la hX hP hS hl)
theorem z_aload_nN (pc' : Nat) {n : Fin 4} (hd : decode M.2.1 pc = .ok (.aload_n n, 1)) (hp : pc + 1 = pc') (hi : ls[(n : Nat)]? = some (some .null)) (k : At E M d Q pc' ls (.null :: st) σ) : At E M d Q pc ls (st) σ := by
  subst hp
  exact fun p e s m args below meth c H locs la hX hP hS hl => lv_aload_nN hX.1 hX.2.1 hd rfl (zas_at hl hi) (k p e s m args below meth c H locs la hX hP hS hl)
theorem z_iadd (pc' : Nat) {x y : Int32} (hd : decode M.2.1 pc = .ok (.iadd, 1)) (hp : pc + 1 = pc') (k : At E M d Q pc' ls (.int (x + y) :: st) σ) : At E M d Q pc ls (.int y :: .int x :: st) σ := by
  subst hp
  exact fun p e s m args below meth c H locs la hX hP hS hl => lv_iadd hX.1 hX.2.1 hd (k p e s m args below meth c H locs la hX hP hS hl)
theorem z_isub (pc' : Nat) {x y : Int32} (hd : decode M.2.1 pc = .ok (.isub, 1)) (hp : pc + 1 = pc') (k : At E M d Q pc' ls (.int (x - y) :: st) σ) : At E M d Q pc ls (.int y :: .int x :: st) σ := by
  subst hp
  exact fun p e s m args below meth c H locs la hX hP hS hl => lv_isub hX.1 hX.2.1 hd (k p e s m args below meth c H locs la hX hP hS hl)
theorem z_imul (pc' : Nat) {x y : Int32} (hd : decode M.2.1 pc = .ok (.imul, 1)) (hp : pc + 1 = pc') (k : At E M d Q pc' ls (.int (x * y) :: st) σ) : At E M d Q pc ls (.int y :: .int x :: st) σ := by
  subst hp
  exact fun p e s m args below meth c H locs la hX hP hS hl => lv_imul hX.1 hX.2.1 hd (k p e s m args below meth c H locs la hX hP hS hl)
theorem z_iand (pc' : Nat) {x y : Int32} (hd : decode M.2.1 pc = .ok (.iand, 1)) (hp : pc + 1 = pc') (k : At E M d Q pc' ls (.int (x &&& y) :: st) σ) : At E M d Q pc ls (.int y :: .int x :: st) σ := by
  subst hp
  exact fun p e s m args below meth c H locs la hX hP hS hl => lv_iand hX.1 hX.2.1 hd (k p e s m args below meth c H locs la hX hP hS hl)
theorem z_ior (pc' : Nat) {x y : Int32} (hd : decode M.2.1 pc = .ok (.ior, 1)) (hp : pc + 1 = pc') (k : At E M d Q pc' ls (.int (x ||| y) :: st) σ) : At E M d Q pc ls (.int y :: .int x :: st) σ := by
  subst hp
  exact fun p e s m args below meth c H locs la hX hP hS hl => lv_ior hX.1 hX.2.1 hd (k p e s m args below meth c H locs la hX hP hS hl)
theorem z_ixor (pc' : Nat) {x y : Int32} (hd : decode M.2.1 pc = .ok (.ixor, 1)) (hp : pc + 1 = pc') (k : At E M d Q pc' ls (.int (x ^^^ y) :: st) σ) : At E M d Q pc ls (.int y :: .int x :: st) σ := by
  subst hp
  exact fun p e s m args below meth c H locs la hX hP hS hl => lv_ixor hX.1 hX.2.1 hd (k p e s m args below meth c H locs la hX hP hS hl)
theorem z_ishl (pc' : Nat) {x y : Int32} (hd : decode M.2.1 pc = .ok (.ishl, 1)) (hp : pc + 1 = pc') (k : At E M d Q pc' ls (.int (x <<< (y &&& 31)) :: st) σ) : At E M d Q pc ls (.int y :: .int x :: st) σ := by
  subst hp
  exact fun p e s m args below meth c H locs la hX hP hS hl => lv_ishl hX.1 hX.2.1 hd (k p e s m args below meth c H locs la hX hP hS hl)
theorem z_ishr (pc' : Nat) {x y : Int32} (hd : decode M.2.1 pc = .ok (.ishr, 1)) (hp : pc + 1 = pc') (k : At E M d Q pc' ls (.int (x >>> (y &&& 31)) :: st) σ) : At E M d Q pc ls (.int y :: .int x :: st) σ := by
  subst hp
  exact fun p e s m args below meth c H locs la hX hP hS hl => lv_ishr hX.1 hX.2.1 hd (k p e s m args below meth c H locs la hX hP hS hl)
theorem z_idiv (pc' : Nat) {x y : Int32} (hd : decode M.2.1 pc = .ok (.idiv, 1)) (hp : pc + 1 = pc') (hne : ¬ y = 0) (k : At E M d Q pc' ls (.int (x / y) :: st) σ) : At E M d Q pc ls (.int y :: .int x :: st) σ := by
  subst hp
  exact fun p e s m args below meth c H locs la hX hP hS hl => lv_idiv hX.1 hX.2.1 hd hne (k p e s m args below meth c H locs la hX hP hS hl)
theorem z_irem (pc' : Nat) {x y : Int32} (hd : decode M.2.1 pc = .ok (.irem, 1)) (hp : pc + 1 = pc') (hne : ¬ y = 0) (k : At E M d Q pc' ls (.int (x - x / y * y) :: st) σ) : At E M d Q pc ls (.int y :: .int x :: st) σ := by
  subst hp
  exact fun p e s m args below meth c H locs la hX hP hS hl => lv_irem hX.1 hX.2.1 hd hne (k p e s m args below meth c H locs la hX hP hS hl)
theorem z_ladd (pc' : Nat) {x y : Int64} (hd : decode M.2.1 pc = .ok (.ladd, 1)) (hp : pc + 1 = pc') (k : At E M d Q pc' ls (.long (x + y) :: st) σ) : At E M d Q pc ls (.long y :: .long x :: st) σ := by
  subst hp
  exact fun p e s m args below meth c H locs la hX hP hS hl => lv_ladd hX.1 hX.2.1 hd (k p e s m args below meth c H locs la hX hP hS hl)
theorem z_lsub (pc' : Nat) {x y : Int64} (hd : decode M.2.1 pc = .ok (.lsub, 1)) (hp : pc + 1 = pc') (k : At E M d Q pc' ls (.long (x - y) :: st) σ) : At E M d Q pc ls (.long y :: .long x :: st) σ := by
  subst hp
  exact fun p e s m args below meth c H locs la hX hP hS hl => lv_lsub hX.1 hX.2.1 hd (k p e s m args below meth c H locs la hX hP hS hl)
theorem z_lmul (pc' : Nat) {x y : Int64} (hd : decode M.2.1 pc = .ok (.lmul, 1)) (hp : pc + 1 = pc') (k : At E M d Q pc' ls (.long (x * y) :: st) σ) : At E M d Q pc ls (.long y :: .long x :: st) σ := by
  subst hp
  exact fun p e s m args below meth c H locs la hX hP hS hl => lv_lmul hX.1 hX.2.1 hd (k p e s m args below meth c H locs la hX hP hS hl)
theorem z_ldiv (pc' : Nat) {x y : Int64} (hd : decode M.2.1 pc = .ok (.ldiv, 1)) (hp : pc + 1 = pc') (hne : ¬ y = 0) (k : At E M d Q pc' ls (.long (x / y) :: st) σ) : At E M d Q pc ls (.long y :: .long x :: st) σ := by
  subst hp
  exact fun p e s m args below meth c H locs la hX hP hS hl => lv_ldiv hX.1 hX.2.1 hd hne (k p e s m args below meth c H locs la hX hP hS hl)
theorem z_lrem (pc' : Nat) {x y : Int64} (hd : decode M.2.1 pc = .ok (.lrem, 1)) (hp : pc + 1 = pc') (hne : ¬ y = 0) (k : At E M d Q pc' ls (.long (x - x / y * y) :: st) σ) : At E M d Q pc ls (.long y :: .long x :: st) σ := by
  subst hp
  exact fun p e s m args below meth c H locs la hX hP hS hl => lv_lrem hX.1 hX.2.1 hd hne (k p e s m args below meth c H locs la hX hP hS hl)
theorem z_lcmp (pc' : Nat) {x y : Int64} (hd : decode M.2.1 pc = .ok (.lcmp, 1)) (hp : pc + 1 = pc') (k : At E M d Q pc' ls (.int (lg_cmp x y) :: st) σ) : At E M d Q pc ls (.long y :: .long x :: st) σ := by
  subst hp
  exact fun p e s m args below meth c H locs la hX hP hS hl => W.lcmp hX.1 hX.2.1 hd (k p e s m args below meth c H locs la hX hP hS hl)
theorem z_iushr (pc' : Nat) {x y : Int32} (hd : decode M.2.1 pc = .ok (.iushr, 1)) (hp : pc + 1 = pc') (k : At E M d Q pc' ls (.int ((x.toUInt32 >>> (y.toUInt32 &&& Int32.toUInt32 31)).toInt32) :: st) σ) : At E M d Q pc ls (.int y :: .int x :: st) σ := by
  subst hp
  exact fun p e s m args below meth c H locs la hX hP hS hl => lv_iushr hX.1 hX.2.1 hd rfl (k p e s m args below meth c H locs la hX hP hS hl)
theorem z_i2l (pc' : Nat) {x : Int32} (hd : decode M.2.1 pc = .ok (.i2l, 1)) (hp : pc + 1 = pc') (k : At E M d Q pc' ls (.long x.toInt64 :: st) σ) : At E M d Q pc ls (.int x :: st) σ := by
  subst hp
  exact fun p e s m args below meth c H locs la hX hP hS hl => lv_i2l hX.1 hX.2.1 hd rfl (k p e s m args below meth c H locs la hX hP hS hl)
theorem z_l2i (pc' : Nat) {x : Int64} (hd : decode M.2.1 pc = .ok (.l2i, 1)) (hp : pc + 1 = pc') (k : At E M d Q pc' ls (.int x.toInt32 :: st) σ) : At E M d Q pc ls (.long x :: st) σ := by
  subst hp
  exact fun p e s m args below meth c H locs la hX hP hS hl => lv_l2i hX.1 hX.2.1 hd rfl (k p e s m args below meth c H locs la hX hP hS hl)
theorem z_i2b (pc' : Nat) {x : Int32} (hd : decode M.2.1 pc = .ok (.i2b, 1)) (hp : pc + 1 = pc') (k : At E M d Q pc' ls (.int x.toInt8.toInt32 :: st) σ) : At E M d Q pc ls (.int x :: st) σ := by
  subst hp
  exact fun p e s m args below meth c H locs la hX hP hS hl => lv_i2b hX.1 hX.2.1 hd rfl (k p e s m args below meth c H locs la hX hP hS hl)
theorem z_dup (pc' : Nat) {va : Value} (hd : decode M.2.1 pc = .ok (.dup, 1)) (hp : pc + 1 = pc') (hc : va.category = 1) (k : At E M d Q pc' ls (va :: va :: st) σ) : At E M d Q pc ls (va :: st) σ := by
  subst hp
  exact fun p e s m args below meth c H locs la hX hP hS hl => lv_dup hX.1 hX.2.1 hd hc (k p e s m args below meth c H locs la hX hP hS hl)
theorem z_pop (pc' : Nat) {va : Value} (hd : decode M.2.1 pc = .ok (.pop, 1)) (hp : pc + 1 = pc') (hc : va.category = 1) (k : At E M d Q pc' ls (st) σ) : At E M d Q pc ls (va :: st) σ := by
  subst hp
  exact fun p e s m args below meth c H locs la hX hP hS hl => lv_pop hX.1 hX.2.1 hd hc (k p e s m args below meth c H locs la hX hP hS hl)
theorem z_dup2 (pc' : Nat) {va vb : Value} (hd : decode M.2.1 pc = .ok (.dup2, 1)) (hp : pc + 1 = pc') (hc : va.category = 1) (hc2 : vb.category = 1) (k : At E M d Q pc' ls (va :: vb :: va :: vb :: st) σ) : At E M d Q pc ls (va :: vb :: st) σ := by
  subst hp
  exact fun p e s m args below meth c H locs la hX hP hS hl => lv_dup2_11 hX.1 hX.2.1 hd hc hc2 (k p e s m args below meth c H locs la hX hP hS hl)
theorem z_dup2l (pc' : Nat) {va : Value} (hd : decode M.2.1 pc = .ok (.dup2, 1)) (hp : pc + 1 = pc') (hc : va.category = 2) (k : At E M d Q pc' ls (va :: va :: st) σ) : At E M d Q pc ls (va :: st) σ := by
  subst hp
  exact fun p e s m args below meth c H locs la hX hP hS hl => lv_dup2_2 hX.1 hX.2.1 hd hc (k p e s m args below meth c H locs la hX hP hS hl)
theorem z_ldc2 (pc' : Nat) {i : Nat} {v : Int64} (hd : decode M.2.1 pc = .ok (.ldc2_w i, 3)) (hp : pc + 3 = pc') (hc : Cond.constantLong M.1.cls i v ∈ zTb) (k : At E M d Q pc' ls (.long v :: st) σ) : At E M d Q pc ls (st) σ := by
  subst hp
  exact fun p e s m args below meth c H locs la hX hP hS hl => (fun hx hb hc hd k => lv_ldc2 hx hb hX.2.2.2.2.2.1 (hX.2.2.2.2.2.2.1 _ hc) hd k) hX.1 hX.2.1 hc hd (k p e s m args below meth c H locs la hX hP hS hl)
theorem z_ldcw (pc' : Nat) {i : Nat} {v : Int32} (hd : decode M.2.1 pc = .ok (.ldc_w i, 3)) (hp : pc + 3 = pc') (hc : Cond.constant M.1.cls i v ∈ zTb) (k : At E M d Q pc' ls (.int v :: st) σ) : At E M d Q pc ls (st) σ := by
  subst hp
  exact fun p e s m args below meth c H locs la hX hP hS hl => (fun hx hb hc hd k => lv_ldcw hx hb hX.2.2.2.2.2.1 (hX.2.2.2.2.2.2.1 _ hc) hd k) hX.1 hX.2.1 hc hd (k p e s m args below meth c H locs la hX hP hS hl)
theorem z_goto (tgt : Nat) {off : Int} (hd : decode M.2.1 pc = .ok (.goto off, 3)) (ht : (pc : Int) + off = (tgt : Int)) (k : At E M d Q tgt ls st σ) : At E M d Q pc ls st σ := fun p e s m args below meth c H locs la hX hP hS hl => lv_goto hX.1 hX.2.1 hd ht (k p e s m args below meth c H locs la hX hP hS hl)
theorem z_if_eq (tgt pc' : Nat) {x : Int32} {off : Int} (hd : decode M.2.1 pc = .ok (.ifCond .eq off, 3)) (ht : (pc : Int) + off = (tgt : Int)) (hp : pc + 3 = pc') (kt : x = 0 → At E M d Q tgt ls st σ) (kf : ¬ x = 0 → At E M d Q pc' ls st σ) : At E M d Q pc ls (.int x :: st) σ := by
  subst hp
  exact fun p e s m args below meth c H locs la hX hP hS hl => lv_if_eq hX.1 hX.2.1 hd ht (fun h => kt h p e s m args below meth c H locs la hX hP hS hl) (fun h => kf h p e s m args below meth c H locs la hX hP hS hl)
theorem z_if_ne (tgt pc' : Nat) {x : Int32} {off : Int} (hd : decode M.2.1 pc = .ok (.ifCond .ne off, 3)) (ht : (pc : Int) + off = (tgt : Int)) (hp : pc + 3 = pc') (kt : ¬ x = 0 → At E M d Q tgt ls st σ) (kf : x = 0 → At E M d Q pc' ls st σ) : At E M d Q pc ls (.int x :: st) σ := by
  subst hp
  exact fun p e s m args below meth c H locs la hX hP hS hl => lv_if_ne hX.1 hX.2.1 hd ht (fun h => kt h p e s m args below meth c H locs la hX hP hS hl) (fun h => kf h p e s m args below meth c H locs la hX hP hS hl)
theorem z_if_lt (tgt pc' : Nat) {x : Int32} {off : Int} (hd : decode M.2.1 pc = .ok (.ifCond .lt off, 3)) (ht : (pc : Int) + off = (tgt : Int)) (hp : pc + 3 = pc') (kt : x < 0 → At E M d Q tgt ls st σ) (kf : ¬ x < 0 → At E M d Q pc' ls st σ) : At E M d Q pc ls (.int x :: st) σ := by
  subst hp
  exact fun p e s m args below meth c H locs la hX hP hS hl => lv_if_lt hX.1 hX.2.1 hd ht (fun h => kt h p e s m args below meth c H locs la hX hP hS hl) (fun h => kf h p e s m args below meth c H locs la hX hP hS hl)
theorem z_if_ge (tgt pc' : Nat) {x : Int32} {off : Int} (hd : decode M.2.1 pc = .ok (.ifCond .ge off, 3)) (ht : (pc : Int) + off = (tgt : Int)) (hp : pc + 3 = pc') (kt : 0 ≤ x → At E M d Q tgt ls st σ) (kf : ¬ 0 ≤ x → At E M d Q pc' ls st σ) : At E M d Q pc ls (.int x :: st) σ := by
  subst hp
  exact fun p e s m args below meth c H locs la hX hP hS hl => lv_if_ge hX.1 hX.2.1 hd ht (fun h => kt h p e s m args below meth c H locs la hX hP hS hl) (fun h => kf h p e s m args below meth c H locs la hX hP hS hl)
theorem z_if_gt (tgt pc' : Nat) {x : Int32} {off : Int} (hd : decode M.2.1 pc = .ok (.ifCond .gt off, 3)) (ht : (pc : Int) + off = (tgt : Int)) (hp : pc + 3 = pc') (kt : 0 < x → At E M d Q tgt ls st σ) (kf : ¬ 0 < x → At E M d Q pc' ls st σ) : At E M d Q pc ls (.int x :: st) σ := by
  subst hp
  exact fun p e s m args below meth c H locs la hX hP hS hl => lv_if_gt hX.1 hX.2.1 hd ht (fun h => kt h p e s m args below meth c H locs la hX hP hS hl) (fun h => kf h p e s m args below meth c H locs la hX hP hS hl)
theorem z_if_le (tgt pc' : Nat) {x : Int32} {off : Int} (hd : decode M.2.1 pc = .ok (.ifCond .le off, 3)) (ht : (pc : Int) + off = (tgt : Int)) (hp : pc + 3 = pc') (kt : x ≤ 0 → At E M d Q tgt ls st σ) (kf : ¬ x ≤ 0 → At E M d Q pc' ls st σ) : At E M d Q pc ls (.int x :: st) σ := by
  subst hp
  exact fun p e s m args below meth c H locs la hX hP hS hl => lv_if_le hX.1 hX.2.1 hd ht (fun h => kt h p e s m args below meth c H locs la hX hP hS hl) (fun h => kf h p e s m args below meth c H locs la hX hP hS hl)
theorem z_icmp_eq (tgt pc' : Nat) {x y : Int32} {off : Int} (hd : decode M.2.1 pc = .ok (.if_icmp .eq off, 3)) (ht : (pc : Int) + off = (tgt : Int)) (hp : pc + 3 = pc') (kt : x = y → At E M d Q tgt ls st σ) (kf : ¬ x = y → At E M d Q pc' ls st σ) : At E M d Q pc ls (.int y :: .int x :: st) σ := by
  subst hp
  exact fun p e s m args below meth c H locs la hX hP hS hl => lv_icmp_eq hX.1 hX.2.1 hd ht (fun h => kt h p e s m args below meth c H locs la hX hP hS hl) (fun h => kf h p e s m args below meth c H locs la hX hP hS hl)
theorem z_icmp_ne (tgt pc' : Nat) {x y : Int32} {off : Int} (hd : decode M.2.1 pc = .ok (.if_icmp .ne off, 3)) (ht : (pc : Int) + off = (tgt : Int)) (hp : pc + 3 = pc') (kt : ¬ x = y → At E M d Q tgt ls st σ) (kf : x = y → At E M d Q pc' ls st σ) : At E M d Q pc ls (.int y :: .int x :: st) σ := by
  subst hp
  exact fun p e s m args below meth c H locs la hX hP hS hl => lv_icmp_ne hX.1 hX.2.1 hd ht (fun h => kt h p e s m args below meth c H locs la hX hP hS hl) (fun h => kf h p e s m args below meth c H locs la hX hP hS hl)
theorem z_icmp_lt (tgt pc' : Nat) {x y : Int32} {off : Int} (hd : decode M.2.1 pc = .ok (.if_icmp .lt off, 3)) (ht : (pc : Int) + off = (tgt : Int)) (hp : pc + 3 = pc') (kt : x < y → At E M d Q tgt ls st σ) (kf : ¬ x < y → At E M d Q pc' ls st σ) : At E M d Q pc ls (.int y :: .int x :: st) σ := by
  subst hp
  exact fun p e s m args below meth c H locs la hX hP hS hl => lv_icmp_lt hX.1 hX.2.1 hd ht (fun h => kt h p e s m args below meth c H locs la hX hP hS hl) (fun h => kf h p e s m args below meth c H locs la hX hP hS hl)
theorem z_icmp_ge (tgt pc' : Nat) {x y : Int32} {off : Int} (hd : decode M.2.1 pc = .ok (.if_icmp .ge off, 3)) (ht : (pc : Int) + off = (tgt : Int)) (hp : pc + 3 = pc') (kt : y ≤ x → At E M d Q tgt ls st σ) (kf : ¬ y ≤ x → At E M d Q pc' ls st σ) : At E M d Q pc ls (.int y :: .int x :: st) σ := by
  subst hp
  exact fun p e s m args below meth c H locs la hX hP hS hl => lv_icmp_ge hX.1 hX.2.1 hd ht (fun h => kt h p e s m args below meth c H locs la hX hP hS hl) (fun h => kf h p e s m args below meth c H locs la hX hP hS hl)
theorem z_icmp_gt (tgt pc' : Nat) {x y : Int32} {off : Int} (hd : decode M.2.1 pc = .ok (.if_icmp .gt off, 3)) (ht : (pc : Int) + off = (tgt : Int)) (hp : pc + 3 = pc') (kt : y < x → At E M d Q tgt ls st σ) (kf : ¬ y < x → At E M d Q pc' ls st σ) : At E M d Q pc ls (.int y :: .int x :: st) σ := by
  subst hp
  exact fun p e s m args below meth c H locs la hX hP hS hl => lv_icmp_gt hX.1 hX.2.1 hd ht (fun h => kt h p e s m args below meth c H locs la hX hP hS hl) (fun h => kf h p e s m args below meth c H locs la hX hP hS hl)
theorem z_icmp_le (tgt pc' : Nat) {x y : Int32} {off : Int} (hd : decode M.2.1 pc = .ok (.if_icmp .le off, 3)) (ht : (pc : Int) + off = (tgt : Int)) (hp : pc + 3 = pc') (kt : x ≤ y → At E M d Q tgt ls st σ) (kf : ¬ x ≤ y → At E M d Q pc' ls st σ) : At E M d Q pc ls (.int y :: .int x :: st) σ := by
  subst hp
  exact fun p e s m args below meth c H locs la hX hP hS hl => lv_icmp_le hX.1 hX.2.1 hd ht (fun h => kt h p e s m args below meth c H locs la hX hP hS hl) (fun h => kf h p e s m args below meth c H locs la hX hP hS hl)
theorem z_ifnull (pc' : Nat) {a : Nat} {off : Int} (hd : decode M.2.1 pc = .ok (.ifnull off, 3)) (hp : pc + 3 = pc') (k : At E M d Q pc' ls st σ) : At E M d Q pc ls (zr E a :: st) σ := by
  subst hp
  exact fun p e s m args below meth c H locs la hX hP hS hl => lv_ifnull hX.1 hX.2.1 hd (k p e s m args below meth c H locs la hX hP hS hl)
theorem z_ifnullN (tgt : Nat) {off : Int} (hd : decode M.2.1 pc = .ok (.ifnull off, 3)) (ht : (pc : Int) + off = (tgt : Int)) (k : At E M d Q tgt ls st σ) : At E M d Q pc ls (.null :: st) σ := fun p e s m args below meth c H locs la hX hP hS hl => lv_ifnullN hX.1 hX.2.1 hd ht (k p e s m args below meth c H locs la hX hP hS hl)
theorem z_istoreg (pc' : Nat) {i : Nat} {x : Int32} {ls' : List (Option Value)} (hd : decode M.2.1 pc = .ok (.istore i, 2)) (hp : pc + 2 = pc') (hn : i < M.2.2.1) (hc : zck ls i = true) (hs : ls.set i (some (.int x)) = ls') (k : At E M d Q pc' ls' st σ) : At E M d Q pc ls (.int x :: st) σ := by
  subst hp
  subst hs
  exact fun p e s m args below meth c H locs la hX hP hS hl => lv_istore hX.1 hX.2.1 hd hl hn rfl (fun la' hl' => k p e s m args below meth c H locs la' hX hP hS (zas_set1 hl' hc))
theorem z_istore_ng (pc' : Nat) {n : Fin 4} {x : Int32} {ls' : List (Option Value)} (hd : decode M.2.1 pc = .ok (.istore_n n, 1)) (hp : pc + 1 = pc') (hn : (n : Nat) < M.2.2.1) (hc : zck ls (n : Nat) = true) (hs : ls.set (n : Nat) (some (.int x)) = ls') (k : At E M d Q pc' ls' st σ) : At E M d Q pc ls (.int x :: st) σ := by
  subst hp
  subst hs
  exact fun p e s m args below meth c H locs la hX hP hS hl => lv_istore_n hX.1 hX.2.1 hd rfl hl hn rfl (fun la' hl' => k p e s m args below meth c H locs la' hX hP hS (zas_set1 hl' hc))
theorem z_astoreg (pc' : Nat) {i : Nat} {x : Nat} {ls' : List (Option Value)} (hd : decode M.2.1 pc = .ok (.astore i, 2)) (hp : pc + 2 = pc') (hn : i < M.2.2.1) (hc : zck ls i = true) (hs : ls.set i (some (zr E x)) = ls') (k : At E M d Q pc' ls' st σ) : At E M d Q pc ls (zr E x :: st) σ := by
  subst hp
  subst hs
  exact fun p e s m args below meth c H locs la hX hP hS hl => lv_astore hX.1 hX.2.1 hd hl hn rfl (fun la' hl' => k p e s m args below meth c H locs la' hX hP hS (zas_set1 hl' hc))
theorem z_astore_ng (pc' : Nat) {n : Fin 4} {x : Nat} {ls' : List (Option Value)} (hd : decode M.2.1 pc = .ok (.astore_n n, 1)) (hp : pc + 1 = pc') (hn : (n : Nat) < M.2.2.1) (hc : zck ls (n : Nat) = true) (hs : ls.set (n : Nat) (some (zr E x)) = ls') (k : At E M d Q pc' ls' st σ) : At E M d Q pc ls (zr E x :: st) σ := by
  subst hp
  subst hs
  exact fun p e s m args below meth c H locs la hX hP hS hl => lv_astore_n hX.1 hX.2.1 hd rfl hl hn rfl (fun la' hl' => k p e s m args below meth c H locs la' hX hP hS (zas_set1 hl' hc))
theorem z_lstoreg (pc' : Nat) {i : Nat} {x : Int64} {ls' : List (Option Value)} (hd : decode M.2.1 pc = .ok (.lstore i, 2)) (hp : pc + 2 = pc') (hn : i + 1 < M.2.2.1) (hc : zck ls i = true) (hs : (ls.set i (some (.long x))).set (i + 1) none = ls') (k : At E M d Q pc' ls' st σ) : At E M d Q pc ls (.long x :: st) σ := by
  subst hp
  subst hs
  exact fun p e s m args below meth c H locs la hX hP hS hl => lv_lstore hX.1 hX.2.1 hd hl hn rfl (fun la' hl' => k p e s m args below meth c H locs la' hX hP hS (zas_set2 hl' hc))
theorem z_lstore_ng (pc' : Nat) {n : Fin 4} {x : Int64} {ls' : List (Option Value)} (hd : decode M.2.1 pc = .ok (.lstore_n n, 1)) (hp : pc + 1 = pc') (hn : (n : Nat) + 1 < M.2.2.1) (hc : zck ls (n : Nat) = true) (hs : (ls.set (n : Nat) (some (.long x))).set ((n : Nat) + 1) none = ls') (k : At E M d Q pc' ls' st σ) : At E M d Q pc ls (.long x :: st) σ := by
  subst hp
  subst hs
  exact fun p e s m args below meth c H locs la hX hP hS hl => lv_lstore_n hX.1 hX.2.1 hd rfl hl hn rfl (fun la' hl' => k p e s m args below meth c H locs la' hX hP hS (zas_set2 hl' hc))
theorem z_iincg (pc' : Nat) {i : Nat} {n : Int} {x v : Int32} {ls' : List (Option Value)} (hd : decode M.2.1 pc = .ok (.iinc i n, 3)) (hp : pc + 3 = pc') (hi : ls[i]? = some (some (.int x))) (hv : x + Int32.ofInt n = v) (hn : i < M.2.2.1) (hc : zck ls i = true) (hs : ls.set i (some (.int v)) = ls') (k : At E M d Q pc' ls' st σ) : At E M d Q pc ls st σ := by
  subst hp
  subst hs
  intro p e s m args below meth c H locs la hX hP hS hl
  obtain ⟨j, hj⟩ := List.getElem?_of_mem (zas_mem.mpr ⟨Nat.zero_le i, hi⟩)
  exact lv_iinc hX.1 hX.2.1 hd hl hj hv hn rfl (fun la' hl' => k p e s m args below meth c H locs la' hX hP hS (zas_set1 hl' hc))
end Rows
end
section
section Rows2
variable {E : zE} {M : zY} {d : Nat} {Q : Option Value → zM → Prop} {pc : Nat} {ls : List (Option Value)} {st : List Value} {σ : zM}
theorem z_iret {v : Int32} (hd : decode M.2.1 pc = .ok (.ireturn, 1)) (hr : M.2.2.2 = some .int) (hq : Q (some (.int v)) σ) : At E M d Q pc ls [.int v] σ := by
  intro p e s m args below meth c H locs la hX hP hS hl
  exact W.iret hX.1 hX.2.1 (hX.2.2.2.1.trans hr) (fun t ht hW => ⟨⟨some (.int v), σ, rfl, hq, by rw [ht]; exact hP, va_K.moved hW.alike hX.2.2.2.2.2.2.2⟩, hS.F ht⟩) hS.2.2 hd hX.2.2.2.2.1
theorem z_zret {v : Int32} (hd : decode M.2.1 pc = .ok (.ireturn, 1)) (hr : M.2.2.2 = some .boolean) (hv : v = 0 ∨ v = 1) (hq : Q (some (.int v)) σ) : At E M d Q pc ls [.int v] σ := by
  intro p e s m args below meth c H locs la hX hP hS hl
  exact W.zret hX.1 hX.2.1 (hX.2.2.2.1.trans hr) (by rcases hv with rfl | rfl <;> rfl) (fun t ht hW => ⟨⟨some (.int v), σ, rfl, hq, by rw [ht]; exact hP, va_K.moved hW.alike hX.2.2.2.2.2.2.2⟩, hS.F ht⟩) hS.2.2 hd hX.2.2.2.2.1
theorem z_lret {v : Int64} (hd : decode M.2.1 pc = .ok (.lreturn, 1)) (hr : M.2.2.2 = some .long) (hq : Q (some (.long v)) σ) : At E M d Q pc ls [.long v] σ := by
  intro p e s m args below meth c H locs la hX hP hS hl
  exact W.lret hX.1 hX.2.1 (hX.2.2.2.1.trans hr) (fun t ht hW => ⟨⟨some (.long v), σ, rfl, hq, by rw [ht]; exact hP, va_K.moved hW.alike hX.2.2.2.2.2.2.2⟩, hS.F ht⟩) hS.2.2 hd hX.2.2.2.2.1
theorem z_vret (hd : decode M.2.1 pc = .ok (.return_, 1)) (hr : M.2.2.2 = none) (hq : Q none σ) : At E M d Q pc ls [] σ := by
  intro p e s m args below meth c H locs la hX hP hS hl
  exact W.vret hX.1 hX.2.1 (hX.2.2.2.1.trans hr) (fun t ht hW => ⟨⟨none, σ, rfl, hq, by rw [ht]; exact hP, va_K.moved hW.alike hX.2.2.2.2.2.2.2⟩, hS.F ht⟩) hS.2.2 hd hX.2.2.2.2.1
theorem z_aret {v : Value} {rt : FieldType} (hd : decode M.2.1 pc = .ok (.areturn, 1)) (hr : M.2.2.2 = some rt) (hrt : (∃ n, rt = .object n) ∨ ∃ t, rt = .array t) (hv : v = .null ∨ ∃ a, v = .ref a) (hq : Q (some v) σ) : At E M d Q pc ls [v] σ := by
  intro p e s m args below meth c H locs la hX hP hS hl
  exact W.aret hX.1 hX.2.1 (hX.2.2.2.1.trans hr) hrt hv (fun t ht hW => ⟨⟨some v, σ, rfl, hq, by rw [ht]; exact hP, va_K.moved hW.alike hX.2.2.2.2.2.2.2⟩, hS.F ht⟩) hS.2.2 hd hX.2.2.2.2.1
theorem z_iald (pc' : Nat) {a n : Nat} {i : Int32} (hd : decode M.2.1 pc = .ok (.iaload, 1)) (hp : pc + 1 = pc') (hk : kd a = (11, n)) (hi : vp_in i n) (k : At E M d Q pc' ls (.int (gi σ a i.toNatClampNeg) :: st) σ) : At E M d Q pc ls (.int i :: zr E a :: st) σ := by
  subst hp
  intro p e s m args below meth c H locs la hX hP hS hl
  exact va_iald hX.1 hX.2.1 hX.2.2.2.2.2.2.2 hP a 0 ((zW_get E σ (kd_lt (by rw [hk]; exact (by decide : (11 : Nat) ≠ 99)))).trans (by rw [zC_int hk]; rfl)) rfl hi hd (k p e s m args below meth c H locs la hX hP hS hl)
theorem z_lald (pc' : Nat) {a n : Nat} {i : Int32} (hd : decode M.2.1 pc = .ok (.laload, 1)) (hp : pc + 1 = pc') (hk : kd a = (12, n)) (hi : vp_in i n) (k : At E M d Q pc' ls (.long (gl σ a i.toNatClampNeg) :: st) σ) : At E M d Q pc ls (.int i :: zr E a :: st) σ := by
  subst hp
  intro p e s m args below meth c H locs la hX hP hS hl
  exact va_lald hX.1 hX.2.1 hX.2.2.2.2.2.2.2 hP a 1 ((zW_get E σ (kd_lt (by rw [hk]; exact (by decide : (12 : Nat) ≠ 99)))).trans (by rw [zC_long hk]; rfl)) rfl hi hd (k p e s m args below meth c H locs la hX hP hS hl)
theorem z_zald (pc' : Nat) {a n : Nat} {i : Int32} (hd : decode M.2.1 pc = .ok (.baload, 1)) (hp : pc + 1 = pc') (hk : kd a = (13, n)) (hi : vp_in i n) (k : At E M d Q pc' ls (.int (gi σ a i.toNatClampNeg) :: st) σ) : At E M d Q pc ls (.int i :: zr E a :: st) σ := by
  subst hp
  intro p e s m args below meth c H locs la hX hP hS hl
  exact va_zald hX.1 hX.2.1 hX.2.2.2.2.2.2.2 hP a 2 ((zW_get E σ (kd_lt (by rw [hk]; exact (by decide : (13 : Nat) ≠ 99)))).trans (by rw [zC_bool hk]; rfl)) rfl hi hd (k p e s m args below meth c H locs la hX hP hS hl)
theorem z_aald (pc' : Nat) {a n t : Nat} {C : String} {i : Int32} (hd : decode M.2.1 pc = .ok (.aaload, 1)) (hp : pc + 1 = pc') (hk : kd a = (t + 14, n)) (ht : (zT E)[t + 3]? = some (E.2.2.2.2 (t + 3), .object C)) (h9 : t + 14 ≠ 99) (hi : vp_in i n) (k : At E M d Q pc' ls (zr E (zLa a i.toNatClampNeg) :: st) σ) : At E M d Q pc ls (.int i :: zr E a :: st) σ := by
  subst hp
  intro p e s m args below meth c H locs la hX hP hS hl
  exact va_aldq (f := fun j => some (E.2.1 + zLa a j)) hX.1 hX.2.1 hX.2.2.2.2.2.2.2 hP a (t + 3) ((zW_get E σ (kd_lt (by rw [hk]; exact h9))).trans (by rw [zC_ref hk])) ht hi hd (k p e s m args below meth c H locs la hX hP hS hl)
theorem z_iast (pc' : Nat) {a n : Nat} {i x : Int32} (hd : decode M.2.1 pc = .ok (.iastore, 1)) (hp : pc + 1 = pc') (hk : kd a = (11, n)) (hi : vp_in i n) (k : At E M d Q pc' ls st (si σ a i.toNatClampNeg x)) : At E M d Q pc ls (.int x :: .int i :: zr E a :: st) σ := by
  subst hp
  intro p e s m args below meth c H locs la hX hP hS hl
  have hlt : a < 125 := kd_lt (by rw [hk]; exact (by decide : (11 : Nat) ≠ 99))
  refine va_iast hX.1 hX.2.1 hX.2.2.2.2.2.2.2 hP (zW_D E σ) hS a 0 ((zW_get E σ hlt).trans (by rw [zC_int hk])) rfl hi hd (fun H1 locs1 hP1 hD1 hS1 => ?_)
  rw [zW_set E (σ := σ) (τ := si σ a i.toNatClampNeg x) hlt (fun y hy => ⟨by simp [si, zu, hy], rfl, rfl⟩) (by rw [zC_int hk]; simp [si, zu, upd]; rfl)] at hP1
  exact k p e s m args below meth c H1 locs1 la hX hP1 hS1 hl
theorem z_last (pc' : Nat) {a n : Nat} {i : Int32} {x : Int64} (hd : decode M.2.1 pc = .ok (.lastore, 1)) (hp : pc + 1 = pc') (hk : kd a = (12, n)) (hi : vp_in i n) (k : At E M d Q pc' ls st (sl σ a i.toNatClampNeg x)) : At E M d Q pc ls (.long x :: .int i :: zr E a :: st) σ := by
  subst hp
  intro p e s m args below meth c H locs la hX hP hS hl
  have hlt : a < 125 := kd_lt (by rw [hk]; exact (by decide : (12 : Nat) ≠ 99))
  refine va_last hX.1 hX.2.1 hX.2.2.2.2.2.2.2 hP (zW_D E σ) hS a 1 ((zW_get E σ hlt).trans (by rw [zC_long hk])) rfl hi hd (fun H1 locs1 hP1 hD1 hS1 => ?_)
  rw [zW_set E (σ := σ) (τ := sl σ a i.toNatClampNeg x) hlt (fun y hy => ⟨rfl, by simp [sl, zu, hy], rfl⟩) (by rw [zC_long hk]; simp [sl, zu, vp_updL]; rfl)] at hP1
  exact k p e s m args below meth c H1 locs1 la hX hP1 hS1 hl
theorem z_zast (pc' : Nat) {a n : Nat} {i x : Int32} (hd : decode M.2.1 pc = .ok (.bastore, 1)) (hp : pc + 1 = pc') (hk : kd a = (13, n)) (hi : vp_in i n) (hx : x = 0 ∨ x = 1) (k : At E M d Q pc' ls st (si σ a i.toNatClampNeg x)) : At E M d Q pc ls (.int x :: .int i :: zr E a :: st) σ := by
  subst hp
  intro p e s m args below meth c H locs la hX hP hS hl
  have hlt : a < 125 := kd_lt (by rw [hk]; exact (by decide : (13 : Nat) ≠ 99))
  refine va_zast hX.1 hX.2.1 hX.2.2.2.2.2.2.2 hP (zW_D E σ) hS a 2 ((zW_get E σ hlt).trans (by rw [zC_bool hk])) rfl hi hd (fun H1 locs1 hP1 hD1 hS1 => ?_)
  have hn : vp_nar .boolean x = x := by rcases hx with rfl | rfl <;> rfl
  rw [hn] at hP1
  rw [zW_set E (σ := σ) (τ := si σ a i.toNatClampNeg x) hlt (fun y hy => ⟨by simp [si, zu, hy], rfl, rfl⟩) (by rw [zC_bool hk]; simp [si, zu, upd]; rfl)] at hP1
  exact k p e s m args below meth c H1 locs1 la hX hP1 hS1 hl
theorem z_alen (pc' : Nat) {a n : Nat} (hd : decode M.2.1 pc = .ok (.arraylength, 1)) (hp : pc + 1 = pc') (hk : kd a = (11, n)) (k : At E M d Q pc' ls (.int (nI n) :: st) σ) : At E M d Q pc ls (zr E a :: st) σ := by
  subst hp
  intro p e s m args below meth c H locs la hX hP hS hl
  exact va_alen (x := (n, .inl (σ.1 a))) hX.1 hX.2.1 hX.2.2.2.2.2.2.2 hP a 0 ((zW_get E σ (kd_lt (by rw [hk]; exact (by decide : (11 : Nat) ≠ 99)))).trans (by rw [zC_int hk])) rfl rfl hd (k p e s m args below meth c H locs la hX hP hS hl)
theorem z_alenZ (pc' : Nat) {a n : Nat} (hd : decode M.2.1 pc = .ok (.arraylength, 1)) (hp : pc + 1 = pc') (hk : kd a = (13, n)) (k : At E M d Q pc' ls (.int (nI n) :: st) σ) : At E M d Q pc ls (zr E a :: st) σ := by
  subst hp
  intro p e s m args below meth c H locs la hX hP hS hl
  exact va_alen (x := (n, .inl (σ.1 a))) hX.1 hX.2.1 hX.2.2.2.2.2.2.2 hP a 2 ((zW_get E σ (kd_lt (by rw [hk]; exact (by decide : (13 : Nat) ≠ 99)))).trans (by rw [zC_bool hk])) rfl rfl hd (k p e s m args below meth c H locs la hX hP hS hl)
theorem z_alenR (pc' : Nat) {a n t : Nat} {C : String} (hd : decode M.2.1 pc = .ok (.arraylength, 1)) (hp : pc + 1 = pc') (hk : kd a = (t + 14, n)) (ht : (zT E)[t + 3]? = some (E.2.2.2.2 (t + 3), .object C)) (h9 : t + 14 ≠ 99) (k : At E M d Q pc' ls (.int (nI n) :: st) σ) : At E M d Q pc ls (zr E a :: st) σ := by
  subst hp
  intro p e s m args below meth c H locs la hX hP hS hl
  exact va_alen (x := (n, .inr (.inr (.inr (.inr (fun j => some (E.2.1 + zLa a j))))))) hX.1 hX.2.1 hX.2.2.2.2.2.2.2 hP a (t + 3) ((zW_get E σ (kd_lt (by rw [hk]; exact h9))).trans (by rw [zC_ref hk])) ht rfl hd (k p e s m args below meth c H locs la hX hP hS hl)
/-- fields -/
theorem z_getf (pc' : Nat) {a ci j idx N : Nat} {T : u_T} {C ref : String} {v : Value} (hd : decode M.2.1 pc = .ok (.getfield idx, 3)) (hp : pc + 3 = pc') (hk : (kd a).1 = ci) (hci : ci ≤ 10) (hcl : vwCl[ci]? = some (C, T, N)) (hin : ∀ w ∈ u_ws C T N, w ∈ zTb) (hj : j < N) (hl : Cond.fieldLink M.1.cls idx ref (T j).2.1 (T j).2.2.1 ∈ zTb) (hr : (T j).1 = ref) (hv : (zO E ci a (σ.1 a) (σ.2.1 a) (σ.2.2 a))[j]? = some v)
    (k : At E M d Q pc' ls (v :: st) σ) : At E M d Q pc ls (zr E a :: st) σ := by
  subst hp
  intro p e s m args below meth c H locs la hX hP hS hla
  exact va_get hX.1 hX.2.1 hX.2.2.2.2.2.2.1 hin hX.2.2.2.2.2.1 hX.2.2.2.2.2.2.2 hP a ((zW_get E σ (kd_lt (by omega))).trans (by rw [zC_obj hk hci])) hcl j hj (hX.2.2.2.2.2.2.1 _ hl) (fun x hx => by rw [← hr]; exact hx) hv hd (k p e s m args below meth c H locs la hX hP hS hla)
theorem z_getfN (pc' : Nat) {a ci j idx N : Nat} {T : u_T} {C ref host : String} {v : Value} (hd : decode M.2.1 pc = .ok (.getfield idx, 3)) (hp : pc + 3 = pc') (hk : (kd a).1 = ci) (hci : ci ≤ 10) (hcl : vwCl[ci]? = some (C, T, N)) (hin : ∀ w ∈ u_ws C T N, w ∈ zTb) (hj : j < N) (hl : Cond.fieldLinkNest M.1.cls idx ref (T j).2.1 (T j).2.2.1 host ∈ zTb) (hr : (T j).1 = ref) (hv : (zO E ci a (σ.1 a) (σ.2.1 a) (σ.2.2 a))[j]? = some v)
    (k : At E M d Q pc' ls (v :: st) σ) : At E M d Q pc ls (zr E a :: st) σ := by
  subst hp
  intro p e s m args below meth c H locs la hX hP hS hla
  exact va_getN hX.1 hX.2.1 hX.2.2.2.2.2.2.1 hin hX.2.2.2.2.2.1 hX.2.2.2.2.2.2.2 hP a ((zW_get E σ (kd_lt (by omega))).trans (by rw [zC_obj hk hci])) hcl j hj (hX.2.2.2.2.2.2.1 _ hl) (fun x hx => by rw [← hr]; exact hx) hv hd (k p e s m args below meth c H locs la hX hP hS hla)
theorem z_putf (pc' : Nat) {a ci j idx N : Nat} {T : u_T} {C ref : String} {v : Value} {ty : FieldType} (τ : zM) (ty0 : Nat → FieldType) (hty : ∀ k, k < N → parseFieldDescriptor (T k).2.2.1 = some (ty0 k)) (hnm : ∀ a, a < N → ∀ b, b < N → a ≠ b → (T a).2.1 ≠ (T b).2.1) (hd : decode M.2.1 pc = .ok (.putfield idx, 3)) (hp : pc + 3 = pc') (hk : (kd a).1 = ci) (hci : ci ≤ 10) (hcl : vwCl[ci]? = some (C, T, N)) (hin : ∀ w ∈ u_ws C T N, w ∈ zTb) (hj : j < N) (hl : Cond.fieldLink M.1.cls idx ref (T j).2.1 (T j).2.2.1 ∈ zTb) (hr : (T j).1 = ref) (hfin : (T j).2.2.2 = false) (hpd : parseFieldDescriptor (T j).2.2.1 = some ty) (hn : narrow ty v = v) (hfit : fits ty v = true) (hlen : j < (zO E ci a (σ.1 a) (σ.2.1 a) (σ.2.2 a)).length)
    (hτ : ∀ x, x ≠ a → σ.1 x = τ.1 x ∧ σ.2.1 x = τ.2.1 x ∧ σ.2.2 x = τ.2.2 x) (hset : zO E ci a (τ.1 a) (τ.2.1 a) (τ.2.2 a) = (zO E ci a (σ.1 a) (σ.2.1 a) (σ.2.2 a)).set j v)
    (k : At E M d Q pc' ls st τ) : At E M d Q pc ls (v :: zr E a :: st) σ := by
  subst hp
  intro p e s m args below meth c H locs la hX hP hS hla
  have hlt : a < 125 := kd_lt (by omega)
  refine va_put hX.1 hX.2.1 hX.2.2.2.2.2.2.1 hin ty0 hty hnm hX.2.2.2.2.2.1 hX.2.2.2.2.2.2.2 hP (zW_D E σ) hS a ((zW_get E σ hlt).trans (by rw [zC_obj hk hci])) hcl j hj (hX.2.2.2.2.2.2.1 _ hl) (fun x hx => by rw [← hr]; exact hx) hfin hpd hn hfit hlen hd (fun H1 locs1 hP1 hD1 hS1 => ?_)
  rw [zW_set E (σ := σ) (τ := τ) hlt hτ (by rw [zC_obj hk hci, hset])] at hP1
  exact k p e s m args below meth c H1 locs1 la hX hP1 hS1 hla
theorem z_putfN (pc' : Nat) {a ci j idx N : Nat} {T : u_T} {C ref host : String} {v : Value} {ty : FieldType} (τ : zM) (ty0 : Nat → FieldType) (hty : ∀ k, k < N → parseFieldDescriptor (T k).2.2.1 = some (ty0 k)) (hnm : ∀ a, a < N → ∀ b, b < N → a ≠ b → (T a).2.1 ≠ (T b).2.1) (hd : decode M.2.1 pc = .ok (.putfield idx, 3)) (hp : pc + 3 = pc') (hk : (kd a).1 = ci) (hci : ci ≤ 10) (hcl : vwCl[ci]? = some (C, T, N)) (hin : ∀ w ∈ u_ws C T N, w ∈ zTb) (hj : j < N) (hl : Cond.fieldLinkNest M.1.cls idx ref (T j).2.1 (T j).2.2.1 host ∈ zTb) (hr : (T j).1 = ref) (hfin : (T j).2.2.2 = false) (hpd : parseFieldDescriptor (T j).2.2.1 = some ty) (hn : narrow ty v = v) (hfit : fits ty v = true) (hlen : j < (zO E ci a (σ.1 a) (σ.2.1 a) (σ.2.2 a)).length)
    (hτ : ∀ x, x ≠ a → σ.1 x = τ.1 x ∧ σ.2.1 x = τ.2.1 x ∧ σ.2.2 x = τ.2.2 x) (hset : zO E ci a (τ.1 a) (τ.2.1 a) (τ.2.2 a) = (zO E ci a (σ.1 a) (σ.2.1 a) (σ.2.2 a)).set j v)
    (k : At E M d Q pc' ls st τ) : At E M d Q pc ls (v :: zr E a :: st) σ := by
  subst hp
  intro p e s m args below meth c H locs la hX hP hS hla
  have hlt : a < 125 := kd_lt (by omega)
  refine va_putN hX.1 hX.2.1 hX.2.2.2.2.2.2.1 hin ty0 hty hnm hX.2.2.2.2.2.1 hX.2.2.2.2.2.2.2 hP (zW_D E σ) hS a ((zW_get E σ hlt).trans (by rw [zC_obj hk hci])) hcl j hj (hX.2.2.2.2.2.2.1 _ hl) (fun x hx => by rw [← hr]; exact hx) hfin hpd hn hfit hlen hd (fun H1 locs1 hP1 hD1 hS1 => ?_)
  rw [zW_set E (σ := σ) (τ := τ) hlt hτ (by rw [zC_obj hk hci, hset])] at hP1
  exact k p e s m args below meth c H1 locs1 la hX hP1 hS1 hla
theorem zh_si (σ : zM) (a j : Nat) (v : Int32) : ∀ x, x ≠ a → σ.1 x = (si σ a j v).1 x ∧ σ.2.1 x = (si σ a j v).2.1 x ∧ σ.2.2 x = (si σ a j v).2.2 x := fun x hx => ⟨by simp [si, zu, hx], rfl, rfl⟩
theorem zh_sl (σ : zM) (a j : Nat) (v : Int64) : ∀ x, x ≠ a → σ.1 x = (sl σ a j v).1 x ∧ σ.2.1 x = (sl σ a j v).2.1 x ∧ σ.2.2 x = (sl σ a j v).2.2 x := fun x hx => ⟨rfl, by simp [sl, zu, hx], rfl⟩
theorem zh_sr (σ : zM) (a j : Nat) (v : Nat) : ∀ x, x ≠ a → σ.1 x = (sr σ a j v).1 x ∧ σ.2.1 x = (sr σ a j v).2.1 x ∧ σ.2.2 x = (sr σ a j v).2.2 x := fun x hx => ⟨rfl, rfl, by simp [sr, zu, hx]⟩
/-- Math.max, min; System.arraycopy -/
theorem z_mmax (pc' : Nat) {idx : Nat} {x y : Int32} (hd : decode M.2.1 pc = .ok (.invokestatic idx, 3)) (hp : pc + 3 = pc') (hl : Cond.methodLink M.1.cls idx Lib.Math.max.name ∈ zTb) (hs : Cond.static Lib.Math.max.name ∈ zTb) (hi : Cond.initialized "java/lang/Math" ∈ zTb) (hc : Cond.code Lib.Math.max.name Lib.Math.max.code 2 (some .int) ∈ zTb) (hst : (st.map fun v => v.category).sum ≤ 40) (k : At E M d Q pc' ls (.int (if x < y then y else x) :: st) σ) : At E M d Q pc ls (.int y :: .int x :: st) σ := by
  subst hp
  intro p e s m args below meth c H locs la hX hP hS hla
  have ht := hX.2.2.2.2.2.2.1
  exact va_mmax hX.1 hX.2.1 (hX.2.2.1.trans hla.1.symm) hX.2.2.2.2.2.1 (ht _ hl) (ht _ hs) (ht _ hi) (ht _ hc) (by show 1 ≤ d + 1; omega) (by show _ ≤ 64 * (d + 1); omega) (Nat.le_refl 0) (Nat.le_refl 0) hd (k p e s m args below meth c H locs la hX hP hS hla)
theorem z_mmin (pc' : Nat) {idx : Nat} {x y : Int32} (hd : decode M.2.1 pc = .ok (.invokestatic idx, 3)) (hp : pc + 3 = pc') (hl : Cond.methodLink M.1.cls idx Lib.Math.min.name ∈ zTb) (hs : Cond.static Lib.Math.min.name ∈ zTb) (hi : Cond.initialized "java/lang/Math" ∈ zTb) (hc : Cond.code Lib.Math.min.name Lib.Math.min.code 2 (some .int) ∈ zTb) (hst : (st.map fun v => v.category).sum ≤ 40) (k : At E M d Q pc' ls (.int (if y < x then y else x) :: st) σ) : At E M d Q pc ls (.int y :: .int x :: st) σ := by
  subst hp
  intro p e s m args below meth c H locs la hX hP hS hla
  have ht := hX.2.2.2.2.2.2.1
  exact va_mmin hX.1 hX.2.1 (hX.2.2.1.trans hla.1.symm) hX.2.2.2.2.2.1 (ht _ hl) (ht _ hs) (ht _ hi) (ht _ hc) (by show 1 ≤ d + 1; omega) (by show _ ≤ 64 * (d + 1); omega) (Nat.le_refl 0) (Nat.le_refl 0) hd (k p e s m args below meth c H locs la hX hP hS hla)
theorem z_copy (pc' : Nat) {idx a0 a n0 n1 : Nat} {sp dp n : Int32} (hd : decode M.2.1 pc = .ok (.invokestatic idx, 3)) (hp : pc + 3 = pc') (hl : Cond.methodLink M.1.cls idx arraycopyName ∈ zTb) (hnat : Cond.native arraycopyName ∈ zTb) (hs : Cond.static arraycopyName ∈ zTb) (hi : Cond.initialized "java/lang/System" ∈ zTb) (hk0 : kd a0 = (11, n0)) (hk1 : kd a = (11, n1)) (h1 : ¬ sp < 0) (h2 : ¬ dp < 0) (h3 : ¬ n < 0) (h4 : sp.toNatClampNeg + n.toNatClampNeg ≤ n0) (h5 : dp.toNatClampNeg + n.toNatClampNeg ≤ n1) (hst : (st.map fun v => v.category).sum ≤ 20)
    (k : At E M d Q pc' ls st (sf σ a (va_cpy (σ.1 a0) (σ.1 a) sp.toNatClampNeg dp.toNatClampNeg n.toNatClampNeg))) : At E M d Q pc ls (.int n :: .int dp :: zr E a :: .int sp :: zr E a0 :: st) σ := by
  subst hp
  intro p e s m args below meth c H locs la hX hP hS hla
  have ht := hX.2.2.2.2.2.2.1
  have hlt0 : a0 < 125 := kd_lt (by rw [hk0]; exact (by decide : (11 : Nat) ≠ 99))
  have hlt : a < 125 := kd_lt (by rw [hk1]; exact (by decide : (11 : Nat) ≠ 99))
  refine va_copyi hX.1 hX.2.1 (hX.2.2.1.trans hla.1.symm) hX.2.2.2.2.2.1 (ht _ hl) (ht _ hnat) (ht _ hs) (ht _ hi) hX.2.2.2.2.2.2.2 hP (zW_D E σ) hS a0 a 0 0 ((zW_get E σ hlt0).trans (by rw [zC_int hk0])) ((zW_get E σ hlt).trans (by rw [zC_int hk1])) rfl rfl rfl h1 h2 h3 h4 h5 (fun _ _ => rfl) (by show 1 ≤ d + 1; omega) (by
    have hw : nativeFrameWords "java/lang/System" "arraycopy" 5 ≤ 30 := by decide +kernel
    show _ ≤ 64 * (d + 1)
    omega) hd (fun H1 locs1 hP1 hD1 hS1 => ?_)
  rw [zW_set E (σ := σ) (τ := sf σ a (va_cpy (σ.1 a0) (σ.1 a) sp.toNatClampNeg dp.toNatClampNeg n.toNatClampNeg)) hlt (fun y hy => ⟨by simp [sf, zu, hy], rfl, rfl⟩) (by rw [zC_int hk1]; simp [sf, zu])] at hP1
  exact k p e s m args below meth c H1 locs1 la hX hP1 hS1 hla
/-- calls -/
def zCal (M : zY) (n : Nat) : Prop := Cond.code M.1 M.2.1 M.2.2.1 M.2.2.2 ∈ zTb ∧ Cond.initialized M.1.cls ∈ zTb ∧ (M.1.cls ≠ "java/lang/invoke/MethodHandle" ∧ M.1.cls ≠ "java/lang/invoke/VarHandle") ∧ (parseMethodDescriptor M.1.desc).map (fun d => d.parameters.length) = some n ∧ M.2.2.1 ≤ 45
def zCalV (M : zY) (n ci : Nat) : Prop := zCal M n ∧ Cond.instanceMethod M.1 ∈ zTb ∧ Cond.selects M.1.cls M.1 M.1 ∈ zTb ∧ ci ≤ 10 ∧ ∃ (T : u_T) (N : Nat), vwCl[ci]? = some (M.1.cls, T, N)
def zCalS (M : zY) (n : Nat) : Prop := zCal M n ∧ Cond.static M.1 ∈ zTb
theorem z_after {p : Program} {e : Env} {s : State} {m : MethodId} {args : Array Value} {below : List Frame} {meth : Method} {c : Code} {H : Heap} {locs : List Loc} {la : Array Slot} {R : Room} {Z : State → Prop} {Q' : Option Value → zM → Prop} {st0 rest : List Value} {a : Array Value} {H0 : Heap}
    (hr : va_Run p E.1 e R s m args below meth c H locs 0 0 0 0 (F0 m pc la st0) rest (zQ E Q' a) (zA E)) (hS : va_S (zA E) H0 H locs)
    (kk : ∀ (v : Option Value) (τ : zM) (H1 : Heap) (locs1 : List Loc), Q' v τ → va_P (zD E) vwCl (zW E τ) H1 → va_S (zA E) H0 H1 locs1 → W p E.1 e R s m args below meth c H1 locs1 0 0 Z (F0 m (pc + 3) la (v.toList ++ rest))) : W p E.1 e R s m args below meth c H locs 0 0 Z (F0 m pc la st0) := by
  intro T hT X
  obtain ⟨v, st₀, t, T', L, h0, X', hL, e1, e2, ⟨⟨v', τ, hv, hq, hP, hK⟩, hz, hk⟩, stp⟩ := hr T hT X
  cases hv
  rw [h0] at hz hk
  obtain ⟨t2, a1, b1⟩ := kk v τ T'.heap (locs ++ L) hq (by rw [e1]; exact hP)
    ⟨Nat.le_trans hS.1 (by rw [e1]; exact hz), fun q h1 h2 => by rw [e1, hk q (Nat.lt_of_lt_of_le h1 hS.1) h2]; exact hS.2.1 q h1 h2, fun q hq => by
      rcases List.mem_append.mp hq with h | h
      · exact hS.2.2 q h
      · exact hL q h⟩ T' rfl X'
  exact ⟨t2, stp t2 a1, b1⟩
theorem z_pay' {s : State} {args : Array Value} {M' : zY} (hc : Cond.code M'.1 M'.2.1 M'.2.2.1 M'.2.2.2 ∈ zTb) (hts : ∀ w ∈ zTb, w.before args s = true) : ∀ w ∈ zws M', ∀ (a' : Array Value) (U : State), s.WarmedH U.vm → w.before a' U = true := by
  intro w hw
  rcases List.mem_cons.mp hw with rfl | h
  · exact z_pay hts _ hc
  · exact z_pay hts _ h
theorem z_callV (pc' : Nat) {M' : zY} {idx n ci a : Nat} {As rest : List Value} {Q' : Option Value → zM → Prop} (hR : Ret E M' d (zr E a :: As) σ Q') (hc : zCalV M' n ci) (hd : decode M.2.1 pc = .ok (.invokevirtual idx, 3)) (hp : pc + 3 = pc') (hl : Cond.methodLink M.1.cls idx M'.1 ∈ zTb) (hk : (kd a).1 = ci) (hn : As.length = n) (hst : st = As.reverse ++ zr E a :: rest) (hw : (rest.map fun v => v.category).sum ≤ 8)
    (k : ∀ (v : Option Value) (τ : zM), Q' v τ → At E M (d + 1) Q pc' ls (v.toList ++ rest) τ) : At E M (d + 1) Q pc ls st σ := by
  subst hp
  intro p e s m args below meth c H locs la hX hP hS hla
  obtain ⟨⟨c1, c2, c3, c4, c5⟩, c6, c7, c8, T, N, c9⟩ := hc
  have ht := hX.2.2.2.2.2.2.1
  have hlt : a < 125 := kd_lt (by omega)
  refine z_after (st0 := st) (rest := rest) (va_runV (Ts := zTb) (As := As) (b := E.2.1 + a) (n := n) ⟨hX.1, hX.2.1, hX.2.2.1, hX.2.2.2.2.2.1, ht⟩ hR ⟨⟨rfl, rfl, Nat.le_refl _, by show 8 + (M'.2.2.1 + 11) + 64 * (d + 1) ≤ 64 * (d + 1 + 1); omega, z_pay' c1 ht, List.mem_cons_self, ht _ c1, ht _ c2, c3, fun sig h => by rw [h] at c4; exact (Option.some.inj c4).symm, ht _ hl⟩, ht _ c6, ht _ c7⟩ ⟨z_blind _ _ _, va_recv hX.2.2.2.2.2.2.2 hP c9 ((zW_get E σ hlt).trans (by rw [zC_obj hk c8])), fun U hU hW => ⟨rfl, by rw [hU]; exact hP, va_K.moved hW.alike hX.2.2.2.2.2.2.2⟩⟩ rfl hn hla.1 hst (lv_room hw) hd ⟨Nat.le_refl 0, Nat.le_refl 0⟩) hS (fun v τ H1 locs1 hq hP1 hS1 => ?_)
  exact k v τ hq p e s m args below meth c H1 locs1 la hX hP1 hS1 hla
theorem z_callVN (pc' : Nat) {M' : zY} {idx n ci a : Nat} {host : String} {As rest : List Value} {Q' : Option Value → zM → Prop} (hR : Ret E M' d (zr E a :: As) σ Q') (hc : zCalV M' n ci) (hd : decode M.2.1 pc = .ok (.invokevirtual idx, 3)) (hp : pc + 3 = pc') (hl : Cond.methodLinkNest M.1.cls idx M'.1 host ∈ zTb) (hk : (kd a).1 = ci) (hn : As.length = n) (hst : st = As.reverse ++ zr E a :: rest) (hw : (rest.map fun v => v.category).sum ≤ 8)
    (k : ∀ (v : Option Value) (τ : zM), Q' v τ → At E M (d + 1) Q pc' ls (v.toList ++ rest) τ) : At E M (d + 1) Q pc ls st σ := by
  subst hp
  intro p e s m args below meth c H locs la hX hP hS hla
  obtain ⟨⟨c1, c2, c3, c4, c5⟩, c6, c7, c8, T, N, c9⟩ := hc
  have ht := hX.2.2.2.2.2.2.1
  have hlt : a < 125 := kd_lt (by omega)
  refine z_after (st0 := st) (rest := rest) (va_runVN (Ts := zTb) (As := As) (b := E.2.1 + a) (n := n) (host := host) ⟨hX.1, hX.2.1, hX.2.2.1, hX.2.2.2.2.2.1, ht⟩ hR ⟨⟨⟨rfl, rfl, Nat.le_refl _, by show 8 + (M'.2.2.1 + 11) + 64 * (d + 1) ≤ 64 * (d + 1 + 1); omega, z_pay' c1 ht, List.mem_cons_self⟩, ht _ c1, ht _ c2, c3, fun sig h => by rw [h] at c4; exact (Option.some.inj c4).symm, ht _ hl⟩, ht _ c6, ht _ c7⟩ ⟨z_blind _ _ _, va_recv hX.2.2.2.2.2.2.2 hP c9 ((zW_get E σ hlt).trans (by rw [zC_obj hk c8])), fun U hU hW => ⟨rfl, by rw [hU]; exact hP, va_K.moved hW.alike hX.2.2.2.2.2.2.2⟩⟩ rfl hn hla.1 hst (lv_room hw) hd ⟨Nat.le_refl 0, Nat.le_refl 0⟩) hS (fun v τ H1 locs1 hq hP1 hS1 => ?_)
  exact k v τ hq p e s m args below meth c H1 locs1 la hX hP1 hS1 hla
theorem z_callS (pc' : Nat) {M' : zY} {idx n : Nat} {As rest : List Value} {Q' : Option Value → zM → Prop} (hR : Ret E M' d As σ Q') (hc : zCalS M' n) (hd : decode M.2.1 pc = .ok (.invokestatic idx, 3)) (hp : pc + 3 = pc') (hl : Cond.methodLink M.1.cls idx M'.1 ∈ zTb) (hn : As.length = n) (hst : st = As.reverse ++ rest) (hw : (rest.map fun v => v.category).sum ≤ 8)
    (k : ∀ (v : Option Value) (τ : zM), Q' v τ → At E M (d + 1) Q pc' ls (v.toList ++ rest) τ) : At E M (d + 1) Q pc ls st σ := by
  subst hp
  intro p e s m args below meth c H locs la hX hP hS hla
  obtain ⟨⟨c1, c2, c3, c4, c5⟩, c6⟩ := hc
  have ht := hX.2.2.2.2.2.2.1
  refine z_after (st0 := st) (rest := rest) (va_runS (Ts := zTb) (As := As) (n := n) ⟨hX.1, hX.2.1, hX.2.2.1, hX.2.2.2.2.2.1, ht⟩ hR ⟨⟨rfl, rfl, Nat.le_refl _, by show 8 + (M'.2.2.1 + 11) + 64 * (d + 1) ≤ 64 * (d + 1 + 1); omega, z_pay' c1 ht, List.mem_cons_self, ht _ c1, ht _ c2, c3, fun sig h => by rw [h] at c4; exact (Option.some.inj c4).symm, ht _ hl⟩, ht _ c6⟩ ⟨z_blind _ _ _, fun U hU hW => ⟨rfl, by rw [hU]; exact hP, va_K.moved hW.alike hX.2.2.2.2.2.2.2⟩⟩ rfl hn hla.1 hst (lv_room hw) hd ⟨Nat.le_refl 0, Nat.le_refl 0⟩) hS (fun v τ H1 locs1 hq hP1 hS1 => ?_)
  exact k v τ hq p e s m args below meth c H1 locs1 la hX hP1 hS1 hla
theorem z_callSN (pc' : Nat) {M' : zY} {idx n : Nat} {host : String} {As rest : List Value} {Q' : Option Value → zM → Prop} (hR : Ret E M' d As σ Q') (hc : zCalS M' n) (hd : decode M.2.1 pc = .ok (.invokestatic idx, 3)) (hp : pc + 3 = pc') (hl : Cond.methodLinkNest M.1.cls idx M'.1 host ∈ zTb) (hn : As.length = n) (hst : st = As.reverse ++ rest) (hw : (rest.map fun v => v.category).sum ≤ 8)
    (k : ∀ (v : Option Value) (τ : zM), Q' v τ → At E M (d + 1) Q pc' ls (v.toList ++ rest) τ) : At E M (d + 1) Q pc ls st σ := by
  subst hp
  intro p e s m args below meth c H locs la hX hP hS hla
  obtain ⟨⟨c1, c2, c3, c4, c5⟩, c6⟩ := hc
  have ht := hX.2.2.2.2.2.2.1
  refine z_after (st0 := st) (rest := rest) (va_runSN (Ts := zTb) (As := As) (n := n) (host := host) ⟨hX.1, hX.2.1, hX.2.2.1, hX.2.2.2.2.2.1, ht⟩ hR ⟨⟨⟨rfl, rfl, Nat.le_refl _, by show 8 + (M'.2.2.1 + 11) + 64 * (d + 1) ≤ 64 * (d + 1 + 1); omega, z_pay' c1 ht, List.mem_cons_self⟩, ht _ c1, ht _ c2, c3, fun sig h => by rw [h] at c4; exact (Option.some.inj c4).symm, ht _ hl⟩, ht _ c6, trivial⟩ ⟨z_blind _ _ _, fun U hU hW => ⟨rfl, by rw [hU]; exact hP, va_K.moved hW.alike hX.2.2.2.2.2.2.2⟩⟩ rfl hn hla.1 hst (lv_room hw) hd ⟨Nat.le_refl 0, Nat.le_refl 0⟩) hS (fun v τ H1 locs1 hq hP1 hS1 => ?_)
  exact k v τ hq p e s m args below meth c H1 locs1 la hX hP1 hS1 hla
end Rows2
end
