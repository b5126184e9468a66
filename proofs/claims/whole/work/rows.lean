section
-- ===== PART A: goes FIRST, ahead of the names: the tables' words, and 'selects' of the private methods out of them =====
/-- a private method of a class that the tables say can be made, by its rows of tables_1 -/
def lw_okq (q : MethodName × Nat) : Prop := (q.1.cls ≠ "java/lang/invoke/MethodHandle" ∧ q.1.cls ≠ "java/lang/invoke/VarHandle") ∧ Cond.instantiable q.1.cls q.2 ∈ tables_1 ∧ Cond.privateMethod q.1 ∈ tables_1 ∧ Cond.instanceMethod q.1 ∈ tables_1
theorem lw_p0 : lw_okq (⟨"PadRound", "boxCounts", "(I)Z"⟩, 13) := ⟨⟨by decide +kernel, by decide +kernel⟩, List.mem_of_getElem? (i := 16) (by decide +kernel), List.mem_of_getElem? (i := 421) (by decide +kernel), List.mem_of_getElem? (i := 422) (by decide +kernel)⟩
theorem lw_p1 : lw_okq (⟨"PadRound", "isWord", "(I)Z"⟩, 13) := ⟨⟨by decide +kernel, by decide +kernel⟩, List.mem_of_getElem? (i := 16) (by decide +kernel), List.mem_of_getElem? (i := 425) (by decide +kernel), List.mem_of_getElem? (i := 426) (by decide +kernel)⟩
theorem lw_p2 : lw_okq (⟨"PadRound", "seatPlayer", "(IIIII)V"⟩, 13) := ⟨⟨by decide +kernel, by decide +kernel⟩, List.mem_of_getElem? (i := 16) (by decide +kernel), List.mem_of_getElem? (i := 437) (by decide +kernel), List.mem_of_getElem? (i := 438) (by decide +kernel)⟩
theorem lw_p3 : lw_okq (⟨"PadRound", "isPlayer", "(I)Z"⟩, 13) := ⟨⟨by decide +kernel, by decide +kernel⟩, List.mem_of_getElem? (i := 16) (by decide +kernel), List.mem_of_getElem? (i := 441) (by decide +kernel), List.mem_of_getElem? (i := 442) (by decide +kernel)⟩
theorem lw_p4 : lw_okq (⟨"PadRound$Drawing", "add", "(I)V"⟩, 2) := ⟨⟨by decide +kernel, by decide +kernel⟩, List.mem_of_getElem? (i := 60) (by decide +kernel), List.mem_of_getElem? (i := 466) (by decide +kernel), List.mem_of_getElem? (i := 467) (by decide +kernel)⟩
theorem lw_p5 : lw_okq (⟨"PadRound", "guessFirstPart", "(LPadRound$Player;)V"⟩, 13) := ⟨⟨by decide +kernel, by decide +kernel⟩, List.mem_of_getElem? (i := 16) (by decide +kernel), List.mem_of_getElem? (i := 487) (by decide +kernel), List.mem_of_getElem? (i := 488) (by decide +kernel)⟩
theorem lw_p6 : lw_okq (⟨"PadRound$Shares", "sumOf", "(LPadRound$Player;LPadRound$Drawing;LPadRound$Player;I)I"⟩, 4) := ⟨⟨by decide +kernel, by decide +kernel⟩, List.mem_of_getElem? (i := 79) (by decide +kernel), List.mem_of_getElem? (i := 499) (by decide +kernel), List.mem_of_getElem? (i := 500) (by decide +kernel)⟩
theorem lw_p7 : lw_okq (⟨"PadRound$Shares", "share", "(I)V"⟩, 4) := ⟨⟨by decide +kernel, by decide +kernel⟩, List.mem_of_getElem? (i := 79) (by decide +kernel), List.mem_of_getElem? (i := 512) (by decide +kernel), List.mem_of_getElem? (i := 513) (by decide +kernel)⟩
theorem lw_p8 : lw_okq (⟨"PadRound", "handsRead", "(LPadRound$Player;)I"⟩, 13) := ⟨⟨by decide +kernel, by decide +kernel⟩, List.mem_of_getElem? (i := 16) (by decide +kernel), List.mem_of_getElem? (i := 520) (by decide +kernel), List.mem_of_getElem? (i := 521) (by decide +kernel)⟩
theorem lw_p9 : lw_okq (⟨"PadRound", "isDrawer", "(I)Z"⟩, 13) := ⟨⟨by decide +kernel, by decide +kernel⟩, List.mem_of_getElem? (i := 16) (by decide +kernel), List.mem_of_getElem? (i := 537) (by decide +kernel), List.mem_of_getElem? (i := 538) (by decide +kernel)⟩
theorem lw_p10 : lw_okq (⟨"PadRound", "drawer", "(I)LPadRound$Player;"⟩, 13) := ⟨⟨by decide +kernel, by decide +kernel⟩, List.mem_of_getElem? (i := 16) (by decide +kernel), List.mem_of_getElem? (i := 554) (by decide +kernel), List.mem_of_getElem? (i := 555) (by decide +kernel)⟩
theorem lw_p11 : lw_okq (⟨"PadRound", "tableFault", "(I)I"⟩, 13) := ⟨⟨by decide +kernel, by decide +kernel⟩, List.mem_of_getElem? (i := 16) (by decide +kernel), List.mem_of_getElem? (i := 566) (by decide +kernel), List.mem_of_getElem? (i := 567) (by decide +kernel)⟩
theorem lw_p12 : lw_okq (⟨"PadRound", "seatTable", "(I)V"⟩, 13) := ⟨⟨by decide +kernel, by decide +kernel⟩, List.mem_of_getElem? (i := 16) (by decide +kernel), List.mem_of_getElem? (i := 571) (by decide +kernel), List.mem_of_getElem? (i := 572) (by decide +kernel)⟩
theorem lw_p13 : lw_okq (⟨"PadRound", "learnStep", "(II)V"⟩, 13) := ⟨⟨by decide +kernel, by decide +kernel⟩, List.mem_of_getElem? (i := 16) (by decide +kernel), List.mem_of_getElem? (i := 581) (by decide +kernel), List.mem_of_getElem? (i := 582) (by decide +kernel)⟩
theorem lw_p14 : lw_okq (⟨"PadRound$Round", "begin", "(I)V"⟩, 8) := ⟨⟨by decide +kernel, by decide +kernel⟩, List.mem_of_getElem? (i := 101) (by decide +kernel), List.mem_of_getElem? (i := 594) (by decide +kernel), List.mem_of_getElem? (i := 595) (by decide +kernel)⟩
theorem lw_p15 : lw_okq (⟨"PadRound$Round", "stepBase", "(II)I"⟩, 8) := ⟨⟨by decide +kernel, by decide +kernel⟩, List.mem_of_getElem? (i := 101) (by decide +kernel), List.mem_of_getElem? (i := 598) (by decide +kernel), List.mem_of_getElem? (i := 599) (by decide +kernel)⟩
def lw_privs_1 : List (MethodName × Nat) := [(⟨"PadRound", "boxCounts", "(I)Z"⟩, 13), (⟨"PadRound", "isWord", "(I)Z"⟩, 13), (⟨"PadRound", "seatPlayer", "(IIIII)V"⟩, 13), (⟨"PadRound", "isPlayer", "(I)Z"⟩, 13), (⟨"PadRound$Drawing", "add", "(I)V"⟩, 2), (⟨"PadRound", "guessFirstPart", "(LPadRound$Player;)V"⟩, 13), (⟨"PadRound$Shares", "sumOf", "(LPadRound$Player;LPadRound$Drawing;LPadRound$Player;I)I"⟩, 4), (⟨"PadRound$Shares", "share", "(I)V"⟩, 4), (⟨"PadRound", "handsRead", "(LPadRound$Player;)I"⟩, 13), (⟨"PadRound", "isDrawer", "(I)Z"⟩, 13), (⟨"PadRound", "drawer", "(I)LPadRound$Player;"⟩, 13), (⟨"PadRound", "tableFault", "(I)I"⟩, 13), (⟨"PadRound", "seatTable", "(I)V"⟩, 13), (⟨"PadRound", "learnStep", "(II)V"⟩, 13), (⟨"PadRound$Round", "begin", "(I)V"⟩, 8), (⟨"PadRound$Round", "stepBase", "(II)I"⟩, 8)]
theorem lw_r1 : ∀ q ∈ lw_privs_1, lw_okq q := List.forall_mem_cons.mpr ⟨lw_p0, List.forall_mem_cons.mpr ⟨lw_p1, List.forall_mem_cons.mpr ⟨lw_p2, List.forall_mem_cons.mpr ⟨lw_p3, List.forall_mem_cons.mpr ⟨lw_p4, List.forall_mem_cons.mpr ⟨lw_p5, List.forall_mem_cons.mpr ⟨lw_p6, List.forall_mem_cons.mpr ⟨lw_p7, List.forall_mem_cons.mpr ⟨lw_p8, List.forall_mem_cons.mpr ⟨lw_p9, List.forall_mem_cons.mpr ⟨lw_p10, List.forall_mem_cons.mpr ⟨lw_p11, List.forall_mem_cons.mpr ⟨lw_p12, List.forall_mem_cons.mpr ⟨lw_p13, List.forall_mem_cons.mpr ⟨lw_p14, List.forall_mem_cons.mpr ⟨lw_p15, fun _ h => absurd h List.not_mem_nil⟩⟩⟩⟩⟩⟩⟩⟩⟩⟩⟩⟩⟩⟩⟩⟩
theorem lw_p16 : lw_okq (⟨"PadRound$Round", "pass", "(I)V"⟩, 8) := ⟨⟨by decide +kernel, by decide +kernel⟩, List.mem_of_getElem? (i := 101) (by decide +kernel), List.mem_of_getElem? (i := 602) (by decide +kernel), List.mem_of_getElem? (i := 603) (by decide +kernel)⟩
theorem lw_p17 : lw_okq (⟨"PadRound", "padsFault", "(II)I"⟩, 13) := ⟨⟨by decide +kernel, by decide +kernel⟩, List.mem_of_getElem? (i := 16) (by decide +kernel), List.mem_of_getElem? (i := 647) (by decide +kernel), List.mem_of_getElem? (i := 648) (by decide +kernel)⟩
theorem lw_p18 : lw_okq (⟨"PadRound", "learnAllSteps", "()V"⟩, 13) := ⟨⟨by decide +kernel, by decide +kernel⟩, List.mem_of_getElem? (i := 16) (by decide +kernel), List.mem_of_getElem? (i := 656) (by decide +kernel), List.mem_of_getElem? (i := 657) (by decide +kernel)⟩
theorem lw_p19 : lw_okq (⟨"PadRound$Round", "sortOthers", "()V"⟩, 8) := ⟨⟨by decide +kernel, by decide +kernel⟩, List.mem_of_getElem? (i := 101) (by decide +kernel), List.mem_of_getElem? (i := 664) (by decide +kernel), List.mem_of_getElem? (i := 665) (by decide +kernel)⟩
theorem lw_p20 : lw_okq (⟨"PadRound$Round", "keptBy", "(LPadRound$Sheet;)J"⟩, 8) := ⟨⟨by decide +kernel, by decide +kernel⟩, List.mem_of_getElem? (i := 101) (by decide +kernel), List.mem_of_getElem? (i := 672) (by decide +kernel), List.mem_of_getElem? (i := 673) (by decide +kernel)⟩
theorem lw_p21 : lw_okq (⟨"PadRound", "shareBySet", "(LPadRound$Player;II)I"⟩, 13) := ⟨⟨by decide +kernel, by decide +kernel⟩, List.mem_of_getElem? (i := 16) (by decide +kernel), List.mem_of_getElem? (i := 687) (by decide +kernel), List.mem_of_getElem? (i := 688) (by decide +kernel)⟩
theorem lw_p22 : lw_okq (⟨"PadRound$Watch", "knownFrom", "()I"⟩, 6) := ⟨⟨by decide +kernel, by decide +kernel⟩, List.mem_of_getElem? (i := 139) (by decide +kernel), List.mem_of_getElem? (i := 720) (by decide +kernel), List.mem_of_getElem? (i := 721) (by decide +kernel)⟩
theorem lw_p23 : lw_okq (⟨"PadRound$Watch", "keepOrder", "()V"⟩, 6) := ⟨⟨by decide +kernel, by decide +kernel⟩, List.mem_of_getElem? (i := 139) (by decide +kernel), List.mem_of_getElem? (i := 724) (by decide +kernel), List.mem_of_getElem? (i := 725) (by decide +kernel)⟩
theorem lw_p24 : lw_okq (⟨"PadRound", "addLeaf", "(ZIIII)I"⟩, 13) := ⟨⟨by decide +kernel, by decide +kernel⟩, List.mem_of_getElem? (i := 16) (by decide +kernel), List.mem_of_getElem? (i := 750) (by decide +kernel), List.mem_of_getElem? (i := 751) (by decide +kernel)⟩
theorem lw_p25 : lw_okq (⟨"PadRound", "leavesOf", "(IZ)I"⟩, 13) := ⟨⟨by decide +kernel, by decide +kernel⟩, List.mem_of_getElem? (i := 16) (by decide +kernel), List.mem_of_getElem? (i := 780) (by decide +kernel), List.mem_of_getElem? (i := 781) (by decide +kernel)⟩
theorem lw_p26 : lw_okq (⟨"PadRound", "handOff", "(II)I"⟩, 13) := ⟨⟨by decide +kernel, by decide +kernel⟩, List.mem_of_getElem? (i := 16) (by decide +kernel), List.mem_of_getElem? (i := 788) (by decide +kernel), List.mem_of_getElem? (i := 789) (by decide +kernel)⟩
theorem lw_p27 : lw_okq (⟨"PadRound", "likelihood", "(II)J"⟩, 13) := ⟨⟨by decide +kernel, by decide +kernel⟩, List.mem_of_getElem? (i := 16) (by decide +kernel), List.mem_of_getElem? (i := 806) (by decide +kernel), List.mem_of_getElem? (i := 807) (by decide +kernel)⟩
theorem lw_p28 : lw_okq (⟨"PadRound", "nearestLeaf", "(II)I"⟩, 13) := ⟨⟨by decide +kernel, by decide +kernel⟩, List.mem_of_getElem? (i := 16) (by decide +kernel), List.mem_of_getElem? (i := 814) (by decide +kernel), List.mem_of_getElem? (i := 815) (by decide +kernel)⟩
theorem lw_p29 : lw_okq (⟨"PadRound", "guessLeaves", "()I"⟩, 13) := ⟨⟨by decide +kernel, by decide +kernel⟩, List.mem_of_getElem? (i := 16) (by decide +kernel), List.mem_of_getElem? (i := 822) (by decide +kernel), List.mem_of_getElem? (i := 823) (by decide +kernel)⟩
theorem lw_p30 : lw_okq (⟨"PadRound", "shortenSign", "(III)V"⟩, 13) := ⟨⟨by decide +kernel, by decide +kernel⟩, List.mem_of_getElem? (i := 16) (by decide +kernel), List.mem_of_getElem? (i := 830) (by decide +kernel), List.mem_of_getElem? (i := 831) (by decide +kernel)⟩
theorem lw_p31 : lw_okq (⟨"PadRound", "imageFault", "(LPadRound$Sheet;)I"⟩, 13) := ⟨⟨by decide +kernel, by decide +kernel⟩, List.mem_of_getElem? (i := 16) (by decide +kernel), List.mem_of_getElem? (i := 850) (by decide +kernel), List.mem_of_getElem? (i := 851) (by decide +kernel)⟩
def lw_privs_2 : List (MethodName × Nat) := [(⟨"PadRound$Round", "pass", "(I)V"⟩, 8), (⟨"PadRound", "padsFault", "(II)I"⟩, 13), (⟨"PadRound", "learnAllSteps", "()V"⟩, 13), (⟨"PadRound$Round", "sortOthers", "()V"⟩, 8), (⟨"PadRound$Round", "keptBy", "(LPadRound$Sheet;)J"⟩, 8), (⟨"PadRound", "shareBySet", "(LPadRound$Player;II)I"⟩, 13), (⟨"PadRound$Watch", "knownFrom", "()I"⟩, 6), (⟨"PadRound$Watch", "keepOrder", "()V"⟩, 6), (⟨"PadRound", "addLeaf", "(ZIIII)I"⟩, 13), (⟨"PadRound", "leavesOf", "(IZ)I"⟩, 13), (⟨"PadRound", "handOff", "(II)I"⟩, 13), (⟨"PadRound", "likelihood", "(II)J"⟩, 13), (⟨"PadRound", "nearestLeaf", "(II)I"⟩, 13), (⟨"PadRound", "guessLeaves", "()I"⟩, 13), (⟨"PadRound", "shortenSign", "(III)V"⟩, 13), (⟨"PadRound", "imageFault", "(LPadRound$Sheet;)I"⟩, 13)]
theorem lw_r2 : ∀ q ∈ lw_privs_2, lw_okq q := List.forall_mem_cons.mpr ⟨lw_p16, List.forall_mem_cons.mpr ⟨lw_p17, List.forall_mem_cons.mpr ⟨lw_p18, List.forall_mem_cons.mpr ⟨lw_p19, List.forall_mem_cons.mpr ⟨lw_p20, List.forall_mem_cons.mpr ⟨lw_p21, List.forall_mem_cons.mpr ⟨lw_p22, List.forall_mem_cons.mpr ⟨lw_p23, List.forall_mem_cons.mpr ⟨lw_p24, List.forall_mem_cons.mpr ⟨lw_p25, List.forall_mem_cons.mpr ⟨lw_p26, List.forall_mem_cons.mpr ⟨lw_p27, List.forall_mem_cons.mpr ⟨lw_p28, List.forall_mem_cons.mpr ⟨lw_p29, List.forall_mem_cons.mpr ⟨lw_p30, List.forall_mem_cons.mpr ⟨lw_p31, fun _ h => absurd h List.not_mem_nil⟩⟩⟩⟩⟩⟩⟩⟩⟩⟩⟩⟩⟩⟩⟩⟩
theorem lw_p32 : lw_okq (⟨"PadRound", "sloppyPlayers", "()I"⟩, 13) := ⟨⟨by decide +kernel, by decide +kernel⟩, List.mem_of_getElem? (i := 16) (by decide +kernel), List.mem_of_getElem? (i := 871) (by decide +kernel), List.mem_of_getElem? (i := 872) (by decide +kernel)⟩
theorem lw_p33 : lw_okq (⟨"PadRoundModel", "meets", "(I)I"⟩, 39) := ⟨⟨by decide +kernel, by decide +kernel⟩, List.mem_of_getElem? (i := 903) (by decide +kernel), List.mem_of_getElem? (i := 1037) (by decide +kernel), List.mem_of_getElem? (i := 1038) (by decide +kernel)⟩
theorem lw_p34 : lw_okq (⟨"PadRoundModel", "setRow", "(III)V"⟩, 39) := ⟨⟨by decide +kernel, by decide +kernel⟩, List.mem_of_getElem? (i := 903) (by decide +kernel), List.mem_of_getElem? (i := 1041) (by decide +kernel), List.mem_of_getElem? (i := 1042) (by decide +kernel)⟩
theorem lw_p35 : lw_okq (⟨"PadRoundModel", "askedRow", "(I)I"⟩, 39) := ⟨⟨by decide +kernel, by decide +kernel⟩, List.mem_of_getElem? (i := 903) (by decide +kernel), List.mem_of_getElem? (i := 1049) (by decide +kernel), List.mem_of_getElem? (i := 1050) (by decide +kernel)⟩
theorem lw_p36 : lw_okq (⟨"PadRoundModel", "rowAt", "(II)I"⟩, 39) := ⟨⟨by decide +kernel, by decide +kernel⟩, List.mem_of_getElem? (i := 903) (by decide +kernel), List.mem_of_getElem? (i := 1053) (by decide +kernel), List.mem_of_getElem? (i := 1054) (by decide +kernel)⟩
theorem lw_p37 : lw_okq (⟨"PadRoundModel", "ask", "(II)I"⟩, 39) := ⟨⟨by decide +kernel, by decide +kernel⟩, List.mem_of_getElem? (i := 903) (by decide +kernel), List.mem_of_getElem? (i := 1057) (by decide +kernel), List.mem_of_getElem? (i := 1058) (by decide +kernel)⟩
theorem lw_p38 : lw_okq (⟨"PadRoundModel", "askedText", "(I)I"⟩, 39) := ⟨⟨by decide +kernel, by decide +kernel⟩, List.mem_of_getElem? (i := 903) (by decide +kernel), List.mem_of_getElem? (i := 1089) (by decide +kernel), List.mem_of_getElem? (i := 1090) (by decide +kernel)⟩
theorem lw_p39 : lw_okq (⟨"PadRoundModel", "goesOn", "(I)I"⟩, 39) := ⟨⟨by decide +kernel, by decide +kernel⟩, List.mem_of_getElem? (i := 903) (by decide +kernel), List.mem_of_getElem? (i := 1097) (by decide +kernel), List.mem_of_getElem? (i := 1098) (by decide +kernel)⟩
theorem lw_p40 : lw_okq (⟨"PadRoundModel", "here", "(I)I"⟩, 39) := ⟨⟨by decide +kernel, by decide +kernel⟩, List.mem_of_getElem? (i := 903) (by decide +kernel), List.mem_of_getElem? (i := 1101) (by decide +kernel), List.mem_of_getElem? (i := 1102) (by decide +kernel)⟩
theorem lw_p41 : lw_okq (⟨"PadRoundModel", "readsWord", "(I)Z"⟩, 39) := ⟨⟨by decide +kernel, by decide +kernel⟩, List.mem_of_getElem? (i := 903) (by decide +kernel), List.mem_of_getElem? (i := 1105) (by decide +kernel), List.mem_of_getElem? (i := 1106) (by decide +kernel)⟩
theorem lw_p42 : lw_okq (⟨"PadRoundModel", "isLand", "(I)Z"⟩, 39) := ⟨⟨by decide +kernel, by decide +kernel⟩, List.mem_of_getElem? (i := 903) (by decide +kernel), List.mem_of_getElem? (i := 1117) (by decide +kernel), List.mem_of_getElem? (i := 1118) (by decide +kernel)⟩
theorem lw_p43 : lw_okq (⟨"PadRoundModel", "isWord", "(I)Z"⟩, 39) := ⟨⟨by decide +kernel, by decide +kernel⟩, List.mem_of_getElem? (i := 903) (by decide +kernel), List.mem_of_getElem? (i := 1121) (by decide +kernel), List.mem_of_getElem? (i := 1122) (by decide +kernel)⟩
theorem lw_p44 : lw_okq (⟨"PadRoundModel", "words", "()I"⟩, 39) := ⟨⟨by decide +kernel, by decide +kernel⟩, List.mem_of_getElem? (i := 903) (by decide +kernel), List.mem_of_getElem? (i := 1125) (by decide +kernel), List.mem_of_getElem? (i := 1126) (by decide +kernel)⟩
theorem lw_p45 : lw_okq (⟨"PadRoundModel", "use", "(III)I"⟩, 39) := ⟨⟨by decide +kernel, by decide +kernel⟩, List.mem_of_getElem? (i := 903) (by decide +kernel), List.mem_of_getElem? (i := 1129) (by decide +kernel), List.mem_of_getElem? (i := 1130) (by decide +kernel)⟩
theorem lw_p46 : lw_okq (⟨"PadRoundModel", "setPlayer", "(IIIII)V"⟩, 39) := ⟨⟨by decide +kernel, by decide +kernel⟩, List.mem_of_getElem? (i := 903) (by decide +kernel), List.mem_of_getElem? (i := 1137) (by decide +kernel), List.mem_of_getElem? (i := 1138) (by decide +kernel)⟩
theorem lw_p47 : lw_okq (⟨"PadRoundModel", "isPlayer", "(I)Z"⟩, 39) := ⟨⟨by decide +kernel, by decide +kernel⟩, List.mem_of_getElem? (i := 903) (by decide +kernel), List.mem_of_getElem? (i := 1145) (by decide +kernel), List.mem_of_getElem? (i := 1146) (by decide +kernel)⟩
def lw_privs_3 : List (MethodName × Nat) := [(⟨"PadRound", "sloppyPlayers", "()I"⟩, 13), (⟨"PadRoundModel", "meets", "(I)I"⟩, 39), (⟨"PadRoundModel", "setRow", "(III)V"⟩, 39), (⟨"PadRoundModel", "askedRow", "(I)I"⟩, 39), (⟨"PadRoundModel", "rowAt", "(II)I"⟩, 39), (⟨"PadRoundModel", "ask", "(II)I"⟩, 39), (⟨"PadRoundModel", "askedText", "(I)I"⟩, 39), (⟨"PadRoundModel", "goesOn", "(I)I"⟩, 39), (⟨"PadRoundModel", "here", "(I)I"⟩, 39), (⟨"PadRoundModel", "readsWord", "(I)Z"⟩, 39), (⟨"PadRoundModel", "isLand", "(I)Z"⟩, 39), (⟨"PadRoundModel", "isWord", "(I)Z"⟩, 39), (⟨"PadRoundModel", "words", "()I"⟩, 39), (⟨"PadRoundModel", "use", "(III)I"⟩, 39), (⟨"PadRoundModel", "setPlayer", "(IIIII)V"⟩, 39), (⟨"PadRoundModel", "isPlayer", "(I)Z"⟩, 39)]
theorem lw_r3 : ∀ q ∈ lw_privs_3, lw_okq q := List.forall_mem_cons.mpr ⟨lw_p32, List.forall_mem_cons.mpr ⟨lw_p33, List.forall_mem_cons.mpr ⟨lw_p34, List.forall_mem_cons.mpr ⟨lw_p35, List.forall_mem_cons.mpr ⟨lw_p36, List.forall_mem_cons.mpr ⟨lw_p37, List.forall_mem_cons.mpr ⟨lw_p38, List.forall_mem_cons.mpr ⟨lw_p39, List.forall_mem_cons.mpr ⟨lw_p40, List.forall_mem_cons.mpr ⟨lw_p41, List.forall_mem_cons.mpr ⟨lw_p42, List.forall_mem_cons.mpr ⟨lw_p43, List.forall_mem_cons.mpr ⟨lw_p44, List.forall_mem_cons.mpr ⟨lw_p45, List.forall_mem_cons.mpr ⟨lw_p46, List.forall_mem_cons.mpr ⟨lw_p47, fun _ h => absurd h List.not_mem_nil⟩⟩⟩⟩⟩⟩⟩⟩⟩⟩⟩⟩⟩⟩⟩⟩
theorem lw_p48 : lw_okq (⟨"PadRoundModel", "tell", "(II)I"⟩, 39) := ⟨⟨by decide +kernel, by decide +kernel⟩, List.mem_of_getElem? (i := 903) (by decide +kernel), List.mem_of_getElem? (i := 1149) (by decide +kernel), List.mem_of_getElem? (i := 1150) (by decide +kernel)⟩
theorem lw_p49 : lw_okq (⟨"PadRoundModel", "isSloppy", "(I)Z"⟩, 39) := ⟨⟨by decide +kernel, by decide +kernel⟩, List.mem_of_getElem? (i := 903) (by decide +kernel), List.mem_of_getElem? (i := 1157) (by decide +kernel), List.mem_of_getElem? (i := 1158) (by decide +kernel)⟩
theorem lw_p50 : lw_okq (⟨"PadRoundModel", "setDrawing", "(II)V"⟩, 39) := ⟨⟨by decide +kernel, by decide +kernel⟩, List.mem_of_getElem? (i := 903) (by decide +kernel), List.mem_of_getElem? (i := 1161) (by decide +kernel), List.mem_of_getElem? (i := 1162) (by decide +kernel)⟩
theorem lw_p51 : lw_okq (⟨"PadRoundModel", "see", "(II)V"⟩, 39) := ⟨⟨by decide +kernel, by decide +kernel⟩, List.mem_of_getElem? (i := 903) (by decide +kernel), List.mem_of_getElem? (i := 1165) (by decide +kernel), List.mem_of_getElem? (i := 1166) (by decide +kernel)⟩
theorem lw_p52 : lw_okq (⟨"PadRoundModel", "seeDrawing", "()V"⟩, 39) := ⟨⟨by decide +kernel, by decide +kernel⟩, List.mem_of_getElem? (i := 903) (by decide +kernel), List.mem_of_getElem? (i := 1169) (by decide +kernel), List.mem_of_getElem? (i := 1170) (by decide +kernel)⟩
theorem lw_p53 : lw_okq (⟨"PadRoundModel", "setShares", "(II)V"⟩, 39) := ⟨⟨by decide +kernel, by decide +kernel⟩, List.mem_of_getElem? (i := 903) (by decide +kernel), List.mem_of_getElem? (i := 1173) (by decide +kernel), List.mem_of_getElem? (i := 1174) (by decide +kernel)⟩
theorem lw_p54 : lw_okq (⟨"PadRoundModel", "sumOf", "(III)I"⟩, 39) := ⟨⟨by decide +kernel, by decide +kernel⟩, List.mem_of_getElem? (i := 903) (by decide +kernel), List.mem_of_getElem? (i := 1177) (by decide +kernel), List.mem_of_getElem? (i := 1178) (by decide +kernel)⟩
theorem lw_p55 : lw_okq (⟨"PadRoundModel", "drawingSet", "(II)I"⟩, 39) := ⟨⟨by decide +kernel, by decide +kernel⟩, List.mem_of_getElem? (i := 903) (by decide +kernel), List.mem_of_getElem? (i := 1181) (by decide +kernel), List.mem_of_getElem? (i := 1182) (by decide +kernel)⟩
theorem lw_p56 : lw_okq (⟨"PadRoundModel", "seeSet", "(I)V"⟩, 39) := ⟨⟨by decide +kernel, by decide +kernel⟩, List.mem_of_getElem? (i := 903) (by decide +kernel), List.mem_of_getElem? (i := 1185) (by decide +kernel), List.mem_of_getElem? (i := 1186) (by decide +kernel)⟩
theorem lw_p57 : lw_okq (⟨"PadRoundModel", "greatest", "()I"⟩, 39) := ⟨⟨by decide +kernel, by decide +kernel⟩, List.mem_of_getElem? (i := 903) (by decide +kernel), List.mem_of_getElem? (i := 1189) (by decide +kernel), List.mem_of_getElem? (i := 1190) (by decide +kernel)⟩
theorem lw_p58 : lw_okq (⟨"PadRoundModel", "rowOf", "(II)I"⟩, 39) := ⟨⟨by decide +kernel, by decide +kernel⟩, List.mem_of_getElem? (i := 903) (by decide +kernel), List.mem_of_getElem? (i := 1197) (by decide +kernel), List.mem_of_getElem? (i := 1198) (by decide +kernel)⟩
theorem lw_p59 : lw_okq (⟨"PadRoundModel", "isBy", "(I)Z"⟩, 39) := ⟨⟨by decide +kernel, by decide +kernel⟩, List.mem_of_getElem? (i := 903) (by decide +kernel), List.mem_of_getElem? (i := 1206) (by decide +kernel), List.mem_of_getElem? (i := 1207) (by decide +kernel)⟩
theorem lw_p60 : lw_okq (⟨"PadRoundModel", "askedDrawn", "(I)I"⟩, 39) := ⟨⟨by decide +kernel, by decide +kernel⟩, List.mem_of_getElem? (i := 903) (by decide +kernel), List.mem_of_getElem? (i := 1210) (by decide +kernel), List.mem_of_getElem? (i := 1211) (by decide +kernel)⟩
theorem lw_p61 : lw_okq (⟨"PadRoundModel", "seeRow", "(II)V"⟩, 39) := ⟨⟨by decide +kernel, by decide +kernel⟩, List.mem_of_getElem? (i := 903) (by decide +kernel), List.mem_of_getElem? (i := 1214) (by decide +kernel), List.mem_of_getElem? (i := 1215) (by decide +kernel)⟩
theorem lw_p62 : lw_okq (⟨"PadRoundModel", "sharesRow", "(I)V"⟩, 39) := ⟨⟨by decide +kernel, by decide +kernel⟩, List.mem_of_getElem? (i := 903) (by decide +kernel), List.mem_of_getElem? (i := 1218) (by decide +kernel), List.mem_of_getElem? (i := 1219) (by decide +kernel)⟩
theorem lw_p63 : lw_okq (⟨"PadRoundModel", "setStep", "(III)V"⟩, 39) := ⟨⟨by decide +kernel, by decide +kernel⟩, List.mem_of_getElem? (i := 903) (by decide +kernel), List.mem_of_getElem? (i := 1226) (by decide +kernel), List.mem_of_getElem? (i := 1227) (by decide +kernel)⟩
def lw_privs_4 : List (MethodName × Nat) := [(⟨"PadRoundModel", "tell", "(II)I"⟩, 39), (⟨"PadRoundModel", "isSloppy", "(I)Z"⟩, 39), (⟨"PadRoundModel", "setDrawing", "(II)V"⟩, 39), (⟨"PadRoundModel", "see", "(II)V"⟩, 39), (⟨"PadRoundModel", "seeDrawing", "()V"⟩, 39), (⟨"PadRoundModel", "setShares", "(II)V"⟩, 39), (⟨"PadRoundModel", "sumOf", "(III)I"⟩, 39), (⟨"PadRoundModel", "drawingSet", "(II)I"⟩, 39), (⟨"PadRoundModel", "seeSet", "(I)V"⟩, 39), (⟨"PadRoundModel", "greatest", "()I"⟩, 39), (⟨"PadRoundModel", "rowOf", "(II)I"⟩, 39), (⟨"PadRoundModel", "isBy", "(I)Z"⟩, 39), (⟨"PadRoundModel", "askedDrawn", "(I)I"⟩, 39), (⟨"PadRoundModel", "seeRow", "(II)V"⟩, 39), (⟨"PadRoundModel", "sharesRow", "(I)V"⟩, 39), (⟨"PadRoundModel", "setStep", "(III)V"⟩, 39)]
theorem lw_r4 : ∀ q ∈ lw_privs_4, lw_okq q := List.forall_mem_cons.mpr ⟨lw_p48, List.forall_mem_cons.mpr ⟨lw_p49, List.forall_mem_cons.mpr ⟨lw_p50, List.forall_mem_cons.mpr ⟨lw_p51, List.forall_mem_cons.mpr ⟨lw_p52, List.forall_mem_cons.mpr ⟨lw_p53, List.forall_mem_cons.mpr ⟨lw_p54, List.forall_mem_cons.mpr ⟨lw_p55, List.forall_mem_cons.mpr ⟨lw_p56, List.forall_mem_cons.mpr ⟨lw_p57, List.forall_mem_cons.mpr ⟨lw_p58, List.forall_mem_cons.mpr ⟨lw_p59, List.forall_mem_cons.mpr ⟨lw_p60, List.forall_mem_cons.mpr ⟨lw_p61, List.forall_mem_cons.mpr ⟨lw_p62, List.forall_mem_cons.mpr ⟨lw_p63, fun _ h => absurd h List.not_mem_nil⟩⟩⟩⟩⟩⟩⟩⟩⟩⟩⟩⟩⟩⟩⟩⟩
theorem lw_p64 : lw_okq (⟨"PadRoundModel", "askedTable", "(I)I"⟩, 39) := ⟨⟨by decide +kernel, by decide +kernel⟩, List.mem_of_getElem? (i := 903) (by decide +kernel), List.mem_of_getElem? (i := 1234) (by decide +kernel), List.mem_of_getElem? (i := 1235) (by decide +kernel)⟩
theorem lw_p65 : lw_okq (⟨"PadRoundModel", "askedSeats", "(I)I"⟩, 39) := ⟨⟨by decide +kernel, by decide +kernel⟩, List.mem_of_getElem? (i := 903) (by decide +kernel), List.mem_of_getElem? (i := 1238) (by decide +kernel), List.mem_of_getElem? (i := 1239) (by decide +kernel)⟩
theorem lw_p66 : lw_okq (⟨"PadRoundModel", "setOdds", "(II)V"⟩, 39) := ⟨⟨by decide +kernel, by decide +kernel⟩, List.mem_of_getElem? (i := 903) (by decide +kernel), List.mem_of_getElem? (i := 1242) (by decide +kernel), List.mem_of_getElem? (i := 1243) (by decide +kernel)⟩
theorem lw_p67 : lw_okq (⟨"PadRoundModel", "steps", "()I"⟩, 39) := ⟨⟨by decide +kernel, by decide +kernel⟩, List.mem_of_getElem? (i := 903) (by decide +kernel), List.mem_of_getElem? (i := 1246) (by decide +kernel), List.mem_of_getElem? (i := 1247) (by decide +kernel)⟩
theorem lw_p68 : lw_okq (⟨"PadRoundModel", "goOn", "(II)V"⟩, 39) := ⟨⟨by decide +kernel, by decide +kernel⟩, List.mem_of_getElem? (i := 903) (by decide +kernel), List.mem_of_getElem? (i := 1250) (by decide +kernel), List.mem_of_getElem? (i := 1251) (by decide +kernel)⟩
theorem lw_p69 : lw_okq (⟨"PadRoundModel", "part", "(JJI)I"⟩, 39) := ⟨⟨by decide +kernel, by decide +kernel⟩, List.mem_of_getElem? (i := 903) (by decide +kernel), List.mem_of_getElem? (i := 1258) (by decide +kernel), List.mem_of_getElem? (i := 1259) (by decide +kernel)⟩
theorem lw_p70 : lw_okq (⟨"PadRoundModel", "askedRound", "(I)I"⟩, 39) := ⟨⟨by decide +kernel, by decide +kernel⟩, List.mem_of_getElem? (i := 903) (by decide +kernel), List.mem_of_getElem? (i := 1266) (by decide +kernel), List.mem_of_getElem? (i := 1267) (by decide +kernel)⟩
theorem lw_p71 : lw_okq (⟨"PadRoundModel", "askedPads", "(II)I"⟩, 39) := ⟨⟨by decide +kernel, by decide +kernel⟩, List.mem_of_getElem? (i := 903) (by decide +kernel), List.mem_of_getElem? (i := 1287) (by decide +kernel), List.mem_of_getElem? (i := 1288) (by decide +kernel)⟩
theorem lw_p72 : lw_okq (⟨"PadRoundModel", "keptOf", "(I)J"⟩, 39) := ⟨⟨by decide +kernel, by decide +kernel⟩, List.mem_of_getElem? (i := 903) (by decide +kernel), List.mem_of_getElem? (i := 1291) (by decide +kernel), List.mem_of_getElem? (i := 1292) (by decide +kernel)⟩
theorem lw_p73 : lw_okq (⟨"PadRoundModel", "sit", "(III)V"⟩, 39) := ⟨⟨by decide +kernel, by decide +kernel⟩, List.mem_of_getElem? (i := 903) (by decide +kernel), List.mem_of_getElem? (i := 1300) (by decide +kernel), List.mem_of_getElem? (i := 1301) (by decide +kernel)⟩
theorem lw_p74 : lw_okq (⟨"PadRoundModel", "setFor", "(III)I"⟩, 39) := ⟨⟨by decide +kernel, by decide +kernel⟩, List.mem_of_getElem? (i := 903) (by decide +kernel), List.mem_of_getElem? (i := 1308) (by decide +kernel), List.mem_of_getElem? (i := 1309) (by decide +kernel)⟩
theorem lw_p75 : lw_okq (⟨"PadRoundModel", "rowSet", "(I)I"⟩, 39) := ⟨⟨by decide +kernel, by decide +kernel⟩, List.mem_of_getElem? (i := 903) (by decide +kernel), List.mem_of_getElem? (i := 1323) (by decide +kernel), List.mem_of_getElem? (i := 1324) (by decide +kernel)⟩
theorem lw_p76 : lw_okq (⟨"PadRoundModel", "watch", "(IIIII)V"⟩, 39) := ⟨⟨by decide +kernel, by decide +kernel⟩, List.mem_of_getElem? (i := 903) (by decide +kernel), List.mem_of_getElem? (i := 1327) (by decide +kernel), List.mem_of_getElem? (i := 1328) (by decide +kernel)⟩
theorem lw_p77 : lw_okq (⟨"PadRoundModel", "knownFrom", "(III)I"⟩, 39) := ⟨⟨by decide +kernel, by decide +kernel⟩, List.mem_of_getElem? (i := 903) (by decide +kernel), List.mem_of_getElem? (i := 1331) (by decide +kernel), List.mem_of_getElem? (i := 1332) (by decide +kernel)⟩
theorem lw_p78 : lw_okq (⟨"PadRoundModel", "newLeaf", "(IIIII)I"⟩, 39) := ⟨⟨by decide +kernel, by decide +kernel⟩, List.mem_of_getElem? (i := 903) (by decide +kernel), List.mem_of_getElem? (i := 1347) (by decide +kernel), List.mem_of_getElem? (i := 1348) (by decide +kernel)⟩
theorem lw_p79 : lw_okq (⟨"PadRoundModel", "leafTells", "(II)I"⟩, 39) := ⟨⟨by decide +kernel, by decide +kernel⟩, List.mem_of_getElem? (i := 903) (by decide +kernel), List.mem_of_getElem? (i := 1359) (by decide +kernel), List.mem_of_getElem? (i := 1360) (by decide +kernel)⟩
def lw_privs_5 : List (MethodName × Nat) := [(⟨"PadRoundModel", "askedTable", "(I)I"⟩, 39), (⟨"PadRoundModel", "askedSeats", "(I)I"⟩, 39), (⟨"PadRoundModel", "setOdds", "(II)V"⟩, 39), (⟨"PadRoundModel", "steps", "()I"⟩, 39), (⟨"PadRoundModel", "goOn", "(II)V"⟩, 39), (⟨"PadRoundModel", "part", "(JJI)I"⟩, 39), (⟨"PadRoundModel", "askedRound", "(I)I"⟩, 39), (⟨"PadRoundModel", "askedPads", "(II)I"⟩, 39), (⟨"PadRoundModel", "keptOf", "(I)J"⟩, 39), (⟨"PadRoundModel", "sit", "(III)V"⟩, 39), (⟨"PadRoundModel", "setFor", "(III)I"⟩, 39), (⟨"PadRoundModel", "rowSet", "(I)I"⟩, 39), (⟨"PadRoundModel", "watch", "(IIIII)V"⟩, 39), (⟨"PadRoundModel", "knownFrom", "(III)I"⟩, 39), (⟨"PadRoundModel", "newLeaf", "(IIIII)I"⟩, 39), (⟨"PadRoundModel", "leafTells", "(II)I"⟩, 39)]
theorem lw_r5 : ∀ q ∈ lw_privs_5, lw_okq q := List.forall_mem_cons.mpr ⟨lw_p64, List.forall_mem_cons.mpr ⟨lw_p65, List.forall_mem_cons.mpr ⟨lw_p66, List.forall_mem_cons.mpr ⟨lw_p67, List.forall_mem_cons.mpr ⟨lw_p68, List.forall_mem_cons.mpr ⟨lw_p69, List.forall_mem_cons.mpr ⟨lw_p70, List.forall_mem_cons.mpr ⟨lw_p71, List.forall_mem_cons.mpr ⟨lw_p72, List.forall_mem_cons.mpr ⟨lw_p73, List.forall_mem_cons.mpr ⟨lw_p74, List.forall_mem_cons.mpr ⟨lw_p75, List.forall_mem_cons.mpr ⟨lw_p76, List.forall_mem_cons.mpr ⟨lw_p77, List.forall_mem_cons.mpr ⟨lw_p78, List.forall_mem_cons.mpr ⟨lw_p79, fun _ h => absurd h List.not_mem_nil⟩⟩⟩⟩⟩⟩⟩⟩⟩⟩⟩⟩⟩⟩⟩⟩
theorem lw_p80 : lw_okq (⟨"PadRoundModel", "leavesOf", "(II)I"⟩, 39) := ⟨⟨by decide +kernel, by decide +kernel⟩, List.mem_of_getElem? (i := 903) (by decide +kernel), List.mem_of_getElem? (i := 1371) (by decide +kernel), List.mem_of_getElem? (i := 1372) (by decide +kernel)⟩
theorem lw_p81 : lw_okq (⟨"PadRoundModel", "isLeafOf", "(III)Z"⟩, 39) := ⟨⟨by decide +kernel, by decide +kernel⟩, List.mem_of_getElem? (i := 903) (by decide +kernel), List.mem_of_getElem? (i := 1375) (by decide +kernel), List.mem_of_getElem? (i := 1376) (by decide +kernel)⟩
theorem lw_p82 : lw_okq (⟨"PadRoundModel", "tryAs", "(II)V"⟩, 39) := ⟨⟨by decide +kernel, by decide +kernel⟩, List.mem_of_getElem? (i := 903) (by decide +kernel), List.mem_of_getElem? (i := 1379) (by decide +kernel), List.mem_of_getElem? (i := 1380) (by decide +kernel)⟩
theorem lw_p83 : lw_okq (⟨"PadRoundModel", "shareByLeaf", "(II)I"⟩, 39) := ⟨⟨by decide +kernel, by decide +kernel⟩, List.mem_of_getElem? (i := 903) (by decide +kernel), List.mem_of_getElem? (i := 1387) (by decide +kernel), List.mem_of_getElem? (i := 1388) (by decide +kernel)⟩
theorem lw_p84 : lw_okq (⟨"PadRoundModel", "takes", "(II)I"⟩, 39) := ⟨⟨by decide +kernel, by decide +kernel⟩, List.mem_of_getElem? (i := 903) (by decide +kernel), List.mem_of_getElem? (i := 1395) (by decide +kernel), List.mem_of_getElem? (i := 1396) (by decide +kernel)⟩
theorem lw_p85 : lw_okq (⟨"PadRoundModel", "setSign", "(IIII)V"⟩, 39) := ⟨⟨by decide +kernel, by decide +kernel⟩, List.mem_of_getElem? (i := 903) (by decide +kernel), List.mem_of_getElem? (i := 1407) (by decide +kernel), List.mem_of_getElem? (i := 1408) (by decide +kernel)⟩
theorem lw_p86 : lw_okq (⟨"PadRoundModel", "isPlayerBy", "(I)Z"⟩, 39) := ⟨⟨by decide +kernel, by decide +kernel⟩, List.mem_of_getElem? (i := 903) (by decide +kernel), List.mem_of_getElem? (i := 1423) (by decide +kernel), List.mem_of_getElem? (i := 1424) (by decide +kernel)⟩
theorem lw_p87 : lw_okq (⟨"PadRoundModel", "counts", "(I)I"⟩, 39) := ⟨⟨by decide +kernel, by decide +kernel⟩, List.mem_of_getElem? (i := 903) (by decide +kernel), List.mem_of_getElem? (i := 1443) (by decide +kernel), List.mem_of_getElem? (i := 1444) (by decide +kernel)⟩
theorem lw_p88 : lw_okq (⟨"PadRoundModel", "mix", "(I)V"⟩, 39) := ⟨⟨by decide +kernel, by decide +kernel⟩, List.mem_of_getElem? (i := 903) (by decide +kernel), List.mem_of_getElem? (i := 1460) (by decide +kernel), List.mem_of_getElem? (i := 1461) (by decide +kernel)⟩
theorem lw_p89 : lw_okq (⟨"PadRoundModel", "mixAll", "()V"⟩, 39) := ⟨⟨by decide +kernel, by decide +kernel⟩, List.mem_of_getElem? (i := 903) (by decide +kernel), List.mem_of_getElem? (i := 1465) (by decide +kernel), List.mem_of_getElem? (i := 1466) (by decide +kernel)⟩
def lw_privs_6 : List (MethodName × Nat) := [(⟨"PadRoundModel", "leavesOf", "(II)I"⟩, 39), (⟨"PadRoundModel", "isLeafOf", "(III)Z"⟩, 39), (⟨"PadRoundModel", "tryAs", "(II)V"⟩, 39), (⟨"PadRoundModel", "shareByLeaf", "(II)I"⟩, 39), (⟨"PadRoundModel", "takes", "(II)I"⟩, 39), (⟨"PadRoundModel", "setSign", "(IIII)V"⟩, 39), (⟨"PadRoundModel", "isPlayerBy", "(I)Z"⟩, 39), (⟨"PadRoundModel", "counts", "(I)I"⟩, 39), (⟨"PadRoundModel", "mix", "(I)V"⟩, 39), (⟨"PadRoundModel", "mixAll", "()V"⟩, 39)]
theorem lw_r6 : ∀ q ∈ lw_privs_6, lw_okq q := List.forall_mem_cons.mpr ⟨lw_p80, List.forall_mem_cons.mpr ⟨lw_p81, List.forall_mem_cons.mpr ⟨lw_p82, List.forall_mem_cons.mpr ⟨lw_p83, List.forall_mem_cons.mpr ⟨lw_p84, List.forall_mem_cons.mpr ⟨lw_p85, List.forall_mem_cons.mpr ⟨lw_p86, List.forall_mem_cons.mpr ⟨lw_p87, List.forall_mem_cons.mpr ⟨lw_p88, List.forall_mem_cons.mpr ⟨lw_p89, fun _ h => absurd h List.not_mem_nil⟩⟩⟩⟩⟩⟩⟩⟩⟩⟩
def lw_privs : List (MethodName × Nat) := lw_privs_1 ++ (lw_privs_2 ++ (lw_privs_3 ++ (lw_privs_4 ++ (lw_privs_5 ++ (lw_privs_6)))))
def lw_tbl : List Cond := k2_sels lw_privs ++ tables_1
theorem lw_privs_ok : ∀ q ∈ lw_privs, lw_okq q := by
  show ∀ q ∈ lw_privs_1 ++ (lw_privs_2 ++ (lw_privs_3 ++ (lw_privs_4 ++ (lw_privs_5 ++ (lw_privs_6))))), lw_okq q
  exact List.forall_mem_append.mpr ⟨lw_r1, List.forall_mem_append.mpr ⟨lw_r2, List.forall_mem_append.mpr ⟨lw_r3, List.forall_mem_append.mpr ⟨lw_r4, List.forall_mem_append.mpr ⟨lw_r5, lw_r6⟩⟩⟩⟩⟩
end
section
def RX0 : String := "PadRound$Answers"
def TX0 : u_T := fun k => match k with
  | 0 => ("PadRound$Answers", "findings", "[I", true)
  | 1 => ("PadRound$Answers", "finding", "I", false)
  | 2 => ("PadRound$Answers", "asked", "I", false)
  | 3 => ("PadRound$Answers", "upper", "J", false)
  | _ => ("PadRound$Answers", "lower", "J", false)
def tyX0 : Nat → FieldType := fun k => match k with
  | 0 => .array .int
  | 1 => .int
  | 2 => .int
  | 3 => .long
  | _ => .long
theorem nmX0 : ∀ a, a < 5 → ∀ b, b < 5 → a ≠ b → (TX0 a).2.1 ≠ (TX0 b).2.1 := by decide +kernel
theorem tyX0_ok : ∀ k, k < 5 → parseFieldDescriptor (TX0 k).2.2.1 = some (tyX0 k) := by decide +kernel
abbrev cX0_init : ByteArray := prog_2_method_1_code
def yX0_init : MethodName := ⟨RX0, "<init>", "()V"⟩
abbrev cX0_found : ByteArray := prog_2_method_2_code
def yX0_found : MethodName := ⟨RX0, "found", "(I)I"⟩
abbrev cX0_ask : ByteArray := prog_2_method_3_code
def yX0_ask : MethodName := ⟨RX0, "ask", "(I)I"⟩
abbrev cX0_tell : ByteArray := prog_2_method_4_code
def yX0_tell : MethodName := ⟨RX0, "tell", "(JJ)I"⟩
def RX1 : String := "PadRound$Box"
def TX1 : u_T := fun k => match k with
  | 0 => ("PadRound$Box", "figures", "[I", true)
  | _ => ("PadRound$Box", "words", "I", false)
def tyX1 : Nat → FieldType := fun k => match k with
  | 0 => .array .int
  | _ => .int
theorem nmX1 : ∀ a, a < 2 → ∀ b, b < 2 → a ≠ b → (TX1 a).2.1 ≠ (TX1 b).2.1 := by decide +kernel
theorem tyX1_ok : ∀ k, k < 2 → parseFieldDescriptor (TX1 k).2.2.1 = some (tyX1 k) := by decide +kernel
abbrev cX1_init : ByteArray := prog_3_method_1_code
def yX1_init : MethodName := ⟨RX1, "<init>", "()V"⟩
abbrev cX1_read : ByteArray := prog_3_method_2_code
def yX1_read : MethodName := ⟨RX1, "read", "(LPadRound$Sheet;)V"⟩
abbrev cX1_usualOf : ByteArray := prog_3_method_3_code
def yX1_usualOf : MethodName := ⟨RX1, "usualOf", "(II)I"⟩
abbrev cX1_usualSet : ByteArray := prog_3_method_4_code
def yX1_usualSet : MethodName := ⟨RX1, "usualSet", "(II)I"⟩
abbrev cX1_usualInAll : ByteArray := prog_3_method_5_code
def yX1_usualInAll : MethodName := ⟨RX1, "usualInAll", "(LPadRound$Drawing;)I"⟩
abbrev cX1_digestOn : ByteArray := prog_3_method_6_code
def yX1_digestOn : MethodName := ⟨RX1, "digestOn", "(J)J"⟩
def RX2 : String := "PadRound$Drawing"
def TX2 : u_T := fun k => match k with
  | 0 => ("PadRound$Drawing", "places", "[I", true)
  | _ => ("PadRound$Drawing", "size", "I", false)
def tyX2 : Nat → FieldType := fun k => match k with
  | 0 => .array .int
  | _ => .int
theorem nmX2 : ∀ a, a < 2 → ∀ b, b < 2 → a ≠ b → (TX2 a).2.1 ≠ (TX2 b).2.1 := by decide +kernel
theorem tyX2_ok : ∀ k, k < 2 → parseFieldDescriptor (TX2 k).2.2.1 = some (tyX2 k) := by decide +kernel
abbrev cX2_init : ByteArray := prog_4_method_1_code
def yX2_init : MethodName := ⟨RX2, "<init>", "()V"⟩
abbrev cX2_take : ByteArray := prog_4_method_2_code
def yX2_take : MethodName := ⟨RX2, "take", "(LPadRound$Sheet;)V"⟩
abbrev cX2_takeSet : ByteArray := prog_4_method_3_code
def yX2_takeSet : MethodName := ⟨RX2, "takeSet", "(I)V"⟩
abbrev cX2_drawBy : ByteArray := prog_4_method_4_code
def yX2_drawBy : MethodName := ⟨RX2, "drawBy", "(LPadRound$Player;I)V"⟩
abbrev cX2_add : ByteArray := prog_4_method_5_code
def yX2_add : MethodName := ⟨RX2, "add", "(I)V"⟩
abbrev cX2_mostUsual : ByteArray := prog_4_method_6_code
def yX2_mostUsual : MethodName := ⟨RX2, "mostUsual", "(LPadRound$Box;II)I"⟩
abbrev cX2_set : ByteArray := prog_4_method_7_code
def yX2_set : MethodName := ⟨RX2, "set", "()I"⟩
def RX3 : String := "PadRound$Leaf"
def TX3 : u_T := fun k => match k with
  | 0 => ("PadRound$Leaf", "drawn", "LPadRound$Drawing;", true)
  | 1 => ("PadRound$Leaf", "isGuess", "Z", false)
  | 2 => ("PadRound$Leaf", "who", "I", false)
  | 3 => ("PadRound$Leaf", "word", "I", false)
  | 4 => ("PadRound$Leaf", "set", "I", false)
  | _ => ("PadRound$Leaf", "by", "I", false)
def tyX3 : Nat → FieldType := fun k => match k with
  | 0 => .object "PadRound$Drawing"
  | 1 => .boolean
  | 2 => .int
  | 3 => .int
  | 4 => .int
  | _ => .int
theorem nmX3 : ∀ a, a < 6 → ∀ b, b < 6 → a ≠ b → (TX3 a).2.1 ≠ (TX3 b).2.1 := by decide +kernel
theorem tyX3_ok : ∀ k, k < 6 → parseFieldDescriptor (TX3 k).2.2.1 = some (tyX3 k) := by decide +kernel
abbrev cX3_init : ByteArray := prog_5_method_1_code
def yX3_init : MethodName := ⟨RX3, "<init>", "()V"⟩
abbrev cX3_write : ByteArray := prog_5_method_2_code
def yX3_write : MethodName := ⟨RX3, "write", "(ZIILPadRound$Sheet;I)V"⟩
abbrev cX3_isOf : ByteArray := prog_5_method_3_code
def yX3_isOf : MethodName := ⟨RX3, "isOf", "(IZ)Z"⟩
abbrev cX3_unlike : ByteArray := prog_5_method_4_code
def yX3_unlike : MethodName := ⟨RX3, "unlike", "(I)I"⟩
abbrev cX3_tells : ByteArray := prog_5_method_5_code
def yX3_tells : MethodName := ⟨RX3, "tells", "(I)I"⟩
def RX4 : String := "PadRound$Player"
def TX4 : u_T := fun k => match k with
  | 0 => ("PadRound$Player", "drawnSets", "[I", true)
  | 1 => ("PadRound$Player", "kind", "I", false)
  | 2 => ("PadRound$Player", "land", "I", false)
  | 3 => ("PadRound$Player", "many", "I", false)
  | 4 => ("PadRound$Player", "favourite", "I", false)
  | _ => ("PadRound$Player", "box", "LPadRound$Box;", false)
def tyX4 : Nat → FieldType := fun k => match k with
  | 0 => .array .int
  | 1 => .int
  | 2 => .int
  | 3 => .int
  | 4 => .int
  | _ => .object "PadRound$Box"
theorem nmX4 : ∀ a, a < 6 → ∀ b, b < 6 → a ≠ b → (TX4 a).2.1 ≠ (TX4 b).2.1 := by decide +kernel
theorem tyX4_ok : ∀ k, k < 6 → parseFieldDescriptor (TX4 k).2.2.1 = some (tyX4 k) := by decide +kernel
abbrev cX4_init : ByteArray := prog_6_method_1_code
def yX4_init : MethodName := ⟨RX4, "<init>", "(LPadRound$Box;)V"⟩
abbrev cX4_become : ByteArray := prog_6_method_2_code
def yX4_become : MethodName := ⟨RX4, "become", "(IIIILPadRound$Box;)V"⟩
abbrev cX4_becomeLike : ByteArray := prog_6_method_3_code
def yX4_becomeLike : MethodName := ⟨RX4, "becomeLike", "(LPadRound$Player;I)V"⟩
abbrev cX4_is : ByteArray := prog_6_method_4_code
def yX4_is : MethodName := ⟨RX4, "is", "(I)Z"⟩
abbrev cX4_drawsAtMost : ByteArray := prog_6_method_5_code
def yX4_drawsAtMost : MethodName := ⟨RX4, "drawsAtMost", "()I"⟩
abbrev cX4_tells : ByteArray := prog_6_method_6_code
def yX4_tells : MethodName := ⟨RX4, "tells", "(I)I"⟩
abbrev cX4_asNumber : ByteArray := prog_6_method_7_code
def yX4_asNumber : MethodName := ⟨RX4, "asNumber", "()I"⟩
def RX5 : String := "PadRound$Round"
def TX5 : u_T := fun k => match k with
  | 0 => ("PadRound$Round", "steps", "[I", true)
  | 1 => ("PadRound$Round", "order", "[I", true)
  | 2 => ("PadRound$Round", "best", "[I", true)
  | 3 => ("PadRound$Round", "odds", "[J", true)
  | 4 => ("PadRound$Round", "next", "[J", true)
  | 5 => ("PadRound$Round", "size", "I", false)
  | 6 => ("PadRound$Round", "words", "I", false)
  | _ => ("PadRound$Round", "bestKept", "J", false)
def tyX5 : Nat → FieldType := fun k => match k with
  | 0 => .array .int
  | 1 => .array .int
  | 2 => .array .int
  | 3 => .array .long
  | 4 => .array .long
  | 5 => .int
  | 6 => .int
  | _ => .long
theorem nmX5 : ∀ a, a < 8 → ∀ b, b < 8 → a ≠ b → (TX5 a).2.1 ≠ (TX5 b).2.1 := by decide +kernel
theorem tyX5_ok : ∀ k, k < 8 → parseFieldDescriptor (TX5 k).2.2.1 = some (tyX5 k) := by decide +kernel
abbrev cX5_init : ByteArray := prog_7_method_1_code
def yX5_init : MethodName := ⟨RX5, "<init>", "()V"⟩
abbrev cX5_seat : ByteArray := prog_7_method_2_code
def yX5_seat : MethodName := ⟨RX5, "seat", "(LPadRound$Sheet;I)V"⟩
abbrev cX5_learn : ByteArray := prog_7_method_3_code
def yX5_learn : MethodName := ⟨RX5, "learn", "(IIILPadRound$Shares;)V"⟩
abbrev cX5_whole : ByteArray := prog_7_method_4_code
def yX5_whole : MethodName := ⟨RX5, "whole", "()J"⟩
abbrev cX5_begin : ByteArray := prog_7_method_5_code
def yX5_begin : MethodName := ⟨RX5, "begin", "(I)V"⟩
abbrev cX5_beginWithAll : ByteArray := prog_7_method_6_code
def yX5_beginWithAll : MethodName := ⟨RX5, "beginWithAll", "()V"⟩
abbrev cX5_stepBase : ByteArray := prog_7_method_7_code
def yX5_stepBase : MethodName := ⟨RX5, "stepBase", "(II)I"⟩
abbrev cX5_pass : ByteArray := prog_7_method_8_code
def yX5_pass : MethodName := ⟨RX5, "pass", "(I)V"⟩
abbrev cX5_passFrom : ByteArray := prog_7_method_9_code
def yX5_passFrom : MethodName := ⟨RX5, "passFrom", "(I)V"⟩
abbrev cX5_reach : ByteArray := prog_7_method_10_code
def yX5_reach : MethodName := ⟨RX5, "reach", "(III)J"⟩
abbrev cX5_reachOffAt : ByteArray := prog_7_method_11_code
def yX5_reachOffAt : MethodName := ⟨RX5, "reachOffAt", "(III)J"⟩
abbrev cX5_keptBy : ByteArray := prog_7_method_12_code
def yX5_keptBy : MethodName := ⟨RX5, "keptBy", "(LPadRound$Sheet;)J"⟩
abbrev cX5_seatBest : ByteArray := prog_7_method_13_code
def yX5_seatBest : MethodName := ⟨RX5, "seatBest", "(LPadRound$Sheet;)I"⟩
abbrev cX5_sortOthers : ByteArray := prog_7_method_14_code
def yX5_sortOthers : MethodName := ⟨RX5, "sortOthers", "()V"⟩
def RX6 : String := "PadRound$Shares"
def TX6 : u_T := fun k => match k with
  | 0 => ("PadRound$Shares", "sums", "[I", true)
  | 1 => ("PadRound$Shares", "cut", "[I", true)
  | 2 => ("PadRound$Shares", "words", "I", false)
  | _ => ("PadRound$Shares", "greatest", "I", false)
def tyX6 : Nat → FieldType := fun k => match k with
  | 0 => .array .int
  | 1 => .array .int
  | 2 => .int
  | _ => .int
theorem nmX6 : ∀ a, a < 4 → ∀ b, b < 4 → a ≠ b → (TX6 a).2.1 ≠ (TX6 b).2.1 := by decide +kernel
theorem tyX6_ok : ∀ k, k < 4 → parseFieldDescriptor (TX6 k).2.2.1 = some (tyX6 k) := by decide +kernel
abbrev cX6_init : ByteArray := prog_8_method_1_code
def yX6_init : MethodName := ⟨RX6, "<init>", "()V"⟩
abbrev cX6_get : ByteArray := prog_8_method_2_code
def yX6_get : MethodName := ⟨RX6, "get", "(I)I"⟩
abbrev cX6_reckon : ByteArray := prog_8_method_3_code
def yX6_reckon : MethodName := ⟨RX6, "reckon", "(LPadRound$Player;LPadRound$Drawing;LPadRound$Player;)V"⟩
abbrev cX6_share : ByteArray := prog_8_method_4_code
def yX6_share : MethodName := ⟨RX6, "share", "(I)V"⟩
abbrev cX6_sumOf : ByteArray := prog_8_method_5_code
def yX6_sumOf : MethodName := ⟨RX6, "sumOf", "(LPadRound$Player;LPadRound$Drawing;LPadRound$Player;I)I"⟩
def RX7 : String := "PadRound$Sheet"
def TX7 : u_T := fun k => match k with
  | 0 => ("PadRound$Sheet", "places", "[I", true)
  | _ => ("PadRound$Sheet", "size", "I", false)
def tyX7 : Nat → FieldType := fun k => match k with
  | 0 => .array .int
  | _ => .int
theorem nmX7 : ∀ a, a < 2 → ∀ b, b < 2 → a ≠ b → (TX7 a).2.1 ≠ (TX7 b).2.1 := by decide +kernel
theorem tyX7_ok : ∀ k, k < 2 → parseFieldDescriptor (TX7 k).2.2.1 = some (tyX7 k) := by decide +kernel
abbrev cX7_init : ByteArray := prog_9_method_1_code
def yX7_init : MethodName := ⟨RX7, "<init>", "(I)V"⟩
abbrev cX7_isMissing : ByteArray := prog_9_method_2_code
def yX7_isMissing : MethodName := ⟨RX7, "isMissing", "()Z"⟩
abbrev cX7_has : ByteArray := prog_9_method_3_code
def yX7_has : MethodName := ⟨RX7, "has", "(I)Z"⟩
abbrev cX7_hasRange : ByteArray := prog_9_method_4_code
def yX7_hasRange : MethodName := ⟨RX7, "hasRange", "(II)Z"⟩
abbrev cX7_get : ByteArray := prog_9_method_5_code
def yX7_get : MethodName := ⟨RX7, "get", "(I)I"⟩
abbrev cX7_set : ByteArray := prog_9_method_6_code
def yX7_set : MethodName := ⟨RX7, "set", "(II)V"⟩
abbrev cX7_renew : ByteArray := prog_9_method_7_code
def yX7_renew : MethodName := ⟨RX7, "renew", "(II)V"⟩
abbrev cX7_take : ByteArray := prog_9_method_8_code
def yX7_take : MethodName := ⟨RX7, "take", "([II)V"⟩
abbrev cX7_remove : ByteArray := prog_9_method_9_code
def yX7_remove : MethodName := ⟨RX7, "remove", "()V"⟩
abbrev cX7_total : ByteArray := prog_9_method_10_code
def yX7_total : MethodName := ⟨RX7, "total", "()J"⟩
abbrev cX7_placeFault : ByteArray := prog_9_method_11_code
def yX7_placeFault : MethodName := ⟨RX7, "placeFault", "(I)I"⟩
abbrev cX7_drawnFault : ByteArray := prog_9_method_12_code
def yX7_drawnFault : MethodName := ⟨RX7, "drawnFault", "()I"⟩
abbrev cX7_isUnlikeBelow : ByteArray := prog_9_method_13_code
def yX7_isUnlikeBelow : MethodName := ⟨RX7, "isUnlikeBelow", "(I)Z"⟩
abbrev cX7_partSet : ByteArray := prog_9_method_14_code
def yX7_partSet : MethodName := ⟨RX7, "partSet", "()I"⟩
abbrev cX7_boxFault : ByteArray := prog_9_method_15_code
def yX7_boxFault : MethodName := ⟨RX7, "boxFault", "()I"⟩
abbrev cX7_digestOn : ByteArray := prog_9_method_16_code
def yX7_digestOn : MethodName := ⟨RX7, "digestOn", "(J)J"⟩
def RX8 : String := "PadRound$Watch"
def TX8 : u_T := fun k => match k with
  | 0 => ("PadRound$Watch", "sorted", "[I", true)
  | 1 => ("PadRound$Watch", "order", "[I", true)
  | 2 => ("PadRound$Watch", "best", "[I", true)
  | 3 => ("PadRound$Watch", "knows", "[Z", true)
  | 4 => ("PadRound$Watch", "size", "I", false)
  | _ => ("PadRound$Watch", "byFirstAlone", "Z", false)
def tyX8 : Nat → FieldType := fun k => match k with
  | 0 => .array .int
  | 1 => .array .int
  | 2 => .array .int
  | 3 => .array .boolean
  | 4 => .int
  | _ => .boolean
theorem nmX8 : ∀ a, a < 6 → ∀ b, b < 6 → a ≠ b → (TX8 a).2.1 ≠ (TX8 b).2.1 := by decide +kernel
theorem tyX8_ok : ∀ k, k < 6 → parseFieldDescriptor (TX8 k).2.2.1 = some (tyX8 k) := by decide +kernel
abbrev cX8_init : ByteArray := prog_10_method_1_code
def yX8_init : MethodName := ⟨RX8, "<init>", "()V"⟩
abbrev cX8_begin : ByteArray := prog_10_method_2_code
def yX8_begin : MethodName := ⟨RX8, "begin", "(IZ)V"⟩
abbrev cX8_partsAt : ByteArray := prog_10_method_3_code
def yX8_partsAt : MethodName := ⟨RX8, "partsAt", "(ILPadRound$Drawing;)V"⟩
abbrev cX8_learn : ByteArray := prog_10_method_4_code
def yX8_learn : MethodName := ⟨RX8, "learn", "(IZ)V"⟩
abbrev cX8_soonest : ByteArray := prog_10_method_5_code
def yX8_soonest : MethodName := ⟨RX8, "soonest", "()I"⟩
abbrev cX8_knownFrom : ByteArray := prog_10_method_6_code
def yX8_knownFrom : MethodName := ⟨RX8, "knownFrom", "()I"⟩
abbrev cX8_keepOrder : ByteArray := prog_10_method_7_code
def yX8_keepOrder : MethodName := ⟨RX8, "keepOrder", "()V"⟩
def RX9 : String := "PadRound"
def TX9 : u_T := fun k => match k with
  | 0 => ("PadRound", "rows", "[LPadRound$Sheet;", true)
  | 1 => ("PadRound", "texts", "[LPadRound$Sheet;", true)
  | 2 => ("PadRound", "boxes", "[LPadRound$Box;", true)
  | 3 => ("PadRound", "players", "[LPadRound$Player;", true)
  | 4 => ("PadRound", "leaves", "[LPadRound$Leaf;", true)
  | 5 => ("PadRound", "answers", "LPadRound$Answers;", true)
  | 6 => ("PadRound", "drawing", "LPadRound$Drawing;", true)
  | 7 => ("PadRound", "shares", "LPadRound$Shares;", true)
  | 8 => ("PadRound", "round", "LPadRound$Round;", true)
  | 9 => ("PadRound", "watch", "LPadRound$Watch;", true)
  | 10 => ("PadRound", "standIn", "LPadRound$Player;", true)
  | 11 => ("PadRound", "playerCount", "I", false)
  | _ => ("PadRound", "leafCount", "I", false)
def tyX9 : Nat → FieldType := fun k => match k with
  | 0 => .array (.object "PadRound$Sheet")
  | 1 => .array (.object "PadRound$Sheet")
  | 2 => .array (.object "PadRound$Box")
  | 3 => .array (.object "PadRound$Player")
  | 4 => .array (.object "PadRound$Leaf")
  | 5 => .object "PadRound$Answers"
  | 6 => .object "PadRound$Drawing"
  | 7 => .object "PadRound$Shares"
  | 8 => .object "PadRound$Round"
  | 9 => .object "PadRound$Watch"
  | 10 => .object "PadRound$Player"
  | 11 => .int
  | _ => .int
theorem nmX9 : ∀ a, a < 13 → ∀ b, b < 13 → a ≠ b → (TX9 a).2.1 ≠ (TX9 b).2.1 := by decide +kernel
theorem tyX9_ok : ∀ k, k < 13 → parseFieldDescriptor (TX9 k).2.2.1 = some (tyX9 k) := by decide +kernel
abbrev cX9_init : ByteArray := prog_1_method_1_code
def yX9_init : MethodName := ⟨RX9, "<init>", "()V"⟩
abbrev cX9_row : ByteArray := prog_1_method_2_code
def yX9_row : MethodName := ⟨RX9, "row", "(II)I"⟩
abbrev cX9_lay : ByteArray := prog_1_method_3_code
def yX9_lay : MethodName := ⟨RX9, "lay", "(III)I"⟩
abbrev cX9_at : ByteArray := prog_1_method_4_code
def yX9_at : MethodName := ⟨RX9, "at", "(II)I"⟩
abbrev cX9_tear : ByteArray := prog_1_method_5_code
def yX9_tear : MethodName := ⟨RX9, "tear", "(I)I"⟩
abbrev cX9_copy : ByteArray := prog_1_method_6_code
def yX9_copy : MethodName := ⟨RX9, "copy", "(IIIII)I"⟩
abbrev cX9_mean : ByteArray := prog_1_method_7_code
def yX9_mean : MethodName := ⟨RX9, "mean", "(I)I"⟩
abbrev cX9_text : ByteArray := prog_1_method_8_code
def yX9_text : MethodName := ⟨RX9, "text", "(II)I"⟩
abbrev cX9_put : ByteArray := prog_1_method_9_code
def yX9_put : MethodName := ⟨RX9, "put", "(III)I"⟩
abbrev cX9_fault : ByteArray := prog_1_method_10_code
def yX9_fault : MethodName := ⟨RX9, "fault", "(I)I"⟩
abbrev cX9_box : ByteArray := prog_1_method_11_code
def yX9_box : MethodName := ⟨RX9, "box", "(II)I"⟩
abbrev cX9_usual : ByteArray := prog_1_method_12_code
def yX9_usual : MethodName := ⟨RX9, "usual", "(III)I"⟩
abbrev cX9_player : ByteArray := prog_1_method_13_code
def yX9_player : MethodName := ⟨RX9, "player", "(IIII)I"⟩
abbrev cX9_about : ByteArray := prog_1_method_14_code
def yX9_about : MethodName := ⟨RX9, "about", "(II)I"⟩
abbrev cX9_mark : ByteArray := prog_1_method_15_code
def yX9_mark : MethodName := ⟨RX9, "mark", "(II)I"⟩
abbrev cX9_draws : ByteArray := prog_1_method_16_code
def yX9_draws : MethodName := ⟨RX9, "draws", "(III)I"⟩
abbrev cX9_guess : ByteArray := prog_1_method_17_code
def yX9_guess : MethodName := ⟨RX9, "guess", "(IIII)I"⟩
abbrev cX9_step : ByteArray := prog_1_method_18_code
def yX9_step : MethodName := ⟨RX9, "step", "(IIII)I"⟩
abbrev cX9_comes : ByteArray := prog_1_method_19_code
def yX9_comes : MethodName := ⟨RX9, "comes", "(III)I"⟩
abbrev cX9_most : ByteArray := prog_1_method_20_code
def yX9_most : MethodName := ⟨RX9, "most", "(I)I"⟩
abbrev cX9_keeps : ByteArray := prog_1_method_21_code
def yX9_keeps : MethodName := ⟨RX9, "keeps", "(III)I"⟩
abbrev cX9_was : ByteArray := prog_1_method_22_code
def yX9_was : MethodName := ⟨RX9, "was", "(III)I"⟩
abbrev cX9_off : ByteArray := prog_1_method_23_code
def yX9_off : MethodName := ⟨RX9, "off", "(IIII)I"⟩
abbrev cX9_kept : ByteArray := prog_1_method_24_code
def yX9_kept : MethodName := ⟨RX9, "kept", "(II)I"⟩
abbrev cX9_seats : ByteArray := prog_1_method_25_code
def yX9_seats : MethodName := ⟨RX9, "seats", "(III)I"⟩
abbrev cX9_parts : ByteArray := prog_1_method_26_code
def yX9_parts : MethodName := ⟨RX9, "parts", "(III)I"⟩
abbrev cX9_few : ByteArray := prog_1_method_27_code
def yX9_few : MethodName := ⟨RX9, "few", "(III)I"⟩
abbrev cX9_soon : ByteArray := prog_1_method_28_code
def yX9_soon : MethodName := ⟨RX9, "soon", "(IIII)I"⟩
abbrev cX9_common : ByteArray := prog_1_method_29_code
def yX9_common : MethodName := ⟨RX9, "common", "(II)I"⟩
abbrev cX9_land : ByteArray := prog_1_method_30_code
def yX9_land : MethodName := ⟨RX9, "land", "(I)I"⟩
abbrev cX9_leaf : ByteArray := prog_1_method_31_code
def yX9_leaf : MethodName := ⟨RX9, "leaf", "(III)I"⟩
abbrev cX9_guessed : ByteArray := prog_1_method_32_code
def yX9_guessed : MethodName := ⟨RX9, "guessed", "(IIII)I"⟩
abbrev cX9_told : ByteArray := prog_1_method_33_code
def yX9_told : MethodName := ⟨RX9, "told", "(II)I"⟩
abbrev cX9_back : ByteArray := prog_1_method_34_code
def yX9_back : MethodName := ⟨RX9, "back", "(I)I"⟩
abbrev cX9_hand : ByteArray := prog_1_method_35_code
def yX9_hand : MethodName := ⟨RX9, "hand", "(I)I"⟩
abbrev cX9_guesser : ByteArray := prog_1_method_36_code
def yX9_guesser : MethodName := ⟨RX9, "guesser", "(I)I"⟩
abbrev cX9_machine : ByteArray := prog_1_method_37_code
def yX9_machine : MethodName := ⟨RX9, "machine", "(I)I"⟩
abbrev cX9_held : ByteArray := prog_1_method_38_code
def yX9_held : MethodName := ⟨RX9, "held", "()I"⟩
abbrev cX9_sign : ByteArray := prog_1_method_39_code
def yX9_sign : MethodName := ⟨RX9, "sign", "(IIIII)I"⟩
abbrev cX9_stranger : ByteArray := prog_1_method_40_code
def yX9_stranger : MethodName := ⟨RX9, "stranger", "(IIII)I"⟩
abbrev cX9_image : ByteArray := prog_1_method_41_code
def yX9_image : MethodName := ⟨RX9, "image", "(I)I"⟩
abbrev cX9_on : ByteArray := prog_1_method_42_code
def yX9_on : MethodName := ⟨RX9, "on", "(I)I"⟩
abbrev cX9_asked : ByteArray := prog_1_method_43_code
def yX9_asked : MethodName := ⟨RX9, "asked", "()I"⟩
abbrev cX9_upper : ByteArray := prog_1_method_44_code
def yX9_upper : MethodName := ⟨RX9, "upper", "()J"⟩
abbrev cX9_lower : ByteArray := prog_1_method_45_code
def yX9_lower : MethodName := ⟨RX9, "lower", "()J"⟩
abbrev cX9_count : ByteArray := prog_1_method_46_code
def yX9_count : MethodName := ⟨RX9, "count", "(I)I"⟩
abbrev cX9_finding : ByteArray := prog_1_method_47_code
def yX9_finding : MethodName := ⟨RX9, "finding", "()I"⟩
abbrev cX9_findings : ByteArray := prog_1_method_48_code
def yX9_findings : MethodName := ⟨RX9, "findings", "(I)I"⟩
abbrev cX9_digest : ByteArray := prog_1_method_49_code
def yX9_digest : MethodName := ⟨RX9, "digest", "()J"⟩
abbrev cX9_isRow : ByteArray := prog_1_method_50_code
def yX9_isRow : MethodName := ⟨RX9, "isRow", "(I)Z"⟩
abbrev cX9_isText : ByteArray := prog_1_method_51_code
def yX9_isText : MethodName := ⟨RX9, "isText", "(I)Z"⟩
abbrev cX9_isLand : ByteArray := prog_1_method_52_code
def yX9_isLand : MethodName := ⟨RX9, "isLand", "(I)Z"⟩
abbrev cX9_isEverWord : ByteArray := prog_1_method_53_code
def yX9_isEverWord : MethodName := ⟨RX9, "isEverWord", "(I)Z"⟩
abbrev cX9_isWord : ByteArray := prog_1_method_54_code
def yX9_isWord : MethodName := ⟨RX9, "isWord", "(I)Z"⟩
abbrev cX9_isPlayer : ByteArray := prog_1_method_55_code
def yX9_isPlayer : MethodName := ⟨RX9, "isPlayer", "(I)Z"⟩
abbrev cX9_isDrawer : ByteArray := prog_1_method_56_code
def yX9_isDrawer : MethodName := ⟨RX9, "isDrawer", "(I)Z"⟩
abbrev cX9_drawer : ByteArray := prog_1_method_57_code
def yX9_drawer : MethodName := ⟨RX9, "drawer", "(I)LPadRound$Player;"⟩
abbrev cX9_boxCounts : ByteArray := prog_1_method_58_code
def yX9_boxCounts : MethodName := ⟨RX9, "boxCounts", "(I)Z"⟩
abbrev cX9_tableFault : ByteArray := prog_1_method_59_code
def yX9_tableFault : MethodName := ⟨RX9, "tableFault", "(I)I"⟩
abbrev cX9_padsFault : ByteArray := prog_1_method_60_code
def yX9_padsFault : MethodName := ⟨RX9, "padsFault", "(II)I"⟩
abbrev cX9_imageFault : ByteArray := prog_1_method_61_code
def yX9_imageFault : MethodName := ⟨RX9, "imageFault", "(LPadRound$Sheet;)I"⟩
abbrev cX9_seatPlayer : ByteArray := prog_1_method_62_code
def yX9_seatPlayer : MethodName := ⟨RX9, "seatPlayer", "(IIIII)V"⟩
abbrev cX9_guessFirstPart : ByteArray := prog_1_method_63_code
def yX9_guessFirstPart : MethodName := ⟨RX9, "guessFirstPart", "(LPadRound$Player;)V"⟩
abbrev cX9_handsRead : ByteArray := prog_1_method_64_code
def yX9_handsRead : MethodName := ⟨RX9, "handsRead", "(LPadRound$Player;)I"⟩
abbrev cX9_shareBySet : ByteArray := prog_1_method_65_code
def yX9_shareBySet : MethodName := ⟨RX9, "shareBySet", "(LPadRound$Player;II)I"⟩
abbrev cX9_seatTable : ByteArray := prog_1_method_66_code
def yX9_seatTable : MethodName := ⟨RX9, "seatTable", "(I)V"⟩
abbrev cX9_learnAllSteps : ByteArray := prog_1_method_67_code
def yX9_learnAllSteps : MethodName := ⟨RX9, "learnAllSteps", "()V"⟩
abbrev cX9_learnStep : ByteArray := prog_1_method_68_code
def yX9_learnStep : MethodName := ⟨RX9, "learnStep", "(II)V"⟩
abbrev cX9_addLeaf : ByteArray := prog_1_method_69_code
def yX9_addLeaf : MethodName := ⟨RX9, "addLeaf", "(ZIIII)I"⟩
abbrev cX9_leavesOf : ByteArray := prog_1_method_70_code
def yX9_leavesOf : MethodName := ⟨RX9, "leavesOf", "(IZ)I"⟩
abbrev cX9_guessLeaves : ByteArray := prog_1_method_71_code
def yX9_guessLeaves : MethodName := ⟨RX9, "guessLeaves", "()I"⟩
abbrev cX9_handOff : ByteArray := prog_1_method_72_code
def yX9_handOff : MethodName := ⟨RX9, "handOff", "(II)I"⟩
abbrev cX9_likelihood : ByteArray := prog_1_method_73_code
def yX9_likelihood : MethodName := ⟨RX9, "likelihood", "(II)J"⟩
abbrev cX9_nearestLeaf : ByteArray := prog_1_method_74_code
def yX9_nearestLeaf : MethodName := ⟨RX9, "nearestLeaf", "(II)I"⟩
abbrev cX9_shortenSign : ByteArray := prog_1_method_75_code
def yX9_shortenSign : MethodName := ⟨RX9, "shortenSign", "(III)V"⟩
abbrev cX9_sloppyPlayers : ByteArray := prog_1_method_76_code
def yX9_sloppyPlayers : MethodName := ⟨RX9, "sloppyPlayers", "()I"⟩
abbrev cX9_sheetsThere : ByteArray := prog_1_method_77_code
def yX9_sheetsThere : MethodName := ⟨RX9, "sheetsThere", "([LPadRound$Sheet;)I"⟩
abbrev cX9_nextOrder : ByteArray := prog_1_method_78_code
def yX9_nextOrder : MethodName := ⟨RX9, "nextOrder", "([III)Z"⟩
abbrev cX9_swap : ByteArray := prog_1_method_79_code
def yX9_swap : MethodName := ⟨RX9, "swap", "([III)V"⟩
def RX10 : String := "PadRoundModel"
def TX10 : u_T := fun k => match k with
  | 0 => ("PadRoundModel", "finding", "I", false)
  | 1 => ("PadRoundModel", "findings", "[I", true)
  | 2 => ("PadRoundModel", "asked", "I", false)
  | 3 => ("PadRoundModel", "upper", "J", false)
  | 4 => ("PadRoundModel", "lower", "J", false)
  | 5 => ("PadRoundModel", "sizes", "[I", true)
  | 6 => ("PadRoundModel", "rows", "[I", true)
  | 7 => ("PadRoundModel", "moving", "[I", true)
  | 8 => ("PadRoundModel", "lengths", "[I", true)
  | 9 => ("PadRoundModel", "texts", "[I", true)
  | 10 => ("PadRoundModel", "boxSizes", "[I", true)
  | 11 => ("PadRoundModel", "boxes", "[I", true)
  | 12 => ("PadRoundModel", "readAt", "I", false)
  | 13 => ("PadRoundModel", "playerMany", "I", false)
  | 14 => ("PadRoundModel", "players", "[I", true)
  | 15 => ("PadRoundModel", "drawing", "[I", true)
  | 16 => ("PadRoundModel", "drawnMany", "I", false)
  | 17 => ("PadRoundModel", "seen", "[I", true)
  | 18 => ("PadRoundModel", "seenMany", "I", false)
  | 19 => ("PadRoundModel", "sums", "[I", true)
  | 20 => ("PadRoundModel", "shares", "[I", true)
  | 21 => ("PadRoundModel", "table", "[I", true)
  | 22 => ("PadRoundModel", "tableSize", "I", false)
  | 23 => ("PadRoundModel", "odds", "[J", true)
  | 24 => ("PadRoundModel", "next", "[J", true)
  | 25 => ("PadRoundModel", "gone", "[J", true)
  | 26 => ("PadRoundModel", "bestPad", "I", false)
  | 27 => ("PadRoundModel", "rising", "[I", true)
  | 28 => ("PadRoundModel", "bestTable", "[I", true)
  | 29 => ("PadRoundModel", "bestKept", "J", false)
  | 30 => ("PadRoundModel", "bestMany", "I", false)
  | 31 => ("PadRoundModel", "found", "I", false)
  | 32 => ("PadRoundModel", "watched", "[I", true)
  | 33 => ("PadRoundModel", "ordered", "[I", true)
  | 34 => ("PadRoundModel", "soonest", "I", false)
  | 35 => ("PadRoundModel", "leafMany", "I", false)
  | 36 => ("PadRoundModel", "leaves", "[I", true)
  | 37 => ("PadRoundModel", "unlike", "I", false)
  | _ => ("PadRoundModel", "h0", "J", false)
def tyX10 : Nat → FieldType := fun k => match k with
  | 0 => .int
  | 1 => .array .int
  | 2 => .int
  | 3 => .long
  | 4 => .long
  | 5 => .array .int
  | 6 => .array .int
  | 7 => .array .int
  | 8 => .array .int
  | 9 => .array .int
  | 10 => .array .int
  | 11 => .array .int
  | 12 => .int
  | 13 => .int
  | 14 => .array .int
  | 15 => .array .int
  | 16 => .int
  | 17 => .array .int
  | 18 => .int
  | 19 => .array .int
  | 20 => .array .int
  | 21 => .array .int
  | 22 => .int
  | 23 => .array .long
  | 24 => .array .long
  | 25 => .array .long
  | 26 => .int
  | 27 => .array .int
  | 28 => .array .int
  | 29 => .long
  | 30 => .int
  | 31 => .int
  | 32 => .array .int
  | 33 => .array .int
  | 34 => .int
  | 35 => .int
  | 36 => .array .int
  | 37 => .int
  | _ => .long
theorem nmX10 : ∀ a, a < 39 → ∀ b, b < 39 → a ≠ b → (TX10 a).2.1 ≠ (TX10 b).2.1 := by decide +kernel
theorem tyX10_ok : ∀ k, k < 39 → parseFieldDescriptor (TX10 k).2.2.1 = some (tyX10 k) := by decide +kernel
abbrev cX10_init : ByteArray := prog_12_method_1_code
def yX10_init : MethodName := ⟨RX10, "<init>", "()V"⟩
abbrev cX10_in : ByteArray := prog_12_method_3_code
def yX10_in : MethodName := ⟨RX10, "in", "(III)Z"⟩
abbrev cX10_meets : ByteArray := prog_12_method_4_code
def yX10_meets : MethodName := ⟨RX10, "meets", "(I)I"⟩
abbrev cX10_ask : ByteArray := prog_12_method_5_code
def yX10_ask : MethodName := ⟨RX10, "ask", "(II)I"⟩
abbrev cX10_part : ByteArray := prog_12_method_6_code
def yX10_part : MethodName := ⟨RX10, "part", "(JJI)I"⟩
abbrev cX10_isRow : ByteArray := prog_12_method_7_code
def yX10_isRow : MethodName := ⟨RX10, "isRow", "(I)Z"⟩
abbrev cX10_isText : ByteArray := prog_12_method_8_code
def yX10_isText : MethodName := ⟨RX10, "isText", "(I)Z"⟩
abbrev cX10_askedRow : ByteArray := prog_12_method_9_code
def yX10_askedRow : MethodName := ⟨RX10, "askedRow", "(I)I"⟩
abbrev cX10_askedText : ByteArray := prog_12_method_10_code
def yX10_askedText : MethodName := ⟨RX10, "askedText", "(I)I"⟩
abbrev cX10_rowAt : ByteArray := prog_12_method_11_code
def yX10_rowAt : MethodName := ⟨RX10, "rowAt", "(II)I"⟩
abbrev cX10_setRow : ByteArray := prog_12_method_12_code
def yX10_setRow : MethodName := ⟨RX10, "setRow", "(III)V"⟩
abbrev cX10_row : ByteArray := prog_12_method_13_code
def yX10_row : MethodName := ⟨RX10, "row", "(II)I"⟩
abbrev cX10_at : ByteArray := prog_12_method_14_code
def yX10_at : MethodName := ⟨RX10, "at", "(II)I"⟩
abbrev cX10_lay : ByteArray := prog_12_method_15_code
def yX10_lay : MethodName := ⟨RX10, "lay", "(III)I"⟩
abbrev cX10_tear : ByteArray := prog_12_method_16_code
def yX10_tear : MethodName := ⟨RX10, "tear", "(I)I"⟩
abbrev cX10_copy : ByteArray := prog_12_method_17_code
def yX10_copy : MethodName := ⟨RX10, "copy", "(IIIII)I"⟩
abbrev cX10_mean : ByteArray := prog_12_method_18_code
def yX10_mean : MethodName := ⟨RX10, "mean", "(I)I"⟩
abbrev cX10_text : ByteArray := prog_12_method_19_code
def yX10_text : MethodName := ⟨RX10, "text", "(II)I"⟩
abbrev cX10_put : ByteArray := prog_12_method_20_code
def yX10_put : MethodName := ⟨RX10, "put", "(III)I"⟩
abbrev cX10_here : ByteArray := prog_12_method_21_code
def yX10_here : MethodName := ⟨RX10, "here", "(I)I"⟩
abbrev cX10_readsWord : ByteArray := prog_12_method_22_code
def yX10_readsWord : MethodName := ⟨RX10, "readsWord", "(I)Z"⟩
abbrev cX10_goesOn : ByteArray := prog_12_method_23_code
def yX10_goesOn : MethodName := ⟨RX10, "goesOn", "(I)I"⟩
abbrev cX10_fault : ByteArray := prog_12_method_24_code
def yX10_fault : MethodName := ⟨RX10, "fault", "(I)I"⟩
abbrev cX10_box : ByteArray := prog_12_method_25_code
def yX10_box : MethodName := ⟨RX10, "box", "(II)I"⟩
abbrev cX10_words : ByteArray := prog_12_method_26_code
def yX10_words : MethodName := ⟨RX10, "words", "()I"⟩
abbrev cX10_isLand : ByteArray := prog_12_method_27_code
def yX10_isLand : MethodName := ⟨RX10, "isLand", "(I)Z"⟩
abbrev cX10_isWord : ByteArray := prog_12_method_28_code
def yX10_isWord : MethodName := ⟨RX10, "isWord", "(I)Z"⟩
abbrev cX10_use : ByteArray := prog_12_method_29_code
def yX10_use : MethodName := ⟨RX10, "use", "(III)I"⟩
abbrev cX10_usual : ByteArray := prog_12_method_30_code
def yX10_usual : MethodName := ⟨RX10, "usual", "(III)I"⟩
abbrev cX10_isPlayer : ByteArray := prog_12_method_31_code
def yX10_isPlayer : MethodName := ⟨RX10, "isPlayer", "(I)Z"⟩
abbrev cX10_tell : ByteArray := prog_12_method_32_code
def yX10_tell : MethodName := ⟨RX10, "tell", "(II)I"⟩
abbrev cX10_setPlayer : ByteArray := prog_12_method_33_code
def yX10_setPlayer : MethodName := ⟨RX10, "setPlayer", "(IIIII)V"⟩
abbrev cX10_player : ByteArray := prog_12_method_34_code
def yX10_player : MethodName := ⟨RX10, "player", "(IIII)I"⟩
abbrev cX10_about : ByteArray := prog_12_method_35_code
def yX10_about : MethodName := ⟨RX10, "about", "(II)I"⟩
abbrev cX10_isSloppy : ByteArray := prog_12_method_36_code
def yX10_isSloppy : MethodName := ⟨RX10, "isSloppy", "(I)Z"⟩
abbrev cX10_setDrawing : ByteArray := prog_12_method_37_code
def yX10_setDrawing : MethodName := ⟨RX10, "setDrawing", "(II)V"⟩
abbrev cX10_drawingSet : ByteArray := prog_12_method_38_code
def yX10_drawingSet : MethodName := ⟨RX10, "drawingSet", "(II)I"⟩
abbrev cX10_sizeOf : ByteArray := prog_12_method_39_code
def yX10_sizeOf : MethodName := ⟨RX10, "sizeOf", "(I)I"⟩
abbrev cX10_sumOf : ByteArray := prog_12_method_40_code
def yX10_sumOf : MethodName := ⟨RX10, "sumOf", "(III)I"⟩
abbrev cX10_setShares : ByteArray := prog_12_method_41_code
def yX10_setShares : MethodName := ⟨RX10, "setShares", "(II)V"⟩
abbrev cX10_greatest : ByteArray := prog_12_method_42_code
def yX10_greatest : MethodName := ⟨RX10, "greatest", "()I"⟩
abbrev cX10_seeDrawing : ByteArray := prog_12_method_43_code
def yX10_seeDrawing : MethodName := ⟨RX10, "seeDrawing", "()V"⟩
abbrev cX10_see : ByteArray := prog_12_method_44_code
def yX10_see : MethodName := ⟨RX10, "see", "(II)V"⟩
abbrev cX10_seeSet : ByteArray := prog_12_method_45_code
def yX10_seeSet : MethodName := ⟨RX10, "seeSet", "(I)V"⟩
abbrev cX10_seeRow : ByteArray := prog_12_method_46_code
def yX10_seeRow : MethodName := ⟨RX10, "seeRow", "(II)V"⟩
abbrev cX10_askedDrawn : ByteArray := prog_12_method_47_code
def yX10_askedDrawn : MethodName := ⟨RX10, "askedDrawn", "(I)I"⟩
abbrev cX10_rowSet : ByteArray := prog_12_method_48_code
def yX10_rowSet : MethodName := ⟨RX10, "rowSet", "(I)I"⟩
abbrev cX10_mark : ByteArray := prog_12_method_49_code
def yX10_mark : MethodName := ⟨RX10, "mark", "(II)I"⟩
abbrev cX10_draws : ByteArray := prog_12_method_50_code
def yX10_draws : MethodName := ⟨RX10, "draws", "(III)I"⟩
abbrev cX10_rowOf : ByteArray := prog_12_method_51_code
def yX10_rowOf : MethodName := ⟨RX10, "rowOf", "(II)I"⟩
abbrev cX10_isBy : ByteArray := prog_12_method_52_code
def yX10_isBy : MethodName := ⟨RX10, "isBy", "(I)Z"⟩
abbrev cX10_sharesRow : ByteArray := prog_12_method_53_code
def yX10_sharesRow : MethodName := ⟨RX10, "sharesRow", "(I)V"⟩
abbrev cX10_guess : ByteArray := prog_12_method_54_code
def yX10_guess : MethodName := ⟨RX10, "guess", "(IIII)I"⟩
abbrev cX10_setStep : ByteArray := prog_12_method_55_code
def yX10_setStep : MethodName := ⟨RX10, "setStep", "(III)V"⟩
abbrev cX10_step : ByteArray := prog_12_method_56_code
def yX10_step : MethodName := ⟨RX10, "step", "(IIII)I"⟩
abbrev cX10_askedTable : ByteArray := prog_12_method_57_code
def yX10_askedTable : MethodName := ⟨RX10, "askedTable", "(I)I"⟩
abbrev cX10_askedSeats : ByteArray := prog_12_method_58_code
def yX10_askedSeats : MethodName := ⟨RX10, "askedSeats", "(I)I"⟩
abbrev cX10_steps : ByteArray := prog_12_method_59_code
def yX10_steps : MethodName := ⟨RX10, "steps", "()I"⟩
abbrev cX10_whole : ByteArray := prog_12_method_60_code
def yX10_whole : MethodName := ⟨RX10, "whole", "(I)J"⟩
abbrev cX10_goOn : ByteArray := prog_12_method_61_code
def yX10_goOn : MethodName := ⟨RX10, "goOn", "(II)V"⟩
abbrev cX10_setOdds : ByteArray := prog_12_method_62_code
def yX10_setOdds : MethodName := ⟨RX10, "setOdds", "(II)V"⟩
abbrev cX10_askedRound : ByteArray := prog_12_method_63_code
def yX10_askedRound : MethodName := ⟨RX10, "askedRound", "(I)I"⟩
abbrev cX10_comes : ByteArray := prog_12_method_64_code
def yX10_comes : MethodName := ⟨RX10, "comes", "(III)I"⟩
abbrev cX10_most : ByteArray := prog_12_method_65_code
def yX10_most : MethodName := ⟨RX10, "most", "(I)I"⟩
abbrev cX10_keeps : ByteArray := prog_12_method_66_code
def yX10_keeps : MethodName := ⟨RX10, "keeps", "(III)I"⟩
abbrev cX10_was : ByteArray := prog_12_method_67_code
def yX10_was : MethodName := ⟨RX10, "was", "(III)I"⟩
abbrev cX10_off : ByteArray := prog_12_method_68_code
def yX10_off : MethodName := ⟨RX10, "off", "(IIII)I"⟩
abbrev cX10_keptOf : ByteArray := prog_12_method_69_code
def yX10_keptOf : MethodName := ⟨RX10, "keptOf", "(I)J"⟩
abbrev cX10_askedPads : ByteArray := prog_12_method_70_code
def yX10_askedPads : MethodName := ⟨RX10, "askedPads", "(II)I"⟩
abbrev cX10_kept : ByteArray := prog_12_method_71_code
def yX10_kept : MethodName := ⟨RX10, "kept", "(II)I"⟩
abbrev cX10_sit : ByteArray := prog_12_method_72_code
def yX10_sit : MethodName := ⟨RX10, "sit", "(III)V"⟩
abbrev cX10_seats : ByteArray := prog_12_method_73_code
def yX10_seats : MethodName := ⟨RX10, "seats", "(III)I"⟩
abbrev cX10_setFor : ByteArray := prog_12_method_74_code
def yX10_setFor : MethodName := ⟨RX10, "setFor", "(III)I"⟩
abbrev cX10_parts : ByteArray := prog_12_method_75_code
def yX10_parts : MethodName := ⟨RX10, "parts", "(III)I"⟩
abbrev cX10_few : ByteArray := prog_12_method_76_code
def yX10_few : MethodName := ⟨RX10, "few", "(III)I"⟩
abbrev cX10_knownFrom : ByteArray := prog_12_method_77_code
def yX10_knownFrom : MethodName := ⟨RX10, "knownFrom", "(III)I"⟩
abbrev cX10_watch : ByteArray := prog_12_method_78_code
def yX10_watch : MethodName := ⟨RX10, "watch", "(IIIII)V"⟩
abbrev cX10_soon : ByteArray := prog_12_method_79_code
def yX10_soon : MethodName := ⟨RX10, "soon", "(IIII)I"⟩
abbrev cX10_common : ByteArray := prog_12_method_80_code
def yX10_common : MethodName := ⟨RX10, "common", "(II)I"⟩
abbrev cX10_land : ByteArray := prog_12_method_81_code
def yX10_land : MethodName := ⟨RX10, "land", "(I)I"⟩
abbrev cX10_leafTells : ByteArray := prog_12_method_82_code
def yX10_leafTells : MethodName := ⟨RX10, "leafTells", "(II)I"⟩
abbrev cX10_newLeaf : ByteArray := prog_12_method_83_code
def yX10_newLeaf : MethodName := ⟨RX10, "newLeaf", "(IIIII)I"⟩
abbrev cX10_leaf : ByteArray := prog_12_method_84_code
def yX10_leaf : MethodName := ⟨RX10, "leaf", "(III)I"⟩
abbrev cX10_guessed : ByteArray := prog_12_method_85_code
def yX10_guessed : MethodName := ⟨RX10, "guessed", "(IIII)I"⟩
abbrev cX10_told : ByteArray := prog_12_method_86_code
def yX10_told : MethodName := ⟨RX10, "told", "(II)I"⟩
abbrev cX10_back : ByteArray := prog_12_method_87_code
def yX10_back : MethodName := ⟨RX10, "back", "(I)I"⟩
abbrev cX10_isLeafOf : ByteArray := prog_12_method_88_code
def yX10_isLeafOf : MethodName := ⟨RX10, "isLeafOf", "(III)Z"⟩
abbrev cX10_tryAs : ByteArray := prog_12_method_89_code
def yX10_tryAs : MethodName := ⟨RX10, "tryAs", "(II)V"⟩
abbrev cX10_leavesOf : ByteArray := prog_12_method_90_code
def yX10_leavesOf : MethodName := ⟨RX10, "leavesOf", "(II)I"⟩
abbrev cX10_hand : ByteArray := prog_12_method_91_code
def yX10_hand : MethodName := ⟨RX10, "hand", "(I)I"⟩
abbrev cX10_shareByLeaf : ByteArray := prog_12_method_92_code
def yX10_shareByLeaf : MethodName := ⟨RX10, "shareByLeaf", "(II)I"⟩
abbrev cX10_guesser : ByteArray := prog_12_method_93_code
def yX10_guesser : MethodName := ⟨RX10, "guesser", "(I)I"⟩
abbrev cX10_takes : ByteArray := prog_12_method_94_code
def yX10_takes : MethodName := ⟨RX10, "takes", "(II)I"⟩
abbrev cX10_machine : ByteArray := prog_12_method_95_code
def yX10_machine : MethodName := ⟨RX10, "machine", "(I)I"⟩
abbrev cX10_held : ByteArray := prog_12_method_96_code
def yX10_held : MethodName := ⟨RX10, "held", "()I"⟩
abbrev cX10_setSign : ByteArray := prog_12_method_97_code
def yX10_setSign : MethodName := ⟨RX10, "setSign", "(IIII)V"⟩
abbrev cX10_sign : ByteArray := prog_12_method_98_code
def yX10_sign : MethodName := ⟨RX10, "sign", "(IIIII)I"⟩
abbrev cX10_stranger : ByteArray := prog_12_method_99_code
def yX10_stranger : MethodName := ⟨RX10, "stranger", "(IIII)I"⟩
abbrev cX10_image : ByteArray := prog_12_method_100_code
def yX10_image : MethodName := ⟨RX10, "image", "(I)I"⟩
abbrev cX10_isPlayerBy : ByteArray := prog_12_method_101_code
def yX10_isPlayerBy : MethodName := ⟨RX10, "isPlayerBy", "(I)Z"⟩
abbrev cX10_on : ByteArray := prog_12_method_102_code
def yX10_on : MethodName := ⟨RX10, "on", "(I)I"⟩
abbrev cX10_asked : ByteArray := prog_12_method_103_code
def yX10_asked : MethodName := ⟨RX10, "asked", "()I"⟩
abbrev cX10_upper : ByteArray := prog_12_method_104_code
def yX10_upper : MethodName := ⟨RX10, "upper", "()J"⟩
abbrev cX10_lower : ByteArray := prog_12_method_105_code
def yX10_lower : MethodName := ⟨RX10, "lower", "()J"⟩
abbrev cX10_counts : ByteArray := prog_12_method_106_code
def yX10_counts : MethodName := ⟨RX10, "counts", "(I)I"⟩
abbrev cX10_count : ByteArray := prog_12_method_107_code
def yX10_count : MethodName := ⟨RX10, "count", "(I)I"⟩
abbrev cX10_finding : ByteArray := prog_12_method_108_code
def yX10_finding : MethodName := ⟨RX10, "finding", "()I"⟩
abbrev cX10_findings : ByteArray := prog_12_method_109_code
def yX10_findings : MethodName := ⟨RX10, "findings", "(I)I"⟩
abbrev cX10_mix : ByteArray := prog_12_method_110_code
def yX10_mix : MethodName := ⟨RX10, "mix", "(I)V"⟩
abbrev cX10_mixAll : ByteArray := prog_12_method_111_code
def yX10_mixAll : MethodName := ⟨RX10, "mixAll", "()V"⟩
abbrev cX10_digest : ByteArray := prog_12_method_112_code
def yX10_digest : MethodName := ⟨RX10, "digest", "()J"⟩
def RJ6 : String := "java/lang/Integer"
abbrev cJ6_bitCount_0f7a4 : ByteArray := prog_13_method_49_code
def yJ6_bitCount_0f7a4 : MethodName := ⟨RJ6, "bitCount", "(I)I"⟩
def RJ9 : String := "java/lang/Math"
abbrev cJ9_max_7cf53 : ByteArray := prog_14_method_65_code
def yJ9_max_7cf53 : MethodName := ⟨RJ9, "max", "(II)I"⟩
abbrev cJ9_min_7cf53 : ByteArray := prog_14_method_69_code
def yJ9_min_7cf53 : MethodName := ⟨RJ9, "min", "(II)I"⟩
def RJ10 : String := "java/lang/System"
def RL : String := "PadRoundLaw"
abbrev cL_law : ByteArray := code
def yL_law : MethodName := ⟨RL, "law", "([I)Z"⟩
abbrev vwCl : List vw_C := [(RX0, TX0, 5), (RX1, TX1, 2), (RX2, TX2, 2), (RX3, TX3, 6), (RX4, TX4, 6), (RX5, TX5, 8), (RX6, TX6, 4), (RX7, TX7, 2), (RX8, TX8, 6), (RX9, TX9, 13), (RX10, TX10, 39)]
end
section
/-! the cells of both objects, by their numbers from the first one made on: what each is -/
def zu {α : Type} (f : Nat → α) (i : Nat) (x : α) : Nat → α := fun j => if j = i then x else f j
abbrev zM : Type := (Nat → Nat → Int32) × (Nat → Nat → Int64) × (Nat → Nat → Nat)
abbrev zE : Type := Launch × Nat × (Nat → ClassId) × (Nat → Nat → Nat) × (Nat → ClassId)
abbrev zY : Type := MethodName × ByteArray × Nat × Option FieldType
def gi (σ : zM) (a j : Nat) : Int32 := σ.1 a j
def gl (σ : zM) (a j : Nat) : Int64 := σ.2.1 a j
def gr (σ : zM) (a j : Nat) : Nat := σ.2.2 a j
def si (σ : zM) (a j : Nat) (v : Int32) : zM := (zu σ.1 a (zu (σ.1 a) j v), σ.2.1, σ.2.2)
def sl (σ : zM) (a j : Nat) (v : Int64) : zM := (σ.1, zu σ.2.1 a (zu (σ.2.1 a) j v), σ.2.2)
def sr (σ : zM) (a j : Nat) (v : Nat) : zM := (σ.1, σ.2.1, zu σ.2.2 a (zu (σ.2.2 a) j v))
/-- a whole row of ints anew -/
def sf (σ : zM) (a : Nat) (f : Nat → Int32) : zM := (zu σ.1 a f, σ.2.1, σ.2.2)
theorem gi_si (σ : zM) (a j : Nat) (v : Int32) (x y : Nat) : gi (si σ a j v) x y = if x = a ∧ y = j then v else gi σ x y := by
  unfold gi si zu
  by_cases h : x = a
  · subst h
    by_cases h2 : y = j <;> simp [h2]
  · simp [h]
theorem gi_sl (σ : zM) (a j : Nat) (v : Int64) (x y : Nat) : gi (sl σ a j v) x y = gi σ x y := rfl
theorem gi_sr (σ : zM) (a j : Nat) (v : Nat) (x y : Nat) : gi (sr σ a j v) x y = gi σ x y := rfl
theorem gi_sf (σ : zM) (a : Nat) (f : Nat → Int32) (x y : Nat) : gi (sf σ a f) x y = if x = a then f y else gi σ x y := by
  unfold gi sf zu
  by_cases h : x = a <;> simp [h]
theorem gl_si (σ : zM) (a j : Nat) (v : Int32) (x y : Nat) : gl (si σ a j v) x y = gl σ x y := rfl
theorem gl_sl (σ : zM) (a j : Nat) (v : Int64) (x y : Nat) : gl (sl σ a j v) x y = if x = a ∧ y = j then v else gl σ x y := by
  unfold gl sl zu
  by_cases h : x = a
  · subst h
    by_cases h2 : y = j <;> simp [h2]
  · simp [h]
theorem gl_sr (σ : zM) (a j : Nat) (v : Nat) (x y : Nat) : gl (sr σ a j v) x y = gl σ x y := rfl
theorem gl_sf (σ : zM) (a : Nat) (f : Nat → Int32) (x y : Nat) : gl (sf σ a f) x y = gl σ x y := rfl
theorem gr_si (σ : zM) (a j : Nat) (v : Int32) (x y : Nat) : gr (si σ a j v) x y = gr σ x y := rfl
theorem gr_sl (σ : zM) (a j : Nat) (v : Int64) (x y : Nat) : gr (sl σ a j v) x y = gr σ x y := rfl
theorem gr_sf (σ : zM) (a : Nat) (f : Nat → Int32) (x y : Nat) : gr (sf σ a f) x y = gr σ x y := rfl
theorem gr_sr (σ : zM) (a j : Nat) (v : Nat) (x y : Nat) : gr (sr σ a j v) x y = if x = a ∧ y = j then v else gr σ x y := by
  unfold gr sr zu
  by_cases h : x = a
  · subst h
    by_cases h2 : y = j <;> simp [h2]
  · simp [h]
theorem zM_ext {σ τ : zM} (h1 : ∀ a j, gi σ a j = gi τ a j) (h2 : ∀ a j, gl σ a j = gl τ a j) (h3 : ∀ a j, gr σ a j = gr τ a j) : σ = τ := by
  obtain ⟨a, b, c⟩ := σ
  obtain ⟨a', b', c'⟩ := τ
  have e1 : a = a' := funext fun x => funext fun y => h1 x y
  have e2 : b = b' := funext fun x => funext fun y => h2 x y
  have e3 : c = c' := funext fun x => funext fun y => h3 x y
  rw [e1, e2, e3]
/-- kind and size of each cell: 0 .. 10 an object by its number in vwCl, 11 ints, 12 longs, 13 booleans, 14 Sheets, 15 Boxes, 16 Players, 17 Leaves -/
def zK : List (Nat × Nat) := [(9, 13), (14, 6), (14, 4), (15, 2), (16, 8), (17, 12), (0, 5), (11, 6), (2, 2), (11, 6), (6, 4), (11, 8), (11, 8), (5, 8), (11, 4096), (11, 8), (11, 8), (12, 8), (12, 8), (8, 6), (11, 6), (11, 6), (11, 6), (13, 64),
  (7, 2), (11, 40), (7, 2), (11, 40), (7, 2), (11, 40), (7, 2), (11, 40), (7, 2), (11, 40), (7, 2), (11, 40), (7, 2), (11, 120), (7, 2), (11, 120), (7, 2), (11, 120), (7, 2), (11, 120), (1, 2), (11, 80), (1, 2), (11, 80),
  (4, 6), (11, 8), (4, 6), (11, 8), (4, 6), (11, 8), (4, 6), (11, 8), (4, 6), (11, 8), (4, 6), (11, 8), (4, 6), (11, 8), (4, 6), (11, 8),
  (3, 6), (2, 2), (11, 6), (3, 6), (2, 2), (11, 6), (3, 6), (2, 2), (11, 6), (3, 6), (2, 2), (11, 6), (3, 6), (2, 2), (11, 6), (3, 6), (2, 2), (11, 6), (3, 6), (2, 2), (11, 6), (3, 6), (2, 2), (11, 6), (3, 6), (2, 2), (11, 6), (3, 6), (2, 2), (11, 6), (3, 6), (2, 2), (11, 6), (3, 6), (2, 2), (11, 6),
  (4, 6), (11, 8), (10, 39), (11, 6), (11, 6), (11, 240), (11, 40), (11, 4), (11, 480), (11, 3), (11, 240), (11, 36), (11, 6), (11, 6), (11, 8), (11, 8), (11, 8), (12, 8), (12, 8), (12, 8), (11, 8), (11, 8), (11, 6), (11, 6), (11, 144)]
def kd (k : Nat) : Nat × Nat := zK.getD k (99, 0)
def zr (E : zE) (a : Nat) : Value := .ref (E.2.1 + a)
/-- what an object holds -/
def zO (E : zE) (ci k : Nat) (f : Nat → Int32) (g : Nat → Int64) (r : Nat → Nat) : List Value := match ci with
  | 0 => [zr E (k + 1), .int (f 1), .int (f 2), .long (g 3), .long (g 4)]
  | 1 => [zr E (k + 1), .int (f 1)]
  | 2 => [zr E (k + 1), .int (f 1)]
  | 3 => [zr E (k + 1), .int (f 1), .int (f 2), .int (f 3), .int (f 4), .int (f 5)]
  | 4 => [zr E (k + 1), .int (f 1), .int (f 2), .int (f 3), .int (f 4), zr E (r 5)]
  | 5 => [zr E (k + 1), zr E (k + 2), zr E (k + 3), zr E (k + 4), zr E (k + 5), .int (f 5), .int (f 6), .long (g 7)]
  | 6 => [zr E (k + 1), zr E (k + 2), .int (f 2), .int (f 3)]
  | 7 => [zr E (k + 1), .int (f 1)]
  | 8 => [zr E (k + 1), zr E (k + 2), zr E (k + 3), zr E (k + 4), .int (f 4), .int (f 5)]
  | 9 => [zr E 1, zr E 2, zr E 3, zr E 4, zr E 5, zr E 6, zr E 8, zr E 10, zr E 13, zr E 19, zr E 100, .int (f 11), .int (f 12)]
  | 10 => [.int (f 0), zr E 103, .int (f 2), .long (g 3), .long (g 4), zr E 104, zr E 105, zr E 106, zr E 107, zr E 108, zr E 109, zr E 110, .int (f 12), .int (f 13), zr E 111, zr E 112, .int (f 16), zr E 113, .int (f 18), zr E 114, zr E 115, zr E 116, .int (f 22), zr E 117, zr E 118, zr E 119, .int (f 26), zr E 120, zr E 121, .long (g 29), .int (f 30), .int (f 31), zr E 122, zr E 123, .int (f 34), .int (f 35), zr E 124, .int (f 37), .long (g 38)]
  | _ => []
/-- what a row of objects holds -/
def zLa (k j : Nat) : Nat := match k with
  | 1 => 24 + 2 * j
  | 2 => 36 + 2 * j
  | 3 => 44 + 2 * j
  | 4 => 48 + 2 * j
  | _ => 64 + 3 * j
def zF (E : zE) (q : Nat × Nat) (k : Nat) (f : Nat → Int32) (g : Nat → Int64) (r : Nat → Nat) : va_E :=
  if q.1 ≤ 10 then .inr (q.1, zO E q.1 k f g r)
  else if q.1 = 11 then .inl (E.2.2.2.2 0, q.2, .inl f)
  else if q.1 = 12 then .inl (E.2.2.2.2 1, q.2, .inr (.inl g))
  else if q.1 = 13 then .inl (E.2.2.2.2 2, q.2, .inl f)
  else .inl (E.2.2.2.2 (q.1 - 11), q.2, .inr (.inr (.inr (.inr (fun j => some (E.2.1 + zLa k j))))))
def zC (E : zE) (σ : zM) (k : Nat) : va_E := zF E (kd k) k (σ.1 k) (σ.2.1 k) (σ.2.2 k)
def zW (E : zE) (σ : zM) : va_W := (List.range 125).map (fun k => (E.2.1 + k, zC E σ k))
def zD (E : zE) : va_G := (E.2.2.1, E.2.2.2.1)
def zT (E : zE) : List (ClassId × FieldType) := [(E.2.2.2.2 0, .int), (E.2.2.2.2 1, .long), (E.2.2.2.2 2, .boolean), (E.2.2.2.2 3, .object "PadRound$Sheet"), (E.2.2.2.2 4, .object "PadRound$Box"), (E.2.2.2.2 5, .object "PadRound$Player"), (E.2.2.2.2 6, .object "PadRound$Leaf")]
def zA (E : zE) : Nat → Prop := fun q => E.2.1 ≤ q
theorem kd_lt {k : Nat} (h : (kd k).1 ≠ 99) : k < 125 := by
  rcases Nat.lt_or_ge k 125 with q | q
  · exact q
  · refine absurd ?_ h
    unfold kd
    rw [List.getD_eq_getElem?_getD, List.getElem?_eq_none (by exact q)]
    rfl
theorem zW_get (E : zE) (σ : zM) {k : Nat} (h : k < 125) : (zW E σ)[k]? = some (E.2.1 + k, zC E σ k) := by
  unfold zW
  rw [List.getElem?_map, List.getElem?_range h]
  rfl
theorem zW_at {E : zE} {σ : zM} {i : Nat} {q : Nat × va_E} (h : (zW E σ)[i]? = some q) : i < 125 ∧ q = (E.2.1 + i, zC E σ i) := by
  have hl : i < 125 := by
    have := (List.getElem?_eq_some_iff.mp h).1
    simpa [zW] using this
  rw [zW_get E σ hl] at h
  exact ⟨hl, (Option.some.inj h).symm⟩
theorem zW_D (E : zE) (σ : zM) : va_D (zA E) (zW E σ) := by
  refine ⟨fun i j p q hi hj hpq => ?_, fun k q hk => ?_⟩
  · obtain ⟨-, rfl⟩ := zW_at hi
    obtain ⟨-, rfl⟩ := zW_at hj
    simp at hpq
    omega
  · obtain ⟨-, rfl⟩ := zW_at hk
    exact Nat.le_add_right _ _
/-- one cell anew -/
theorem zW_set (E : zE) {σ τ : zM} {k : Nat} {c : va_E} (hk : k < 125) (h : ∀ x, x ≠ k → σ.1 x = τ.1 x ∧ σ.2.1 x = τ.2.1 x ∧ σ.2.2 x = τ.2.2 x) (hc : zC E τ k = c) : (zW E σ).set k (E.2.1 + k, c) = zW E τ := by
  apply List.ext_getElem?
  intro i
  rw [List.getElem?_set]
  by_cases hi : k = i
  · subst hi
    rw [if_pos rfl, if_pos (by simpa [zW] using hk), zW_get E τ hk, hc]
  · rw [if_neg hi]
    rcases Nat.lt_or_ge i 125 with q | q
    · rw [zW_get E σ q, zW_get E τ q]
      obtain ⟨e1, e2, e3⟩ := h i (fun e => hi e.symm)
      unfold zC
      rw [e1, e2, e3]
    · rw [List.getElem?_eq_none (by simpa [zW] using q), List.getElem?_eq_none (by simpa [zW] using q)]
theorem zC_obj {E : zE} {σ : zM} {a ci : Nat} (h : (kd a).1 = ci) (hc : ci ≤ 10) : zC E σ a = .inr (ci, zO E ci a (σ.1 a) (σ.2.1 a) (σ.2.2 a)) := by
  unfold zC zF
  rw [if_pos (by rw [h]; exact hc), h]
theorem zC_int {E : zE} {σ : zM} {a n : Nat} (h : kd a = (11, n)) : zC E σ a = .inl (E.2.2.2.2 0, n, .inl (σ.1 a)) := by
  unfold zC zF
  rw [h]
  rfl
theorem zC_long {E : zE} {σ : zM} {a n : Nat} (h : kd a = (12, n)) : zC E σ a = .inl (E.2.2.2.2 1, n, .inr (.inl (σ.2.1 a))) := by
  unfold zC zF
  rw [h]
  rfl
theorem zC_bool {E : zE} {σ : zM} {a n : Nat} (h : kd a = (13, n)) : zC E σ a = .inl (E.2.2.2.2 2, n, .inl (σ.1 a)) := by
  unfold zC zF
  rw [h]
  rfl
theorem zC_ref {E : zE} {σ : zM} {a n t : Nat} (h : kd a = (t + 14, n)) : zC E σ a = .inl (E.2.2.2.2 (t + 3), n, .inr (.inr (.inr (.inr (fun j => some (E.2.1 + zLa a j)))))) := by
  unfold zC zF
  rw [h]
  simp
end
section
/-! a method's walk over the cells: At, and what it ends with: Ret -/
def zas : Nat → List (Option Value) → List (Nat × Value)
  | _, [] => []
  | k, none :: t => zas (k + 1) t
  | k, some v :: t => (k, v) :: zas (k + 1) t
theorem zas_mem {i : Nat} {v : Value} : ∀ {ls : List (Option Value)} {k : Nat}, (i, v) ∈ zas k ls ↔ k ≤ i ∧ ls[i - k]? = some (some v) := by
  intro ls
  induction ls with
  | nil => intro k; simp [zas]
  | cons a t ih =>
    intro k
    have key : (k + 1 ≤ i ∧ t[i - (k + 1)]? = some (some v)) ↔ (k < i ∧ (a :: t)[i - k]? = some (some v)) := by
      constructor
      · rintro ⟨h1, h2⟩
        refine ⟨h1, ?_⟩
        rw [show i - k = (i - (k + 1)) + 1 by omega, List.getElem?_cons_succ]
        exact h2
      · rintro ⟨h1, h2⟩
        refine ⟨h1, ?_⟩
        rw [show i - k = (i - (k + 1)) + 1 by omega, List.getElem?_cons_succ] at h2
        exact h2
    have base : ∀ {P : Prop}, (k ≤ i ∧ P) ↔ ((k = i ∧ P) ∨ (k < i ∧ P)) := by
      intro P
      constructor
      · rintro ⟨h1, h2⟩
        rcases Nat.lt_or_ge k i with q | q
        · exact Or.inr ⟨q, h2⟩
        · exact Or.inl ⟨by omega, h2⟩
      · rintro (⟨h1, h2⟩ | ⟨h1, h2⟩)
        · exact ⟨by omega, h2⟩
        · exact ⟨by omega, h2⟩
    rw [base, ← key]
    cases a with
    | none =>
      show (i, v) ∈ zas (k + 1) t ↔ _
      rw [ih]
      constructor
      · intro h; exact Or.inr h
      · rintro (⟨rfl, h2⟩ | h)
        · simp at h2
        · exact h
    | some w =>
      show (i, v) ∈ (k, w) :: zas (k + 1) t ↔ _
      rw [List.mem_cons, ih]
      constructor
      · rintro (h | h)
        · cases h
          exact Or.inl ⟨rfl, by simp⟩
        · exact Or.inr h
      · rintro (⟨rfl, h2⟩ | h)
        · simp at h2
          exact Or.inl (by rw [h2])
        · exact Or.inr h
theorem zas_at {la : Array Slot} {n : Nat} {ls : List (Option Value)} (h : lv_has la n (zas 0 ls)) {i : Nat} {v : Value} (hi : ls[i]? = some (some v)) : la[i]? = some (.val v) := h.2.2 (i, v) (zas_mem.mpr ⟨Nat.zero_le i, hi⟩)
theorem zas_sub {la : Array Slot} {n : Nat} {l : List (Nat × Value)} (h : lv_has la n l) {ls : List (Option Value)} (hs : ∀ (i : Nat) (v : Value), ls[i]? = some (some v) → (i, v) ∈ l) : lv_has la n (zas 0 ls) := by
  refine ⟨h.1, h.2.1, ?_⟩
  rintro ⟨i, v⟩ hq
  exact h.2.2 _ (hs i v (zas_mem.mp hq).2)
/-- the place before isn't the first half of a long -/
def zck (ls : List (Option Value)) (i : Nat) : Bool := match i with
  | 0 => true
  | j + 1 => match ls[j]? with
    | some (some (.long _)) => false
    | some (some (.double _)) => false
    | _ => true
theorem zck_cat {ls : List (Option Value)} {j : Nat} {w : Value} (h : zck ls (j + 1) = true) (hw : ls[j]? = some (some w)) : ¬ w.category = 2 := by
  unfold zck at h
  simp only [hw] at h
  cases w <;> simp_all [Value.category]
theorem zas_set1 {la : Array Slot} {n i : Nat} {v : Value} {ls : List (Option Value)} (h : lv_has la n ((i, v) :: (zas 0 ls).filter (fun q => !(q.1 == i) && !(q.1 + 1 == i && q.2.category == 2)))) (hc : zck ls i = true) : lv_has la n (zas 0 (ls.set i (some v))) := by
  refine zas_sub h fun j w hj => ?_
  rw [List.getElem?_set] at hj
  by_cases hij : i = j
  · subst hij
    rw [if_pos rfl] at hj
    by_cases hl : i < ls.length
    · rw [if_pos hl] at hj
      cases hj
      exact List.mem_cons_self
    · rw [if_neg hl] at hj
      cases hj
  · rw [if_neg hij] at hj
    refine List.mem_cons_of_mem _ (List.mem_filter.mpr ⟨zas_mem.mpr ⟨Nat.zero_le j, hj⟩, ?_⟩)
    have h1 : (j == i) = false := by simp; omega
    have h2 : (j + 1 == i && w.category == 2) = false := by
      by_cases hq : j + 1 = i
      · subst hq
        have := zck_cat hc hj
        simp [this]
      · simp [hq]
    simp [h1, h2]
theorem zas_set2 {la : Array Slot} {n i : Nat} {v : Value} {ls : List (Option Value)} (h : lv_has la n ((i, v) :: (zas 0 ls).filter (fun q => !(q.1 == i) && (!(q.1 == i + 1) && !(q.1 + 1 == i && q.2.category == 2))))) (hc : zck ls i = true) : lv_has la n (zas 0 ((ls.set i (some v)).set (i + 1) none)) := by
  refine zas_sub h fun j w hj => ?_
  rw [List.getElem?_set] at hj
  by_cases hij1 : i + 1 = j
  · subst hij1
    rw [if_pos rfl] at hj
    split at hj <;> cases hj
  · rw [if_neg hij1, List.getElem?_set] at hj
    by_cases hij : i = j
    · subst hij
      rw [if_pos rfl] at hj
      split at hj
      · cases hj
        exact List.mem_cons_self
      · cases hj
    · rw [if_neg hij] at hj
      refine List.mem_cons_of_mem _ (List.mem_filter.mpr ⟨zas_mem.mpr ⟨Nat.zero_le j, hj⟩, ?_⟩)
      have h1 : (j == i) = false := by simp; omega
      have h3 : (j == i + 1) = false := by simp; omega
      have h2 : (j + 1 == i && w.category == 2) = false := by
        by_cases hq : j + 1 = i
        · subst hq
          have := zck_cat hc hj
          simp [this]
        · simp [hq]
      simp [h1, h2, h3]
/-- fewer locals -/
def zle : List (Option Value) → List (Option Value) → Prop
  | [], _ => True
  | none :: t, [] => zle t []
  | none :: t, _ :: t' => zle t t'
  | some _ :: _, [] => False
  | some v :: t, b :: t' => b = some v ∧ zle t t'
theorem zle_at : ∀ {ls ls' : List (Option Value)}, zle ls' ls → ∀ {i : Nat} {v : Value}, ls'[i]? = some (some v) → ls[i]? = some (some v) := by
  intro ls ls'
  induction ls' generalizing ls with
  | nil => intro _ i v h; simp at h
  | cons a t ih =>
    intro h i v hv
    cases a with
    | none =>
      cases i with
      | zero => simp at hv
      | succ i =>
        rw [List.getElem?_cons_succ] at hv
        cases ls with
        | nil => exact absurd (ih (ls := []) h hv) (by simp)
        | cons b t' =>
          rw [List.getElem?_cons_succ]
          exact ih h hv
    | some w =>
      cases ls with
      | nil => exact absurd h (by simp [zle])
      | cons b t' =>
        obtain ⟨h1, h2⟩ := h
        cases i with
        | zero => simp at hv ⊢; rw [h1, hv]
        | succ i =>
          rw [List.getElem?_cons_succ] at hv ⊢
          exact ih h2 hv
/-- the words stay -/
def zgw (w : Cond) : Bool := match w with
  | .fieldLinkNest _ _ _ _ _ _ => true
  | .methodLinkNest _ _ _ _ => true
  | w => goodWord w
def zTb : List Cond := lw_tbl.filter zgw
theorem zin (i : Nat) {w : Cond} (h : tables_1[i]? = some w) (hg : zgw w = true) : w ∈ zTb := List.mem_filter.mpr ⟨List.mem_append_right _ (List.mem_of_getElem? h), hg⟩
theorem zin2 (i : Nat) {w : Cond} (h : (k2_sels lw_privs)[i]? = some w) (hg : zgw w = true) : w ∈ zTb := List.mem_filter.mpr ⟨List.mem_append_left _ (List.mem_of_getElem? h), hg⟩
def zX (E : zE) (M : zY) (p : Program) (s : State) (m : MethodId) (args : Array Value) (meth : Method) (c : Code) : Prop :=
  p.tables.exec = Jvm.exec ∧ c.code = M.2.1 ∧ c.maxLocals = M.2.2.1 ∧ meth.sig.returnType = M.2.2.2 ∧ meth.locks = false ∧ s.vm.findClass M.1.cls = some m.cls ∧ (∀ w ∈ zTb, w.before args s = true) ∧ va_K (zD E) vwCl (zT E) s
def zRm (d : Nat) : Room := { frames := d + 1, cells := 0, slots := 0, locals := 64 * (d + 1) }
def zQ (E : zE) (Q : Option Value → zM → Prop) : Array Value → State → Outcome → State → Prop := fun _ st oc t => (∃ (v : Option Value) (σ : zM), oc = .returned v ∧ Q v σ ∧ va_P (zD E) vwCl (zW E σ) t.heap ∧ va_K (zD E) vwCl (zT E) t) ∧ va_F (zA E) st t
def zP (E : zE) (av : List Value) (σ : zM) : Array Value → State → Prop := va_Pc av (fun U => va_P (zD E) vwCl (zW E σ) U.heap ∧ va_K (zD E) vwCl (zT E) U)
def zws (M : zY) : List Cond := Cond.code M.1 M.2.1 M.2.2.1 M.2.2.2 :: zTb
def At (E : zE) (M : zY) (d : Nat) (Q : Option Value → zM → Prop) (pc : Nat) (ls : List (Option Value)) (st : List Value) (σ : zM) : Prop :=
  ∀ (p : Program) (e : Env) (s : State) (m : MethodId) (args : Array Value) (below : List Frame) (meth : Method) (c : Code) (H : Heap) (locs : List Loc) (la : Array Slot), zX E M p s m args meth c → va_P (zD E) vwCl (zW E σ) H → va_S (zA E) s.heap H locs → lv_has la M.2.2.1 (zas 0 ls) →
    W p E.1 e (zRm d) s m args below meth c H locs 0 0 (MQ below (zQ E Q) args s 0 0 (zA E)) (F0 m pc la st)
def Ret (E : zE) (M : zY) (d : Nat) (av : List Value) (σ : zM) (Q : Option Value → zM → Prop) : Prop := Met E.1 M.1 (zws M) (zRm d) (zP E av σ) (zQ E Q) 0 0 (zA E)
theorem z_pay {s : State} {args : Array Value} (hts : ∀ w ∈ zTb, w.before args s = true) : ∀ w ∈ zTb, ∀ (a' : Array Value) (U : State), s.WarmedH U.vm → w.before a' U = true := by
  intro w hw a' U hW
  have hg : zgw w = true := (List.mem_filter.mp hw).2
  have hb := hts w hw
  have gen : goodWord w = true → w.before a' U = true := fun h => word_at hW (good_of_word h) hb
  cases w with
  | fieldLinkNest a i b n d h => exact va_Nw.use rfl (va_Nw.warmF hW (va_Nw.of rfl hb))
  | methodLinkNest a i x h => exact va_Nw.use rfl (va_Nw.warmM hW (va_Nw.of rfl hb))
  | _ => exact gen hg
theorem z_blind (E : zE) (av : List Value) (σ : zM) : FrameBlind (zP E av σ) := by
  intro a U g mk q
  obtain ⟨q0, qP, qK⟩ := q
  exact ⟨q0, qP, va_K.moved (u := U) (U := U.calling g mk a) (Vm.Alike.refl U.vm) qK⟩
/-- from the entry -/
theorem Ret.of {E : zE} {M : zY} {d : Nat} {av : List Value} {σ : zM} {Q : Option Value → zM → Prop} (ls : List (Option Value)) (hy : plainName M.1.cls = true) (hn : (lg_sl av).length ≤ M.2.2.1) (hs : zas 0 ls = lv_args 0 av) (h : At E M d Q 0 ls [] σ) : Ret E M d av σ Q := by
  refine Met.ofW (cc := M.2.1) (maxL := M.2.2.1) (ret := M.2.2.2) (ws' := zTb) hy rfl ?_
  intro p e s m args below meth c s₁ B hml hv
  obtain ⟨rfl, hP, hK⟩ := hv
  have hts := atoms_spec (ws := zws M) B.pre
  have hl := lv_entry av (n := M.2.2.1) hn
  rw [lg_entry_eq]
  exact h p e s m _ below meth c s.heap [] _ ⟨B.exec, B.bytes, hml, B.returns, B.notSynchronized, findClass_of_methodNamed B.named, fun w hw => hts w (List.mem_cons_of_mem _ hw), hK⟩ hP va_S.rf (by rw [hs]; exact hl)
theorem Ret.imp {E : zE} {M : zY} {d : Nat} {av : List Value} {σ : zM} {Q Q' : Option Value → zM → Prop} (h : Ret E M d av σ Q) (hq : ∀ v τ, Q v τ → Q' v τ) : Ret E M d av σ Q' := by
  intro p e ha hc hk s m args below hf hs hP hT
  obtain ⟨t, o, a1, b1, b2, b3, b4⟩ := h p e ha hc hk s m args below hf hs hP hT
  obtain ⟨⟨v, τ, h1, h2, h3⟩, h4⟩ := b3
  exact ⟨t, o, a1, b1, b2, ⟨⟨v, τ, h1, hq v τ h2, h3⟩, h4⟩, b4⟩
section Rows
variable {E : zE} {M : zY} {d : Nat} {Q : Option Value → zM → Prop} {pc : Nat} {ls : List (Option Value)} {st : List Value} {σ : zM}
theorem z_sub (ls' : List (Option Value)) (h : zle ls' ls) (k : At E M d Q pc ls' st σ) : At E M d Q pc ls st σ := fun p e s m args below meth c H locs la hX hP hS hl =>
  k p e s m args below meth c H locs la hX hP hS (zas_sub hl fun i v hv => zas_mem.mpr ⟨Nat.zero_le i, zle_at h hv⟩)
theorem z_iconst (pc' : Nat) {n : Int} {v : Int32} (hd : decode M.2.1 pc = .ok (.iconst n, 1)) (hp : pc + 1 = pc') (hv : Int32.ofInt n = v) (k : At E M d Q pc' ls (.int v :: st) σ) : At E M d Q pc ls (st) σ := by
  subst hp
  exact fun p e s m args below meth c H locs la hX hP hS hl => lv_iconst hX.1 hX.2.1 hd hv (k p e s m args below meth c H locs la hX hP hS hl)
theorem z_bipush (pc' : Nat) {n : Int} {v : Int32} (hd : decode M.2.1 pc = .ok (.bipush n, 2)) (hp : pc + 2 = pc') (hv : (Int8.ofInt n).toInt32 = v) (k : At E M d Q pc' ls (.int v :: st) σ) : At E M d Q pc ls (st) σ := by
  subst hp
  exact fun p e s m args below meth c H locs la hX hP hS hl => lv_bipush hX.1 hX.2.1 hd hv (k p e s m args below meth c H locs la hX hP hS hl)
theorem z_sipush (pc' : Nat) {n : Int} {v : Int32} (hd : decode M.2.1 pc = .ok (.sipush n, 3)) (hp : pc + 3 = pc') (hv : (Int16.ofInt n).toInt32 = v) (k : At E M d Q pc' ls (.int v :: st) σ) : At E M d Q pc ls (st) σ := by
  subst hp
  exact fun p e s m args below meth c H locs la hX hP hS hl => lv_sipush hX.1 hX.2.1 hd hv (k p e s m args below meth c H locs la hX hP hS hl)
theorem z_lconst (pc' : Nat) {n : Fin 2} {v : Int64} (hd : decode M.2.1 pc = .ok (.lconst n, 1)) (hp : pc + 1 = pc') (hv : Int64.ofNat (n : Nat) = v) (k : At E M d Q pc' ls (.long v :: st) σ) : At E M d Q pc ls (st) σ := by
  subst hp
  exact fun p e s m args below meth c H locs la hX hP hS hl => lv_lconst hX.1 hX.2.1 hd hv (k p e s m args below meth c H locs la hX hP hS hl)
theorem z_null (pc' : Nat) (hd : decode M.2.1 pc = .ok (.aconst_null, 1)) (hp : pc + 1 = pc') (k : At E M d Q pc' ls (.null :: st) σ) : At E M d Q pc ls (st) σ := by
  subst hp
  exact fun p e s m args below meth c H locs la hX hP hS hl => lv_null hX.1 hX.2.1 hd (k p e s m args below meth c H locs la hX hP hS hl)
theorem z_iload (pc' : Nat) {i : Nat} {x : Int32} (hd : decode M.2.1 pc = .ok (.iload i, 2)) (hp : pc + 2 = pc') (hi : ls[i]? = some (some (.int x))) (k : At E M d Q pc' ls (.int x :: st) σ) : At E M d Q pc ls (st) σ := by
  subst hp
  exact fun p e s m args below meth c H locs la hX hP hS hl => lv_iload hX.1 hX.2.1 hd (zas_at hl hi) (k p e s m args below meth c H locs la hX hP hS hl)
theorem z_lload (pc' : Nat) {i : Nat} {x : Int64} (hd : decode M.2.1 pc = .ok (.lload i, 2)) (hp : pc + 2 = pc') (hi : ls[i]? = some (some (.long x))) (k : At E M d Q pc' ls (.long x :: st) σ) : At E M d Q pc ls (st) σ := by
  subst hp
  exact fun p e s m args below meth c H locs la hX hP hS hl => lv_lload hX.1 hX.2.1 hd (zas_at hl hi) (k p e s m args below meth c H locs la hX hP hS hl)
theorem z_iload_n (pc' : Nat) {n : Fin 4} {x : Int32} (hd : decode M.2.1 pc = .ok (.iload_n n, 1)) (hp : pc + 1 = pc') (hi : ls[(n : Nat)]? = some (some (.int x))) (k : At E M d Q pc' ls (.int x :: st) σ) : At E M d Q pc ls (st) σ := by
  subst hp
  exact fun p e s m args below meth c H locs la hX hP hS hl => lv_iload_n hX.1 hX.2.1 hd rfl (zas_at hl hi) (k p e s m args below meth c H locs la hX hP hS hl)
theorem z_lload_n (pc' : Nat) {n : Fin 4} {x : Int64} (hd : decode M.2.1 pc = .ok (.lload_n n, 1)) (hp : pc + 1 = pc') (hi : ls[(n : Nat)]? = some (some (.long x))) (k : At E M d Q pc' ls (.long x :: st) σ) : At E M d Q pc ls (st) σ := by
  subst hp
  exact fun p e s m args below meth c H locs la hX hP hS hl => lv_lload_n hX.1 hX.2.1 hd rfl (zas_at hl hi) (k p e s m args below meth c H locs la hX hP hS hl)
theorem z_aload (pc' : Nat) {i : Nat} {x : Nat} (hd : decode M.2.1 pc = .ok (.aload i, 2)) (hp : pc + 2 = pc') (hi : ls[i]? = some (some (zr E x))) (k : At E M d Q pc' ls (zr E x :: st) σ) : At E M d Q pc ls (st) σ := by
  subst hp
  exact fun p e s m args below meth c H locs la hX hP hS hl => lv_aload hX.1 hX.2.1 hd (zas_at hl hi) (k p e s m args below meth c H locs la hX hP hS hl)
theorem z_aload_n (pc' : Nat) {n : Fin 4} {x : Nat} (hd : decode M.2.1 pc = .ok (.aload_n n, 1)) (hp : pc + 1 = pc') (hi : ls[(n : Nat)]? = some (some (zr E x))) (k : At E M d Q pc' ls (zr E x :: st) σ) : At E M d Q pc ls (st) σ := by
  subst hp
  exact fun p e s m args below meth c H locs la hX hP hS hl => lv_aload_n hX.1 hX.2.1 hd rfl (zas_at hl hi) (k p e s m args below meth c H locs la hX hP hS hl)
theorem z_aloadN (pc' : Nat) {i : Nat} (hd : decode M.2.1 pc = .ok (.aload i, 2)) (hp : pc + 2 = pc') (hi : ls[i]? = some (some .null)) (k : At E M d Q pc' ls (.null :: st) σ) : At E M d Q pc ls (st) σ := by
  subst hp
  exact fun p e s m args below meth c H locs la hX hP hS hl => lv_aloadN hX.1 hX.2.1 hd (zas_at hl hi) (k p e s m args below meth c H locs la hX hP hS hl)
theorem z_aload_nN (pc' : Nat) {n : Fin 4} (hd : decode M.2.1 pc = .ok (.aload_n n, 1)) (hp : pc + 1 = pc') (hi : ls[(n : Nat)]? = some (some .null)) (k : At E M d Q pc' ls (.null :: st) σ) : At E M d Q pc ls (st) σ := by
  subst hp
  exact fun p e s m args below meth c H locs la hX hP hS hl => lv_aload_nN hX.1 hX.2.1 hd rfl (zas_at hl hi) (k p e s m args below meth c H locs la hX hP hS hl)
theorem z_iadd (pc' : Nat) {x y : Int32} (hd : decode M.2.1 pc = .ok (.iadd, 1)) (hp : pc + 1 = pc') (k : At E M d Q pc' ls (.int (x + y) :: st) σ) : At E M d Q pc ls (.int y :: .int x :: st) σ := by
  subst hp
  exact fun p e s m args below meth c H locs la hX hP hS hl => lv_iadd hX.1 hX.2.1 hd (k p e s m args below meth c H locs la hX hP hS hl)
theorem z_isub (pc' : Nat) {x y : Int32} (hd : decode M.2.1 pc = .ok (.isub, 1)) (hp : pc + 1 = pc') (k : At E M d Q pc' ls (.int (x - y) :: st) σ) : At E M d Q pc ls (.int y :: .int x :: st) σ := by
  subst hp
  exact fun p e s m args below meth c H locs la hX hP hS hl => lv_isub hX.1 hX.2.1 hd (k p e s m args below meth c H locs la hX hP hS hl)
theorem z_imul (pc' : Nat) {x y : Int32} (hd : decode M.2.1 pc = .ok (.imul, 1)) (hp : pc + 1 = pc') (k : At E M d Q pc' ls (.int (x * y) :: st) σ) : At E M d Q pc ls (.int y :: .int x :: st) σ := by
  subst hp
  exact fun p e s m args below meth c H locs la hX hP hS hl => lv_imul hX.1 hX.2.1 hd (k p e s m args below meth c H locs la hX hP hS hl)
theorem z_iand (pc' : Nat) {x y : Int32} (hd : decode M.2.1 pc = .ok (.iand, 1)) (hp : pc + 1 = pc') (k : At E M d Q pc' ls (.int (x &&& y) :: st) σ) : At E M d Q pc ls (.int y :: .int x :: st) σ := by
  subst hp
  exact fun p e s m args below meth c H locs la hX hP hS hl => lv_iand hX.1 hX.2.1 hd (k p e s m args below meth c H locs la hX hP hS hl)
theorem z_ior (pc' : Nat) {x y : Int32} (hd : decode M.2.1 pc = .ok (.ior, 1)) (hp : pc + 1 = pc') (k : At E M d Q pc' ls (.int (x ||| y) :: st) σ) : At E M d Q pc ls (.int y :: .int x :: st) σ := by
  subst hp
  exact fun p e s m args below meth c H locs la hX hP hS hl => lv_ior hX.1 hX.2.1 hd (k p e s m args below meth c H locs la hX hP hS hl)
theorem z_ixor (pc' : Nat) {x y : Int32} (hd : decode M.2.1 pc = .ok (.ixor, 1)) (hp : pc + 1 = pc') (k : At E M d Q pc' ls (.int (x ^^^ y) :: st) σ) : At E M d Q pc ls (.int y :: .int x :: st) σ := by
  subst hp
  exact fun p e s m args below meth c H locs la hX hP hS hl => lv_ixor hX.1 hX.2.1 hd (k p e s m args below meth c H locs la hX hP hS hl)
theorem z_ishl (pc' : Nat) {x y : Int32} (hd : decode M.2.1 pc = .ok (.ishl, 1)) (hp : pc + 1 = pc') (k : At E M d Q pc' ls (.int (x <<< (y &&& 31)) :: st) σ) : At E M d Q pc ls (.int y :: .int x :: st) σ := by
  subst hp
  exact fun p e s m args below meth c H locs la hX hP hS hl => lv_ishl hX.1 hX.2.1 hd (k p e s m args below meth c H locs la hX hP hS hl)
theorem z_ishr (pc' : Nat) {x y : Int32} (hd : decode M.2.1 pc = .ok (.ishr, 1)) (hp : pc + 1 = pc') (k : At E M d Q pc' ls (.int (x >>> (y &&& 31)) :: st) σ) : At E M d Q pc ls (.int y :: .int x :: st) σ := by
  subst hp
  exact fun p e s m args below meth c H locs la hX hP hS hl => lv_ishr hX.1 hX.2.1 hd (k p e s m args below meth c H locs la hX hP hS hl)
theorem z_idiv (pc' : Nat) {x y : Int32} (hd : decode M.2.1 pc = .ok (.idiv, 1)) (hp : pc + 1 = pc') (hne : ¬ y = 0) (k : At E M d Q pc' ls (.int (x / y) :: st) σ) : At E M d Q pc ls (.int y :: .int x :: st) σ := by
  subst hp
  exact fun p e s m args below meth c H locs la hX hP hS hl => lv_idiv hX.1 hX.2.1 hd hne (k p e s m args below meth c H locs la hX hP hS hl)
theorem z_irem (pc' : Nat) {x y : Int32} (hd : decode M.2.1 pc = .ok (.irem, 1)) (hp : pc + 1 = pc') (hne : ¬ y = 0) (k : At E M d Q pc' ls (.int (x - x / y * y) :: st) σ) : At E M d Q pc ls (.int y :: .int x :: st) σ := by
  subst hp
  exact fun p e s m args below meth c H locs la hX hP hS hl => lv_irem hX.1 hX.2.1 hd hne (k p e s m args below meth c H locs la hX hP hS hl)
theorem z_ladd (pc' : Nat) {x y : Int64} (hd : decode M.2.1 pc = .ok (.ladd, 1)) (hp : pc + 1 = pc') (k : At E M d Q pc' ls (.long (x + y) :: st) σ) : At E M d Q pc ls (.long y :: .long x :: st) σ := by
  subst hp
  exact fun p e s m args below meth c H locs la hX hP hS hl => lv_ladd hX.1 hX.2.1 hd (k p e s m args below meth c H locs la hX hP hS hl)
theorem z_lsub (pc' : Nat) {x y : Int64} (hd : decode M.2.1 pc = .ok (.lsub, 1)) (hp : pc + 1 = pc') (k : At E M d Q pc' ls (.long (x - y) :: st) σ) : At E M d Q pc ls (.long y :: .long x :: st) σ := by
  subst hp
  exact fun p e s m args below meth c H locs la hX hP hS hl => lv_lsub hX.1 hX.2.1 hd (k p e s m args below meth c H locs la hX hP hS hl)
theorem z_lmul (pc' : Nat) {x y : Int64} (hd : decode M.2.1 pc = .ok (.lmul, 1)) (hp : pc + 1 = pc') (k : At E M d Q pc' ls (.long (x * y) :: st) σ) : At E M d Q pc ls (.long y :: .long x :: st) σ := by
  subst hp
  exact fun p e s m args below meth c H locs la hX hP hS hl => lv_lmul hX.1 hX.2.1 hd (k p e s m args below meth c H locs la hX hP hS hl)
theorem z_ldiv (pc' : Nat) {x y : Int64} (hd : decode M.2.1 pc = .ok (.ldiv, 1)) (hp : pc + 1 = pc') (hne : ¬ y = 0) (k : At E M d Q pc' ls (.long (x / y) :: st) σ) : At E M d Q pc ls (.long y :: .long x :: st) σ := by
  subst hp
  exact fun p e s m args below meth c H locs la hX hP hS hl => lv_ldiv hX.1 hX.2.1 hd hne (k p e s m args below meth c H locs la hX hP hS hl)
theorem z_lrem (pc' : Nat) {x y : Int64} (hd : decode M.2.1 pc = .ok (.lrem, 1)) (hp : pc + 1 = pc') (hne : ¬ y = 0) (k : At E M d Q pc' ls (.long (x - x / y * y) :: st) σ) : At E M d Q pc ls (.long y :: .long x :: st) σ := by
  subst hp
  exact fun p e s m args below meth c H locs la hX hP hS hl => lv_lrem hX.1 hX.2.1 hd hne (k p e s m args below meth c H locs la hX hP hS hl)
theorem z_lcmp (pc' : Nat) {x y : Int64} (hd : decode M.2.1 pc = .ok (.lcmp, 1)) (hp : pc + 1 = pc') (k : At E M d Q pc' ls (.int (lg_cmp x y) :: st) σ) : At E M d Q pc ls (.long y :: .long x :: st) σ := by
  subst hp
  exact fun p e s m args below meth c H locs la hX hP hS hl => W.lcmp hX.1 hX.2.1 hd (k p e s m args below meth c H locs la hX hP hS hl)
theorem z_iushr (pc' : Nat) {x y : Int32} (hd : decode M.2.1 pc = .ok (.iushr, 1)) (hp : pc + 1 = pc') (k : At E M d Q pc' ls (.int ((x.toUInt32 >>> (y.toUInt32 &&& Int32.toUInt32 31)).toInt32) :: st) σ) : At E M d Q pc ls (.int y :: .int x :: st) σ := by
  subst hp
  exact fun p e s m args below meth c H locs la hX hP hS hl => lv_iushr hX.1 hX.2.1 hd rfl (k p e s m args below meth c H locs la hX hP hS hl)
theorem z_i2l (pc' : Nat) {x : Int32} (hd : decode M.2.1 pc = .ok (.i2l, 1)) (hp : pc + 1 = pc') (k : At E M d Q pc' ls (.long x.toInt64 :: st) σ) : At E M d Q pc ls (.int x :: st) σ := by
  subst hp
  exact fun p e s m args below meth c H locs la hX hP hS hl => lv_i2l hX.1 hX.2.1 hd rfl (k p e s m args below meth c H locs la hX hP hS hl)
theorem z_l2i (pc' : Nat) {x : Int64} (hd : decode M.2.1 pc = .ok (.l2i, 1)) (hp : pc + 1 = pc') (k : At E M d Q pc' ls (.int x.toInt32 :: st) σ) : At E M d Q pc ls (.long x :: st) σ := by
  subst hp
  exact fun p e s m args below meth c H locs la hX hP hS hl => lv_l2i hX.1 hX.2.1 hd rfl (k p e s m args below meth c H locs la hX hP hS hl)
theorem z_i2b (pc' : Nat) {x : Int32} (hd : decode M.2.1 pc = .ok (.i2b, 1)) (hp : pc + 1 = pc') (k : At E M d Q pc' ls (.int x.toInt8.toInt32 :: st) σ) : At E M d Q pc ls (.int x :: st) σ := by
  subst hp
  exact fun p e s m args below meth c H locs la hX hP hS hl => lv_i2b hX.1 hX.2.1 hd rfl (k p e s m args below meth c H locs la hX hP hS hl)
theorem z_dup (pc' : Nat) {va : Value} (hd : decode M.2.1 pc = .ok (.dup, 1)) (hp : pc + 1 = pc') (hc : va.category = 1) (k : At E M d Q pc' ls (va :: va :: st) σ) : At E M d Q pc ls (va :: st) σ := by
  subst hp
  exact fun p e s m args below meth c H locs la hX hP hS hl => lv_dup hX.1 hX.2.1 hd hc (k p e s m args below meth c H locs la hX hP hS hl)
theorem z_pop (pc' : Nat) {va : Value} (hd : decode M.2.1 pc = .ok (.pop, 1)) (hp : pc + 1 = pc') (hc : va.category = 1) (k : At E M d Q pc' ls (st) σ) : At E M d Q pc ls (va :: st) σ := by
  subst hp
  exact fun p e s m args below meth c H locs la hX hP hS hl => lv_pop hX.1 hX.2.1 hd hc (k p e s m args below meth c H locs la hX hP hS hl)
theorem z_dup2 (pc' : Nat) {va vb : Value} (hd : decode M.2.1 pc = .ok (.dup2, 1)) (hp : pc + 1 = pc') (hc : va.category = 1) (hc2 : vb.category = 1) (k : At E M d Q pc' ls (va :: vb :: va :: vb :: st) σ) : At E M d Q pc ls (va :: vb :: st) σ := by
  subst hp
  exact fun p e s m args below meth c H locs la hX hP hS hl => lv_dup2_11 hX.1 hX.2.1 hd hc hc2 (k p e s m args below meth c H locs la hX hP hS hl)
theorem z_dup2l (pc' : Nat) {va : Value} (hd : decode M.2.1 pc = .ok (.dup2, 1)) (hp : pc + 1 = pc') (hc : va.category = 2) (k : At E M d Q pc' ls (va :: va :: st) σ) : At E M d Q pc ls (va :: st) σ := by
  subst hp
  exact fun p e s m args below meth c H locs la hX hP hS hl => lv_dup2_2 hX.1 hX.2.1 hd hc (k p e s m args below meth c H locs la hX hP hS hl)
theorem z_ldc2 (pc' : Nat) {i : Nat} {v : Int64} (hd : decode M.2.1 pc = .ok (.ldc2_w i, 3)) (hp : pc + 3 = pc') (hc : Cond.constantLong M.1.cls i v ∈ zTb) (k : At E M d Q pc' ls (.long v :: st) σ) : At E M d Q pc ls (st) σ := by
  subst hp
  exact fun p e s m args below meth c H locs la hX hP hS hl => (fun hx hb hc hd k => lv_ldc2 hx hb hX.2.2.2.2.2.1 (hX.2.2.2.2.2.2.1 _ hc) hd k) hX.1 hX.2.1 hc hd (k p e s m args below meth c H locs la hX hP hS hl)
theorem z_ldcw (pc' : Nat) {i : Nat} {v : Int32} (hd : decode M.2.1 pc = .ok (.ldc_w i, 3)) (hp : pc + 3 = pc') (hc : Cond.constant M.1.cls i v ∈ zTb) (k : At E M d Q pc' ls (.int v :: st) σ) : At E M d Q pc ls (st) σ := by
  subst hp
  exact fun p e s m args below meth c H locs la hX hP hS hl => (fun hx hb hc hd k => lv_ldcw hx hb hX.2.2.2.2.2.1 (hX.2.2.2.2.2.2.1 _ hc) hd k) hX.1 hX.2.1 hc hd (k p e s m args below meth c H locs la hX hP hS hl)
theorem z_goto (tgt : Nat) {off : Int} (hd : decode M.2.1 pc = .ok (.goto off, 3)) (ht : (pc : Int) + off = (tgt : Int)) (k : At E M d Q tgt ls st σ) : At E M d Q pc ls st σ := fun p e s m args below meth c H locs la hX hP hS hl => lv_goto hX.1 hX.2.1 hd ht (k p e s m args below meth c H locs la hX hP hS hl)
theorem z_if_eq (tgt pc' : Nat) {x : Int32} {off : Int} (hd : decode M.2.1 pc = .ok (.ifCond .eq off, 3)) (ht : (pc : Int) + off = (tgt : Int)) (hp : pc + 3 = pc') (kt : x = 0 → At E M d Q tgt ls st σ) (kf : ¬ x = 0 → At E M d Q pc' ls st σ) : At E M d Q pc ls (.int x :: st) σ := by
  subst hp
  exact fun p e s m args below meth c H locs la hX hP hS hl => lv_if_eq hX.1 hX.2.1 hd ht (fun h => kt h p e s m args below meth c H locs la hX hP hS hl) (fun h => kf h p e s m args below meth c H locs la hX hP hS hl)
theorem z_if_ne (tgt pc' : Nat) {x : Int32} {off : Int} (hd : decode M.2.1 pc = .ok (.ifCond .ne off, 3)) (ht : (pc : Int) + off = (tgt : Int)) (hp : pc + 3 = pc') (kt : ¬ x = 0 → At E M d Q tgt ls st σ) (kf : x = 0 → At E M d Q pc' ls st σ) : At E M d Q pc ls (.int x :: st) σ := by
  subst hp
  exact fun p e s m args below meth c H locs la hX hP hS hl => lv_if_ne hX.1 hX.2.1 hd ht (fun h => kt h p e s m args below meth c H locs la hX hP hS hl) (fun h => kf h p e s m args below meth c H locs la hX hP hS hl)
theorem z_if_lt (tgt pc' : Nat) {x : Int32} {off : Int} (hd : decode M.2.1 pc = .ok (.ifCond .lt off, 3)) (ht : (pc : Int) + off = (tgt : Int)) (hp : pc + 3 = pc') (kt : x < 0 → At E M d Q tgt ls st σ) (kf : ¬ x < 0 → At E M d Q pc' ls st σ) : At E M d Q pc ls (.int x :: st) σ := by
  subst hp
  exact fun p e s m args below meth c H locs la hX hP hS hl => lv_if_lt hX.1 hX.2.1 hd ht (fun h => kt h p e s m args below meth c H locs la hX hP hS hl) (fun h => kf h p e s m args below meth c H locs la hX hP hS hl)
theorem z_if_ge (tgt pc' : Nat) {x : Int32} {off : Int} (hd : decode M.2.1 pc = .ok (.ifCond .ge off, 3)) (ht : (pc : Int) + off = (tgt : Int)) (hp : pc + 3 = pc') (kt : 0 ≤ x → At E M d Q tgt ls st σ) (kf : ¬ 0 ≤ x → At E M d Q pc' ls st σ) : At E M d Q pc ls (.int x :: st) σ := by
  subst hp
  exact fun p e s m args below meth c H locs la hX hP hS hl => lv_if_ge hX.1 hX.2.1 hd ht (fun h => kt h p e s m args below meth c H locs la hX hP hS hl) (fun h => kf h p e s m args below meth c H locs la hX hP hS hl)
theorem z_if_gt (tgt pc' : Nat) {x : Int32} {off : Int} (hd : decode M.2.1 pc = .ok (.ifCond .gt off, 3)) (ht : (pc : Int) + off = (tgt : Int)) (hp : pc + 3 = pc') (kt : 0 < x → At E M d Q tgt ls st σ) (kf : ¬ 0 < x → At E M d Q pc' ls st σ) : At E M d Q pc ls (.int x :: st) σ := by
  subst hp
  exact fun p e s m args below meth c H locs la hX hP hS hl => lv_if_gt hX.1 hX.2.1 hd ht (fun h => kt h p e s m args below meth c H locs la hX hP hS hl) (fun h => kf h p e s m args below meth c H locs la hX hP hS hl)
theorem z_if_le (tgt pc' : Nat) {x : Int32} {off : Int} (hd : decode M.2.1 pc = .ok (.ifCond .le off, 3)) (ht : (pc : Int) + off = (tgt : Int)) (hp : pc + 3 = pc') (kt : x ≤ 0 → At E M d Q tgt ls st σ) (kf : ¬ x ≤ 0 → At E M d Q pc' ls st σ) : At E M d Q pc ls (.int x :: st) σ := by
  subst hp
  exact fun p e s m args below meth c H locs la hX hP hS hl => lv_if_le hX.1 hX.2.1 hd ht (fun h => kt h p e s m args below meth c H locs la hX hP hS hl) (fun h => kf h p e s m args below meth c H locs la hX hP hS hl)
theorem z_icmp_eq (tgt pc' : Nat) {x y : Int32} {off : Int} (hd : decode M.2.1 pc = .ok (.if_icmp .eq off, 3)) (ht : (pc : Int) + off = (tgt : Int)) (hp : pc + 3 = pc') (kt : x = y → At E M d Q tgt ls st σ) (kf : ¬ x = y → At E M d Q pc' ls st σ) : At E M d Q pc ls (.int y :: .int x :: st) σ := by
  subst hp
  exact fun p e s m args below meth c H locs la hX hP hS hl => lv_icmp_eq hX.1 hX.2.1 hd ht (fun h => kt h p e s m args below meth c H locs la hX hP hS hl) (fun h => kf h p e s m args below meth c H locs la hX hP hS hl)
theorem z_icmp_ne (tgt pc' : Nat) {x y : Int32} {off : Int} (hd : decode M.2.1 pc = .ok (.if_icmp .ne off, 3)) (ht : (pc : Int) + off = (tgt : Int)) (hp : pc + 3 = pc') (kt : ¬ x = y → At E M d Q tgt ls st σ) (kf : x = y → At E M d Q pc' ls st σ) : At E M d Q pc ls (.int y :: .int x :: st) σ := by
  subst hp
  exact fun p e s m args below meth c H locs la hX hP hS hl => lv_icmp_ne hX.1 hX.2.1 hd ht (fun h => kt h p e s m args below meth c H locs la hX hP hS hl) (fun h => kf h p e s m args below meth c H locs la hX hP hS hl)
theorem z_icmp_lt (tgt pc' : Nat) {x y : Int32} {off : Int} (hd : decode M.2.1 pc = .ok (.if_icmp .lt off, 3)) (ht : (pc : Int) + off = (tgt : Int)) (hp : pc + 3 = pc') (kt : x < y → At E M d Q tgt ls st σ) (kf : ¬ x < y → At E M d Q pc' ls st σ) : At E M d Q pc ls (.int y :: .int x :: st) σ := by
  subst hp
  exact fun p e s m args below meth c H locs la hX hP hS hl => lv_icmp_lt hX.1 hX.2.1 hd ht (fun h => kt h p e s m args below meth c H locs la hX hP hS hl) (fun h => kf h p e s m args below meth c H locs la hX hP hS hl)
theorem z_icmp_ge (tgt pc' : Nat) {x y : Int32} {off : Int} (hd : decode M.2.1 pc = .ok (.if_icmp .ge off, 3)) (ht : (pc : Int) + off = (tgt : Int)) (hp : pc + 3 = pc') (kt : y ≤ x → At E M d Q tgt ls st σ) (kf : ¬ y ≤ x → At E M d Q pc' ls st σ) : At E M d Q pc ls (.int y :: .int x :: st) σ := by
  subst hp
  exact fun p e s m args below meth c H locs la hX hP hS hl => lv_icmp_ge hX.1 hX.2.1 hd ht (fun h => kt h p e s m args below meth c H locs la hX hP hS hl) (fun h => kf h p e s m args below meth c H locs la hX hP hS hl)
theorem z_icmp_gt (tgt pc' : Nat) {x y : Int32} {off : Int} (hd : decode M.2.1 pc = .ok (.if_icmp .gt off, 3)) (ht : (pc : Int) + off = (tgt : Int)) (hp : pc + 3 = pc') (kt : y < x → At E M d Q tgt ls st σ) (kf : ¬ y < x → At E M d Q pc' ls st σ) : At E M d Q pc ls (.int y :: .int x :: st) σ := by
  subst hp
  exact fun p e s m args below meth c H locs la hX hP hS hl => lv_icmp_gt hX.1 hX.2.1 hd ht (fun h => kt h p e s m args below meth c H locs la hX hP hS hl) (fun h => kf h p e s m args below meth c H locs la hX hP hS hl)
theorem z_icmp_le (tgt pc' : Nat) {x y : Int32} {off : Int} (hd : decode M.2.1 pc = .ok (.if_icmp .le off, 3)) (ht : (pc : Int) + off = (tgt : Int)) (hp : pc + 3 = pc') (kt : x ≤ y → At E M d Q tgt ls st σ) (kf : ¬ x ≤ y → At E M d Q pc' ls st σ) : At E M d Q pc ls (.int y :: .int x :: st) σ := by
  subst hp
  exact fun p e s m args below meth c H locs la hX hP hS hl => lv_icmp_le hX.1 hX.2.1 hd ht (fun h => kt h p e s m args below meth c H locs la hX hP hS hl) (fun h => kf h p e s m args below meth c H locs la hX hP hS hl)
theorem z_ifnull (pc' : Nat) {a : Nat} {off : Int} (hd : decode M.2.1 pc = .ok (.ifnull off, 3)) (hp : pc + 3 = pc') (k : At E M d Q pc' ls st σ) : At E M d Q pc ls (zr E a :: st) σ := by
  subst hp
  exact fun p e s m args below meth c H locs la hX hP hS hl => lv_ifnull hX.1 hX.2.1 hd (k p e s m args below meth c H locs la hX hP hS hl)
theorem z_ifnullN (tgt : Nat) {off : Int} (hd : decode M.2.1 pc = .ok (.ifnull off, 3)) (ht : (pc : Int) + off = (tgt : Int)) (k : At E M d Q tgt ls st σ) : At E M d Q pc ls (.null :: st) σ := fun p e s m args below meth c H locs la hX hP hS hl => lv_ifnullN hX.1 hX.2.1 hd ht (k p e s m args below meth c H locs la hX hP hS hl)
theorem z_istoreg (pc' : Nat) {i : Nat} {x : Int32} {ls' : List (Option Value)} (hd : decode M.2.1 pc = .ok (.istore i, 2)) (hp : pc + 2 = pc') (hn : i < M.2.2.1) (hc : zck ls i = true) (hs : ls.set i (some (.int x)) = ls') (k : At E M d Q pc' ls' st σ) : At E M d Q pc ls (.int x :: st) σ := by
  subst hp
  subst hs
  exact fun p e s m args below meth c H locs la hX hP hS hl => lv_istore hX.1 hX.2.1 hd hl hn rfl (fun la' hl' => k p e s m args below meth c H locs la' hX hP hS (zas_set1 hl' hc))
theorem z_istore_ng (pc' : Nat) {n : Fin 4} {x : Int32} {ls' : List (Option Value)} (hd : decode M.2.1 pc = .ok (.istore_n n, 1)) (hp : pc + 1 = pc') (hn : (n : Nat) < M.2.2.1) (hc : zck ls (n : Nat) = true) (hs : ls.set (n : Nat) (some (.int x)) = ls') (k : At E M d Q pc' ls' st σ) : At E M d Q pc ls (.int x :: st) σ := by
  subst hp
  subst hs
  exact fun p e s m args below meth c H locs la hX hP hS hl => lv_istore_n hX.1 hX.2.1 hd rfl hl hn rfl (fun la' hl' => k p e s m args below meth c H locs la' hX hP hS (zas_set1 hl' hc))
theorem z_astoreg (pc' : Nat) {i : Nat} {x : Nat} {ls' : List (Option Value)} (hd : decode M.2.1 pc = .ok (.astore i, 2)) (hp : pc + 2 = pc') (hn : i < M.2.2.1) (hc : zck ls i = true) (hs : ls.set i (some (zr E x)) = ls') (k : At E M d Q pc' ls' st σ) : At E M d Q pc ls (zr E x :: st) σ := by
  subst hp
  subst hs
  exact fun p e s m args below meth c H locs la hX hP hS hl => lv_astore hX.1 hX.2.1 hd hl hn rfl (fun la' hl' => k p e s m args below meth c H locs la' hX hP hS (zas_set1 hl' hc))
theorem z_astore_ng (pc' : Nat) {n : Fin 4} {x : Nat} {ls' : List (Option Value)} (hd : decode M.2.1 pc = .ok (.astore_n n, 1)) (hp : pc + 1 = pc') (hn : (n : Nat) < M.2.2.1) (hc : zck ls (n : Nat) = true) (hs : ls.set (n : Nat) (some (zr E x)) = ls') (k : At E M d Q pc' ls' st σ) : At E M d Q pc ls (zr E x :: st) σ := by
  subst hp
  subst hs
  exact fun p e s m args below meth c H locs la hX hP hS hl => lv_astore_n hX.1 hX.2.1 hd rfl hl hn rfl (fun la' hl' => k p e s m args below meth c H locs la' hX hP hS (zas_set1 hl' hc))
theorem z_lstoreg (pc' : Nat) {i : Nat} {x : Int64} {ls' : List (Option Value)} (hd : decode M.2.1 pc = .ok (.lstore i, 2)) (hp : pc + 2 = pc') (hn : i + 1 < M.2.2.1) (hc : zck ls i = true) (hs : (ls.set i (some (.long x))).set (i + 1) none = ls') (k : At E M d Q pc' ls' st σ) : At E M d Q pc ls (.long x :: st) σ := by
  subst hp
  subst hs
  exact fun p e s m args below meth c H locs la hX hP hS hl => lv_lstore hX.1 hX.2.1 hd hl hn rfl (fun la' hl' => k p e s m args below meth c H locs la' hX hP hS (zas_set2 hl' hc))
theorem z_lstore_ng (pc' : Nat) {n : Fin 4} {x : Int64} {ls' : List (Option Value)} (hd : decode M.2.1 pc = .ok (.lstore_n n, 1)) (hp : pc + 1 = pc') (hn : (n : Nat) + 1 < M.2.2.1) (hc : zck ls (n : Nat) = true) (hs : (ls.set (n : Nat) (some (.long x))).set ((n : Nat) + 1) none = ls') (k : At E M d Q pc' ls' st σ) : At E M d Q pc ls (.long x :: st) σ := by
  subst hp
  subst hs
  exact fun p e s m args below meth c H locs la hX hP hS hl => lv_lstore_n hX.1 hX.2.1 hd rfl hl hn rfl (fun la' hl' => k p e s m args below meth c H locs la' hX hP hS (zas_set2 hl' hc))
theorem z_iincg (pc' : Nat) {i : Nat} {n : Int} {x v : Int32} {ls' : List (Option Value)} (hd : decode M.2.1 pc = .ok (.iinc i n, 3)) (hp : pc + 3 = pc') (hi : ls[i]? = some (some (.int x))) (hv : x + Int32.ofInt n = v) (hn : i < M.2.2.1) (hc : zck ls i = true) (hs : ls.set i (some (.int v)) = ls') (k : At E M d Q pc' ls' st σ) : At E M d Q pc ls st σ := by
  subst hp
  subst hs
  intro p e s m args below meth c H locs la hX hP hS hl
  obtain ⟨j, hj⟩ := List.getElem?_of_mem (zas_mem.mpr ⟨Nat.zero_le i, hi⟩)
  exact lv_iinc hX.1 hX.2.1 hd hl hj hv hn rfl (fun la' hl' => k p e s m args below meth c H locs la' hX hP hS (zas_set1 hl' hc))
end Rows
end
section
section Rows2
variable {E : zE} {M : zY} {d : Nat} {Q : Option Value → zM → Prop} {pc : Nat} {ls : List (Option Value)} {st : List Value} {σ : zM}
theorem z_iret {v : Int32} (hd : decode M.2.1 pc = .ok (.ireturn, 1)) (hr : M.2.2.2 = some .int) (hq : Q (some (.int v)) σ) : At E M d Q pc ls [.int v] σ := by
  intro p e s m args below meth c H locs la hX hP hS hl
  exact W.iret hX.1 hX.2.1 (hX.2.2.2.1.trans hr) (fun t ht hW => ⟨⟨some (.int v), σ, rfl, hq, by rw [ht]; exact hP, va_K.moved hW.alike hX.2.2.2.2.2.2.2⟩, hS.F ht⟩) hS.2.2 hd hX.2.2.2.2.1
theorem z_zret {v : Int32} (hd : decode M.2.1 pc = .ok (.ireturn, 1)) (hr : M.2.2.2 = some .boolean) (hv : v = 0 ∨ v = 1) (hq : Q (some (.int v)) σ) : At E M d Q pc ls [.int v] σ := by
  intro p e s m args below meth c H locs la hX hP hS hl
  exact W.zret hX.1 hX.2.1 (hX.2.2.2.1.trans hr) (by rcases hv with rfl | rfl <;> rfl) (fun t ht hW => ⟨⟨some (.int v), σ, rfl, hq, by rw [ht]; exact hP, va_K.moved hW.alike hX.2.2.2.2.2.2.2⟩, hS.F ht⟩) hS.2.2 hd hX.2.2.2.2.1
theorem z_lret {v : Int64} (hd : decode M.2.1 pc = .ok (.lreturn, 1)) (hr : M.2.2.2 = some .long) (hq : Q (some (.long v)) σ) : At E M d Q pc ls [.long v] σ := by
  intro p e s m args below meth c H locs la hX hP hS hl
  exact W.lret hX.1 hX.2.1 (hX.2.2.2.1.trans hr) (fun t ht hW => ⟨⟨some (.long v), σ, rfl, hq, by rw [ht]; exact hP, va_K.moved hW.alike hX.2.2.2.2.2.2.2⟩, hS.F ht⟩) hS.2.2 hd hX.2.2.2.2.1
theorem z_vret (hd : decode M.2.1 pc = .ok (.return_, 1)) (hr : M.2.2.2 = none) (hq : Q none σ) : At E M d Q pc ls [] σ := by
  intro p e s m args below meth c H locs la hX hP hS hl
  exact W.vret hX.1 hX.2.1 (hX.2.2.2.1.trans hr) (fun t ht hW => ⟨⟨none, σ, rfl, hq, by rw [ht]; exact hP, va_K.moved hW.alike hX.2.2.2.2.2.2.2⟩, hS.F ht⟩) hS.2.2 hd hX.2.2.2.2.1
theorem z_aret {v : Value} {rt : FieldType} (hd : decode M.2.1 pc = .ok (.areturn, 1)) (hr : M.2.2.2 = some rt) (hrt : (∃ n, rt = .object n) ∨ ∃ t, rt = .array t) (hv : v = .null ∨ ∃ a, v = .ref a) (hq : Q (some v) σ) : At E M d Q pc ls [v] σ := by
  intro p e s m args below meth c H locs la hX hP hS hl
  exact W.aret hX.1 hX.2.1 (hX.2.2.2.1.trans hr) hrt hv (fun t ht hW => ⟨⟨some v, σ, rfl, hq, by rw [ht]; exact hP, va_K.moved hW.alike hX.2.2.2.2.2.2.2⟩, hS.F ht⟩) hS.2.2 hd hX.2.2.2.2.1
theorem z_iald (pc' : Nat) {a n : Nat} {i : Int32} (hd : decode M.2.1 pc = .ok (.iaload, 1)) (hp : pc + 1 = pc') (hk : kd a = (11, n)) (hi : vp_in i n) (k : At E M d Q pc' ls (.int (gi σ a i.toNatClampNeg) :: st) σ) : At E M d Q pc ls (.int i :: zr E a :: st) σ := by
  subst hp
  intro p e s m args below meth c H locs la hX hP hS hl
  exact va_iald hX.1 hX.2.1 hX.2.2.2.2.2.2.2 hP a 0 ((zW_get E σ (kd_lt (by rw [hk]; exact (by decide : (11 : Nat) ≠ 99)))).trans (by rw [zC_int hk]; rfl)) rfl hi hd (k p e s m args below meth c H locs la hX hP hS hl)
theorem z_lald (pc' : Nat) {a n : Nat} {i : Int32} (hd : decode M.2.1 pc = .ok (.laload, 1)) (hp : pc + 1 = pc') (hk : kd a = (12, n)) (hi : vp_in i n) (k : At E M d Q pc' ls (.long (gl σ a i.toNatClampNeg) :: st) σ) : At E M d Q pc ls (.int i :: zr E a :: st) σ := by
  subst hp
  intro p e s m args below meth c H locs la hX hP hS hl
  exact va_lald hX.1 hX.2.1 hX.2.2.2.2.2.2.2 hP a 1 ((zW_get E σ (kd_lt (by rw [hk]; exact (by decide : (12 : Nat) ≠ 99)))).trans (by rw [zC_long hk]; rfl)) rfl hi hd (k p e s m args below meth c H locs la hX hP hS hl)
theorem z_zald (pc' : Nat) {a n : Nat} {i : Int32} (hd : decode M.2.1 pc = .ok (.baload, 1)) (hp : pc + 1 = pc') (hk : kd a = (13, n)) (hi : vp_in i n) (k : At E M d Q pc' ls (.int (gi σ a i.toNatClampNeg) :: st) σ) : At E M d Q pc ls (.int i :: zr E a :: st) σ := by
  subst hp
  intro p e s m args below meth c H locs la hX hP hS hl
  exact va_zald hX.1 hX.2.1 hX.2.2.2.2.2.2.2 hP a 2 ((zW_get E σ (kd_lt (by rw [hk]; exact (by decide : (13 : Nat) ≠ 99)))).trans (by rw [zC_bool hk]; rfl)) rfl hi hd (k p e s m args below meth c H locs la hX hP hS hl)
theorem z_aald (pc' : Nat) {a n t : Nat} {C : String} {i : Int32} (hd : decode M.2.1 pc = .ok (.aaload, 1)) (hp : pc + 1 = pc') (hk : kd a = (t + 14, n)) (ht : (zT E)[t + 3]? = some (E.2.2.2.2 (t + 3), .object C)) (h9 : t + 14 ≠ 99) (hi : vp_in i n) (k : At E M d Q pc' ls (zr E (zLa a i.toNatClampNeg) :: st) σ) : At E M d Q pc ls (.int i :: zr E a :: st) σ := by
  subst hp
  intro p e s m args below meth c H locs la hX hP hS hl
  exact va_aldq (f := fun j => some (E.2.1 + zLa a j)) hX.1 hX.2.1 hX.2.2.2.2.2.2.2 hP a (t + 3) ((zW_get E σ (kd_lt (by rw [hk]; exact h9))).trans (by rw [zC_ref hk])) ht hi hd (k p e s m args below meth c H locs la hX hP hS hl)
theorem z_iast (pc' : Nat) {a n : Nat} {i x : Int32} (hd : decode M.2.1 pc = .ok (.iastore, 1)) (hp : pc + 1 = pc') (hk : kd a = (11, n)) (hi : vp_in i n) (k : At E M d Q pc' ls st (si σ a i.toNatClampNeg x)) : At E M d Q pc ls (.int x :: .int i :: zr E a :: st) σ := by
  subst hp
  intro p e s m args below meth c H locs la hX hP hS hl
  have hlt : a < 125 := kd_lt (by rw [hk]; exact (by decide : (11 : Nat) ≠ 99))
  refine va_iast hX.1 hX.2.1 hX.2.2.2.2.2.2.2 hP (zW_D E σ) hS a 0 ((zW_get E σ hlt).trans (by rw [zC_int hk])) rfl hi hd (fun H1 locs1 hP1 hD1 hS1 => ?_)
  rw [zW_set E (σ := σ) (τ := si σ a i.toNatClampNeg x) hlt (fun y hy => ⟨by simp [si, zu, hy], rfl, rfl⟩) (by rw [zC_int hk]; simp [si, zu, upd]; rfl)] at hP1
  exact k p e s m args below meth c H1 locs1 la hX hP1 hS1 hl
theorem z_last (pc' : Nat) {a n : Nat} {i : Int32} {x : Int64} (hd : decode M.2.1 pc = .ok (.lastore, 1)) (hp : pc + 1 = pc') (hk : kd a = (12, n)) (hi : vp_in i n) (k : At E M d Q pc' ls st (sl σ a i.toNatClampNeg x)) : At E M d Q pc ls (.long x :: .int i :: zr E a :: st) σ := by
  subst hp
  intro p e s m args below meth c H locs la hX hP hS hl
  have hlt : a < 125 := kd_lt (by rw [hk]; exact (by decide : (12 : Nat) ≠ 99))
  refine va_last hX.1 hX.2.1 hX.2.2.2.2.2.2.2 hP (zW_D E σ) hS a 1 ((zW_get E σ hlt).trans (by rw [zC_long hk])) rfl hi hd (fun H1 locs1 hP1 hD1 hS1 => ?_)
  rw [zW_set E (σ := σ) (τ := sl σ a i.toNatClampNeg x) hlt (fun y hy => ⟨rfl, by simp [sl, zu, hy], rfl⟩) (by rw [zC_long hk]; simp [sl, zu, vp_updL]; rfl)] at hP1
  exact k p e s m args below meth c H1 locs1 la hX hP1 hS1 hl
theorem z_zast (pc' : Nat) {a n : Nat} {i x : Int32} (hd : decode M.2.1 pc = .ok (.bastore, 1)) (hp : pc + 1 = pc') (hk : kd a = (13, n)) (hi : vp_in i n) (hx : x = 0 ∨ x = 1) (k : At E M d Q pc' ls st (si σ a i.toNatClampNeg x)) : At E M d Q pc ls (.int x :: .int i :: zr E a :: st) σ := by
  subst hp
  intro p e s m args below meth c H locs la hX hP hS hl
  have hlt : a < 125 := kd_lt (by rw [hk]; exact (by decide : (13 : Nat) ≠ 99))
  refine va_zast hX.1 hX.2.1 hX.2.2.2.2.2.2.2 hP (zW_D E σ) hS a 2 ((zW_get E σ hlt).trans (by rw [zC_bool hk])) rfl hi hd (fun H1 locs1 hP1 hD1 hS1 => ?_)
  have hn : vp_nar .boolean x = x := by rcases hx with rfl | rfl <;> rfl
  rw [hn] at hP1
  rw [zW_set E (σ := σ) (τ := si σ a i.toNatClampNeg x) hlt (fun y hy => ⟨by simp [si, zu, hy], rfl, rfl⟩) (by rw [zC_bool hk]; simp [si, zu, upd]; rfl)] at hP1
  exact k p e s m args below meth c H1 locs1 la hX hP1 hS1 hl
theorem z_alen (pc' : Nat) {a n : Nat} (hd : decode M.2.1 pc = .ok (.arraylength, 1)) (hp : pc + 1 = pc') (hk : kd a = (11, n)) (k : At E M d Q pc' ls (.int (nI n) :: st) σ) : At E M d Q pc ls (zr E a :: st) σ := by
  subst hp
  intro p e s m args below meth c H locs la hX hP hS hl
  exact va_alen (x := (n, .inl (σ.1 a))) hX.1 hX.2.1 hX.2.2.2.2.2.2.2 hP a 0 ((zW_get E σ (kd_lt (by rw [hk]; exact (by decide : (11 : Nat) ≠ 99)))).trans (by rw [zC_int hk])) rfl rfl hd (k p e s m args below meth c H locs la hX hP hS hl)
theorem z_alenZ (pc' : Nat) {a n : Nat} (hd : decode M.2.1 pc = .ok (.arraylength, 1)) (hp : pc + 1 = pc') (hk : kd a = (13, n)) (k : At E M d Q pc' ls (.int (nI n) :: st) σ) : At E M d Q pc ls (zr E a :: st) σ := by
  subst hp
  intro p e s m args below meth c H locs la hX hP hS hl
  exact va_alen (x := (n, .inl (σ.1 a))) hX.1 hX.2.1 hX.2.2.2.2.2.2.2 hP a 2 ((zW_get E σ (kd_lt (by rw [hk]; exact (by decide : (13 : Nat) ≠ 99)))).trans (by rw [zC_bool hk])) rfl rfl hd (k p e s m args below meth c H locs la hX hP hS hl)
theorem z_alenR (pc' : Nat) {a n t : Nat} {C : String} (hd : decode M.2.1 pc = .ok (.arraylength, 1)) (hp : pc + 1 = pc') (hk : kd a = (t + 14, n)) (ht : (zT E)[t + 3]? = some (E.2.2.2.2 (t + 3), .object C)) (h9 : t + 14 ≠ 99) (k : At E M d Q pc' ls (.int (nI n) :: st) σ) : At E M d Q pc ls (zr E a :: st) σ := by
  subst hp
  intro p e s m args below meth c H locs la hX hP hS hl
  exact va_alen (x := (n, .inr (.inr (.inr (.inr (fun j => some (E.2.1 + zLa a j))))))) hX.1 hX.2.1 hX.2.2.2.2.2.2.2 hP a (t + 3) ((zW_get E σ (kd_lt (by rw [hk]; exact h9))).trans (by rw [zC_ref hk])) ht rfl hd (k p e s m args below meth c H locs la hX hP hS hl)
/-- fields -/
theorem z_getf (pc' : Nat) {a ci j idx N : Nat} {T : u_T} {C ref : String} {v : Value} (hd : decode M.2.1 pc = .ok (.getfield idx, 3)) (hp : pc + 3 = pc') (hk : (kd a).1 = ci) (hci : ci ≤ 10) (hcl : vwCl[ci]? = some (C, T, N)) (hin : ∀ w ∈ u_ws C T N, w ∈ zTb) (hj : j < N) (hl : Cond.fieldLink M.1.cls idx ref (T j).2.1 (T j).2.2.1 ∈ zTb) (hr : (T j).1 = ref) (hv : (zO E ci a (σ.1 a) (σ.2.1 a) (σ.2.2 a))[j]? = some v)
    (k : At E M d Q pc' ls (v :: st) σ) : At E M d Q pc ls (zr E a :: st) σ := by
  subst hp
  intro p e s m args below meth c H locs la hX hP hS hla
  exact va_get hX.1 hX.2.1 hX.2.2.2.2.2.2.1 hin hX.2.2.2.2.2.1 hX.2.2.2.2.2.2.2 hP a ((zW_get E σ (kd_lt (by omega))).trans (by rw [zC_obj hk hci])) hcl j hj (hX.2.2.2.2.2.2.1 _ hl) (fun x hx => by rw [← hr]; exact hx) hv hd (k p e s m args below meth c H locs la hX hP hS hla)
theorem z_getfN (pc' : Nat) {a ci j idx N : Nat} {T : u_T} {C ref host : String} {v : Value} (hd : decode M.2.1 pc = .ok (.getfield idx, 3)) (hp : pc + 3 = pc') (hk : (kd a).1 = ci) (hci : ci ≤ 10) (hcl : vwCl[ci]? = some (C, T, N)) (hin : ∀ w ∈ u_ws C T N, w ∈ zTb) (hj : j < N) (hl : Cond.fieldLinkNest M.1.cls idx ref (T j).2.1 (T j).2.2.1 host ∈ zTb) (hr : (T j).1 = ref) (hv : (zO E ci a (σ.1 a) (σ.2.1 a) (σ.2.2 a))[j]? = some v)
    (k : At E M d Q pc' ls (v :: st) σ) : At E M d Q pc ls (zr E a :: st) σ := by
  subst hp
  intro p e s m args below meth c H locs la hX hP hS hla
  exact va_getN hX.1 hX.2.1 hX.2.2.2.2.2.2.1 hin hX.2.2.2.2.2.1 hX.2.2.2.2.2.2.2 hP a ((zW_get E σ (kd_lt (by omega))).trans (by rw [zC_obj hk hci])) hcl j hj (hX.2.2.2.2.2.2.1 _ hl) (fun x hx => by rw [← hr]; exact hx) hv hd (k p e s m args below meth c H locs la hX hP hS hla)
theorem z_putf (pc' : Nat) {a ci j idx N : Nat} {T : u_T} {C ref : String} {v : Value} {ty : FieldType} (τ : zM) (ty0 : Nat → FieldType) (hty : ∀ k, k < N → parseFieldDescriptor (T k).2.2.1 = some (ty0 k)) (hnm : ∀ a, a < N → ∀ b, b < N → a ≠ b → (T a).2.1 ≠ (T b).2.1) (hd : decode M.2.1 pc = .ok (.putfield idx, 3)) (hp : pc + 3 = pc') (hk : (kd a).1 = ci) (hci : ci ≤ 10) (hcl : vwCl[ci]? = some (C, T, N)) (hin : ∀ w ∈ u_ws C T N, w ∈ zTb) (hj : j < N) (hl : Cond.fieldLink M.1.cls idx ref (T j).2.1 (T j).2.2.1 ∈ zTb) (hr : (T j).1 = ref) (hfin : (T j).2.2.2 = false) (hpd : parseFieldDescriptor (T j).2.2.1 = some ty) (hn : narrow ty v = v) (hfit : fits ty v = true) (hlen : j < (zO E ci a (σ.1 a) (σ.2.1 a) (σ.2.2 a)).length)
    (hτ : ∀ x, x ≠ a → σ.1 x = τ.1 x ∧ σ.2.1 x = τ.2.1 x ∧ σ.2.2 x = τ.2.2 x) (hset : zO E ci a (τ.1 a) (τ.2.1 a) (τ.2.2 a) = (zO E ci a (σ.1 a) (σ.2.1 a) (σ.2.2 a)).set j v)
    (k : At E M d Q pc' ls st τ) : At E M d Q pc ls (v :: zr E a :: st) σ := by
  subst hp
  intro p e s m args below meth c H locs la hX hP hS hla
  have hlt : a < 125 := kd_lt (by omega)
  refine va_put hX.1 hX.2.1 hX.2.2.2.2.2.2.1 hin ty0 hty hnm hX.2.2.2.2.2.1 hX.2.2.2.2.2.2.2 hP (zW_D E σ) hS a ((zW_get E σ hlt).trans (by rw [zC_obj hk hci])) hcl j hj (hX.2.2.2.2.2.2.1 _ hl) (fun x hx => by rw [← hr]; exact hx) hfin hpd hn hfit hlen hd (fun H1 locs1 hP1 hD1 hS1 => ?_)
  rw [zW_set E (σ := σ) (τ := τ) hlt hτ (by rw [zC_obj hk hci, hset])] at hP1
  exact k p e s m args below meth c H1 locs1 la hX hP1 hS1 hla
theorem z_putfN (pc' : Nat) {a ci j idx N : Nat} {T : u_T} {C ref host : String} {v : Value} {ty : FieldType} (τ : zM) (ty0 : Nat → FieldType) (hty : ∀ k, k < N → parseFieldDescriptor (T k).2.2.1 = some (ty0 k)) (hnm : ∀ a, a < N → ∀ b, b < N → a ≠ b → (T a).2.1 ≠ (T b).2.1) (hd : decode M.2.1 pc = .ok (.putfield idx, 3)) (hp : pc + 3 = pc') (hk : (kd a).1 = ci) (hci : ci ≤ 10) (hcl : vwCl[ci]? = some (C, T, N)) (hin : ∀ w ∈ u_ws C T N, w ∈ zTb) (hj : j < N) (hl : Cond.fieldLinkNest M.1.cls idx ref (T j).2.1 (T j).2.2.1 host ∈ zTb) (hr : (T j).1 = ref) (hfin : (T j).2.2.2 = false) (hpd : parseFieldDescriptor (T j).2.2.1 = some ty) (hn : narrow ty v = v) (hfit : fits ty v = true) (hlen : j < (zO E ci a (σ.1 a) (σ.2.1 a) (σ.2.2 a)).length)
    (hτ : ∀ x, x ≠ a → σ.1 x = τ.1 x ∧ σ.2.1 x = τ.2.1 x ∧ σ.2.2 x = τ.2.2 x) (hset : zO E ci a (τ.1 a) (τ.2.1 a) (τ.2.2 a) = (zO E ci a (σ.1 a) (σ.2.1 a) (σ.2.2 a)).set j v)
    (k : At E M d Q pc' ls st τ) : At E M d Q pc ls (v :: zr E a :: st) σ := by
  subst hp
  intro p e s m args below meth c H locs la hX hP hS hla
  have hlt : a < 125 := kd_lt (by omega)
  refine va_putN hX.1 hX.2.1 hX.2.2.2.2.2.2.1 hin ty0 hty hnm hX.2.2.2.2.2.1 hX.2.2.2.2.2.2.2 hP (zW_D E σ) hS a ((zW_get E σ hlt).trans (by rw [zC_obj hk hci])) hcl j hj (hX.2.2.2.2.2.2.1 _ hl) (fun x hx => by rw [← hr]; exact hx) hfin hpd hn hfit hlen hd (fun H1 locs1 hP1 hD1 hS1 => ?_)
  rw [zW_set E (σ := σ) (τ := τ) hlt hτ (by rw [zC_obj hk hci, hset])] at hP1
  exact k p e s m args below meth c H1 locs1 la hX hP1 hS1 hla
theorem zh_si (σ : zM) (a j : Nat) (v : Int32) : ∀ x, x ≠ a → σ.1 x = (si σ a j v).1 x ∧ σ.2.1 x = (si σ a j v).2.1 x ∧ σ.2.2 x = (si σ a j v).2.2 x := fun x hx => ⟨by simp [si, zu, hx], rfl, rfl⟩
theorem zh_sl (σ : zM) (a j : Nat) (v : Int64) : ∀ x, x ≠ a → σ.1 x = (sl σ a j v).1 x ∧ σ.2.1 x = (sl σ a j v).2.1 x ∧ σ.2.2 x = (sl σ a j v).2.2 x := fun x hx => ⟨rfl, by simp [sl, zu, hx], rfl⟩
theorem zh_sr (σ : zM) (a j : Nat) (v : Nat) : ∀ x, x ≠ a → σ.1 x = (sr σ a j v).1 x ∧ σ.2.1 x = (sr σ a j v).2.1 x ∧ σ.2.2 x = (sr σ a j v).2.2 x := fun x hx => ⟨rfl, rfl, by simp [sr, zu, hx]⟩
/-- Math.max, min; System.arraycopy -/
theorem z_mmax (pc' : Nat) {idx : Nat} {x y : Int32} (hd : decode M.2.1 pc = .ok (.invokestatic idx, 3)) (hp : pc + 3 = pc') (hl : Cond.methodLink M.1.cls idx Lib.Math.max.name ∈ zTb) (hs : Cond.static Lib.Math.max.name ∈ zTb) (hi : Cond.initialized "java/lang/Math" ∈ zTb) (hc : Cond.code Lib.Math.max.name Lib.Math.max.code 2 (some .int) ∈ zTb) (hst : (st.map fun v => v.category).sum ≤ 40) (k : At E M d Q pc' ls (.int (if x < y then y else x) :: st) σ) : At E M d Q pc ls (.int y :: .int x :: st) σ := by
  subst hp
  intro p e s m args below meth c H locs la hX hP hS hla
  have ht := hX.2.2.2.2.2.2.1
  exact va_mmax hX.1 hX.2.1 (hX.2.2.1.trans hla.1.symm) hX.2.2.2.2.2.1 (ht _ hl) (ht _ hs) (ht _ hi) (ht _ hc) (by show 1 ≤ d + 1; omega) (by show _ ≤ 64 * (d + 1); omega) (Nat.le_refl 0) (Nat.le_refl 0) hd (k p e s m args below meth c H locs la hX hP hS hla)
theorem z_mmin (pc' : Nat) {idx : Nat} {x y : Int32} (hd : decode M.2.1 pc = .ok (.invokestatic idx, 3)) (hp : pc + 3 = pc') (hl : Cond.methodLink M.1.cls idx Lib.Math.min.name ∈ zTb) (hs : Cond.static Lib.Math.min.name ∈ zTb) (hi : Cond.initialized "java/lang/Math" ∈ zTb) (hc : Cond.code Lib.Math.min.name Lib.Math.min.code 2 (some .int) ∈ zTb) (hst : (st.map fun v => v.category).sum ≤ 40) (k : At E M d Q pc' ls (.int (if y < x then y else x) :: st) σ) : At E M d Q pc ls (.int y :: .int x :: st) σ := by
  subst hp
  intro p e s m args below meth c H locs la hX hP hS hla
  have ht := hX.2.2.2.2.2.2.1
  exact va_mmin hX.1 hX.2.1 (hX.2.2.1.trans hla.1.symm) hX.2.2.2.2.2.1 (ht _ hl) (ht _ hs) (ht _ hi) (ht _ hc) (by show 1 ≤ d + 1; omega) (by show _ ≤ 64 * (d + 1); omega) (Nat.le_refl 0) (Nat.le_refl 0) hd (k p e s m args below meth c H locs la hX hP hS hla)
theorem z_copy (pc' : Nat) {idx a0 a n0 n1 : Nat} {sp dp n : Int32} (hd : decode M.2.1 pc = .ok (.invokestatic idx, 3)) (hp : pc + 3 = pc') (hl : Cond.methodLink M.1.cls idx arraycopyName ∈ zTb) (hnat : Cond.native arraycopyName ∈ zTb) (hs : Cond.static arraycopyName ∈ zTb) (hi : Cond.initialized "java/lang/System" ∈ zTb) (hk0 : kd a0 = (11, n0)) (hk1 : kd a = (11, n1)) (h1 : ¬ sp < 0) (h2 : ¬ dp < 0) (h3 : ¬ n < 0) (h4 : sp.toNatClampNeg + n.toNatClampNeg ≤ n0) (h5 : dp.toNatClampNeg + n.toNatClampNeg ≤ n1) (hst : (st.map fun v => v.category).sum ≤ 20)
    (k : At E M d Q pc' ls st (sf σ a (va_cpy (σ.1 a0) (σ.1 a) sp.toNatClampNeg dp.toNatClampNeg n.toNatClampNeg))) : At E M d Q pc ls (.int n :: .int dp :: zr E a :: .int sp :: zr E a0 :: st) σ := by
  subst hp
  intro p e s m args below meth c H locs la hX hP hS hla
  have ht := hX.2.2.2.2.2.2.1
  have hlt0 : a0 < 125 := kd_lt (by rw [hk0]; exact (by decide : (11 : Nat) ≠ 99))
  have hlt : a < 125 := kd_lt (by rw [hk1]; exact (by decide : (11 : Nat) ≠ 99))
  refine va_copyi hX.1 hX.2.1 (hX.2.2.1.trans hla.1.symm) hX.2.2.2.2.2.1 (ht _ hl) (ht _ hnat) (ht _ hs) (ht _ hi) hX.2.2.2.2.2.2.2 hP (zW_D E σ) hS a0 a 0 0 ((zW_get E σ hlt0).trans (by rw [zC_int hk0])) ((zW_get E σ hlt).trans (by rw [zC_int hk1])) rfl rfl rfl h1 h2 h3 h4 h5 (fun _ _ => rfl) (by show 1 ≤ d + 1; omega) (by
    have hw : nativeFrameWords "java/lang/System" "arraycopy" 5 ≤ 30 := by decide +kernel
    show _ ≤ 64 * (d + 1)
    omega) hd (fun H1 locs1 hP1 hD1 hS1 => ?_)
  rw [zW_set E (σ := σ) (τ := sf σ a (va_cpy (σ.1 a0) (σ.1 a) sp.toNatClampNeg dp.toNatClampNeg n.toNatClampNeg)) hlt (fun y hy => ⟨by simp [sf, zu, hy], rfl, rfl⟩) (by rw [zC_int hk1]; simp [sf, zu])] at hP1
  exact k p e s m args below meth c H1 locs1 la hX hP1 hS1 hla
/-- calls -/
def zCal (M : zY) (n : Nat) : Prop := Cond.code M.1 M.2.1 M.2.2.1 M.2.2.2 ∈ zTb ∧ Cond.initialized M.1.cls ∈ zTb ∧ (M.1.cls ≠ "java/lang/invoke/MethodHandle" ∧ M.1.cls ≠ "java/lang/invoke/VarHandle") ∧ (parseMethodDescriptor M.1.desc).map (fun d => d.parameters.length) = some n ∧ M.2.2.1 ≤ 45
def zCalV (M : zY) (n ci : Nat) : Prop := zCal M n ∧ Cond.instanceMethod M.1 ∈ zTb ∧ Cond.selects M.1.cls M.1 M.1 ∈ zTb ∧ ci ≤ 10 ∧ ∃ (T : u_T) (N : Nat), vwCl[ci]? = some (M.1.cls, T, N)
def zCalS (M : zY) (n : Nat) : Prop := zCal M n ∧ Cond.static M.1 ∈ zTb
theorem z_after {p : Program} {e : Env} {s : State} {m : MethodId} {args : Array Value} {below : List Frame} {meth : Method} {c : Code} {H : Heap} {locs : List Loc} {la : Array Slot} {R : Room} {Z : State → Prop} {Q' : Option Value → zM → Prop} {st0 rest : List Value} {a : Array Value} {H0 : Heap}
    (hr : va_Run p E.1 e R s m args below meth c H locs 0 0 0 0 (F0 m pc la st0) rest (zQ E Q' a) (zA E)) (hS : va_S (zA E) H0 H locs)
    (kk : ∀ (v : Option Value) (τ : zM) (H1 : Heap) (locs1 : List Loc), Q' v τ → va_P (zD E) vwCl (zW E τ) H1 → va_S (zA E) H0 H1 locs1 → W p E.1 e R s m args below meth c H1 locs1 0 0 Z (F0 m (pc + 3) la (v.toList ++ rest))) : W p E.1 e R s m args below meth c H locs 0 0 Z (F0 m pc la st0) := by
  intro T hT X
  obtain ⟨v, st₀, t, T', L, h0, X', hL, e1, e2, ⟨⟨v', τ, hv, hq, hP, hK⟩, hz, hk⟩, stp⟩ := hr T hT X
  cases hv
  rw [h0] at hz hk
  obtain ⟨t2, a1, b1⟩ := kk v τ T'.heap (locs ++ L) hq (by rw [e1]; exact hP)
    ⟨Nat.le_trans hS.1 (by rw [e1]; exact hz), fun q h1 h2 => by rw [e1, hk q (Nat.lt_of_lt_of_le h1 hS.1) h2]; exact hS.2.1 q h1 h2, fun q hq => by
      rcases List.mem_append.mp hq with h | h
      · exact hS.2.2 q h
      · exact hL q h⟩ T' rfl X'
  exact ⟨t2, stp t2 a1, b1⟩
theorem z_pay' {s : State} {args : Array Value} {M' : zY} (hc : Cond.code M'.1 M'.2.1 M'.2.2.1 M'.2.2.2 ∈ zTb) (hts : ∀ w ∈ zTb, w.before args s = true) : ∀ w ∈ zws M', ∀ (a' : Array Value) (U : State), s.WarmedH U.vm → w.before a' U = true := by
  intro w hw
  rcases List.mem_cons.mp hw with rfl | h
  · exact z_pay hts _ hc
  · exact z_pay hts _ h
theorem z_callV (pc' : Nat) {M' : zY} {idx n ci a : Nat} {As rest : List Value} {Q' : Option Value → zM → Prop} (hR : Ret E M' d (zr E a :: As) σ Q') (hc : zCalV M' n ci) (hd : decode M.2.1 pc = .ok (.invokevirtual idx, 3)) (hp : pc + 3 = pc') (hl : Cond.methodLink M.1.cls idx M'.1 ∈ zTb) (hk : (kd a).1 = ci) (hn : As.length = n) (hst : st = As.reverse ++ zr E a :: rest) (hw : (rest.map fun v => v.category).sum ≤ 8)
    (k : ∀ (v : Option Value) (τ : zM), Q' v τ → At E M (d + 1) Q pc' ls (v.toList ++ rest) τ) : At E M (d + 1) Q pc ls st σ := by
  subst hp
  intro p e s m args below meth c H locs la hX hP hS hla
  obtain ⟨⟨c1, c2, c3, c4, c5⟩, c6, c7, c8, T, N, c9⟩ := hc
  have ht := hX.2.2.2.2.2.2.1
  have hlt : a < 125 := kd_lt (by omega)
  refine z_after (st0 := st) (rest := rest) (va_runV (Ts := zTb) (As := As) (b := E.2.1 + a) (n := n) ⟨hX.1, hX.2.1, hX.2.2.1, hX.2.2.2.2.2.1, ht⟩ hR ⟨⟨rfl, rfl, Nat.le_refl _, by show 8 + (M'.2.2.1 + 11) + 64 * (d + 1) ≤ 64 * (d + 1 + 1); omega, z_pay' c1 ht, List.mem_cons_self, ht _ c1, ht _ c2, c3, fun sig h => by rw [h] at c4; exact (Option.some.inj c4).symm, ht _ hl⟩, ht _ c6, ht _ c7⟩ ⟨z_blind _ _ _, va_recv hX.2.2.2.2.2.2.2 hP c9 ((zW_get E σ hlt).trans (by rw [zC_obj hk c8])), fun U hU hW => ⟨rfl, by rw [hU]; exact hP, va_K.moved hW.alike hX.2.2.2.2.2.2.2⟩⟩ rfl hn hla.1 hst (lv_room hw) hd ⟨Nat.le_refl 0, Nat.le_refl 0⟩) hS (fun v τ H1 locs1 hq hP1 hS1 => ?_)
  exact k v τ hq p e s m args below meth c H1 locs1 la hX hP1 hS1 hla
theorem z_callVN (pc' : Nat) {M' : zY} {idx n ci a : Nat} {host : String} {As rest : List Value} {Q' : Option Value → zM → Prop} (hR : Ret E M' d (zr E a :: As) σ Q') (hc : zCalV M' n ci) (hd : decode M.2.1 pc = .ok (.invokevirtual idx, 3)) (hp : pc + 3 = pc') (hl : Cond.methodLinkNest M.1.cls idx M'.1 host ∈ zTb) (hk : (kd a).1 = ci) (hn : As.length = n) (hst : st = As.reverse ++ zr E a :: rest) (hw : (rest.map fun v => v.category).sum ≤ 8)
    (k : ∀ (v : Option Value) (τ : zM), Q' v τ → At E M (d + 1) Q pc' ls (v.toList ++ rest) τ) : At E M (d + 1) Q pc ls st σ := by
  subst hp
  intro p e s m args below meth c H locs la hX hP hS hla
  obtain ⟨⟨c1, c2, c3, c4, c5⟩, c6, c7, c8, T, N, c9⟩ := hc
  have ht := hX.2.2.2.2.2.2.1
  have hlt : a < 125 := kd_lt (by omega)
  refine z_after (st0 := st) (rest := rest) (va_runVN (Ts := zTb) (As := As) (b := E.2.1 + a) (n := n) (host := host) ⟨hX.1, hX.2.1, hX.2.2.1, hX.2.2.2.2.2.1, ht⟩ hR ⟨⟨⟨rfl, rfl, Nat.le_refl _, by show 8 + (M'.2.2.1 + 11) + 64 * (d + 1) ≤ 64 * (d + 1 + 1); omega, z_pay' c1 ht, List.mem_cons_self⟩, ht _ c1, ht _ c2, c3, fun sig h => by rw [h] at c4; exact (Option.some.inj c4).symm, ht _ hl⟩, ht _ c6, ht _ c7⟩ ⟨z_blind _ _ _, va_recv hX.2.2.2.2.2.2.2 hP c9 ((zW_get E σ hlt).trans (by rw [zC_obj hk c8])), fun U hU hW => ⟨rfl, by rw [hU]; exact hP, va_K.moved hW.alike hX.2.2.2.2.2.2.2⟩⟩ rfl hn hla.1 hst (lv_room hw) hd ⟨Nat.le_refl 0, Nat.le_refl 0⟩) hS (fun v τ H1 locs1 hq hP1 hS1 => ?_)
  exact k v τ hq p e s m args below meth c H1 locs1 la hX hP1 hS1 hla
theorem z_callS (pc' : Nat) {M' : zY} {idx n : Nat} {As rest : List Value} {Q' : Option Value → zM → Prop} (hR : Ret E M' d As σ Q') (hc : zCalS M' n) (hd : decode M.2.1 pc = .ok (.invokestatic idx, 3)) (hp : pc + 3 = pc') (hl : Cond.methodLink M.1.cls idx M'.1 ∈ zTb) (hn : As.length = n) (hst : st = As.reverse ++ rest) (hw : (rest.map fun v => v.category).sum ≤ 8)
    (k : ∀ (v : Option Value) (τ : zM), Q' v τ → At E M (d + 1) Q pc' ls (v.toList ++ rest) τ) : At E M (d + 1) Q pc ls st σ := by
  subst hp
  intro p e s m args below meth c H locs la hX hP hS hla
  obtain ⟨⟨c1, c2, c3, c4, c5⟩, c6⟩ := hc
  have ht := hX.2.2.2.2.2.2.1
  refine z_after (st0 := st) (rest := rest) (va_runS (Ts := zTb) (As := As) (n := n) ⟨hX.1, hX.2.1, hX.2.2.1, hX.2.2.2.2.2.1, ht⟩ hR ⟨⟨rfl, rfl, Nat.le_refl _, by show 8 + (M'.2.2.1 + 11) + 64 * (d + 1) ≤ 64 * (d + 1 + 1); omega, z_pay' c1 ht, List.mem_cons_self, ht _ c1, ht _ c2, c3, fun sig h => by rw [h] at c4; exact (Option.some.inj c4).symm, ht _ hl⟩, ht _ c6⟩ ⟨z_blind _ _ _, fun U hU hW => ⟨rfl, by rw [hU]; exact hP, va_K.moved hW.alike hX.2.2.2.2.2.2.2⟩⟩ rfl hn hla.1 hst (lv_room hw) hd ⟨Nat.le_refl 0, Nat.le_refl 0⟩) hS (fun v τ H1 locs1 hq hP1 hS1 => ?_)
  exact k v τ hq p e s m args below meth c H1 locs1 la hX hP1 hS1 hla
theorem z_callSN (pc' : Nat) {M' : zY} {idx n : Nat} {host : String} {As rest : List Value} {Q' : Option Value → zM → Prop} (hR : Ret E M' d As σ Q') (hc : zCalS M' n) (hd : decode M.2.1 pc = .ok (.invokestatic idx, 3)) (hp : pc + 3 = pc') (hl : Cond.methodLinkNest M.1.cls idx M'.1 host ∈ zTb) (hn : As.length = n) (hst : st = As.reverse ++ rest) (hw : (rest.map fun v => v.category).sum ≤ 8)
    (k : ∀ (v : Option Value) (τ : zM), Q' v τ → At E M (d + 1) Q pc' ls (v.toList ++ rest) τ) : At E M (d + 1) Q pc ls st σ := by
  subst hp
  intro p e s m args below meth c H locs la hX hP hS hla
  obtain ⟨⟨c1, c2, c3, c4, c5⟩, c6⟩ := hc
  have ht := hX.2.2.2.2.2.2.1
  refine z_after (st0 := st) (rest := rest) (va_runSN (Ts := zTb) (As := As) (n := n) (host := host) ⟨hX.1, hX.2.1, hX.2.2.1, hX.2.2.2.2.2.1, ht⟩ hR ⟨⟨⟨rfl, rfl, Nat.le_refl _, by show 8 + (M'.2.2.1 + 11) + 64 * (d + 1) ≤ 64 * (d + 1 + 1); omega, z_pay' c1 ht, List.mem_cons_self⟩, ht _ c1, ht _ c2, c3, fun sig h => by rw [h] at c4; exact (Option.some.inj c4).symm, ht _ hl⟩, ht _ c6, trivial⟩ ⟨z_blind _ _ _, fun U hU hW => ⟨rfl, by rw [hU]; exact hP, va_K.moved hW.alike hX.2.2.2.2.2.2.2⟩⟩ rfl hn hla.1 hst (lv_room hw) hd ⟨Nat.le_refl 0, Nat.le_refl 0⟩) hS (fun v τ H1 locs1 hq hP1 hS1 => ?_)
  exact k v τ hq p e s m args below meth c H1 locs1 la hX hP1 hS1 hla
end Rows2
end
section
theorem zinl {ws : List Cond} {ps : List Nat} (h : ws = ps.filterMap (fun i => tables_1[i]?)) (hg : ws.all zgw = true) : ∀ w ∈ ws, w ∈ zTb := by
  intro w hw
  have h1 := List.all_eq_true.mp hg w hw
  rw [h] at hw
  obtain ⟨i, -, hi⟩ := List.mem_filterMap.mp hw
  exact zin i hi h1
def qI (P : Int32 → zM → Prop) : Option Value → zM → Prop := fun v τ => ∃ x, v = some (.int x) ∧ P x τ
def qJ (P : Int64 → zM → Prop) : Option Value → zM → Prop := fun v τ => ∃ x, v = some (.long x) ∧ P x τ
def qV (P : zM → Prop) : Option Value → zM → Prop := fun v τ => v = none ∧ P τ
def qA (P : Value → zM → Prop) : Option Value → zM → Prop := fun v τ => ∃ x, v = some x ∧ P x τ
/-- a boolean as an int -/
def bI (b : Bool) : Int32 := if b then nI 1 else nI 0
theorem iX0_a : u_ws RX0 TX0 5 = [47, 49, 51, 53, 55].filterMap (fun i => tables_1[i]?) := by decide +kernel
theorem iX0_b : (u_ws RX0 TX0 5).all zgw = true := by decide +kernel
theorem iX0 : ∀ w ∈ u_ws RX0 TX0 5, w ∈ zTb := zinl iX0_a iX0_b
theorem iX1_a : u_ws RX1 TX1 2 = [195, 197].filterMap (fun i => tables_1[i]?) := by decide +kernel
theorem iX1_b : (u_ws RX1 TX1 2).all zgw = true := by decide +kernel
theorem iX1 : ∀ w ∈ u_ws RX1 TX1 2, w ∈ zTb := zinl iX1_a iX1_b
theorem iX2_a : u_ws RX2 TX2 2 = [73, 75].filterMap (fun i => tables_1[i]?) := by decide +kernel
theorem iX2_b : (u_ws RX2 TX2 2).all zgw = true := by decide +kernel
theorem iX2 : ∀ w ∈ u_ws RX2 TX2 2, w ∈ zTb := zinl iX2_a iX2_b
theorem iX3_a : u_ws RX3 TX3 6 = [251, 253, 255, 257, 259, 261].filterMap (fun i => tables_1[i]?) := by decide +kernel
theorem iX3_b : (u_ws RX3 TX3 6).all zgw = true := by decide +kernel
theorem iX3 : ∀ w ∈ u_ws RX3 TX3 6, w ∈ zTb := zinl iX3_a iX3_b
theorem iX4_a : u_ws RX4 TX4 6 = [220, 222, 224, 226, 228, 230].filterMap (fun i => tables_1[i]?) := by decide +kernel
theorem iX4_b : (u_ws RX4 TX4 6).all zgw = true := by decide +kernel
theorem iX4 : ∀ w ∈ u_ws RX4 TX4 6, w ∈ zTb := zinl iX4_a iX4_b
theorem iX5_a : u_ws RX5 TX5 8 = [120, 122, 124, 126, 128, 130, 132, 134].filterMap (fun i => tables_1[i]?) := by decide +kernel
theorem iX5_b : (u_ws RX5 TX5 8).all zgw = true := by decide +kernel
theorem iX5 : ∀ w ∈ u_ws RX5 TX5 8, w ∈ zTb := zinl iX5_a iX5_b
theorem iX6_a : u_ws RX6 TX6 4 = [91, 93, 95, 97].filterMap (fun i => tables_1[i]?) := by decide +kernel
theorem iX6_b : (u_ws RX6 TX6 4).all zgw = true := by decide +kernel
theorem iX6 : ∀ w ∈ u_ws RX6 TX6 4, w ∈ zTb := zinl iX6_a iX6_b
theorem iX7_a : u_ws RX7 TX7 2 = [181, 183].filterMap (fun i => tables_1[i]?) := by decide +kernel
theorem iX7_b : (u_ws RX7 TX7 2).all zgw = true := by decide +kernel
theorem iX7 : ∀ w ∈ u_ws RX7 TX7 2, w ∈ zTb := zinl iX7_a iX7_b
theorem iX8_a : u_ws RX8 TX8 6 = [152, 154, 156, 158, 160, 162].filterMap (fun i => tables_1[i]?) := by decide +kernel
theorem iX8_b : (u_ws RX8 TX8 6).all zgw = true := by decide +kernel
theorem iX8 : ∀ w ∈ u_ws RX8 TX8 6, w ∈ zTb := zinl iX8_a iX8_b
theorem iX9_a : u_ws RX9 TX9 13 = [277, 279, 281, 283, 285, 287, 289, 291, 293, 295, 297, 299, 301].filterMap (fun i => tables_1[i]?) := by decide +kernel
theorem iX9_b : (u_ws RX9 TX9 13).all zgw = true := by decide +kernel
theorem iX9 : ∀ w ∈ u_ws RX9 TX9 13, w ∈ zTb := zinl iX9_a iX9_b
theorem iX10_a : u_ws RX10 TX10 39 = [947, 949, 951, 953, 955, 957, 959, 961, 963, 965, 967, 969, 971, 973, 975, 977, 979, 981, 983, 985, 987, 989, 991, 993, 995, 997, 999, 1001, 1003, 1005, 1007, 1009, 1011, 1013, 1015, 1017, 1019, 1021, 1023].filterMap (fun i => tables_1[i]?) := by decide +kernel
theorem iX10_b : (u_ws RX10 TX10 39).all zgw = true := by decide +kernel
theorem iX10 : ∀ w ∈ u_ws RX10 TX10 39, w ∈ zTb := zinl iX10_a iX10_b
abbrev mX0_init : zY := (yX0_init, cX0_init, 1, none)
abbrev mX0_found : zY := (yX0_found, cX0_found, 2, (some .int))
theorem kX0_found : zCalV mX0_found 1 0 := ⟨⟨zin 314 (by decide +kernel) rfl, zin 2 (by decide +kernel) rfl, ⟨by decide +kernel, by decide +kernel⟩, by decide +kernel, by decide +kernel⟩, zin 312 (by decide +kernel) rfl, zin 313 (by decide +kernel) rfl, by decide, TX0, 5, rfl⟩
abbrev mX0_ask : zY := (yX0_ask, cX0_ask, 2, (some .int))
theorem kX0_ask : zCalV mX0_ask 1 0 := ⟨⟨zin 349 (by decide +kernel) rfl, zin 2 (by decide +kernel) rfl, ⟨by decide +kernel, by decide +kernel⟩, by decide +kernel, by decide +kernel⟩, zin 347 (by decide +kernel) rfl, zin 348 (by decide +kernel) rfl, by decide, TX0, 5, rfl⟩
abbrev mX0_tell : zY := (yX0_tell, cX0_tell, 12, (some .int))
theorem kX0_tell : zCalV mX0_tell 2 0 := ⟨⟨zin 613 (by decide +kernel) rfl, zin 2 (by decide +kernel) rfl, ⟨by decide +kernel, by decide +kernel⟩, by decide +kernel, by decide +kernel⟩, zin 611 (by decide +kernel) rfl, zin 612 (by decide +kernel) rfl, by decide, TX0, 5, rfl⟩
abbrev mX1_init : zY := (yX1_init, cX1_init, 1, none)
abbrev mX1_read : zY := (yX1_read, cX1_read, 5, none)
theorem kX1_read : zCalV mX1_read 1 1 := ⟨⟨zin 411 (by decide +kernel) rfl, zin 9 (by decide +kernel) rfl, ⟨by decide +kernel, by decide +kernel⟩, by decide +kernel, by decide +kernel⟩, zin 409 (by decide +kernel) rfl, zin 410 (by decide +kernel) rfl, by decide, TX1, 2, rfl⟩
abbrev mX1_usualOf : zY := (yX1_usualOf, cX1_usualOf, 4, (some .int))
theorem kX1_usualOf : zCalV mX1_usualOf 2 1 := ⟨⟨zin 431 (by decide +kernel) rfl, zin 9 (by decide +kernel) rfl, ⟨by decide +kernel, by decide +kernel⟩, by decide +kernel, by decide +kernel⟩, zin 429 (by decide +kernel) rfl, zin 430 (by decide +kernel) rfl, by decide, TX1, 2, rfl⟩
abbrev mX1_usualSet : zY := (yX1_usualSet, cX1_usualSet, 5, (some .int))
theorem kX1_usualSet : zCalV mX1_usualSet 2 1 := ⟨⟨zin 735 (by decide +kernel) rfl, zin 9 (by decide +kernel) rfl, ⟨by decide +kernel, by decide +kernel⟩, by decide +kernel, by decide +kernel⟩, zin 733 (by decide +kernel) rfl, zin 734 (by decide +kernel) rfl, by decide, TX1, 2, rfl⟩
abbrev mX1_usualInAll : zY := (yX1_usualInAll, cX1_usualInAll, 5, (some .int))
theorem kX1_usualInAll : zCalV mX1_usualInAll 1 1 := ⟨⟨zin 744 (by decide +kernel) rfl, zin 9 (by decide +kernel) rfl, ⟨by decide +kernel, by decide +kernel⟩, by decide +kernel, by decide +kernel⟩, zin 742 (by decide +kernel) rfl, zin 743 (by decide +kernel) rfl, by decide, TX1, 2, rfl⟩
abbrev mX1_digestOn : zY := (yX1_digestOn, cX1_digestOn, 6, (some .long))
theorem kX1_digestOn : zCalV mX1_digestOn 1 1 := ⟨⟨zin 895 (by decide +kernel) rfl, zin 9 (by decide +kernel) rfl, ⟨by decide +kernel, by decide +kernel⟩, by decide +kernel, by decide +kernel⟩, zin 893 (by decide +kernel) rfl, zin 894 (by decide +kernel) rfl, by decide, TX1, 2, rfl⟩
abbrev mX2_init : zY := (yX2_init, cX2_init, 1, none)
abbrev mX2_take : zY := (yX2_take, cX2_take, 3, none)
theorem kX2_take : zCalV mX2_take 1 2 := ⟨⟨zin 551 (by decide +kernel) rfl, zin 3 (by decide +kernel) rfl, ⟨by decide +kernel, by decide +kernel⟩, by decide +kernel, by decide +kernel⟩, zin 549 (by decide +kernel) rfl, zin 550 (by decide +kernel) rfl, by decide, TX2, 2, rfl⟩
abbrev mX2_takeSet : zY := (yX2_takeSet, cX2_takeSet, 3, none)
theorem kX2_takeSet : zCalV mX2_takeSet 1 2 := ⟨⟨zin 493 (by decide +kernel) rfl, zin 3 (by decide +kernel) rfl, ⟨by decide +kernel, by decide +kernel⟩, by decide +kernel, by decide +kernel⟩, zin 491 (by decide +kernel) rfl, zin 492 (by decide +kernel) rfl, by decide, TX2, 2, rfl⟩
abbrev mX2_drawBy : zY := (yX2_drawBy, cX2_drawBy, 6, none)
theorem kX2_drawBy : zCalV mX2_drawBy 2 2 := ⟨⟨zin 451 (by decide +kernel) rfl, zin 3 (by decide +kernel) rfl, ⟨by decide +kernel, by decide +kernel⟩, by decide +kernel, by decide +kernel⟩, zin 449 (by decide +kernel) rfl, zin 450 (by decide +kernel) rfl, by decide, TX2, 2, rfl⟩
abbrev mX2_add : zY := (yX2_add, cX2_add, 2, none)
theorem kX2_add : zCalV mX2_add 1 2 := ⟨⟨zin 468 (by decide +kernel) rfl, zin 3 (by decide +kernel) rfl, ⟨by decide +kernel, by decide +kernel⟩, by decide +kernel, by decide +kernel⟩, zin 467 (by decide +kernel) rfl, zin2 4 (by decide +kernel) rfl, by decide, TX2, 2, rfl⟩
abbrev mX2_mostUsual : zY := (yX2_mostUsual, cX2_mostUsual, 7, (some .int))
theorem kX2_mostUsual : zCalS mX2_mostUsual 3 := ⟨⟨zin 463 (by decide +kernel) rfl, zin 3 (by decide +kernel) rfl, ⟨by decide +kernel, by decide +kernel⟩, by decide +kernel, by decide +kernel⟩, zin 462 (by decide +kernel) rfl⟩
abbrev mX2_set : zY := (yX2_set, cX2_set, 3, (some .int))
theorem kX2_set : zCalV mX2_set 0 2 := ⟨⟨zin 472 (by decide +kernel) rfl, zin 3 (by decide +kernel) rfl, ⟨by decide +kernel, by decide +kernel⟩, by decide +kernel, by decide +kernel⟩, zin 470 (by decide +kernel) rfl, zin 471 (by decide +kernel) rfl, by decide, TX2, 2, rfl⟩
abbrev mX3_init : zY := (yX3_init, cX3_init, 1, none)
abbrev mX3_write : zY := (yX3_write, cX3_write, 6, none)
theorem kX3_write : zCalV mX3_write 5 3 := ⟨⟨zin 756 (by decide +kernel) rfl, zin 11 (by decide +kernel) rfl, ⟨by decide +kernel, by decide +kernel⟩, by decide +kernel, by decide +kernel⟩, zin 754 (by decide +kernel) rfl, zin 755 (by decide +kernel) rfl, by decide, TX3, 6, rfl⟩
abbrev mX3_isOf : zY := (yX3_isOf, cX3_isOf, 3, (some .boolean))
theorem kX3_isOf : zCalV mX3_isOf 2 3 := ⟨⟨zin 786 (by decide +kernel) rfl, zin 11 (by decide +kernel) rfl, ⟨by decide +kernel, by decide +kernel⟩, by decide +kernel, by decide +kernel⟩, zin 784 (by decide +kernel) rfl, zin 785 (by decide +kernel) rfl, by decide, TX3, 6, rfl⟩
abbrev mX3_unlike : zY := (yX3_unlike, cX3_unlike, 2, (some .int))
theorem kX3_unlike : zCalV mX3_unlike 1 3 := ⟨⟨zin 799 (by decide +kernel) rfl, zin 11 (by decide +kernel) rfl, ⟨by decide +kernel, by decide +kernel⟩, by decide +kernel, by decide +kernel⟩, zin 797 (by decide +kernel) rfl, zin 798 (by decide +kernel) rfl, by decide, TX3, 6, rfl⟩
abbrev mX3_tells : zY := (yX3_tells, cX3_tells, 2, (some .int))
theorem kX3_tells : zCalV mX3_tells 1 3 := ⟨⟨zin 770 (by decide +kernel) rfl, zin 11 (by decide +kernel) rfl, ⟨by decide +kernel, by decide +kernel⟩, by decide +kernel, by decide +kernel⟩, zin 768 (by decide +kernel) rfl, zin 769 (by decide +kernel) rfl, by decide, TX3, 6, rfl⟩
abbrev mX4_init : zY := (yX4_init, cX4_init, 2, none)
abbrev mX4_become : zY := (yX4_become, cX4_become, 6, none)
theorem kX4_become : zCalV mX4_become 5 4 := ⟨⟨zin 447 (by decide +kernel) rfl, zin 10 (by decide +kernel) rfl, ⟨by decide +kernel, by decide +kernel⟩, by decide +kernel, by decide +kernel⟩, zin 445 (by decide +kernel) rfl, zin 446 (by decide +kernel) rfl, by decide, TX4, 6, rfl⟩
abbrev mX4_becomeLike : zY := (yX4_becomeLike, cX4_becomeLike, 3, none)
theorem kX4_becomeLike : zCalV mX4_becomeLike 2 4 := ⟨⟨zin 794 (by decide +kernel) rfl, zin 10 (by decide +kernel) rfl, ⟨by decide +kernel, by decide +kernel⟩, by decide +kernel, by decide +kernel⟩, zin 792 (by decide +kernel) rfl, zin 793 (by decide +kernel) rfl, by decide, TX4, 6, rfl⟩
abbrev mX4_is : zY := (yX4_is, cX4_is, 2, (some .boolean))
theorem kX4_is : zCalV mX4_is 1 4 := ⟨⟨zin 459 (by decide +kernel) rfl, zin 10 (by decide +kernel) rfl, ⟨by decide +kernel, by decide +kernel⟩, by decide +kernel, by decide +kernel⟩, zin 457 (by decide +kernel) rfl, zin 458 (by decide +kernel) rfl, by decide, TX4, 6, rfl⟩
abbrev mX4_drawsAtMost : zY := (yX4_drawsAtMost, cX4_drawsAtMost, 1, (some .int))
theorem kX4_drawsAtMost : zCalV mX4_drawsAtMost 0 4 := ⟨⟨zin 455 (by decide +kernel) rfl, zin 10 (by decide +kernel) rfl, ⟨by decide +kernel, by decide +kernel⟩, by decide +kernel, by decide +kernel⟩, zin 453 (by decide +kernel) rfl, zin 454 (by decide +kernel) rfl, by decide, TX4, 6, rfl⟩
abbrev mX4_tells : zY := (yX4_tells, cX4_tells, 2, (some .int))
theorem kX4_tells : zCalV mX4_tells 1 4 := ⟨⟨zin 480 (by decide +kernel) rfl, zin 10 (by decide +kernel) rfl, ⟨by decide +kernel, by decide +kernel⟩, by decide +kernel, by decide +kernel⟩, zin 478 (by decide +kernel) rfl, zin 479 (by decide +kernel) rfl, by decide, TX4, 6, rfl⟩
abbrev mX4_asNumber : zY := (yX4_asNumber, cX4_asNumber, 1, (some .int))
theorem kX4_asNumber : zCalV mX4_asNumber 0 4 := ⟨⟨zin 844 (by decide +kernel) rfl, zin 10 (by decide +kernel) rfl, ⟨by decide +kernel, by decide +kernel⟩, by decide +kernel, by decide +kernel⟩, zin 842 (by decide +kernel) rfl, zin 843 (by decide +kernel) rfl, by decide, TX4, 6, rfl⟩
abbrev mX5_init : zY := (yX5_init, cX5_init, 1, none)
abbrev mX5_seat : zY := (yX5_seat, cX5_seat, 4, none)
theorem kX5_seat : zCalV mX5_seat 2 5 := ⟨⟨zin 577 (by decide +kernel) rfl, zin 5 (by decide +kernel) rfl, ⟨by decide +kernel, by decide +kernel⟩, by decide +kernel, by decide +kernel⟩, zin 575 (by decide +kernel) rfl, zin 576 (by decide +kernel) rfl, by decide, TX5, 8, rfl⟩
abbrev mX5_learn : zY := (yX5_learn, cX5_learn, 7, none)
theorem kX5_learn : zCalV mX5_learn 4 5 := ⟨⟨zin 587 (by decide +kernel) rfl, zin 5 (by decide +kernel) rfl, ⟨by decide +kernel, by decide +kernel⟩, by decide +kernel, by decide +kernel⟩, zin 585 (by decide +kernel) rfl, zin 586 (by decide +kernel) rfl, by decide, TX5, 8, rfl⟩
abbrev mX5_whole : zY := (yX5_whole, cX5_whole, 4, (some .long))
theorem kX5_whole : zCalV mX5_whole 0 5 := ⟨⟨zin 608 (by decide +kernel) rfl, zin 5 (by decide +kernel) rfl, ⟨by decide +kernel, by decide +kernel⟩, by decide +kernel, by decide +kernel⟩, zin 606 (by decide +kernel) rfl, zin 607 (by decide +kernel) rfl, by decide, TX5, 8, rfl⟩
abbrev mX5_begin : zY := (yX5_begin, cX5_begin, 3, none)
theorem kX5_begin : zCalV mX5_begin 1 5 := ⟨⟨zin 596 (by decide +kernel) rfl, zin 5 (by decide +kernel) rfl, ⟨by decide +kernel, by decide +kernel⟩, by decide +kernel, by decide +kernel⟩, zin 595 (by decide +kernel) rfl, zin2 14 (by decide +kernel) rfl, by decide, TX5, 8, rfl⟩
abbrev mX5_beginWithAll : zY := (yX5_beginWithAll, cX5_beginWithAll, 2, none)
theorem kX5_beginWithAll : zCalV mX5_beginWithAll 0 5 := ⟨⟨zin 621 (by decide +kernel) rfl, zin 5 (by decide +kernel) rfl, ⟨by decide +kernel, by decide +kernel⟩, by decide +kernel, by decide +kernel⟩, zin 619 (by decide +kernel) rfl, zin 620 (by decide +kernel) rfl, by decide, TX5, 8, rfl⟩
abbrev mX5_stepBase : zY := (yX5_stepBase, cX5_stepBase, 5, (some .int))
theorem kX5_stepBase : zCalV mX5_stepBase 2 5 := ⟨⟨zin 600 (by decide +kernel) rfl, zin 5 (by decide +kernel) rfl, ⟨by decide +kernel, by decide +kernel⟩, by decide +kernel, by decide +kernel⟩, zin 599 (by decide +kernel) rfl, zin2 15 (by decide +kernel) rfl, by decide, TX5, 8, rfl⟩
abbrev mX5_pass : zY := (yX5_pass, cX5_pass, 4, none)
theorem kX5_pass : zCalV mX5_pass 1 5 := ⟨⟨zin 604 (by decide +kernel) rfl, zin 5 (by decide +kernel) rfl, ⟨by decide +kernel, by decide +kernel⟩, by decide +kernel, by decide +kernel⟩, zin 603 (by decide +kernel) rfl, zin2 16 (by decide +kernel) rfl, by decide, TX5, 8, rfl⟩
abbrev mX5_passFrom : zY := (yX5_passFrom, cX5_passFrom, 3, none)
theorem kX5_passFrom : zCalV mX5_passFrom 1 5 := ⟨⟨zin 625 (by decide +kernel) rfl, zin 5 (by decide +kernel) rfl, ⟨by decide +kernel, by decide +kernel⟩, by decide +kernel, by decide +kernel⟩, zin 623 (by decide +kernel) rfl, zin 624 (by decide +kernel) rfl, by decide, TX5, 8, rfl⟩
abbrev mX5_reach : zY := (yX5_reach, cX5_reach, 9, (some .long))
theorem kX5_reach : zCalV mX5_reach 3 5 := ⟨⟨zin 592 (by decide +kernel) rfl, zin 5 (by decide +kernel) rfl, ⟨by decide +kernel, by decide +kernel⟩, by decide +kernel, by decide +kernel⟩, zin 590 (by decide +kernel) rfl, zin 591 (by decide +kernel) rfl, by decide, TX5, 8, rfl⟩
abbrev mX5_reachOffAt : zY := (yX5_reachOffAt, cX5_reachOffAt, 7, (some .long))
theorem kX5_reachOffAt : zCalV mX5_reachOffAt 3 5 := ⟨⟨zin 641 (by decide +kernel) rfl, zin 5 (by decide +kernel) rfl, ⟨by decide +kernel, by decide +kernel⟩, by decide +kernel, by decide +kernel⟩, zin 639 (by decide +kernel) rfl, zin 640 (by decide +kernel) rfl, by decide, TX5, 8, rfl⟩
abbrev mX5_keptBy : zY := (yX5_keptBy, cX5_keptBy, 5, (some .long))
theorem kX5_keptBy : zCalV mX5_keptBy 1 5 := ⟨⟨zin 674 (by decide +kernel) rfl, zin 5 (by decide +kernel) rfl, ⟨by decide +kernel, by decide +kernel⟩, by decide +kernel, by decide +kernel⟩, zin 673 (by decide +kernel) rfl, zin2 20 (by decide +kernel) rfl, by decide, TX5, 8, rfl⟩
abbrev mX5_seatBest : zY := (yX5_seatBest, cX5_seatBest, 7, (some .int))
theorem kX5_seatBest : zCalV mX5_seatBest 1 5 := ⟨⟨zin 662 (by decide +kernel) rfl, zin 5 (by decide +kernel) rfl, ⟨by decide +kernel, by decide +kernel⟩, by decide +kernel, by decide +kernel⟩, zin 660 (by decide +kernel) rfl, zin 661 (by decide +kernel) rfl, by decide, TX5, 8, rfl⟩
abbrev mX5_sortOthers : zY := (yX5_sortOthers, cX5_sortOthers, 3, none)
theorem kX5_sortOthers : zCalV mX5_sortOthers 0 5 := ⟨⟨zin 666 (by decide +kernel) rfl, zin 5 (by decide +kernel) rfl, ⟨by decide +kernel, by decide +kernel⟩, by decide +kernel, by decide +kernel⟩, zin 665 (by decide +kernel) rfl, zin2 19 (by decide +kernel) rfl, by decide, TX5, 8, rfl⟩
abbrev mX6_init : zY := (yX6_init, cX6_init, 1, none)
abbrev mX6_get : zY := (yX6_get, cX6_get, 2, (some .int))
theorem kX6_get : zCalV mX6_get 1 6 := ⟨⟨zin 518 (by decide +kernel) rfl, zin 4 (by decide +kernel) rfl, ⟨by decide +kernel, by decide +kernel⟩, by decide +kernel, by decide +kernel⟩, zin 516 (by decide +kernel) rfl, zin 517 (by decide +kernel) rfl, by decide, TX6, 4, rfl⟩
abbrev mX6_reckon : zY := (yX6_reckon, cX6_reckon, 7, none)
theorem kX6_reckon : zCalV mX6_reckon 3 6 := ⟨⟨zin 497 (by decide +kernel) rfl, zin 4 (by decide +kernel) rfl, ⟨by decide +kernel, by decide +kernel⟩, by decide +kernel, by decide +kernel⟩, zin 495 (by decide +kernel) rfl, zin 496 (by decide +kernel) rfl, by decide, TX6, 4, rfl⟩
abbrev mX6_share : zY := (yX6_share, cX6_share, 4, none)
theorem kX6_share : zCalV mX6_share 1 6 := ⟨⟨zin 514 (by decide +kernel) rfl, zin 4 (by decide +kernel) rfl, ⟨by decide +kernel, by decide +kernel⟩, by decide +kernel, by decide +kernel⟩, zin 513 (by decide +kernel) rfl, zin2 7 (by decide +kernel) rfl, by decide, TX6, 4, rfl⟩
abbrev mX6_sumOf : zY := (yX6_sumOf, cX6_sumOf, 9, (some .int))
theorem kX6_sumOf : zCalV mX6_sumOf 4 6 := ⟨⟨zin 501 (by decide +kernel) rfl, zin 4 (by decide +kernel) rfl, ⟨by decide +kernel, by decide +kernel⟩, by decide +kernel, by decide +kernel⟩, zin 500 (by decide +kernel) rfl, zin2 6 (by decide +kernel) rfl, by decide, TX6, 4, rfl⟩
abbrev mX7_init : zY := (yX7_init, cX7_init, 2, none)
abbrev mX7_isMissing : zY := (yX7_isMissing, cX7_isMissing, 1, (some .boolean))
theorem kX7_isMissing : zCalV mX7_isMissing 0 7 := ⟨⟨zin 333 (by decide +kernel) rfl, zin 7 (by decide +kernel) rfl, ⟨by decide +kernel, by decide +kernel⟩, by decide +kernel, by decide +kernel⟩, zin 331 (by decide +kernel) rfl, zin 332 (by decide +kernel) rfl, by decide, TX7, 2, rfl⟩
abbrev mX7_has : zY := (yX7_has, cX7_has, 2, (some .boolean))
theorem kX7_has : zCalV mX7_has 1 7 := ⟨⟨zin 337 (by decide +kernel) rfl, zin 7 (by decide +kernel) rfl, ⟨by decide +kernel, by decide +kernel⟩, by decide +kernel, by decide +kernel⟩, zin 335 (by decide +kernel) rfl, zin 336 (by decide +kernel) rfl, by decide, TX7, 2, rfl⟩
abbrev mX7_hasRange : zY := (yX7_hasRange, cX7_hasRange, 3, (some .boolean))
theorem kX7_hasRange : zCalV mX7_hasRange 2 7 := ⟨⟨zin 370 (by decide +kernel) rfl, zin 7 (by decide +kernel) rfl, ⟨by decide +kernel, by decide +kernel⟩, by decide +kernel, by decide +kernel⟩, zin 368 (by decide +kernel) rfl, zin 369 (by decide +kernel) rfl, by decide, TX7, 2, rfl⟩
abbrev mX7_get : zY := (yX7_get, cX7_get, 2, (some .int))
theorem kX7_get : zCalV mX7_get 1 7 := ⟨⟨zin 341 (by decide +kernel) rfl, zin 7 (by decide +kernel) rfl, ⟨by decide +kernel, by decide +kernel⟩, by decide +kernel, by decide +kernel⟩, zin 339 (by decide +kernel) rfl, zin 340 (by decide +kernel) rfl, by decide, TX7, 2, rfl⟩
abbrev mX7_set : zY := (yX7_set, cX7_set, 3, none)
theorem kX7_set : zCalV mX7_set 2 7 := ⟨⟨zin 345 (by decide +kernel) rfl, zin 7 (by decide +kernel) rfl, ⟨by decide +kernel, by decide +kernel⟩, by decide +kernel, by decide +kernel⟩, zin 343 (by decide +kernel) rfl, zin 344 (by decide +kernel) rfl, by decide, TX7, 2, rfl⟩
abbrev mX7_renew : zY := (yX7_renew, cX7_renew, 4, none)
theorem kX7_renew : zCalV mX7_renew 2 7 := ⟨⟨zin 318 (by decide +kernel) rfl, zin 7 (by decide +kernel) rfl, ⟨by decide +kernel, by decide +kernel⟩, by decide +kernel, by decide +kernel⟩, zin 316 (by decide +kernel) rfl, zin 317 (by decide +kernel) rfl, by decide, TX7, 2, rfl⟩
abbrev mX7_take : zY := (yX7_take, cX7_take, 3, none)
theorem kX7_take : zCalV mX7_take 2 7 := ⟨⟨zin 530 (by decide +kernel) rfl, zin 7 (by decide +kernel) rfl, ⟨by decide +kernel, by decide +kernel⟩, by decide +kernel, by decide +kernel⟩, zin 528 (by decide +kernel) rfl, zin 529 (by decide +kernel) rfl, by decide, TX7, 2, rfl⟩
abbrev mX7_remove : zY := (yX7_remove, cX7_remove, 1, none)
theorem kX7_remove : zCalV mX7_remove 0 7 := ⟨⟨zin 362 (by decide +kernel) rfl, zin 7 (by decide +kernel) rfl, ⟨by decide +kernel, by decide +kernel⟩, by decide +kernel, by decide +kernel⟩, zin 360 (by decide +kernel) rfl, zin 361 (by decide +kernel) rfl, by decide, TX7, 2, rfl⟩
abbrev mX7_total : zY := (yX7_total, cX7_total, 4, (some .long))
theorem kX7_total : zCalV mX7_total 0 7 := ⟨⟨zin 381 (by decide +kernel) rfl, zin 7 (by decide +kernel) rfl, ⟨by decide +kernel, by decide +kernel⟩, by decide +kernel, by decide +kernel⟩, zin 379 (by decide +kernel) rfl, zin 380 (by decide +kernel) rfl, by decide, TX7, 2, rfl⟩
abbrev mX7_placeFault : zY := (yX7_placeFault, cX7_placeFault, 2, (some .int))
theorem kX7_placeFault : zCalV mX7_placeFault 1 7 := ⟨⟨zin 329 (by decide +kernel) rfl, zin 7 (by decide +kernel) rfl, ⟨by decide +kernel, by decide +kernel⟩, by decide +kernel, by decide +kernel⟩, zin 327 (by decide +kernel) rfl, zin 328 (by decide +kernel) rfl, by decide, TX7, 2, rfl⟩
abbrev mX7_drawnFault : zY := (yX7_drawnFault, cX7_drawnFault, 1, (some .int))
theorem kX7_drawnFault : zCalV mX7_drawnFault 0 7 := ⟨⟨zin 543 (by decide +kernel) rfl, zin 7 (by decide +kernel) rfl, ⟨by decide +kernel, by decide +kernel⟩, by decide +kernel, by decide +kernel⟩, zin 541 (by decide +kernel) rfl, zin 542 (by decide +kernel) rfl, by decide, TX7, 2, rfl⟩
abbrev mX7_isUnlikeBelow : zY := (yX7_isUnlikeBelow, cX7_isUnlikeBelow, 5, (some .boolean))
theorem kX7_isUnlikeBelow : zCalV mX7_isUnlikeBelow 1 7 := ⟨⟨zin 547 (by decide +kernel) rfl, zin 7 (by decide +kernel) rfl, ⟨by decide +kernel, by decide +kernel⟩, by decide +kernel, by decide +kernel⟩, zin 545 (by decide +kernel) rfl, zin 546 (by decide +kernel) rfl, by decide, TX7, 2, rfl⟩
abbrev mX7_partSet : zY := (yX7_partSet, cX7_partSet, 3, (some .int))
theorem kX7_partSet : zCalV mX7_partSet 0 7 := ⟨⟨zin 701 (by decide +kernel) rfl, zin 7 (by decide +kernel) rfl, ⟨by decide +kernel, by decide +kernel⟩, by decide +kernel, by decide +kernel⟩, zin 699 (by decide +kernel) rfl, zin 700 (by decide +kernel) rfl, by decide, TX7, 2, rfl⟩
abbrev mX7_boxFault : zY := (yX7_boxFault, cX7_boxFault, 6, (some .int))
theorem kX7_boxFault : zCalV mX7_boxFault 0 7 := ⟨⟨zin 400 (by decide +kernel) rfl, zin 7 (by decide +kernel) rfl, ⟨by decide +kernel, by decide +kernel⟩, by decide +kernel, by decide +kernel⟩, zin 398 (by decide +kernel) rfl, zin 399 (by decide +kernel) rfl, by decide, TX7, 2, rfl⟩
abbrev mX7_digestOn : zY := (yX7_digestOn, cX7_digestOn, 6, (some .long))
theorem kX7_digestOn : zCalV mX7_digestOn 1 7 := ⟨⟨zin 900 (by decide +kernel) rfl, zin 7 (by decide +kernel) rfl, ⟨by decide +kernel, by decide +kernel⟩, by decide +kernel, by decide +kernel⟩, zin 898 (by decide +kernel) rfl, zin 899 (by decide +kernel) rfl, by decide, TX7, 2, rfl⟩
abbrev mX8_init : zY := (yX8_init, cX8_init, 1, none)
abbrev mX8_begin : zY := (yX8_begin, cX8_begin, 4, none)
theorem kX8_begin : zCalV mX8_begin 2 8 := ⟨⟨zin 705 (by decide +kernel) rfl, zin 6 (by decide +kernel) rfl, ⟨by decide +kernel, by decide +kernel⟩, by decide +kernel, by decide +kernel⟩, zin 703 (by decide +kernel) rfl, zin 704 (by decide +kernel) rfl, by decide, TX8, 6, rfl⟩
abbrev mX8_partsAt : zY := (yX8_partsAt, cX8_partsAt, 5, none)
theorem kX8_partsAt : zCalV mX8_partsAt 2 8 := ⟨⟨zin 709 (by decide +kernel) rfl, zin 6 (by decide +kernel) rfl, ⟨by decide +kernel, by decide +kernel⟩, by decide +kernel, by decide +kernel⟩, zin 707 (by decide +kernel) rfl, zin 708 (by decide +kernel) rfl, by decide, TX8, 6, rfl⟩
abbrev mX8_learn : zY := (yX8_learn, cX8_learn, 3, none)
theorem kX8_learn : zCalV mX8_learn 2 8 := ⟨⟨zin 714 (by decide +kernel) rfl, zin 6 (by decide +kernel) rfl, ⟨by decide +kernel, by decide +kernel⟩, by decide +kernel, by decide +kernel⟩, zin 712 (by decide +kernel) rfl, zin 713 (by decide +kernel) rfl, by decide, TX8, 6, rfl⟩
abbrev mX8_soonest : zY := (yX8_soonest, cX8_soonest, 5, (some .int))
theorem kX8_soonest : zCalV mX8_soonest 0 8 := ⟨⟨zin 718 (by decide +kernel) rfl, zin 6 (by decide +kernel) rfl, ⟨by decide +kernel, by decide +kernel⟩, by decide +kernel, by decide +kernel⟩, zin 716 (by decide +kernel) rfl, zin 717 (by decide +kernel) rfl, by decide, TX8, 6, rfl⟩
abbrev mX8_knownFrom : zY := (yX8_knownFrom, cX8_knownFrom, 5, (some .int))
theorem kX8_knownFrom : zCalV mX8_knownFrom 0 8 := ⟨⟨zin 722 (by decide +kernel) rfl, zin 6 (by decide +kernel) rfl, ⟨by decide +kernel, by decide +kernel⟩, by decide +kernel, by decide +kernel⟩, zin 721 (by decide +kernel) rfl, zin2 22 (by decide +kernel) rfl, by decide, TX8, 6, rfl⟩
abbrev mX8_keepOrder : zY := (yX8_keepOrder, cX8_keepOrder, 2, none)
theorem kX8_keepOrder : zCalV mX8_keepOrder 0 8 := ⟨⟨zin 726 (by decide +kernel) rfl, zin 6 (by decide +kernel) rfl, ⟨by decide +kernel, by decide +kernel⟩, by decide +kernel, by decide +kernel⟩, zin 725 (by decide +kernel) rfl, zin2 23 (by decide +kernel) rfl, by decide, TX8, 6, rfl⟩
abbrev mX9_init : zY := (yX9_init, cX9_init, 2, none)
abbrev mX9_row : zY := (yX9_row, cX9_row, 3, (some .int))
theorem kX9_row : zCalV mX9_row 2 9 := ⟨⟨zin 307 (by decide +kernel) rfl, zin 1 (by decide +kernel) rfl, ⟨by decide +kernel, by decide +kernel⟩, by decide +kernel, by decide +kernel⟩, zin 305 (by decide +kernel) rfl, zin 306 (by decide +kernel) rfl, by decide, TX9, 13, rfl⟩
abbrev mX9_lay : zY := (yX9_lay, cX9_lay, 6, (some .int))
theorem kX9_lay : zCalV mX9_lay 3 9 := ⟨⟨zin 325 (by decide +kernel) rfl, zin 1 (by decide +kernel) rfl, ⟨by decide +kernel, by decide +kernel⟩, by decide +kernel, by decide +kernel⟩, zin 323 (by decide +kernel) rfl, zin 324 (by decide +kernel) rfl, by decide, TX9, 13, rfl⟩
abbrev mX9_at : zY := (yX9_at, cX9_at, 4, (some .int))
theorem kX9_at : zCalV mX9_at 2 9 := ⟨⟨zin 353 (by decide +kernel) rfl, zin 1 (by decide +kernel) rfl, ⟨by decide +kernel, by decide +kernel⟩, by decide +kernel, by decide +kernel⟩, zin 351 (by decide +kernel) rfl, zin 352 (by decide +kernel) rfl, by decide, TX9, 13, rfl⟩
abbrev mX9_tear : zY := (yX9_tear, cX9_tear, 2, (some .int))
theorem kX9_tear : zCalV mX9_tear 1 9 := ⟨⟨zin 357 (by decide +kernel) rfl, zin 1 (by decide +kernel) rfl, ⟨by decide +kernel, by decide +kernel⟩, by decide +kernel, by decide +kernel⟩, zin 355 (by decide +kernel) rfl, zin 356 (by decide +kernel) rfl, by decide, TX9, 13, rfl⟩
abbrev mX9_copy : zY := (yX9_copy, cX9_copy, 6, (some .int))
theorem kX9_copy : zCalV mX9_copy 5 9 := ⟨⟨zin 366 (by decide +kernel) rfl, zin 1 (by decide +kernel) rfl, ⟨by decide +kernel, by decide +kernel⟩, by decide +kernel, by decide +kernel⟩, zin 364 (by decide +kernel) rfl, zin 365 (by decide +kernel) rfl, by decide, TX9, 13, rfl⟩
abbrev mX9_mean : zY := (yX9_mean, cX9_mean, 3, (some .int))
theorem kX9_mean : zCalV mX9_mean 1 9 := ⟨⟨zin 377 (by decide +kernel) rfl, zin 1 (by decide +kernel) rfl, ⟨by decide +kernel, by decide +kernel⟩, by decide +kernel, by decide +kernel⟩, zin 375 (by decide +kernel) rfl, zin 376 (by decide +kernel) rfl, by decide, TX9, 13, rfl⟩
abbrev mX9_text : zY := (yX9_text, cX9_text, 3, (some .int))
theorem kX9_text : zCalV mX9_text 2 9 := ⟨⟨zin 385 (by decide +kernel) rfl, zin 1 (by decide +kernel) rfl, ⟨by decide +kernel, by decide +kernel⟩, by decide +kernel, by decide +kernel⟩, zin 383 (by decide +kernel) rfl, zin 384 (by decide +kernel) rfl, by decide, TX9, 13, rfl⟩
abbrev mX9_put : zY := (yX9_put, cX9_put, 6, (some .int))
theorem kX9_put : zCalV mX9_put 3 9 := ⟨⟨zin 392 (by decide +kernel) rfl, zin 1 (by decide +kernel) rfl, ⟨by decide +kernel, by decide +kernel⟩, by decide +kernel, by decide +kernel⟩, zin 390 (by decide +kernel) rfl, zin 391 (by decide +kernel) rfl, by decide, TX9, 13, rfl⟩
abbrev mX9_fault : zY := (yX9_fault, cX9_fault, 2, (some .int))
theorem kX9_fault : zCalV mX9_fault 1 9 := ⟨⟨zin 396 (by decide +kernel) rfl, zin 1 (by decide +kernel) rfl, ⟨by decide +kernel, by decide +kernel⟩, by decide +kernel, by decide +kernel⟩, zin 394 (by decide +kernel) rfl, zin 395 (by decide +kernel) rfl, by decide, TX9, 13, rfl⟩
abbrev mX9_box : zY := (yX9_box, cX9_box, 3, (some .int))
theorem kX9_box : zCalV mX9_box 2 9 := ⟨⟨zin 404 (by decide +kernel) rfl, zin 1 (by decide +kernel) rfl, ⟨by decide +kernel, by decide +kernel⟩, by decide +kernel, by decide +kernel⟩, zin 402 (by decide +kernel) rfl, zin 403 (by decide +kernel) rfl, by decide, TX9, 13, rfl⟩
abbrev mX9_usual : zY := (yX9_usual, cX9_usual, 4, (some .int))
theorem kX9_usual : zCalV mX9_usual 3 9 := ⟨⟨zin 416 (by decide +kernel) rfl, zin 1 (by decide +kernel) rfl, ⟨by decide +kernel, by decide +kernel⟩, by decide +kernel, by decide +kernel⟩, zin 414 (by decide +kernel) rfl, zin 415 (by decide +kernel) rfl, by decide, TX9, 13, rfl⟩
abbrev mX9_player : zY := (yX9_player, cX9_player, 6, (some .int))
theorem kX9_player : zCalV mX9_player 4 9 := ⟨⟨zin 435 (by decide +kernel) rfl, zin 1 (by decide +kernel) rfl, ⟨by decide +kernel, by decide +kernel⟩, by decide +kernel, by decide +kernel⟩, zin 433 (by decide +kernel) rfl, zin 434 (by decide +kernel) rfl, by decide, TX9, 13, rfl⟩
abbrev mX9_about : zY := (yX9_about, cX9_about, 3, (some .int))
theorem kX9_about : zCalV mX9_about 2 9 := ⟨⟨zin 476 (by decide +kernel) rfl, zin 1 (by decide +kernel) rfl, ⟨by decide +kernel, by decide +kernel⟩, by decide +kernel, by decide +kernel⟩, zin 474 (by decide +kernel) rfl, zin 475 (by decide +kernel) rfl, by decide, TX9, 13, rfl⟩
abbrev mX9_mark : zY := (yX9_mark, cX9_mark, 3, (some .int))
theorem kX9_mark : zCalV mX9_mark 2 9 := ⟨⟨zin 484 (by decide +kernel) rfl, zin 1 (by decide +kernel) rfl, ⟨by decide +kernel, by decide +kernel⟩, by decide +kernel, by decide +kernel⟩, zin 482 (by decide +kernel) rfl, zin 483 (by decide +kernel) rfl, by decide, TX9, 13, rfl⟩
abbrev mX9_draws : zY := (yX9_draws, cX9_draws, 4, (some .int))
theorem kX9_draws : zCalV mX9_draws 3 9 := ⟨⟨zin 526 (by decide +kernel) rfl, zin 1 (by decide +kernel) rfl, ⟨by decide +kernel, by decide +kernel⟩, by decide +kernel, by decide +kernel⟩, zin 524 (by decide +kernel) rfl, zin 525 (by decide +kernel) rfl, by decide, TX9, 13, rfl⟩
abbrev mX9_guess : zY := (yX9_guess, cX9_guess, 6, (some .int))
theorem kX9_guess : zCalV mX9_guess 4 9 := ⟨⟨zin 535 (by decide +kernel) rfl, zin 1 (by decide +kernel) rfl, ⟨by decide +kernel, by decide +kernel⟩, by decide +kernel, by decide +kernel⟩, zin 533 (by decide +kernel) rfl, zin 534 (by decide +kernel) rfl, by decide, TX9, 13, rfl⟩
abbrev mX9_step : zY := (yX9_step, cX9_step, 5, (some .int))
theorem kX9_step : zCalV mX9_step 4 9 := ⟨⟨zin 560 (by decide +kernel) rfl, zin 1 (by decide +kernel) rfl, ⟨by decide +kernel, by decide +kernel⟩, by decide +kernel, by decide +kernel⟩, zin 558 (by decide +kernel) rfl, zin 559 (by decide +kernel) rfl, by decide, TX9, 13, rfl⟩
abbrev mX9_comes : zY := (yX9_comes, cX9_comes, 5, (some .int))
theorem kX9_comes : zCalV mX9_comes 3 9 := ⟨⟨zin 564 (by decide +kernel) rfl, zin 1 (by decide +kernel) rfl, ⟨by decide +kernel, by decide +kernel⟩, by decide +kernel, by decide +kernel⟩, zin 562 (by decide +kernel) rfl, zin 563 (by decide +kernel) rfl, by decide, TX9, 13, rfl⟩
abbrev mX9_most : zY := (yX9_most, cX9_most, 5, (some .int))
theorem kX9_most : zCalV mX9_most 1 9 := ⟨⟨zin 617 (by decide +kernel) rfl, zin 1 (by decide +kernel) rfl, ⟨by decide +kernel, by decide +kernel⟩, by decide +kernel, by decide +kernel⟩, zin 615 (by decide +kernel) rfl, zin 616 (by decide +kernel) rfl, by decide, TX9, 13, rfl⟩
abbrev mX9_keeps : zY := (yX9_keeps, cX9_keeps, 12, (some .int))
theorem kX9_keeps : zCalV mX9_keeps 3 9 := ⟨⟨zin 629 (by decide +kernel) rfl, zin 1 (by decide +kernel) rfl, ⟨by decide +kernel, by decide +kernel⟩, by decide +kernel, by decide +kernel⟩, zin 627 (by decide +kernel) rfl, zin 628 (by decide +kernel) rfl, by decide, TX9, 13, rfl⟩
abbrev mX9_was : zY := (yX9_was, cX9_was, 8, (some .int))
theorem kX9_was : zCalV mX9_was 3 9 := ⟨⟨zin 633 (by decide +kernel) rfl, zin 1 (by decide +kernel) rfl, ⟨by decide +kernel, by decide +kernel⟩, by decide +kernel, by decide +kernel⟩, zin 631 (by decide +kernel) rfl, zin 632 (by decide +kernel) rfl, by decide, TX9, 13, rfl⟩
abbrev mX9_off : zY := (yX9_off, cX9_off, 8, (some .int))
theorem kX9_off : zCalV mX9_off 4 9 := ⟨⟨zin 637 (by decide +kernel) rfl, zin 1 (by decide +kernel) rfl, ⟨by decide +kernel, by decide +kernel⟩, by decide +kernel, by decide +kernel⟩, zin 635 (by decide +kernel) rfl, zin 636 (by decide +kernel) rfl, by decide, TX9, 13, rfl⟩
abbrev mX9_kept : zY := (yX9_kept, cX9_kept, 12, (some .int))
theorem kX9_kept : zCalV mX9_kept 2 9 := ⟨⟨zin 645 (by decide +kernel) rfl, zin 1 (by decide +kernel) rfl, ⟨by decide +kernel, by decide +kernel⟩, by decide +kernel, by decide +kernel⟩, zin 643 (by decide +kernel) rfl, zin 644 (by decide +kernel) rfl, by decide, TX9, 13, rfl⟩
abbrev mX9_seats : zY := (yX9_seats, cX9_seats, 6, (some .int))
theorem kX9_seats : zCalV mX9_seats 3 9 := ⟨⟨zin 654 (by decide +kernel) rfl, zin 1 (by decide +kernel) rfl, ⟨by decide +kernel, by decide +kernel⟩, by decide +kernel, by decide +kernel⟩, zin 652 (by decide +kernel) rfl, zin 653 (by decide +kernel) rfl, by decide, TX9, 13, rfl⟩
abbrev mX9_parts : zY := (yX9_parts, cX9_parts, 8, (some .int))
theorem kX9_parts : zCalV mX9_parts 3 9 := ⟨⟨zin 684 (by decide +kernel) rfl, zin 1 (by decide +kernel) rfl, ⟨by decide +kernel, by decide +kernel⟩, by decide +kernel, by decide +kernel⟩, zin 682 (by decide +kernel) rfl, zin 683 (by decide +kernel) rfl, by decide, TX9, 13, rfl⟩
abbrev mX9_few : zY := (yX9_few, cX9_few, 6, (some .int))
theorem kX9_few : zCalV mX9_few 3 9 := ⟨⟨zin 693 (by decide +kernel) rfl, zin 1 (by decide +kernel) rfl, ⟨by decide +kernel, by decide +kernel⟩, by decide +kernel, by decide +kernel⟩, zin 691 (by decide +kernel) rfl, zin 692 (by decide +kernel) rfl, by decide, TX9, 13, rfl⟩
abbrev mX9_soon : zY := (yX9_soon, cX9_soon, 7, (some .int))
theorem kX9_soon : zCalV mX9_soon 4 9 := ⟨⟨zin 697 (by decide +kernel) rfl, zin 1 (by decide +kernel) rfl, ⟨by decide +kernel, by decide +kernel⟩, by decide +kernel, by decide +kernel⟩, zin 695 (by decide +kernel) rfl, zin 696 (by decide +kernel) rfl, by decide, TX9, 13, rfl⟩
abbrev mX9_common : zY := (yX9_common, cX9_common, 5, (some .int))
theorem kX9_common : zCalV mX9_common 2 9 := ⟨⟨zin 731 (by decide +kernel) rfl, zin 1 (by decide +kernel) rfl, ⟨by decide +kernel, by decide +kernel⟩, by decide +kernel, by decide +kernel⟩, zin 729 (by decide +kernel) rfl, zin 730 (by decide +kernel) rfl, by decide, TX9, 13, rfl⟩
abbrev mX9_land : zY := (yX9_land, cX9_land, 5, (some .int))
theorem kX9_land : zCalV mX9_land 1 9 := ⟨⟨zin 740 (by decide +kernel) rfl, zin 1 (by decide +kernel) rfl, ⟨by decide +kernel, by decide +kernel⟩, by decide +kernel, by decide +kernel⟩, zin 738 (by decide +kernel) rfl, zin 739 (by decide +kernel) rfl, by decide, TX9, 13, rfl⟩
abbrev mX9_leaf : zY := (yX9_leaf, cX9_leaf, 4, (some .int))
theorem kX9_leaf : zCalV mX9_leaf 3 9 := ⟨⟨zin 748 (by decide +kernel) rfl, zin 1 (by decide +kernel) rfl, ⟨by decide +kernel, by decide +kernel⟩, by decide +kernel, by decide +kernel⟩, zin 746 (by decide +kernel) rfl, zin 747 (by decide +kernel) rfl, by decide, TX9, 13, rfl⟩
abbrev mX9_guessed : zY := (yX9_guessed, cX9_guessed, 5, (some .int))
theorem kX9_guessed : zCalV mX9_guessed 4 9 := ⟨⟨zin 762 (by decide +kernel) rfl, zin 1 (by decide +kernel) rfl, ⟨by decide +kernel, by decide +kernel⟩, by decide +kernel, by decide +kernel⟩, zin 760 (by decide +kernel) rfl, zin 761 (by decide +kernel) rfl, by decide, TX9, 13, rfl⟩
abbrev mX9_told : zY := (yX9_told, cX9_told, 3, (some .int))
theorem kX9_told : zCalV mX9_told 2 9 := ⟨⟨zin 766 (by decide +kernel) rfl, zin 1 (by decide +kernel) rfl, ⟨by decide +kernel, by decide +kernel⟩, by decide +kernel, by decide +kernel⟩, zin 764 (by decide +kernel) rfl, zin 765 (by decide +kernel) rfl, by decide, TX9, 13, rfl⟩
abbrev mX9_back : zY := (yX9_back, cX9_back, 3, (some .int))
theorem kX9_back : zCalV mX9_back 1 9 := ⟨⟨zin 774 (by decide +kernel) rfl, zin 1 (by decide +kernel) rfl, ⟨by decide +kernel, by decide +kernel⟩, by decide +kernel, by decide +kernel⟩, zin 772 (by decide +kernel) rfl, zin 773 (by decide +kernel) rfl, by decide, TX9, 13, rfl⟩
abbrev mX9_hand : zY := (yX9_hand, cX9_hand, 6, (some .int))
theorem kX9_hand : zCalV mX9_hand 1 9 := ⟨⟨zin 778 (by decide +kernel) rfl, zin 1 (by decide +kernel) rfl, ⟨by decide +kernel, by decide +kernel⟩, by decide +kernel, by decide +kernel⟩, zin 776 (by decide +kernel) rfl, zin 777 (by decide +kernel) rfl, by decide, TX9, 13, rfl⟩
abbrev mX9_guesser : zY := (yX9_guesser, cX9_guesser, 11, (some .int))
theorem kX9_guesser : zCalV mX9_guesser 1 9 := ⟨⟨zin 804 (by decide +kernel) rfl, zin 1 (by decide +kernel) rfl, ⟨by decide +kernel, by decide +kernel⟩, by decide +kernel, by decide +kernel⟩, zin 802 (by decide +kernel) rfl, zin 803 (by decide +kernel) rfl, by decide, TX9, 13, rfl⟩
abbrev mX9_machine : zY := (yX9_machine, cX9_machine, 5, (some .int))
theorem kX9_machine : zCalV mX9_machine 1 9 := ⟨⟨zin 812 (by decide +kernel) rfl, zin 1 (by decide +kernel) rfl, ⟨by decide +kernel, by decide +kernel⟩, by decide +kernel, by decide +kernel⟩, zin 810 (by decide +kernel) rfl, zin 811 (by decide +kernel) rfl, by decide, TX9, 13, rfl⟩
abbrev mX9_held : zY := (yX9_held, cX9_held, 5, (some .int))
theorem kX9_held : zCalV mX9_held 0 9 := ⟨⟨zin 820 (by decide +kernel) rfl, zin 1 (by decide +kernel) rfl, ⟨by decide +kernel, by decide +kernel⟩, by decide +kernel, by decide +kernel⟩, zin 818 (by decide +kernel) rfl, zin 819 (by decide +kernel) rfl, by decide, TX9, 13, rfl⟩
abbrev mX9_sign : zY := (yX9_sign, cX9_sign, 7, (some .int))
theorem kX9_sign : zCalV mX9_sign 5 9 := ⟨⟨zin 828 (by decide +kernel) rfl, zin 1 (by decide +kernel) rfl, ⟨by decide +kernel, by decide +kernel⟩, by decide +kernel, by decide +kernel⟩, zin 826 (by decide +kernel) rfl, zin 827 (by decide +kernel) rfl, by decide, TX9, 13, rfl⟩
abbrev mX9_stranger : zY := (yX9_stranger, cX9_stranger, 6, (some .int))
theorem kX9_stranger : zCalV mX9_stranger 4 9 := ⟨⟨zin 836 (by decide +kernel) rfl, zin 1 (by decide +kernel) rfl, ⟨by decide +kernel, by decide +kernel⟩, by decide +kernel, by decide +kernel⟩, zin 834 (by decide +kernel) rfl, zin 835 (by decide +kernel) rfl, by decide, TX9, 13, rfl⟩
abbrev mX9_image : zY := (yX9_image, cX9_image, 3, (some .int))
theorem kX9_image : zCalV mX9_image 1 9 := ⟨⟨zin 840 (by decide +kernel) rfl, zin 1 (by decide +kernel) rfl, ⟨by decide +kernel, by decide +kernel⟩, by decide +kernel, by decide +kernel⟩, zin 838 (by decide +kernel) rfl, zin 839 (by decide +kernel) rfl, by decide, TX9, 13, rfl⟩
abbrev mX9_on : zY := (yX9_on, cX9_on, 5, (some .int))
theorem kX9_on : zCalV mX9_on 1 9 := ⟨⟨zin 848 (by decide +kernel) rfl, zin 1 (by decide +kernel) rfl, ⟨by decide +kernel, by decide +kernel⟩, by decide +kernel, by decide +kernel⟩, zin 846 (by decide +kernel) rfl, zin 847 (by decide +kernel) rfl, by decide, TX9, 13, rfl⟩
abbrev mX9_asked : zY := (yX9_asked, cX9_asked, 1, (some .int))
theorem kX9_asked : zCalV mX9_asked 0 9 := ⟨⟨zin 857 (by decide +kernel) rfl, zin 1 (by decide +kernel) rfl, ⟨by decide +kernel, by decide +kernel⟩, by decide +kernel, by decide +kernel⟩, zin 855 (by decide +kernel) rfl, zin 856 (by decide +kernel) rfl, by decide, TX9, 13, rfl⟩
abbrev mX9_upper : zY := (yX9_upper, cX9_upper, 1, (some .long))
theorem kX9_upper : zCalV mX9_upper 0 9 := ⟨⟨zin 861 (by decide +kernel) rfl, zin 1 (by decide +kernel) rfl, ⟨by decide +kernel, by decide +kernel⟩, by decide +kernel, by decide +kernel⟩, zin 859 (by decide +kernel) rfl, zin 860 (by decide +kernel) rfl, by decide, TX9, 13, rfl⟩
abbrev mX9_lower : zY := (yX9_lower, cX9_lower, 1, (some .long))
theorem kX9_lower : zCalV mX9_lower 0 9 := ⟨⟨zin 865 (by decide +kernel) rfl, zin 1 (by decide +kernel) rfl, ⟨by decide +kernel, by decide +kernel⟩, by decide +kernel, by decide +kernel⟩, zin 863 (by decide +kernel) rfl, zin 864 (by decide +kernel) rfl, by decide, TX9, 13, rfl⟩
abbrev mX9_count : zY := (yX9_count, cX9_count, 2, (some .int))
theorem kX9_count : zCalV mX9_count 1 9 := ⟨⟨zin 869 (by decide +kernel) rfl, zin 1 (by decide +kernel) rfl, ⟨by decide +kernel, by decide +kernel⟩, by decide +kernel, by decide +kernel⟩, zin 867 (by decide +kernel) rfl, zin 868 (by decide +kernel) rfl, by decide, TX9, 13, rfl⟩
abbrev mX9_finding : zY := (yX9_finding, cX9_finding, 1, (some .int))
theorem kX9_finding : zCalV mX9_finding 0 9 := ⟨⟨zin 880 (by decide +kernel) rfl, zin 1 (by decide +kernel) rfl, ⟨by decide +kernel, by decide +kernel⟩, by decide +kernel, by decide +kernel⟩, zin 878 (by decide +kernel) rfl, zin 879 (by decide +kernel) rfl, by decide, TX9, 13, rfl⟩
abbrev mX9_findings : zY := (yX9_findings, cX9_findings, 2, (some .int))
theorem kX9_findings : zCalV mX9_findings 1 9 := ⟨⟨zin 884 (by decide +kernel) rfl, zin 1 (by decide +kernel) rfl, ⟨by decide +kernel, by decide +kernel⟩, by decide +kernel, by decide +kernel⟩, zin 882 (by decide +kernel) rfl, zin 883 (by decide +kernel) rfl, by decide, TX9, 13, rfl⟩
abbrev mX9_digest : zY := (yX9_digest, cX9_digest, 5, (some .long))
theorem kX9_digest : zCalV mX9_digest 0 9 := ⟨⟨zin 888 (by decide +kernel) rfl, zin 1 (by decide +kernel) rfl, ⟨by decide +kernel, by decide +kernel⟩, by decide +kernel, by decide +kernel⟩, zin 886 (by decide +kernel) rfl, zin 887 (by decide +kernel) rfl, by decide, TX9, 13, rfl⟩
abbrev mX9_isRow : zY := (yX9_isRow, cX9_isRow, 1, (some .boolean))
theorem kX9_isRow : zCalS mX9_isRow 1 := ⟨⟨zin 310 (by decide +kernel) rfl, zin 1 (by decide +kernel) rfl, ⟨by decide +kernel, by decide +kernel⟩, by decide +kernel, by decide +kernel⟩, zin 309 (by decide +kernel) rfl⟩
abbrev mX9_isText : zY := (yX9_isText, cX9_isText, 1, (some .boolean))
theorem kX9_isText : zCalS mX9_isText 1 := ⟨⟨zin 388 (by decide +kernel) rfl, zin 1 (by decide +kernel) rfl, ⟨by decide +kernel, by decide +kernel⟩, by decide +kernel, by decide +kernel⟩, zin 387 (by decide +kernel) rfl⟩
abbrev mX9_isLand : zY := (yX9_isLand, cX9_isLand, 1, (some .boolean))
theorem kX9_isLand : zCalS mX9_isLand 1 := ⟨⟨zin 407 (by decide +kernel) rfl, zin 1 (by decide +kernel) rfl, ⟨by decide +kernel, by decide +kernel⟩, by decide +kernel, by decide +kernel⟩, zin 406 (by decide +kernel) rfl⟩
abbrev mX9_isEverWord : zY := (yX9_isEverWord, cX9_isEverWord, 1, (some .boolean))
theorem kX9_isEverWord : zCalS mX9_isEverWord 1 := ⟨⟨zin 419 (by decide +kernel) rfl, zin 1 (by decide +kernel) rfl, ⟨by decide +kernel, by decide +kernel⟩, by decide +kernel, by decide +kernel⟩, zin 418 (by decide +kernel) rfl⟩
abbrev mX9_isWord : zY := (yX9_isWord, cX9_isWord, 2, (some .boolean))
theorem kX9_isWord : zCalV mX9_isWord 1 9 := ⟨⟨zin 427 (by decide +kernel) rfl, zin 1 (by decide +kernel) rfl, ⟨by decide +kernel, by decide +kernel⟩, by decide +kernel, by decide +kernel⟩, zin 426 (by decide +kernel) rfl, zin2 1 (by decide +kernel) rfl, by decide, TX9, 13, rfl⟩
abbrev mX9_isPlayer : zY := (yX9_isPlayer, cX9_isPlayer, 2, (some .boolean))
theorem kX9_isPlayer : zCalV mX9_isPlayer 1 9 := ⟨⟨zin 443 (by decide +kernel) rfl, zin 1 (by decide +kernel) rfl, ⟨by decide +kernel, by decide +kernel⟩, by decide +kernel, by decide +kernel⟩, zin 442 (by decide +kernel) rfl, zin2 3 (by decide +kernel) rfl, by decide, TX9, 13, rfl⟩
abbrev mX9_isDrawer : zY := (yX9_isDrawer, cX9_isDrawer, 2, (some .boolean))
theorem kX9_isDrawer : zCalV mX9_isDrawer 1 9 := ⟨⟨zin 539 (by decide +kernel) rfl, zin 1 (by decide +kernel) rfl, ⟨by decide +kernel, by decide +kernel⟩, by decide +kernel, by decide +kernel⟩, zin 538 (by decide +kernel) rfl, zin2 9 (by decide +kernel) rfl, by decide, TX9, 13, rfl⟩
abbrev mX9_drawer : zY := (yX9_drawer, cX9_drawer, 2, (some (.object "PadRound$Player")))
theorem kX9_drawer : zCalV mX9_drawer 1 9 := ⟨⟨zin 556 (by decide +kernel) rfl, zin 1 (by decide +kernel) rfl, ⟨by decide +kernel, by decide +kernel⟩, by decide +kernel, by decide +kernel⟩, zin 555 (by decide +kernel) rfl, zin2 10 (by decide +kernel) rfl, by decide, TX9, 13, rfl⟩
abbrev mX9_boxCounts : zY := (yX9_boxCounts, cX9_boxCounts, 2, (some .boolean))
theorem kX9_boxCounts : zCalV mX9_boxCounts 1 9 := ⟨⟨zin 423 (by decide +kernel) rfl, zin 1 (by decide +kernel) rfl, ⟨by decide +kernel, by decide +kernel⟩, by decide +kernel, by decide +kernel⟩, zin 422 (by decide +kernel) rfl, zin2 0 (by decide +kernel) rfl, by decide, TX9, 13, rfl⟩
abbrev mX9_tableFault : zY := (yX9_tableFault, cX9_tableFault, 3, (some .int))
theorem kX9_tableFault : zCalV mX9_tableFault 1 9 := ⟨⟨zin 568 (by decide +kernel) rfl, zin 1 (by decide +kernel) rfl, ⟨by decide +kernel, by decide +kernel⟩, by decide +kernel, by decide +kernel⟩, zin 567 (by decide +kernel) rfl, zin2 11 (by decide +kernel) rfl, by decide, TX9, 13, rfl⟩
abbrev mX9_padsFault : zY := (yX9_padsFault, cX9_padsFault, 5, (some .int))
theorem kX9_padsFault : zCalV mX9_padsFault 2 9 := ⟨⟨zin 649 (by decide +kernel) rfl, zin 1 (by decide +kernel) rfl, ⟨by decide +kernel, by decide +kernel⟩, by decide +kernel, by decide +kernel⟩, zin 648 (by decide +kernel) rfl, zin2 17 (by decide +kernel) rfl, by decide, TX9, 13, rfl⟩
abbrev mX9_imageFault : zY := (yX9_imageFault, cX9_imageFault, 6, (some .int))
theorem kX9_imageFault : zCalV mX9_imageFault 1 9 := ⟨⟨zin 852 (by decide +kernel) rfl, zin 1 (by decide +kernel) rfl, ⟨by decide +kernel, by decide +kernel⟩, by decide +kernel, by decide +kernel⟩, zin 851 (by decide +kernel) rfl, zin2 31 (by decide +kernel) rfl, by decide, TX9, 13, rfl⟩
abbrev mX9_seatPlayer : zY := (yX9_seatPlayer, cX9_seatPlayer, 7, none)
theorem kX9_seatPlayer : zCalV mX9_seatPlayer 5 9 := ⟨⟨zin 439 (by decide +kernel) rfl, zin 1 (by decide +kernel) rfl, ⟨by decide +kernel, by decide +kernel⟩, by decide +kernel, by decide +kernel⟩, zin 438 (by decide +kernel) rfl, zin2 2 (by decide +kernel) rfl, by decide, TX9, 13, rfl⟩
abbrev mX9_guessFirstPart : zY := (yX9_guessFirstPart, cX9_guessFirstPart, 2, none)
theorem kX9_guessFirstPart : zCalV mX9_guessFirstPart 1 9 := ⟨⟨zin 489 (by decide +kernel) rfl, zin 1 (by decide +kernel) rfl, ⟨by decide +kernel, by decide +kernel⟩, by decide +kernel, by decide +kernel⟩, zin 488 (by decide +kernel) rfl, zin2 5 (by decide +kernel) rfl, by decide, TX9, 13, rfl⟩
abbrev mX9_handsRead : zY := (yX9_handsRead, cX9_handsRead, 5, (some .int))
theorem kX9_handsRead : zCalV mX9_handsRead 1 9 := ⟨⟨zin 522 (by decide +kernel) rfl, zin 1 (by decide +kernel) rfl, ⟨by decide +kernel, by decide +kernel⟩, by decide +kernel, by decide +kernel⟩, zin 521 (by decide +kernel) rfl, zin2 8 (by decide +kernel) rfl, by decide, TX9, 13, rfl⟩
abbrev mX9_shareBySet : zY := (yX9_shareBySet, cX9_shareBySet, 4, (some .int))
theorem kX9_shareBySet : zCalV mX9_shareBySet 3 9 := ⟨⟨zin 689 (by decide +kernel) rfl, zin 1 (by decide +kernel) rfl, ⟨by decide +kernel, by decide +kernel⟩, by decide +kernel, by decide +kernel⟩, zin 688 (by decide +kernel) rfl, zin2 21 (by decide +kernel) rfl, by decide, TX9, 13, rfl⟩
abbrev mX9_seatTable : zY := (yX9_seatTable, cX9_seatTable, 3, none)
theorem kX9_seatTable : zCalV mX9_seatTable 1 9 := ⟨⟨zin 573 (by decide +kernel) rfl, zin 1 (by decide +kernel) rfl, ⟨by decide +kernel, by decide +kernel⟩, by decide +kernel, by decide +kernel⟩, zin 572 (by decide +kernel) rfl, zin2 12 (by decide +kernel) rfl, by decide, TX9, 13, rfl⟩
abbrev mX9_learnAllSteps : zY := (yX9_learnAllSteps, cX9_learnAllSteps, 3, none)
theorem kX9_learnAllSteps : zCalV mX9_learnAllSteps 0 9 := ⟨⟨zin 658 (by decide +kernel) rfl, zin 1 (by decide +kernel) rfl, ⟨by decide +kernel, by decide +kernel⟩, by decide +kernel, by decide +kernel⟩, zin 657 (by decide +kernel) rfl, zin2 18 (by decide +kernel) rfl, by decide, TX9, 13, rfl⟩
abbrev mX9_learnStep : zY := (yX9_learnStep, cX9_learnStep, 4, none)
theorem kX9_learnStep : zCalV mX9_learnStep 2 9 := ⟨⟨zin 583 (by decide +kernel) rfl, zin 1 (by decide +kernel) rfl, ⟨by decide +kernel, by decide +kernel⟩, by decide +kernel, by decide +kernel⟩, zin 582 (by decide +kernel) rfl, zin2 13 (by decide +kernel) rfl, by decide, TX9, 13, rfl⟩
abbrev mX9_addLeaf : zY := (yX9_addLeaf, cX9_addLeaf, 7, (some .int))
theorem kX9_addLeaf : zCalV mX9_addLeaf 5 9 := ⟨⟨zin 752 (by decide +kernel) rfl, zin 1 (by decide +kernel) rfl, ⟨by decide +kernel, by decide +kernel⟩, by decide +kernel, by decide +kernel⟩, zin 751 (by decide +kernel) rfl, zin2 24 (by decide +kernel) rfl, by decide, TX9, 13, rfl⟩
abbrev mX9_leavesOf : zY := (yX9_leavesOf, cX9_leavesOf, 5, (some .int))
theorem kX9_leavesOf : zCalV mX9_leavesOf 2 9 := ⟨⟨zin 782 (by decide +kernel) rfl, zin 1 (by decide +kernel) rfl, ⟨by decide +kernel, by decide +kernel⟩, by decide +kernel, by decide +kernel⟩, zin 781 (by decide +kernel) rfl, zin2 25 (by decide +kernel) rfl, by decide, TX9, 13, rfl⟩
abbrev mX9_guessLeaves : zY := (yX9_guessLeaves, cX9_guessLeaves, 3, (some .int))
theorem kX9_guessLeaves : zCalV mX9_guessLeaves 0 9 := ⟨⟨zin 824 (by decide +kernel) rfl, zin 1 (by decide +kernel) rfl, ⟨by decide +kernel, by decide +kernel⟩, by decide +kernel, by decide +kernel⟩, zin 823 (by decide +kernel) rfl, zin2 29 (by decide +kernel) rfl, by decide, TX9, 13, rfl⟩
abbrev mX9_handOff : zY := (yX9_handOff, cX9_handOff, 5, (some .int))
theorem kX9_handOff : zCalV mX9_handOff 2 9 := ⟨⟨zin 790 (by decide +kernel) rfl, zin 1 (by decide +kernel) rfl, ⟨by decide +kernel, by decide +kernel⟩, by decide +kernel, by decide +kernel⟩, zin 789 (by decide +kernel) rfl, zin2 26 (by decide +kernel) rfl, by decide, TX9, 13, rfl⟩
abbrev mX9_likelihood : zY := (yX9_likelihood, cX9_likelihood, 6, (some .long))
theorem kX9_likelihood : zCalV mX9_likelihood 2 9 := ⟨⟨zin 808 (by decide +kernel) rfl, zin 1 (by decide +kernel) rfl, ⟨by decide +kernel, by decide +kernel⟩, by decide +kernel, by decide +kernel⟩, zin 807 (by decide +kernel) rfl, zin2 27 (by decide +kernel) rfl, by decide, TX9, 13, rfl⟩
abbrev mX9_nearestLeaf : zY := (yX9_nearestLeaf, cX9_nearestLeaf, 6, (some .int))
theorem kX9_nearestLeaf : zCalV mX9_nearestLeaf 2 9 := ⟨⟨zin 816 (by decide +kernel) rfl, zin 1 (by decide +kernel) rfl, ⟨by decide +kernel, by decide +kernel⟩, by decide +kernel, by decide +kernel⟩, zin 815 (by decide +kernel) rfl, zin2 28 (by decide +kernel) rfl, by decide, TX9, 13, rfl⟩
abbrev mX9_shortenSign : zY := (yX9_shortenSign, cX9_shortenSign, 4, none)
theorem kX9_shortenSign : zCalV mX9_shortenSign 3 9 := ⟨⟨zin 832 (by decide +kernel) rfl, zin 1 (by decide +kernel) rfl, ⟨by decide +kernel, by decide +kernel⟩, by decide +kernel, by decide +kernel⟩, zin 831 (by decide +kernel) rfl, zin2 30 (by decide +kernel) rfl, by decide, TX9, 13, rfl⟩
abbrev mX9_sloppyPlayers : zY := (yX9_sloppyPlayers, cX9_sloppyPlayers, 3, (some .int))
theorem kX9_sloppyPlayers : zCalV mX9_sloppyPlayers 0 9 := ⟨⟨zin 873 (by decide +kernel) rfl, zin 1 (by decide +kernel) rfl, ⟨by decide +kernel, by decide +kernel⟩, by decide +kernel, by decide +kernel⟩, zin 872 (by decide +kernel) rfl, zin2 32 (by decide +kernel) rfl, by decide, TX9, 13, rfl⟩
abbrev mX9_sheetsThere : zY := (yX9_sheetsThere, cX9_sheetsThere, 3, (some .int))
theorem kX9_sheetsThere : zCalS mX9_sheetsThere 1 := ⟨⟨zin 876 (by decide +kernel) rfl, zin 1 (by decide +kernel) rfl, ⟨by decide +kernel, by decide +kernel⟩, by decide +kernel, by decide +kernel⟩, zin 875 (by decide +kernel) rfl⟩
abbrev mX9_nextOrder : zY := (yX9_nextOrder, cX9_nextOrder, 7, (some .boolean))
theorem kX9_nextOrder : zCalS mX9_nextOrder 3 := ⟨⟨zin 679 (by decide +kernel) rfl, zin 1 (by decide +kernel) rfl, ⟨by decide +kernel, by decide +kernel⟩, by decide +kernel, by decide +kernel⟩, zin 678 (by decide +kernel) rfl⟩
abbrev mX9_swap : zY := (yX9_swap, cX9_swap, 4, none)
theorem kX9_swap : zCalS mX9_swap 3 := ⟨⟨zin 669 (by decide +kernel) rfl, zin 1 (by decide +kernel) rfl, ⟨by decide +kernel, by decide +kernel⟩, by decide +kernel, by decide +kernel⟩, zin 668 (by decide +kernel) rfl⟩
abbrev mX10_init : zY := (yX10_init, cX10_init, 2, none)
abbrev mX10_in : zY := (yX10_in, cX10_in, 3, (some .boolean))
theorem kX10_in : zCalS mX10_in 3 := ⟨⟨zin 1035 (by decide +kernel) rfl, zin 12 (by decide +kernel) rfl, ⟨by decide +kernel, by decide +kernel⟩, by decide +kernel, by decide +kernel⟩, zin 1034 (by decide +kernel) rfl⟩
abbrev mX10_meets : zY := (yX10_meets, cX10_meets, 2, (some .int))
theorem kX10_meets : zCalV mX10_meets 1 10 := ⟨⟨zin 1039 (by decide +kernel) rfl, zin 12 (by decide +kernel) rfl, ⟨by decide +kernel, by decide +kernel⟩, by decide +kernel, by decide +kernel⟩, zin 1038 (by decide +kernel) rfl, zin2 33 (by decide +kernel) rfl, by decide, TX10, 39, rfl⟩
abbrev mX10_ask : zY := (yX10_ask, cX10_ask, 3, (some .int))
theorem kX10_ask : zCalV mX10_ask 2 10 := ⟨⟨zin 1059 (by decide +kernel) rfl, zin 12 (by decide +kernel) rfl, ⟨by decide +kernel, by decide +kernel⟩, by decide +kernel, by decide +kernel⟩, zin 1058 (by decide +kernel) rfl, zin2 37 (by decide +kernel) rfl, by decide, TX10, 39, rfl⟩
abbrev mX10_part : zY := (yX10_part, cX10_part, 12, (some .int))
theorem kX10_part : zCalV mX10_part 3 10 := ⟨⟨zin 1260 (by decide +kernel) rfl, zin 12 (by decide +kernel) rfl, ⟨by decide +kernel, by decide +kernel⟩, by decide +kernel, by decide +kernel⟩, zin 1259 (by decide +kernel) rfl, zin2 69 (by decide +kernel) rfl, by decide, TX10, 39, rfl⟩
abbrev mX10_isRow : zY := (yX10_isRow, cX10_isRow, 1, (some .boolean))
theorem kX10_isRow : zCalS mX10_isRow 1 := ⟨⟨zin 1032 (by decide +kernel) rfl, zin 12 (by decide +kernel) rfl, ⟨by decide +kernel, by decide +kernel⟩, by decide +kernel, by decide +kernel⟩, zin 1031 (by decide +kernel) rfl⟩
abbrev mX10_isText : zY := (yX10_isText, cX10_isText, 1, (some .boolean))
theorem kX10_isText : zCalS mX10_isText 1 := ⟨⟨zin 1083 (by decide +kernel) rfl, zin 12 (by decide +kernel) rfl, ⟨by decide +kernel, by decide +kernel⟩, by decide +kernel, by decide +kernel⟩, zin 1082 (by decide +kernel) rfl⟩
abbrev mX10_askedRow : zY := (yX10_askedRow, cX10_askedRow, 2, (some .int))
theorem kX10_askedRow : zCalV mX10_askedRow 1 10 := ⟨⟨zin 1051 (by decide +kernel) rfl, zin 12 (by decide +kernel) rfl, ⟨by decide +kernel, by decide +kernel⟩, by decide +kernel, by decide +kernel⟩, zin 1050 (by decide +kernel) rfl, zin2 35 (by decide +kernel) rfl, by decide, TX10, 39, rfl⟩
abbrev mX10_askedText : zY := (yX10_askedText, cX10_askedText, 2, (some .int))
theorem kX10_askedText : zCalV mX10_askedText 1 10 := ⟨⟨zin 1091 (by decide +kernel) rfl, zin 12 (by decide +kernel) rfl, ⟨by decide +kernel, by decide +kernel⟩, by decide +kernel, by decide +kernel⟩, zin 1090 (by decide +kernel) rfl, zin2 38 (by decide +kernel) rfl, by decide, TX10, 39, rfl⟩
abbrev mX10_rowAt : zY := (yX10_rowAt, cX10_rowAt, 3, (some .int))
theorem kX10_rowAt : zCalV mX10_rowAt 2 10 := ⟨⟨zin 1055 (by decide +kernel) rfl, zin 12 (by decide +kernel) rfl, ⟨by decide +kernel, by decide +kernel⟩, by decide +kernel, by decide +kernel⟩, zin 1054 (by decide +kernel) rfl, zin2 36 (by decide +kernel) rfl, by decide, TX10, 39, rfl⟩
abbrev mX10_setRow : zY := (yX10_setRow, cX10_setRow, 4, none)
theorem kX10_setRow : zCalV mX10_setRow 3 10 := ⟨⟨zin 1043 (by decide +kernel) rfl, zin 12 (by decide +kernel) rfl, ⟨by decide +kernel, by decide +kernel⟩, by decide +kernel, by decide +kernel⟩, zin 1042 (by decide +kernel) rfl, zin2 34 (by decide +kernel) rfl, by decide, TX10, 39, rfl⟩
abbrev mX10_row : zY := (yX10_row, cX10_row, 4, (some .int))
theorem kX10_row : zCalV mX10_row 2 10 := ⟨⟨zin 1029 (by decide +kernel) rfl, zin 12 (by decide +kernel) rfl, ⟨by decide +kernel, by decide +kernel⟩, by decide +kernel, by decide +kernel⟩, zin 1027 (by decide +kernel) rfl, zin 1028 (by decide +kernel) rfl, by decide, TX10, 39, rfl⟩
abbrev mX10_at : zY := (yX10_at, cX10_at, 4, (some .int))
theorem kX10_at : zCalV mX10_at 2 10 := ⟨⟨zin 1047 (by decide +kernel) rfl, zin 12 (by decide +kernel) rfl, ⟨by decide +kernel, by decide +kernel⟩, by decide +kernel, by decide +kernel⟩, zin 1045 (by decide +kernel) rfl, zin 1046 (by decide +kernel) rfl, by decide, TX10, 39, rfl⟩
abbrev mX10_lay : zY := (yX10_lay, cX10_lay, 5, (some .int))
theorem kX10_lay : zCalV mX10_lay 3 10 := ⟨⟨zin 1063 (by decide +kernel) rfl, zin 12 (by decide +kernel) rfl, ⟨by decide +kernel, by decide +kernel⟩, by decide +kernel, by decide +kernel⟩, zin 1061 (by decide +kernel) rfl, zin 1062 (by decide +kernel) rfl, by decide, TX10, 39, rfl⟩
abbrev mX10_tear : zY := (yX10_tear, cX10_tear, 3, (some .int))
theorem kX10_tear : zCalV mX10_tear 1 10 := ⟨⟨zin 1068 (by decide +kernel) rfl, zin 12 (by decide +kernel) rfl, ⟨by decide +kernel, by decide +kernel⟩, by decide +kernel, by decide +kernel⟩, zin 1066 (by decide +kernel) rfl, zin 1067 (by decide +kernel) rfl, by decide, TX10, 39, rfl⟩
abbrev mX10_copy : zY := (yX10_copy, cX10_copy, 7, (some .int))
theorem kX10_copy : zCalV mX10_copy 5 10 := ⟨⟨zin 1072 (by decide +kernel) rfl, zin 12 (by decide +kernel) rfl, ⟨by decide +kernel, by decide +kernel⟩, by decide +kernel, by decide +kernel⟩, zin 1070 (by decide +kernel) rfl, zin 1071 (by decide +kernel) rfl, by decide, TX10, 39, rfl⟩
abbrev mX10_mean : zY := (yX10_mean, cX10_mean, 6, (some .int))
theorem kX10_mean : zCalV mX10_mean 1 10 := ⟨⟨zin 1076 (by decide +kernel) rfl, zin 12 (by decide +kernel) rfl, ⟨by decide +kernel, by decide +kernel⟩, by decide +kernel, by decide +kernel⟩, zin 1074 (by decide +kernel) rfl, zin 1075 (by decide +kernel) rfl, by decide, TX10, 39, rfl⟩
abbrev mX10_text : zY := (yX10_text, cX10_text, 4, (some .int))
theorem kX10_text : zCalV mX10_text 2 10 := ⟨⟨zin 1080 (by decide +kernel) rfl, zin 12 (by decide +kernel) rfl, ⟨by decide +kernel, by decide +kernel⟩, by decide +kernel, by decide +kernel⟩, zin 1078 (by decide +kernel) rfl, zin 1079 (by decide +kernel) rfl, by decide, TX10, 39, rfl⟩
abbrev mX10_put : zY := (yX10_put, cX10_put, 6, (some .int))
theorem kX10_put : zCalV mX10_put 3 10 := ⟨⟨zin 1087 (by decide +kernel) rfl, zin 12 (by decide +kernel) rfl, ⟨by decide +kernel, by decide +kernel⟩, by decide +kernel, by decide +kernel⟩, zin 1085 (by decide +kernel) rfl, zin 1086 (by decide +kernel) rfl, by decide, TX10, 39, rfl⟩
abbrev mX10_here : zY := (yX10_here, cX10_here, 2, (some .int))
theorem kX10_here : zCalV mX10_here 1 10 := ⟨⟨zin 1103 (by decide +kernel) rfl, zin 12 (by decide +kernel) rfl, ⟨by decide +kernel, by decide +kernel⟩, by decide +kernel, by decide +kernel⟩, zin 1102 (by decide +kernel) rfl, zin2 40 (by decide +kernel) rfl, by decide, TX10, 39, rfl⟩
abbrev mX10_readsWord : zY := (yX10_readsWord, cX10_readsWord, 4, (some .boolean))
theorem kX10_readsWord : zCalV mX10_readsWord 1 10 := ⟨⟨zin 1107 (by decide +kernel) rfl, zin 12 (by decide +kernel) rfl, ⟨by decide +kernel, by decide +kernel⟩, by decide +kernel, by decide +kernel⟩, zin 1106 (by decide +kernel) rfl, zin2 41 (by decide +kernel) rfl, by decide, TX10, 39, rfl⟩
abbrev mX10_goesOn : zY := (yX10_goesOn, cX10_goesOn, 2, (some .int))
theorem kX10_goesOn : zCalV mX10_goesOn 1 10 := ⟨⟨zin 1099 (by decide +kernel) rfl, zin 12 (by decide +kernel) rfl, ⟨by decide +kernel, by decide +kernel⟩, by decide +kernel, by decide +kernel⟩, zin 1098 (by decide +kernel) rfl, zin2 39 (by decide +kernel) rfl, by decide, TX10, 39, rfl⟩
abbrev mX10_fault : zY := (yX10_fault, cX10_fault, 3, (some .int))
theorem kX10_fault : zCalV mX10_fault 1 10 := ⟨⟨zin 1095 (by decide +kernel) rfl, zin 12 (by decide +kernel) rfl, ⟨by decide +kernel, by decide +kernel⟩, by decide +kernel, by decide +kernel⟩, zin 1093 (by decide +kernel) rfl, zin 1094 (by decide +kernel) rfl, by decide, TX10, 39, rfl⟩
abbrev mX10_box : zY := (yX10_box, cX10_box, 5, (some .int))
theorem kX10_box : zCalV mX10_box 2 10 := ⟨⟨zin 1111 (by decide +kernel) rfl, zin 12 (by decide +kernel) rfl, ⟨by decide +kernel, by decide +kernel⟩, by decide +kernel, by decide +kernel⟩, zin 1109 (by decide +kernel) rfl, zin 1110 (by decide +kernel) rfl, by decide, TX10, 39, rfl⟩
abbrev mX10_words : zY := (yX10_words, cX10_words, 1, (some .int))
theorem kX10_words : zCalV mX10_words 0 10 := ⟨⟨zin 1127 (by decide +kernel) rfl, zin 12 (by decide +kernel) rfl, ⟨by decide +kernel, by decide +kernel⟩, by decide +kernel, by decide +kernel⟩, zin 1126 (by decide +kernel) rfl, zin2 44 (by decide +kernel) rfl, by decide, TX10, 39, rfl⟩
abbrev mX10_isLand : zY := (yX10_isLand, cX10_isLand, 2, (some .boolean))
theorem kX10_isLand : zCalV mX10_isLand 1 10 := ⟨⟨zin 1119 (by decide +kernel) rfl, zin 12 (by decide +kernel) rfl, ⟨by decide +kernel, by decide +kernel⟩, by decide +kernel, by decide +kernel⟩, zin 1118 (by decide +kernel) rfl, zin2 42 (by decide +kernel) rfl, by decide, TX10, 39, rfl⟩
abbrev mX10_isWord : zY := (yX10_isWord, cX10_isWord, 2, (some .boolean))
theorem kX10_isWord : zCalV mX10_isWord 1 10 := ⟨⟨zin 1123 (by decide +kernel) rfl, zin 12 (by decide +kernel) rfl, ⟨by decide +kernel, by decide +kernel⟩, by decide +kernel, by decide +kernel⟩, zin 1122 (by decide +kernel) rfl, zin2 43 (by decide +kernel) rfl, by decide, TX10, 39, rfl⟩
abbrev mX10_use : zY := (yX10_use, cX10_use, 4, (some .int))
theorem kX10_use : zCalV mX10_use 3 10 := ⟨⟨zin 1131 (by decide +kernel) rfl, zin 12 (by decide +kernel) rfl, ⟨by decide +kernel, by decide +kernel⟩, by decide +kernel, by decide +kernel⟩, zin 1130 (by decide +kernel) rfl, zin2 45 (by decide +kernel) rfl, by decide, TX10, 39, rfl⟩
abbrev mX10_usual : zY := (yX10_usual, cX10_usual, 4, (some .int))
theorem kX10_usual : zCalV mX10_usual 3 10 := ⟨⟨zin 1115 (by decide +kernel) rfl, zin 12 (by decide +kernel) rfl, ⟨by decide +kernel, by decide +kernel⟩, by decide +kernel, by decide +kernel⟩, zin 1113 (by decide +kernel) rfl, zin 1114 (by decide +kernel) rfl, by decide, TX10, 39, rfl⟩
abbrev mX10_isPlayer : zY := (yX10_isPlayer, cX10_isPlayer, 2, (some .boolean))
theorem kX10_isPlayer : zCalV mX10_isPlayer 1 10 := ⟨⟨zin 1147 (by decide +kernel) rfl, zin 12 (by decide +kernel) rfl, ⟨by decide +kernel, by decide +kernel⟩, by decide +kernel, by decide +kernel⟩, zin 1146 (by decide +kernel) rfl, zin2 47 (by decide +kernel) rfl, by decide, TX10, 39, rfl⟩
abbrev mX10_tell : zY := (yX10_tell, cX10_tell, 3, (some .int))
theorem kX10_tell : zCalV mX10_tell 2 10 := ⟨⟨zin 1151 (by decide +kernel) rfl, zin 12 (by decide +kernel) rfl, ⟨by decide +kernel, by decide +kernel⟩, by decide +kernel, by decide +kernel⟩, zin 1150 (by decide +kernel) rfl, zin2 48 (by decide +kernel) rfl, by decide, TX10, 39, rfl⟩
abbrev mX10_setPlayer : zY := (yX10_setPlayer, cX10_setPlayer, 6, none)
theorem kX10_setPlayer : zCalV mX10_setPlayer 5 10 := ⟨⟨zin 1139 (by decide +kernel) rfl, zin 12 (by decide +kernel) rfl, ⟨by decide +kernel, by decide +kernel⟩, by decide +kernel, by decide +kernel⟩, zin 1138 (by decide +kernel) rfl, zin2 46 (by decide +kernel) rfl, by decide, TX10, 39, rfl⟩
abbrev mX10_player : zY := (yX10_player, cX10_player, 5, (some .int))
theorem kX10_player : zCalV mX10_player 4 10 := ⟨⟨zin 1135 (by decide +kernel) rfl, zin 12 (by decide +kernel) rfl, ⟨by decide +kernel, by decide +kernel⟩, by decide +kernel, by decide +kernel⟩, zin 1133 (by decide +kernel) rfl, zin 1134 (by decide +kernel) rfl, by decide, TX10, 39, rfl⟩
abbrev mX10_about : zY := (yX10_about, cX10_about, 3, (some .int))
theorem kX10_about : zCalV mX10_about 2 10 := ⟨⟨zin 1143 (by decide +kernel) rfl, zin 12 (by decide +kernel) rfl, ⟨by decide +kernel, by decide +kernel⟩, by decide +kernel, by decide +kernel⟩, zin 1141 (by decide +kernel) rfl, zin 1142 (by decide +kernel) rfl, by decide, TX10, 39, rfl⟩
abbrev mX10_isSloppy : zY := (yX10_isSloppy, cX10_isSloppy, 2, (some .boolean))
theorem kX10_isSloppy : zCalV mX10_isSloppy 1 10 := ⟨⟨zin 1159 (by decide +kernel) rfl, zin 12 (by decide +kernel) rfl, ⟨by decide +kernel, by decide +kernel⟩, by decide +kernel, by decide +kernel⟩, zin 1158 (by decide +kernel) rfl, zin2 49 (by decide +kernel) rfl, by decide, TX10, 39, rfl⟩
abbrev mX10_setDrawing : zY := (yX10_setDrawing, cX10_setDrawing, 6, none)
theorem kX10_setDrawing : zCalV mX10_setDrawing 2 10 := ⟨⟨zin 1163 (by decide +kernel) rfl, zin 12 (by decide +kernel) rfl, ⟨by decide +kernel, by decide +kernel⟩, by decide +kernel, by decide +kernel⟩, zin 1162 (by decide +kernel) rfl, zin2 50 (by decide +kernel) rfl, by decide, TX10, 39, rfl⟩
abbrev mX10_drawingSet : zY := (yX10_drawingSet, cX10_drawingSet, 5, (some .int))
theorem kX10_drawingSet : zCalV mX10_drawingSet 2 10 := ⟨⟨zin 1183 (by decide +kernel) rfl, zin 12 (by decide +kernel) rfl, ⟨by decide +kernel, by decide +kernel⟩, by decide +kernel, by decide +kernel⟩, zin 1182 (by decide +kernel) rfl, zin2 55 (by decide +kernel) rfl, by decide, TX10, 39, rfl⟩
abbrev mX10_sizeOf : zY := (yX10_sizeOf, cX10_sizeOf, 3, (some .int))
theorem kX10_sizeOf : zCalS mX10_sizeOf 1 := ⟨⟨zin 1313 (by decide +kernel) rfl, zin 12 (by decide +kernel) rfl, ⟨by decide +kernel, by decide +kernel⟩, by decide +kernel, by decide +kernel⟩, zin 1312 (by decide +kernel) rfl⟩
abbrev mX10_sumOf : zY := (yX10_sumOf, cX10_sumOf, 9, (some .int))
theorem kX10_sumOf : zCalV mX10_sumOf 3 10 := ⟨⟨zin 1179 (by decide +kernel) rfl, zin 12 (by decide +kernel) rfl, ⟨by decide +kernel, by decide +kernel⟩, by decide +kernel, by decide +kernel⟩, zin 1178 (by decide +kernel) rfl, zin2 54 (by decide +kernel) rfl, by decide, TX10, 39, rfl⟩
abbrev mX10_setShares : zY := (yX10_setShares, cX10_setShares, 7, none)
theorem kX10_setShares : zCalV mX10_setShares 2 10 := ⟨⟨zin 1175 (by decide +kernel) rfl, zin 12 (by decide +kernel) rfl, ⟨by decide +kernel, by decide +kernel⟩, by decide +kernel, by decide +kernel⟩, zin 1174 (by decide +kernel) rfl, zin2 53 (by decide +kernel) rfl, by decide, TX10, 39, rfl⟩
abbrev mX10_greatest : zY := (yX10_greatest, cX10_greatest, 3, (some .int))
theorem kX10_greatest : zCalV mX10_greatest 0 10 := ⟨⟨zin 1191 (by decide +kernel) rfl, zin 12 (by decide +kernel) rfl, ⟨by decide +kernel, by decide +kernel⟩, by decide +kernel, by decide +kernel⟩, zin 1190 (by decide +kernel) rfl, zin2 57 (by decide +kernel) rfl, by decide, TX10, 39, rfl⟩
abbrev mX10_seeDrawing : zY := (yX10_seeDrawing, cX10_seeDrawing, 2, none)
theorem kX10_seeDrawing : zCalV mX10_seeDrawing 0 10 := ⟨⟨zin 1171 (by decide +kernel) rfl, zin 12 (by decide +kernel) rfl, ⟨by decide +kernel, by decide +kernel⟩, by decide +kernel, by decide +kernel⟩, zin 1170 (by decide +kernel) rfl, zin2 52 (by decide +kernel) rfl, by decide, TX10, 39, rfl⟩
abbrev mX10_see : zY := (yX10_see, cX10_see, 3, none)
theorem kX10_see : zCalV mX10_see 2 10 := ⟨⟨zin 1167 (by decide +kernel) rfl, zin 12 (by decide +kernel) rfl, ⟨by decide +kernel, by decide +kernel⟩, by decide +kernel, by decide +kernel⟩, zin 1166 (by decide +kernel) rfl, zin2 51 (by decide +kernel) rfl, by decide, TX10, 39, rfl⟩
abbrev mX10_seeSet : zY := (yX10_seeSet, cX10_seeSet, 3, none)
theorem kX10_seeSet : zCalV mX10_seeSet 1 10 := ⟨⟨zin 1187 (by decide +kernel) rfl, zin 12 (by decide +kernel) rfl, ⟨by decide +kernel, by decide +kernel⟩, by decide +kernel, by decide +kernel⟩, zin 1186 (by decide +kernel) rfl, zin2 56 (by decide +kernel) rfl, by decide, TX10, 39, rfl⟩
abbrev mX10_seeRow : zY := (yX10_seeRow, cX10_seeRow, 4, none)
theorem kX10_seeRow : zCalV mX10_seeRow 2 10 := ⟨⟨zin 1216 (by decide +kernel) rfl, zin 12 (by decide +kernel) rfl, ⟨by decide +kernel, by decide +kernel⟩, by decide +kernel, by decide +kernel⟩, zin 1215 (by decide +kernel) rfl, zin2 61 (by decide +kernel) rfl, by decide, TX10, 39, rfl⟩
abbrev mX10_askedDrawn : zY := (yX10_askedDrawn, cX10_askedDrawn, 5, (some .int))
theorem kX10_askedDrawn : zCalV mX10_askedDrawn 1 10 := ⟨⟨zin 1212 (by decide +kernel) rfl, zin 12 (by decide +kernel) rfl, ⟨by decide +kernel, by decide +kernel⟩, by decide +kernel, by decide +kernel⟩, zin 1211 (by decide +kernel) rfl, zin2 60 (by decide +kernel) rfl, by decide, TX10, 39, rfl⟩
abbrev mX10_rowSet : zY := (yX10_rowSet, cX10_rowSet, 4, (some .int))
theorem kX10_rowSet : zCalV mX10_rowSet 1 10 := ⟨⟨zin 1325 (by decide +kernel) rfl, zin 12 (by decide +kernel) rfl, ⟨by decide +kernel, by decide +kernel⟩, by decide +kernel, by decide +kernel⟩, zin 1324 (by decide +kernel) rfl, zin2 75 (by decide +kernel) rfl, by decide, TX10, 39, rfl⟩
abbrev mX10_mark : zY := (yX10_mark, cX10_mark, 6, (some .int))
theorem kX10_mark : zCalV mX10_mark 2 10 := ⟨⟨zin 1155 (by decide +kernel) rfl, zin 12 (by decide +kernel) rfl, ⟨by decide +kernel, by decide +kernel⟩, by decide +kernel, by decide +kernel⟩, zin 1153 (by decide +kernel) rfl, zin 1154 (by decide +kernel) rfl, by decide, TX10, 39, rfl⟩
abbrev mX10_draws : zY := (yX10_draws, cX10_draws, 4, (some .int))
theorem kX10_draws : zCalV mX10_draws 3 10 := ⟨⟨zin 1195 (by decide +kernel) rfl, zin 12 (by decide +kernel) rfl, ⟨by decide +kernel, by decide +kernel⟩, by decide +kernel, by decide +kernel⟩, zin 1193 (by decide +kernel) rfl, zin 1194 (by decide +kernel) rfl, by decide, TX10, 39, rfl⟩
abbrev mX10_rowOf : zY := (yX10_rowOf, cX10_rowOf, 4, (some .int))
theorem kX10_rowOf : zCalV mX10_rowOf 2 10 := ⟨⟨zin 1199 (by decide +kernel) rfl, zin 12 (by decide +kernel) rfl, ⟨by decide +kernel, by decide +kernel⟩, by decide +kernel, by decide +kernel⟩, zin 1198 (by decide +kernel) rfl, zin2 58 (by decide +kernel) rfl, by decide, TX10, 39, rfl⟩
abbrev mX10_isBy : zY := (yX10_isBy, cX10_isBy, 2, (some .boolean))
theorem kX10_isBy : zCalV mX10_isBy 1 10 := ⟨⟨zin 1208 (by decide +kernel) rfl, zin 12 (by decide +kernel) rfl, ⟨by decide +kernel, by decide +kernel⟩, by decide +kernel, by decide +kernel⟩, zin 1207 (by decide +kernel) rfl, zin2 59 (by decide +kernel) rfl, by decide, TX10, 39, rfl⟩
abbrev mX10_sharesRow : zY := (yX10_sharesRow, cX10_sharesRow, 3, none)
theorem kX10_sharesRow : zCalV mX10_sharesRow 1 10 := ⟨⟨zin 1220 (by decide +kernel) rfl, zin 12 (by decide +kernel) rfl, ⟨by decide +kernel, by decide +kernel⟩, by decide +kernel, by decide +kernel⟩, zin 1219 (by decide +kernel) rfl, zin2 62 (by decide +kernel) rfl, by decide, TX10, 39, rfl⟩
abbrev mX10_guess : zY := (yX10_guess, cX10_guess, 6, (some .int))
theorem kX10_guess : zCalV mX10_guess 4 10 := ⟨⟨zin 1204 (by decide +kernel) rfl, zin 12 (by decide +kernel) rfl, ⟨by decide +kernel, by decide +kernel⟩, by decide +kernel, by decide +kernel⟩, zin 1202 (by decide +kernel) rfl, zin 1203 (by decide +kernel) rfl, by decide, TX10, 39, rfl⟩
abbrev mX10_setStep : zY := (yX10_setStep, cX10_setStep, 4, none)
theorem kX10_setStep : zCalV mX10_setStep 3 10 := ⟨⟨zin 1228 (by decide +kernel) rfl, zin 12 (by decide +kernel) rfl, ⟨by decide +kernel, by decide +kernel⟩, by decide +kernel, by decide +kernel⟩, zin 1227 (by decide +kernel) rfl, zin2 63 (by decide +kernel) rfl, by decide, TX10, 39, rfl⟩
abbrev mX10_step : zY := (yX10_step, cX10_step, 5, (some .int))
theorem kX10_step : zCalV mX10_step 4 10 := ⟨⟨zin 1224 (by decide +kernel) rfl, zin 12 (by decide +kernel) rfl, ⟨by decide +kernel, by decide +kernel⟩, by decide +kernel, by decide +kernel⟩, zin 1222 (by decide +kernel) rfl, zin 1223 (by decide +kernel) rfl, by decide, TX10, 39, rfl⟩
abbrev mX10_askedTable : zY := (yX10_askedTable, cX10_askedTable, 2, (some .int))
theorem kX10_askedTable : zCalV mX10_askedTable 1 10 := ⟨⟨zin 1236 (by decide +kernel) rfl, zin 12 (by decide +kernel) rfl, ⟨by decide +kernel, by decide +kernel⟩, by decide +kernel, by decide +kernel⟩, zin 1235 (by decide +kernel) rfl, zin2 64 (by decide +kernel) rfl, by decide, TX10, 39, rfl⟩
abbrev mX10_askedSeats : zY := (yX10_askedSeats, cX10_askedSeats, 5, (some .int))
theorem kX10_askedSeats : zCalV mX10_askedSeats 1 10 := ⟨⟨zin 1240 (by decide +kernel) rfl, zin 12 (by decide +kernel) rfl, ⟨by decide +kernel, by decide +kernel⟩, by decide +kernel, by decide +kernel⟩, zin 1239 (by decide +kernel) rfl, zin2 65 (by decide +kernel) rfl, by decide, TX10, 39, rfl⟩
abbrev mX10_steps : zY := (yX10_steps, cX10_steps, 1, (some .int))
theorem kX10_steps : zCalV mX10_steps 0 10 := ⟨⟨zin 1248 (by decide +kernel) rfl, zin 12 (by decide +kernel) rfl, ⟨by decide +kernel, by decide +kernel⟩, by decide +kernel, by decide +kernel⟩, zin 1247 (by decide +kernel) rfl, zin2 67 (by decide +kernel) rfl, by decide, TX10, 39, rfl⟩
abbrev mX10_whole : zY := (yX10_whole, cX10_whole, 4, (some .long))
theorem kX10_whole : zCalS mX10_whole 1 := ⟨⟨zin 1255 (by decide +kernel) rfl, zin 12 (by decide +kernel) rfl, ⟨by decide +kernel, by decide +kernel⟩, by decide +kernel, by decide +kernel⟩, zin 1254 (by decide +kernel) rfl⟩
abbrev mX10_goOn : zY := (yX10_goOn, cX10_goOn, 7, none)
theorem kX10_goOn : zCalV mX10_goOn 2 10 := ⟨⟨zin 1252 (by decide +kernel) rfl, zin 12 (by decide +kernel) rfl, ⟨by decide +kernel, by decide +kernel⟩, by decide +kernel, by decide +kernel⟩, zin 1251 (by decide +kernel) rfl, zin2 68 (by decide +kernel) rfl, by decide, TX10, 39, rfl⟩
abbrev mX10_setOdds : zY := (yX10_setOdds, cX10_setOdds, 4, none)
theorem kX10_setOdds : zCalV mX10_setOdds 2 10 := ⟨⟨zin 1244 (by decide +kernel) rfl, zin 12 (by decide +kernel) rfl, ⟨by decide +kernel, by decide +kernel⟩, by decide +kernel, by decide +kernel⟩, zin 1243 (by decide +kernel) rfl, zin2 66 (by decide +kernel) rfl, by decide, TX10, 39, rfl⟩
abbrev mX10_askedRound : zY := (yX10_askedRound, cX10_askedRound, 2, (some .int))
theorem kX10_askedRound : zCalV mX10_askedRound 1 10 := ⟨⟨zin 1268 (by decide +kernel) rfl, zin 12 (by decide +kernel) rfl, ⟨by decide +kernel, by decide +kernel⟩, by decide +kernel, by decide +kernel⟩, zin 1267 (by decide +kernel) rfl, zin2 70 (by decide +kernel) rfl, by decide, TX10, 39, rfl⟩
abbrev mX10_comes : zY := (yX10_comes, cX10_comes, 5, (some .int))
theorem kX10_comes : zCalV mX10_comes 3 10 := ⟨⟨zin 1232 (by decide +kernel) rfl, zin 12 (by decide +kernel) rfl, ⟨by decide +kernel, by decide +kernel⟩, by decide +kernel, by decide +kernel⟩, zin 1230 (by decide +kernel) rfl, zin 1231 (by decide +kernel) rfl, by decide, TX10, 39, rfl⟩
abbrev mX10_most : zY := (yX10_most, cX10_most, 5, (some .int))
theorem kX10_most : zCalV mX10_most 1 10 := ⟨⟨zin 1264 (by decide +kernel) rfl, zin 12 (by decide +kernel) rfl, ⟨by decide +kernel, by decide +kernel⟩, by decide +kernel, by decide +kernel⟩, zin 1262 (by decide +kernel) rfl, zin 1263 (by decide +kernel) rfl, by decide, TX10, 39, rfl⟩
abbrev mX10_keeps : zY := (yX10_keeps, cX10_keeps, 10, (some .int))
theorem kX10_keeps : zCalV mX10_keeps 3 10 := ⟨⟨zin 1272 (by decide +kernel) rfl, zin 12 (by decide +kernel) rfl, ⟨by decide +kernel, by decide +kernel⟩, by decide +kernel, by decide +kernel⟩, zin 1270 (by decide +kernel) rfl, zin 1271 (by decide +kernel) rfl, by decide, TX10, 39, rfl⟩
abbrev mX10_was : zY := (yX10_was, cX10_was, 10, (some .int))
theorem kX10_was : zCalV mX10_was 3 10 := ⟨⟨zin 1277 (by decide +kernel) rfl, zin 12 (by decide +kernel) rfl, ⟨by decide +kernel, by decide +kernel⟩, by decide +kernel, by decide +kernel⟩, zin 1275 (by decide +kernel) rfl, zin 1276 (by decide +kernel) rfl, by decide, TX10, 39, rfl⟩
abbrev mX10_off : zY := (yX10_off, cX10_off, 10, (some .int))
theorem kX10_off : zCalV mX10_off 4 10 := ⟨⟨zin 1281 (by decide +kernel) rfl, zin 12 (by decide +kernel) rfl, ⟨by decide +kernel, by decide +kernel⟩, by decide +kernel, by decide +kernel⟩, zin 1279 (by decide +kernel) rfl, zin 1280 (by decide +kernel) rfl, by decide, TX10, 39, rfl⟩
abbrev mX10_keptOf : zY := (yX10_keptOf, cX10_keptOf, 8, (some .long))
theorem kX10_keptOf : zCalV mX10_keptOf 1 10 := ⟨⟨zin 1293 (by decide +kernel) rfl, zin 12 (by decide +kernel) rfl, ⟨by decide +kernel, by decide +kernel⟩, by decide +kernel, by decide +kernel⟩, zin 1292 (by decide +kernel) rfl, zin2 72 (by decide +kernel) rfl, by decide, TX10, 39, rfl⟩
abbrev mX10_askedPads : zY := (yX10_askedPads, cX10_askedPads, 5, (some .int))
theorem kX10_askedPads : zCalV mX10_askedPads 2 10 := ⟨⟨zin 1289 (by decide +kernel) rfl, zin 12 (by decide +kernel) rfl, ⟨by decide +kernel, by decide +kernel⟩, by decide +kernel, by decide +kernel⟩, zin 1288 (by decide +kernel) rfl, zin2 71 (by decide +kernel) rfl, by decide, TX10, 39, rfl⟩
abbrev mX10_kept : zY := (yX10_kept, cX10_kept, 6, (some .int))
theorem kX10_kept : zCalV mX10_kept 2 10 := ⟨⟨zin 1285 (by decide +kernel) rfl, zin 12 (by decide +kernel) rfl, ⟨by decide +kernel, by decide +kernel⟩, by decide +kernel, by decide +kernel⟩, zin 1283 (by decide +kernel) rfl, zin 1284 (by decide +kernel) rfl, by decide, TX10, 39, rfl⟩
abbrev mX10_sit : zY := (yX10_sit, cX10_sit, 7, none)
theorem kX10_sit : zCalV mX10_sit 3 10 := ⟨⟨zin 1302 (by decide +kernel) rfl, zin 12 (by decide +kernel) rfl, ⟨by decide +kernel, by decide +kernel⟩, by decide +kernel, by decide +kernel⟩, zin 1301 (by decide +kernel) rfl, zin2 73 (by decide +kernel) rfl, by decide, TX10, 39, rfl⟩
abbrev mX10_seats : zY := (yX10_seats, cX10_seats, 8, (some .int))
theorem kX10_seats : zCalV mX10_seats 3 10 := ⟨⟨zin 1298 (by decide +kernel) rfl, zin 12 (by decide +kernel) rfl, ⟨by decide +kernel, by decide +kernel⟩, by decide +kernel, by decide +kernel⟩, zin 1296 (by decide +kernel) rfl, zin 1297 (by decide +kernel) rfl, by decide, TX10, 39, rfl⟩
abbrev mX10_setFor : zY := (yX10_setFor, cX10_setFor, 6, (some .int))
theorem kX10_setFor : zCalV mX10_setFor 3 10 := ⟨⟨zin 1310 (by decide +kernel) rfl, zin 12 (by decide +kernel) rfl, ⟨by decide +kernel, by decide +kernel⟩, by decide +kernel, by decide +kernel⟩, zin 1309 (by decide +kernel) rfl, zin2 74 (by decide +kernel) rfl, by decide, TX10, 39, rfl⟩
abbrev mX10_parts : zY := (yX10_parts, cX10_parts, 5, (some .int))
theorem kX10_parts : zCalV mX10_parts 3 10 := ⟨⟨zin 1306 (by decide +kernel) rfl, zin 12 (by decide +kernel) rfl, ⟨by decide +kernel, by decide +kernel⟩, by decide +kernel, by decide +kernel⟩, zin 1304 (by decide +kernel) rfl, zin 1305 (by decide +kernel) rfl, by decide, TX10, 39, rfl⟩
abbrev mX10_few : zY := (yX10_few, cX10_few, 6, (some .int))
theorem kX10_few : zCalV mX10_few 3 10 := ⟨⟨zin 1317 (by decide +kernel) rfl, zin 12 (by decide +kernel) rfl, ⟨by decide +kernel, by decide +kernel⟩, by decide +kernel, by decide +kernel⟩, zin 1315 (by decide +kernel) rfl, zin 1316 (by decide +kernel) rfl, by decide, TX10, 39, rfl⟩
abbrev mX10_knownFrom : zY := (yX10_knownFrom, cX10_knownFrom, 7, (some .int))
theorem kX10_knownFrom : zCalV mX10_knownFrom 3 10 := ⟨⟨zin 1333 (by decide +kernel) rfl, zin 12 (by decide +kernel) rfl, ⟨by decide +kernel, by decide +kernel⟩, by decide +kernel, by decide +kernel⟩, zin 1332 (by decide +kernel) rfl, zin2 77 (by decide +kernel) rfl, by decide, TX10, 39, rfl⟩
abbrev mX10_watch : zY := (yX10_watch, cX10_watch, 8, none)
theorem kX10_watch : zCalV mX10_watch 5 10 := ⟨⟨zin 1329 (by decide +kernel) rfl, zin 12 (by decide +kernel) rfl, ⟨by decide +kernel, by decide +kernel⟩, by decide +kernel, by decide +kernel⟩, zin 1328 (by decide +kernel) rfl, zin2 76 (by decide +kernel) rfl, by decide, TX10, 39, rfl⟩
abbrev mX10_soon : zY := (yX10_soon, cX10_soon, 8, (some .int))
theorem kX10_soon : zCalV mX10_soon 4 10 := ⟨⟨zin 1321 (by decide +kernel) rfl, zin 12 (by decide +kernel) rfl, ⟨by decide +kernel, by decide +kernel⟩, by decide +kernel, by decide +kernel⟩, zin 1319 (by decide +kernel) rfl, zin 1320 (by decide +kernel) rfl, by decide, TX10, 39, rfl⟩
abbrev mX10_common : zY := (yX10_common, cX10_common, 8, (some .int))
theorem kX10_common : zCalV mX10_common 2 10 := ⟨⟨zin 1337 (by decide +kernel) rfl, zin 12 (by decide +kernel) rfl, ⟨by decide +kernel, by decide +kernel⟩, by decide +kernel, by decide +kernel⟩, zin 1335 (by decide +kernel) rfl, zin 1336 (by decide +kernel) rfl, by decide, TX10, 39, rfl⟩
abbrev mX10_land : zY := (yX10_land, cX10_land, 7, (some .int))
theorem kX10_land : zCalV mX10_land 1 10 := ⟨⟨zin 1341 (by decide +kernel) rfl, zin 12 (by decide +kernel) rfl, ⟨by decide +kernel, by decide +kernel⟩, by decide +kernel, by decide +kernel⟩, zin 1339 (by decide +kernel) rfl, zin 1340 (by decide +kernel) rfl, by decide, TX10, 39, rfl⟩
abbrev mX10_leafTells : zY := (yX10_leafTells, cX10_leafTells, 3, (some .int))
theorem kX10_leafTells : zCalV mX10_leafTells 2 10 := ⟨⟨zin 1361 (by decide +kernel) rfl, zin 12 (by decide +kernel) rfl, ⟨by decide +kernel, by decide +kernel⟩, by decide +kernel, by decide +kernel⟩, zin 1360 (by decide +kernel) rfl, zin2 79 (by decide +kernel) rfl, by decide, TX10, 39, rfl⟩
abbrev mX10_newLeaf : zY := (yX10_newLeaf, cX10_newLeaf, 8, (some .int))
theorem kX10_newLeaf : zCalV mX10_newLeaf 5 10 := ⟨⟨zin 1349 (by decide +kernel) rfl, zin 12 (by decide +kernel) rfl, ⟨by decide +kernel, by decide +kernel⟩, by decide +kernel, by decide +kernel⟩, zin 1348 (by decide +kernel) rfl, zin2 78 (by decide +kernel) rfl, by decide, TX10, 39, rfl⟩
abbrev mX10_leaf : zY := (yX10_leaf, cX10_leaf, 5, (some .int))
theorem kX10_leaf : zCalV mX10_leaf 3 10 := ⟨⟨zin 1345 (by decide +kernel) rfl, zin 12 (by decide +kernel) rfl, ⟨by decide +kernel, by decide +kernel⟩, by decide +kernel, by decide +kernel⟩, zin 1343 (by decide +kernel) rfl, zin 1344 (by decide +kernel) rfl, by decide, TX10, 39, rfl⟩
abbrev mX10_guessed : zY := (yX10_guessed, cX10_guessed, 6, (some .int))
theorem kX10_guessed : zCalV mX10_guessed 4 10 := ⟨⟨zin 1353 (by decide +kernel) rfl, zin 12 (by decide +kernel) rfl, ⟨by decide +kernel, by decide +kernel⟩, by decide +kernel, by decide +kernel⟩, zin 1351 (by decide +kernel) rfl, zin 1352 (by decide +kernel) rfl, by decide, TX10, 39, rfl⟩
abbrev mX10_told : zY := (yX10_told, cX10_told, 3, (some .int))
theorem kX10_told : zCalV mX10_told 2 10 := ⟨⟨zin 1357 (by decide +kernel) rfl, zin 12 (by decide +kernel) rfl, ⟨by decide +kernel, by decide +kernel⟩, by decide +kernel, by decide +kernel⟩, zin 1355 (by decide +kernel) rfl, zin 1356 (by decide +kernel) rfl, by decide, TX10, 39, rfl⟩
abbrev mX10_back : zY := (yX10_back, cX10_back, 3, (some .int))
theorem kX10_back : zCalV mX10_back 1 10 := ⟨⟨zin 1365 (by decide +kernel) rfl, zin 12 (by decide +kernel) rfl, ⟨by decide +kernel, by decide +kernel⟩, by decide +kernel, by decide +kernel⟩, zin 1363 (by decide +kernel) rfl, zin 1364 (by decide +kernel) rfl, by decide, TX10, 39, rfl⟩
abbrev mX10_isLeafOf : zY := (yX10_isLeafOf, cX10_isLeafOf, 4, (some .boolean))
theorem kX10_isLeafOf : zCalV mX10_isLeafOf 3 10 := ⟨⟨zin 1377 (by decide +kernel) rfl, zin 12 (by decide +kernel) rfl, ⟨by decide +kernel, by decide +kernel⟩, by decide +kernel, by decide +kernel⟩, zin 1376 (by decide +kernel) rfl, zin2 81 (by decide +kernel) rfl, by decide, TX10, 39, rfl⟩
abbrev mX10_tryAs : zY := (yX10_tryAs, cX10_tryAs, 3, none)
theorem kX10_tryAs : zCalV mX10_tryAs 2 10 := ⟨⟨zin 1381 (by decide +kernel) rfl, zin 12 (by decide +kernel) rfl, ⟨by decide +kernel, by decide +kernel⟩, by decide +kernel, by decide +kernel⟩, zin 1380 (by decide +kernel) rfl, zin2 82 (by decide +kernel) rfl, by decide, TX10, 39, rfl⟩
abbrev mX10_leavesOf : zY := (yX10_leavesOf, cX10_leavesOf, 5, (some .int))
theorem kX10_leavesOf : zCalV mX10_leavesOf 2 10 := ⟨⟨zin 1373 (by decide +kernel) rfl, zin 12 (by decide +kernel) rfl, ⟨by decide +kernel, by decide +kernel⟩, by decide +kernel, by decide +kernel⟩, zin 1372 (by decide +kernel) rfl, zin2 80 (by decide +kernel) rfl, by decide, TX10, 39, rfl⟩
abbrev mX10_hand : zY := (yX10_hand, cX10_hand, 7, (some .int))
theorem kX10_hand : zCalV mX10_hand 1 10 := ⟨⟨zin 1369 (by decide +kernel) rfl, zin 12 (by decide +kernel) rfl, ⟨by decide +kernel, by decide +kernel⟩, by decide +kernel, by decide +kernel⟩, zin 1367 (by decide +kernel) rfl, zin 1368 (by decide +kernel) rfl, by decide, TX10, 39, rfl⟩
abbrev mX10_shareByLeaf : zY := (yX10_shareByLeaf, cX10_shareByLeaf, 4, (some .int))
theorem kX10_shareByLeaf : zCalV mX10_shareByLeaf 2 10 := ⟨⟨zin 1389 (by decide +kernel) rfl, zin 12 (by decide +kernel) rfl, ⟨by decide +kernel, by decide +kernel⟩, by decide +kernel, by decide +kernel⟩, zin 1388 (by decide +kernel) rfl, zin2 83 (by decide +kernel) rfl, by decide, TX10, 39, rfl⟩
abbrev mX10_guesser : zY := (yX10_guesser, cX10_guesser, 12, (some .int))
theorem kX10_guesser : zCalV mX10_guesser 1 10 := ⟨⟨zin 1385 (by decide +kernel) rfl, zin 12 (by decide +kernel) rfl, ⟨by decide +kernel, by decide +kernel⟩, by decide +kernel, by decide +kernel⟩, zin 1383 (by decide +kernel) rfl, zin 1384 (by decide +kernel) rfl, by decide, TX10, 39, rfl⟩
abbrev mX10_takes : zY := (yX10_takes, cX10_takes, 6, (some .int))
theorem kX10_takes : zCalV mX10_takes 2 10 := ⟨⟨zin 1397 (by decide +kernel) rfl, zin 12 (by decide +kernel) rfl, ⟨by decide +kernel, by decide +kernel⟩, by decide +kernel, by decide +kernel⟩, zin 1396 (by decide +kernel) rfl, zin2 84 (by decide +kernel) rfl, by decide, TX10, 39, rfl⟩
abbrev mX10_machine : zY := (yX10_machine, cX10_machine, 4, (some .int))
theorem kX10_machine : zCalV mX10_machine 1 10 := ⟨⟨zin 1393 (by decide +kernel) rfl, zin 12 (by decide +kernel) rfl, ⟨by decide +kernel, by decide +kernel⟩, by decide +kernel, by decide +kernel⟩, zin 1391 (by decide +kernel) rfl, zin 1392 (by decide +kernel) rfl, by decide, TX10, 39, rfl⟩
abbrev mX10_held : zY := (yX10_held, cX10_held, 4, (some .int))
theorem kX10_held : zCalV mX10_held 0 10 := ⟨⟨zin 1401 (by decide +kernel) rfl, zin 12 (by decide +kernel) rfl, ⟨by decide +kernel, by decide +kernel⟩, by decide +kernel, by decide +kernel⟩, zin 1399 (by decide +kernel) rfl, zin 1400 (by decide +kernel) rfl, by decide, TX10, 39, rfl⟩
abbrev mX10_setSign : zY := (yX10_setSign, cX10_setSign, 8, none)
theorem kX10_setSign : zCalV mX10_setSign 4 10 := ⟨⟨zin 1409 (by decide +kernel) rfl, zin 12 (by decide +kernel) rfl, ⟨by decide +kernel, by decide +kernel⟩, by decide +kernel, by decide +kernel⟩, zin 1408 (by decide +kernel) rfl, zin2 85 (by decide +kernel) rfl, by decide, TX10, 39, rfl⟩
abbrev mX10_sign : zY := (yX10_sign, cX10_sign, 6, (some .int))
theorem kX10_sign : zCalV mX10_sign 5 10 := ⟨⟨zin 1405 (by decide +kernel) rfl, zin 12 (by decide +kernel) rfl, ⟨by decide +kernel, by decide +kernel⟩, by decide +kernel, by decide +kernel⟩, zin 1403 (by decide +kernel) rfl, zin 1404 (by decide +kernel) rfl, by decide, TX10, 39, rfl⟩
abbrev mX10_stranger : zY := (yX10_stranger, cX10_stranger, 6, (some .int))
theorem kX10_stranger : zCalV mX10_stranger 4 10 := ⟨⟨zin 1413 (by decide +kernel) rfl, zin 12 (by decide +kernel) rfl, ⟨by decide +kernel, by decide +kernel⟩, by decide +kernel, by decide +kernel⟩, zin 1411 (by decide +kernel) rfl, zin 1412 (by decide +kernel) rfl, by decide, TX10, 39, rfl⟩
abbrev mX10_image : zY := (yX10_image, cX10_image, 3, (some .int))
theorem kX10_image : zCalV mX10_image 1 10 := ⟨⟨zin 1417 (by decide +kernel) rfl, zin 12 (by decide +kernel) rfl, ⟨by decide +kernel, by decide +kernel⟩, by decide +kernel, by decide +kernel⟩, zin 1415 (by decide +kernel) rfl, zin 1416 (by decide +kernel) rfl, by decide, TX10, 39, rfl⟩
abbrev mX10_isPlayerBy : zY := (yX10_isPlayerBy, cX10_isPlayerBy, 2, (some .boolean))
theorem kX10_isPlayerBy : zCalV mX10_isPlayerBy 1 10 := ⟨⟨zin 1425 (by decide +kernel) rfl, zin 12 (by decide +kernel) rfl, ⟨by decide +kernel, by decide +kernel⟩, by decide +kernel, by decide +kernel⟩, zin 1424 (by decide +kernel) rfl, zin2 86 (by decide +kernel) rfl, by decide, TX10, 39, rfl⟩
abbrev mX10_on : zY := (yX10_on, cX10_on, 5, (some .int))
theorem kX10_on : zCalV mX10_on 1 10 := ⟨⟨zin 1421 (by decide +kernel) rfl, zin 12 (by decide +kernel) rfl, ⟨by decide +kernel, by decide +kernel⟩, by decide +kernel, by decide +kernel⟩, zin 1419 (by decide +kernel) rfl, zin 1420 (by decide +kernel) rfl, by decide, TX10, 39, rfl⟩
abbrev mX10_asked : zY := (yX10_asked, cX10_asked, 1, (some .int))
theorem kX10_asked : zCalV mX10_asked 0 10 := ⟨⟨zin 1429 (by decide +kernel) rfl, zin 12 (by decide +kernel) rfl, ⟨by decide +kernel, by decide +kernel⟩, by decide +kernel, by decide +kernel⟩, zin 1427 (by decide +kernel) rfl, zin 1428 (by decide +kernel) rfl, by decide, TX10, 39, rfl⟩
abbrev mX10_upper : zY := (yX10_upper, cX10_upper, 1, (some .long))
theorem kX10_upper : zCalV mX10_upper 0 10 := ⟨⟨zin 1433 (by decide +kernel) rfl, zin 12 (by decide +kernel) rfl, ⟨by decide +kernel, by decide +kernel⟩, by decide +kernel, by decide +kernel⟩, zin 1431 (by decide +kernel) rfl, zin 1432 (by decide +kernel) rfl, by decide, TX10, 39, rfl⟩
abbrev mX10_lower : zY := (yX10_lower, cX10_lower, 1, (some .long))
theorem kX10_lower : zCalV mX10_lower 0 10 := ⟨⟨zin 1437 (by decide +kernel) rfl, zin 12 (by decide +kernel) rfl, ⟨by decide +kernel, by decide +kernel⟩, by decide +kernel, by decide +kernel⟩, zin 1435 (by decide +kernel) rfl, zin 1436 (by decide +kernel) rfl, by decide, TX10, 39, rfl⟩
abbrev mX10_counts : zY := (yX10_counts, cX10_counts, 4, (some .int))
theorem kX10_counts : zCalV mX10_counts 1 10 := ⟨⟨zin 1445 (by decide +kernel) rfl, zin 12 (by decide +kernel) rfl, ⟨by decide +kernel, by decide +kernel⟩, by decide +kernel, by decide +kernel⟩, zin 1444 (by decide +kernel) rfl, zin2 87 (by decide +kernel) rfl, by decide, TX10, 39, rfl⟩
abbrev mX10_count : zY := (yX10_count, cX10_count, 2, (some .int))
theorem kX10_count : zCalV mX10_count 1 10 := ⟨⟨zin 1441 (by decide +kernel) rfl, zin 12 (by decide +kernel) rfl, ⟨by decide +kernel, by decide +kernel⟩, by decide +kernel, by decide +kernel⟩, zin 1439 (by decide +kernel) rfl, zin 1440 (by decide +kernel) rfl, by decide, TX10, 39, rfl⟩
abbrev mX10_finding : zY := (yX10_finding, cX10_finding, 1, (some .int))
theorem kX10_finding : zCalV mX10_finding 0 10 := ⟨⟨zin 1449 (by decide +kernel) rfl, zin 12 (by decide +kernel) rfl, ⟨by decide +kernel, by decide +kernel⟩, by decide +kernel, by decide +kernel⟩, zin 1447 (by decide +kernel) rfl, zin 1448 (by decide +kernel) rfl, by decide, TX10, 39, rfl⟩
abbrev mX10_findings : zY := (yX10_findings, cX10_findings, 2, (some .int))
theorem kX10_findings : zCalV mX10_findings 1 10 := ⟨⟨zin 1453 (by decide +kernel) rfl, zin 12 (by decide +kernel) rfl, ⟨by decide +kernel, by decide +kernel⟩, by decide +kernel, by decide +kernel⟩, zin 1451 (by decide +kernel) rfl, zin 1452 (by decide +kernel) rfl, by decide, TX10, 39, rfl⟩
abbrev mX10_mix : zY := (yX10_mix, cX10_mix, 2, none)
theorem kX10_mix : zCalV mX10_mix 1 10 := ⟨⟨zin 1462 (by decide +kernel) rfl, zin 12 (by decide +kernel) rfl, ⟨by decide +kernel, by decide +kernel⟩, by decide +kernel, by decide +kernel⟩, zin 1461 (by decide +kernel) rfl, zin2 88 (by decide +kernel) rfl, by decide, TX10, 39, rfl⟩
abbrev mX10_mixAll : zY := (yX10_mixAll, cX10_mixAll, 3, none)
theorem kX10_mixAll : zCalV mX10_mixAll 0 10 := ⟨⟨zin 1467 (by decide +kernel) rfl, zin 12 (by decide +kernel) rfl, ⟨by decide +kernel, by decide +kernel⟩, by decide +kernel, by decide +kernel⟩, zin 1466 (by decide +kernel) rfl, zin2 89 (by decide +kernel) rfl, by decide, TX10, 39, rfl⟩
abbrev mX10_digest : zY := (yX10_digest, cX10_digest, 3, (some .long))
theorem kX10_digest : zCalV mX10_digest 0 10 := ⟨⟨zin 1457 (by decide +kernel) rfl, zin 12 (by decide +kernel) rfl, ⟨by decide +kernel, by decide +kernel⟩, by decide +kernel, by decide +kernel⟩, zin 1455 (by decide +kernel) rfl, zin 1456 (by decide +kernel) rfl, by decide, TX10, 39, rfl⟩
abbrev mJ6_bitCount_0f7a4 : zY := (yJ6_bitCount_0f7a4, cJ6_bitCount_0f7a4, 1, (some .int))
theorem kJ6_bitCount_0f7a4 : zCalS mJ6_bitCount_0f7a4 1 := ⟨⟨zin 507 (by decide +kernel) rfl, zin 14 (by decide +kernel) rfl, ⟨by decide +kernel, by decide +kernel⟩, by decide +kernel, by decide +kernel⟩, zin 506 (by decide +kernel) rfl⟩
abbrev mJ9_max_7cf53 : zY := (yJ9_max_7cf53, cJ9_max_7cf53, 2, (some .int))
theorem kJ9_max_7cf53 : zCalS mJ9_max_7cf53 2 := ⟨⟨zin 173 (by decide +kernel) rfl, zin 8 (by decide +kernel) rfl, ⟨by decide +kernel, by decide +kernel⟩, by decide +kernel, by decide +kernel⟩, zin 172 (by decide +kernel) rfl⟩
abbrev mJ9_min_7cf53 : zY := (yJ9_min_7cf53, cJ9_min_7cf53, 2, (some .int))
theorem kJ9_min_7cf53 : zCalS mJ9_min_7cf53 2 := ⟨⟨zin 321 (by decide +kernel) rfl, zin 8 (by decide +kernel) rfl, ⟨by decide +kernel, by decide +kernel⟩, by decide +kernel, by decide +kernel⟩, zin 320 (by decide +kernel) rfl⟩
theorem lX7_15 : Cond.methodLink RX7 15 Lib.Math.max.name ∈ zTb := zin 171 (by decide +kernel) rfl
theorem lL_13 : Cond.methodLink RL 13 yX9_row ∈ zTb := zin 304 (by decide +kernel) rfl
theorem lX9_83 : Cond.methodLink RX9 83 yX9_isRow ∈ zTb := zin 308 (by decide +kernel) rfl
theorem lX9_87 : Cond.methodLink RX9 87 yX0_found ∈ zTb := zin 311 (by decide +kernel) rfl
theorem lX9_91 : Cond.methodLink RX9 91 yX7_renew ∈ zTb := zin 315 (by decide +kernel) rfl
theorem lX7_29 : Cond.methodLink RX7 29 Lib.Math.min.name ∈ zTb := zin 319 (by decide +kernel) rfl
theorem lL_18 : Cond.methodLink RL 18 yX9_lay ∈ zTb := zin 322 (by decide +kernel) rfl
theorem lX9_95 : Cond.methodLink RX9 95 yX7_placeFault ∈ zTb := zin 326 (by decide +kernel) rfl
theorem lX7_38 : Cond.methodLink RX7 38 yX7_isMissing ∈ zTb := zin 330 (by decide +kernel) rfl
theorem lX7_25 : Cond.methodLink RX7 25 yX7_has ∈ zTb := zin 334 (by decide +kernel) rfl
theorem lX9_98 : Cond.methodLink RX9 98 yX7_get ∈ zTb := zin 338 (by decide +kernel) rfl
theorem lX9_101 : Cond.methodLink RX9 101 yX7_set ∈ zTb := zin 342 (by decide +kernel) rfl
theorem lX9_104 : Cond.methodLink RX9 104 yX0_ask ∈ zTb := zin 346 (by decide +kernel) rfl
theorem lL_23 : Cond.methodLink RL 23 yX9_at ∈ zTb := zin 350 (by decide +kernel) rfl
theorem lL_27 : Cond.methodLink RL 27 yX9_tear ∈ zTb := zin 354 (by decide +kernel) rfl
theorem lX9_107 : Cond.methodLink RX9 107 yX7_isMissing ∈ zTb := zin 358 (by decide +kernel) rfl
theorem lX9_111 : Cond.methodLink RX9 111 yX7_remove ∈ zTb := zin 359 (by decide +kernel) rfl
theorem lL_32 : Cond.methodLink RL 32 yX9_copy ∈ zTb := zin 363 (by decide +kernel) rfl
theorem lX9_114 : Cond.methodLink RX9 114 yX7_hasRange ∈ zTb := zin 367 (by decide +kernel) rfl
theorem lX9_122 : Cond.methodLink RX9 122 arraycopyName ∈ zTb := zin 371 (by decide +kernel) rfl
theorem lL_37 : Cond.methodLink RL 37 yX9_mean ∈ zTb := zin 374 (by decide +kernel) rfl
theorem lX9_132 : Cond.methodLink RX9 132 yX7_total ∈ zTb := zin 378 (by decide +kernel) rfl
theorem lL_41 : Cond.methodLink RL 41 yX9_text ∈ zTb := zin 382 (by decide +kernel) rfl
theorem lX9_136 : Cond.methodLink RX9 136 yX9_isText ∈ zTb := zin 386 (by decide +kernel) rfl
theorem lL_45 : Cond.methodLink RL 45 yX9_put ∈ zTb := zin 389 (by decide +kernel) rfl
theorem lL_49 : Cond.methodLink RL 49 yX9_fault ∈ zTb := zin 393 (by decide +kernel) rfl
theorem lX9_139 : Cond.methodLink RX9 139 yX7_boxFault ∈ zTb := zin 397 (by decide +kernel) rfl
theorem lL_53 : Cond.methodLink RL 53 yX9_box ∈ zTb := zin 401 (by decide +kernel) rfl
theorem lX9_143 : Cond.methodLink RX9 143 yX9_isLand ∈ zTb := zin 405 (by decide +kernel) rfl
theorem lX9_146 : Cond.methodLink RX9 146 yX1_read ∈ zTb := zin 408 (by decide +kernel) rfl
theorem lX1_24 : Cond.methodLink RX1 24 yX7_get ∈ zTb := zin 412 (by decide +kernel) rfl
theorem lL_57 : Cond.methodLink RL 57 yX9_usual ∈ zTb := zin 413 (by decide +kernel) rfl
theorem lX9_159 : Cond.methodLink RX9 159 yX9_isEverWord ∈ zTb := zin 417 (by decide +kernel) rfl
theorem lX9_162 : Cond.methodLink RX9 162 yX9_boxCounts ∈ zTb := zin 420 (by decide +kernel) rfl
theorem lX9_165 : Cond.methodLink RX9 165 yX9_isWord ∈ zTb := zin 424 (by decide +kernel) rfl
theorem lX9_168 : Cond.methodLink RX9 168 yX1_usualOf ∈ zTb := zin 428 (by decide +kernel) rfl
theorem lL_61 : Cond.methodLink RL 61 yX9_player ∈ zTb := zin 432 (by decide +kernel) rfl
theorem lX9_172 : Cond.methodLink RX9 172 yX9_seatPlayer ∈ zTb := zin 436 (by decide +kernel) rfl
theorem lX9_176 : Cond.methodLink RX9 176 yX9_isPlayer ∈ zTb := zin 440 (by decide +kernel) rfl
theorem lX9_408 : Cond.methodLink RX9 408 yX4_become ∈ zTb := zin 444 (by decide +kernel) rfl
theorem lX9_185 : Cond.methodLink RX9 185 yX2_drawBy ∈ zTb := zin 448 (by decide +kernel) rfl
theorem lX2_30 : Cond.methodLink RX2 30 yX4_drawsAtMost ∈ zTb := zin 452 (by decide +kernel) rfl
theorem lX4_36 : Cond.methodLink RX4 36 yX4_is ∈ zTb := zin 456 (by decide +kernel) rfl
theorem lX4_40 : Cond.methodLink RX4 40 Lib.Math.max.name ∈ zTb := zin 460 (by decide +kernel) rfl
theorem lX2_40 : Cond.methodLink RX2 40 yX2_mostUsual ∈ zTb := zin 461 (by decide +kernel) rfl
theorem lX2_44 : Cond.methodLink RX2 44 yX1_usualOf ∈ zTb := zin 464 (by decide +kernel) rfl
theorem lX2_26 : Cond.methodLink RX2 26 yX2_add ∈ zTb := zin 465 (by decide +kernel) rfl
theorem lX9_415 : Cond.methodLink RX9 415 yX2_set ∈ zTb := zin 469 (by decide +kernel) rfl
theorem lL_66 : Cond.methodLink RL 66 yX9_about ∈ zTb := zin 473 (by decide +kernel) rfl
theorem lX9_179 : Cond.methodLink RX9 179 yX4_tells ∈ zTb := zin 477 (by decide +kernel) rfl
theorem lL_70 : Cond.methodLink RL 70 yX9_mark ∈ zTb := zin 481 (by decide +kernel) rfl
theorem lX9_182 : Cond.methodLink RX9 182 yX4_is ∈ zTb := zin 485 (by decide +kernel) rfl
theorem lX9_190 : Cond.methodLink RX9 190 yX9_guessFirstPart ∈ zTb := zin 486 (by decide +kernel) rfl
theorem lX9_417 : Cond.methodLink RX9 417 yX2_takeSet ∈ zTb := zin 490 (by decide +kernel) rfl
theorem lX9_225 : Cond.methodLink RX9 225 yX6_reckon ∈ zTb := zin 494 (by decide +kernel) rfl
theorem lX6_31 : Cond.methodLink RX6 31 yX6_sumOf ∈ zTb := zin 498 (by decide +kernel) rfl
theorem lX6_53 : Cond.methodLink RX6 53 Lib.Math.min.name ∈ zTb := zin 502 (by decide +kernel) rfl
theorem lX6_62 : Cond.methodLink RX6 62 yX1_usualOf ∈ zTb := zin 503 (by decide +kernel) rfl
theorem lX6_68 : Cond.methodLink RX6 68 yX2_set ∈ zTb := zin 504 (by decide +kernel) rfl
theorem lX6_72 : Cond.methodLink RX6 72 yJ6_bitCount_0f7a4 ∈ zTb := zin 505 (by decide +kernel) rfl
theorem qJ6_265 : Cond.constant RJ6 265 (1431655765) ∈ zTb := zin 508 (by decide +kernel) rfl
theorem qJ6_266 : Cond.constant RJ6 266 (858993459) ∈ zTb := zin 509 (by decide +kernel) rfl
theorem qJ6_267 : Cond.constant RJ6 267 (252645135) ∈ zTb := zin 510 (by decide +kernel) rfl
theorem lX6_41 : Cond.methodLink RX6 41 yX6_share ∈ zTb := zin 511 (by decide +kernel) rfl
theorem lX9_197 : Cond.methodLink RX9 197 yX6_get ∈ zTb := zin 515 (by decide +kernel) rfl
theorem lX9_204 : Cond.methodLink RX9 204 yX9_handsRead ∈ zTb := zin 519 (by decide +kernel) rfl
theorem lL_74 : Cond.methodLink RL 74 yX9_draws ∈ zTb := zin 523 (by decide +kernel) rfl
theorem lX9_209 : Cond.methodLink RX9 209 yX7_take ∈ zTb := zin 527 (by decide +kernel) rfl
theorem lX7_32 : Cond.methodLink RX7 32 arraycopyName ∈ zTb := zin 531 (by decide +kernel) rfl
theorem lL_78 : Cond.methodLink RL 78 yX9_guess ∈ zTb := zin 532 (by decide +kernel) rfl
theorem lX9_213 : Cond.methodLink RX9 213 yX9_isDrawer ∈ zTb := zin 536 (by decide +kernel) rfl
theorem lX9_216 : Cond.methodLink RX9 216 yX7_drawnFault ∈ zTb := zin 540 (by decide +kernel) rfl
theorem lX7_42 : Cond.methodLink RX7 42 yX7_isUnlikeBelow ∈ zTb := zin 544 (by decide +kernel) rfl
theorem lX9_219 : Cond.methodLink RX9 219 yX2_take ∈ zTb := zin 548 (by decide +kernel) rfl
theorem lX2_22 : Cond.methodLink RX2 22 yX7_get ∈ zTb := zin 552 (by decide +kernel) rfl
theorem lX9_221 : Cond.methodLink RX9 221 yX9_drawer ∈ zTb := zin 553 (by decide +kernel) rfl
theorem lL_82 : Cond.methodLink RL 82 yX9_step ∈ zTb := zin 557 (by decide +kernel) rfl
theorem lL_86 : Cond.methodLink RL 86 yX9_comes ∈ zTb := zin 561 (by decide +kernel) rfl
theorem lX9_233 : Cond.methodLink RX9 233 yX9_tableFault ∈ zTb := zin 565 (by decide +kernel) rfl
theorem lX9_405 : Cond.methodLink RX9 405 yX7_isUnlikeBelow ∈ zTb := zin 569 (by decide +kernel) rfl
theorem lX9_236 : Cond.methodLink RX9 236 yX9_seatTable ∈ zTb := zin 570 (by decide +kernel) rfl
theorem lX9_420 : Cond.methodLink RX9 420 yX5_seat ∈ zTb := zin 574 (by decide +kernel) rfl
theorem lX5_28 : Cond.methodLink RX5 28 Lib.Math.min.name ∈ zTb := zin 578 (by decide +kernel) rfl
theorem lX5_44 : Cond.methodLink RX5 44 yX7_get ∈ zTb := zin 579 (by decide +kernel) rfl
theorem lX9_427 : Cond.methodLink RX9 427 yX9_learnStep ∈ zTb := zin 580 (by decide +kernel) rfl
theorem lX9_430 : Cond.methodLink RX9 430 yX5_learn ∈ zTb := zin 584 (by decide +kernel) rfl
theorem lX5_48 : Cond.methodLink RX5 48 yX6_get ∈ zTb := zin 588 (by decide +kernel) rfl
theorem lX9_239 : Cond.methodLink RX9 239 yX5_reach ∈ zTb := zin 589 (by decide +kernel) rfl
theorem lX5_60 : Cond.methodLink RX5 60 yX5_begin ∈ zTb := zin 593 (by decide +kernel) rfl
theorem lX5_53 : Cond.methodLink RX5 53 yX5_stepBase ∈ zTb := zin 597 (by decide +kernel) rfl
theorem lX5_56 : Cond.methodLink RX5 56 yX5_pass ∈ zTb := zin 601 (by decide +kernel) rfl
theorem lX9_243 : Cond.methodLink RX9 243 yX5_whole ∈ zTb := zin 605 (by decide +kernel) rfl
theorem qX5_51 : Cond.constantLong RX5 51 (24) ∈ zTb := zin 609 (by decide +kernel) rfl
theorem lX9_246 : Cond.methodLink RX9 246 yX0_tell ∈ zTb := zin 610 (by decide +kernel) rfl
theorem lL_90 : Cond.methodLink RL 90 yX9_most ∈ zTb := zin 614 (by decide +kernel) rfl
theorem lX9_250 : Cond.methodLink RX9 250 yX5_beginWithAll ∈ zTb := zin 618 (by decide +kernel) rfl
theorem lX9_253 : Cond.methodLink RX9 253 yX5_passFrom ∈ zTb := zin 622 (by decide +kernel) rfl
theorem lL_94 : Cond.methodLink RL 94 yX9_keeps ∈ zTb := zin 626 (by decide +kernel) rfl
theorem lL_98 : Cond.methodLink RL 98 yX9_was ∈ zTb := zin 630 (by decide +kernel) rfl
theorem lL_102 : Cond.methodLink RL 102 yX9_off ∈ zTb := zin 634 (by decide +kernel) rfl
theorem lX9_261 : Cond.methodLink RX9 261 yX5_reachOffAt ∈ zTb := zin 638 (by decide +kernel) rfl
theorem lL_106 : Cond.methodLink RL 106 yX9_kept ∈ zTb := zin 642 (by decide +kernel) rfl
theorem lX9_264 : Cond.methodLink RX9 264 yX9_padsFault ∈ zTb := zin 646 (by decide +kernel) rfl
theorem qX9_267 : Cond.constantLong RX9 267 (-1) ∈ zTb := zin 650 (by decide +kernel) rfl
theorem lL_110 : Cond.methodLink RL 110 yX9_seats ∈ zTb := zin 651 (by decide +kernel) rfl
theorem lX9_270 : Cond.methodLink RX9 270 yX9_learnAllSteps ∈ zTb := zin 655 (by decide +kernel) rfl
theorem lX9_273 : Cond.methodLink RX9 273 yX5_seatBest ∈ zTb := zin 659 (by decide +kernel) rfl
theorem lX5_67 : Cond.methodLink RX5 67 yX5_sortOthers ∈ zTb := zin 663 (by decide +kernel) rfl
theorem lX5_90 : Cond.methodLinkNest RX5 90 yX9_swap "PadRound" ∈ zTb := zin 667 (by decide +kernel) rfl
theorem qX5_70 : Cond.constantLong RX5 70 (-1) ∈ zTb := zin 670 (by decide +kernel) rfl
theorem lX5_76 : Cond.methodLink RX5 76 yX5_keptBy ∈ zTb := zin 671 (by decide +kernel) rfl
theorem lX5_63 : Cond.methodLink RX5 63 yX5_reach ∈ zTb := zin 675 (by decide +kernel) rfl
theorem lX5_80 : Cond.methodLink RX5 80 arraycopyName ∈ zTb := zin 676 (by decide +kernel) rfl
theorem lX5_86 : Cond.methodLinkNest RX5 86 yX9_nextOrder "PadRound" ∈ zTb := zin 677 (by decide +kernel) rfl
theorem lX9_450 : Cond.methodLink RX9 450 yX9_swap ∈ zTb := zin 680 (by decide +kernel) rfl
theorem lL_114 : Cond.methodLink RL 114 yX9_parts ∈ zTb := zin 681 (by decide +kernel) rfl
theorem lX9_284 : Cond.methodLink RX9 284 yJ6_bitCount_0f7a4 ∈ zTb := zin 685 (by decide +kernel) rfl
theorem lX9_289 : Cond.methodLink RX9 289 yX9_shareBySet ∈ zTb := zin 686 (by decide +kernel) rfl
theorem lL_118 : Cond.methodLink RL 118 yX9_few ∈ zTb := zin 690 (by decide +kernel) rfl
theorem lL_122 : Cond.methodLink RL 122 yX9_soon ∈ zTb := zin 694 (by decide +kernel) rfl
theorem lX9_293 : Cond.methodLink RX9 293 yX7_partSet ∈ zTb := zin 698 (by decide +kernel) rfl
theorem lX9_299 : Cond.methodLink RX9 299 yX8_begin ∈ zTb := zin 702 (by decide +kernel) rfl
theorem lX9_304 : Cond.methodLink RX9 304 yX8_partsAt ∈ zTb := zin 706 (by decide +kernel) rfl
theorem lX8_33 : Cond.methodLink RX8 33 yX2_takeSet ∈ zTb := zin 710 (by decide +kernel) rfl
theorem lX9_308 : Cond.methodLink RX9 308 yX8_learn ∈ zTb := zin 711 (by decide +kernel) rfl
theorem lX9_311 : Cond.methodLink RX9 311 yX8_soonest ∈ zTb := zin 715 (by decide +kernel) rfl
theorem lX8_39 : Cond.methodLink RX8 39 yX8_knownFrom ∈ zTb := zin 719 (by decide +kernel) rfl
theorem lX8_43 : Cond.methodLink RX8 43 yX8_keepOrder ∈ zTb := zin 723 (by decide +kernel) rfl
theorem lX8_46 : Cond.methodLinkNest RX8 46 yX9_nextOrder "PadRound" ∈ zTb := zin 727 (by decide +kernel) rfl
theorem lL_126 : Cond.methodLink RL 126 yX9_common ∈ zTb := zin 728 (by decide +kernel) rfl
theorem lX9_315 : Cond.methodLink RX9 315 yX1_usualSet ∈ zTb := zin 732 (by decide +kernel) rfl
theorem lX1_28 : Cond.methodLink RX1 28 yX1_usualOf ∈ zTb := zin 736 (by decide +kernel) rfl
theorem lL_130 : Cond.methodLink RL 130 yX9_land ∈ zTb := zin 737 (by decide +kernel) rfl
theorem lX9_318 : Cond.methodLink RX9 318 yX1_usualInAll ∈ zTb := zin 741 (by decide +kernel) rfl
theorem lL_134 : Cond.methodLink RL 134 yX9_leaf ∈ zTb := zin 745 (by decide +kernel) rfl
theorem lX9_322 : Cond.methodLink RX9 322 yX9_addLeaf ∈ zTb := zin 749 (by decide +kernel) rfl
theorem lX9_433 : Cond.methodLink RX9 433 yX3_write ∈ zTb := zin 753 (by decide +kernel) rfl
theorem lX3_27 : Cond.methodLink RX3 27 yX2_take ∈ zTb := zin 757 (by decide +kernel) rfl
theorem lX3_31 : Cond.methodLink RX3 31 yX2_set ∈ zTb := zin 758 (by decide +kernel) rfl
theorem lL_138 : Cond.methodLink RL 138 yX9_guessed ∈ zTb := zin 759 (by decide +kernel) rfl
theorem lL_142 : Cond.methodLink RL 142 yX9_told ∈ zTb := zin 763 (by decide +kernel) rfl
theorem lX9_326 : Cond.methodLink RX9 326 yX3_tells ∈ zTb := zin 767 (by decide +kernel) rfl
theorem lL_146 : Cond.methodLink RL 146 yX9_back ∈ zTb := zin 771 (by decide +kernel) rfl
theorem lL_150 : Cond.methodLink RL 150 yX9_hand ∈ zTb := zin 775 (by decide +kernel) rfl
theorem lX9_327 : Cond.methodLink RX9 327 yX9_leavesOf ∈ zTb := zin 779 (by decide +kernel) rfl
theorem lX9_437 : Cond.methodLink RX9 437 yX3_isOf ∈ zTb := zin 783 (by decide +kernel) rfl
theorem lX9_331 : Cond.methodLink RX9 331 yX9_handOff ∈ zTb := zin 787 (by decide +kernel) rfl
theorem lX9_441 : Cond.methodLink RX9 441 yX4_becomeLike ∈ zTb := zin 791 (by decide +kernel) rfl
theorem lX4_32 : Cond.methodLink RX4 32 yX4_become ∈ zTb := zin 795 (by decide +kernel) rfl
theorem lX9_341 : Cond.methodLink RX9 341 yX3_unlike ∈ zTb := zin 796 (by decide +kernel) rfl
theorem lX3_40 : Cond.methodLink RX3 40 yJ6_bitCount_0f7a4 ∈ zTb := zin 800 (by decide +kernel) rfl
theorem lL_154 : Cond.methodLink RL 154 yX9_guesser ∈ zTb := zin 801 (by decide +kernel) rfl
theorem lX9_334 : Cond.methodLink RX9 334 yX9_likelihood ∈ zTb := zin 805 (by decide +kernel) rfl
theorem lL_158 : Cond.methodLink RL 158 yX9_machine ∈ zTb := zin 809 (by decide +kernel) rfl
theorem lX9_338 : Cond.methodLink RX9 338 yX9_nearestLeaf ∈ zTb := zin 813 (by decide +kernel) rfl
theorem lL_162 : Cond.methodLink RL 162 yX9_held ∈ zTb := zin 817 (by decide +kernel) rfl
theorem lX9_347 : Cond.methodLink RX9 347 yX9_guessLeaves ∈ zTb := zin 821 (by decide +kernel) rfl
theorem lL_167 : Cond.methodLink RL 167 yX9_sign ∈ zTb := zin 825 (by decide +kernel) rfl
theorem lX9_356 : Cond.methodLink RX9 356 yX9_shortenSign ∈ zTb := zin 829 (by decide +kernel) rfl
theorem lL_171 : Cond.methodLink RL 171 yX9_stranger ∈ zTb := zin 833 (by decide +kernel) rfl
theorem lL_175 : Cond.methodLink RL 175 yX9_image ∈ zTb := zin 837 (by decide +kernel) rfl
theorem lX9_360 : Cond.methodLink RX9 360 yX4_asNumber ∈ zTb := zin 841 (by decide +kernel) rfl
theorem lL_179 : Cond.methodLink RL 179 yX9_on ∈ zTb := zin 845 (by decide +kernel) rfl
theorem lX9_363 : Cond.methodLink RX9 363 yX9_imageFault ∈ zTb := zin 849 (by decide +kernel) rfl
theorem lX9_366 : Cond.methodLink RX9 366 Lib.Math.min.name ∈ zTb := zin 853 (by decide +kernel) rfl
theorem lL_183 : Cond.methodLink RL 183 yX9_asked ∈ zTb := zin 854 (by decide +kernel) rfl
theorem lL_187 : Cond.methodLink RL 187 yX9_upper ∈ zTb := zin 858 (by decide +kernel) rfl
theorem lL_192 : Cond.methodLink RL 192 yX9_lower ∈ zTb := zin 862 (by decide +kernel) rfl
theorem lL_196 : Cond.methodLink RL 196 yX9_count ∈ zTb := zin 866 (by decide +kernel) rfl
theorem lX9_380 : Cond.methodLink RX9 380 yX9_sloppyPlayers ∈ zTb := zin 870 (by decide +kernel) rfl
theorem lX9_383 : Cond.methodLink RX9 383 yX9_sheetsThere ∈ zTb := zin 874 (by decide +kernel) rfl
theorem lL_200 : Cond.methodLink RL 200 yX9_finding ∈ zTb := zin 877 (by decide +kernel) rfl
theorem lL_204 : Cond.methodLink RL 204 yX9_findings ∈ zTb := zin 881 (by decide +kernel) rfl
theorem lL_208 : Cond.methodLink RL 208 yX9_digest ∈ zTb := zin 885 (by decide +kernel) rfl
theorem qX9_393 : Cond.constantLong RX9 393 (17) ∈ zTb := zin 889 (by decide +kernel) rfl
theorem qX9_395 : Cond.constantLong RX9 395 (31) ∈ zTb := zin 890 (by decide +kernel) rfl
theorem lX9_397 : Cond.methodLink RX9 397 yX9_count ∈ zTb := zin 891 (by decide +kernel) rfl
theorem lX9_400 : Cond.methodLink RX9 400 yX1_digestOn ∈ zTb := zin 892 (by decide +kernel) rfl
theorem qX1_38 : Cond.constantLong RX1 38 (31) ∈ zTb := zin 896 (by decide +kernel) rfl
theorem lX9_404 : Cond.methodLink RX9 404 yX7_digestOn ∈ zTb := zin 897 (by decide +kernel) rfl
theorem qX7_45 : Cond.constantLong RX7 45 (31) ∈ zTb := zin 901 (by decide +kernel) rfl
theorem lL_17 : Cond.methodLink RL 17 yX10_row ∈ zTb := zin 1026 (by decide +kernel) rfl
theorem lX10_95 : Cond.methodLink RX10 95 yX10_isRow ∈ zTb := zin 1030 (by decide +kernel) rfl
theorem lX10_91 : Cond.methodLink RX10 91 yX10_in ∈ zTb := zin 1033 (by decide +kernel) rfl
theorem lX10_99 : Cond.methodLink RX10 99 yX10_meets ∈ zTb := zin 1036 (by decide +kernel) rfl
theorem lX10_106 : Cond.methodLink RX10 106 yX10_setRow ∈ zTb := zin 1040 (by decide +kernel) rfl
theorem lL_26 : Cond.methodLink RL 26 yX10_at ∈ zTb := zin 1044 (by decide +kernel) rfl
theorem lX10_110 : Cond.methodLink RX10 110 yX10_askedRow ∈ zTb := zin 1048 (by decide +kernel) rfl
theorem lX10_113 : Cond.methodLink RX10 113 yX10_rowAt ∈ zTb := zin 1052 (by decide +kernel) rfl
theorem lX10_117 : Cond.methodLink RX10 117 yX10_ask ∈ zTb := zin 1056 (by decide +kernel) rfl
theorem lL_22 : Cond.methodLink RL 22 yX10_lay ∈ zTb := zin 1060 (by decide +kernel) rfl
theorem lX10_120 : Cond.methodLink RX10 120 yX10_at ∈ zTb := zin 1064 (by decide +kernel) rfl
theorem lL_31 : Cond.methodLink RL 31 yX10_tear ∈ zTb := zin 1065 (by decide +kernel) rfl
theorem lL_36 : Cond.methodLink RL 36 yX10_copy ∈ zTb := zin 1069 (by decide +kernel) rfl
theorem lL_40 : Cond.methodLink RL 40 yX10_mean ∈ zTb := zin 1073 (by decide +kernel) rfl
theorem lL_44 : Cond.methodLink RL 44 yX10_text ∈ zTb := zin 1077 (by decide +kernel) rfl
theorem lX10_103 : Cond.methodLink RX10 103 yX10_isText ∈ zTb := zin 1081 (by decide +kernel) rfl
theorem lL_48 : Cond.methodLink RL 48 yX10_put ∈ zTb := zin 1084 (by decide +kernel) rfl
theorem lX10_123 : Cond.methodLink RX10 123 yX10_askedText ∈ zTb := zin 1088 (by decide +kernel) rfl
theorem lL_52 : Cond.methodLink RL 52 yX10_fault ∈ zTb := zin 1092 (by decide +kernel) rfl
theorem lX10_135 : Cond.methodLink RX10 135 yX10_goesOn ∈ zTb := zin 1096 (by decide +kernel) rfl
theorem lX10_129 : Cond.methodLink RX10 129 yX10_here ∈ zTb := zin 1100 (by decide +kernel) rfl
theorem lX10_132 : Cond.methodLink RX10 132 yX10_readsWord ∈ zTb := zin 1104 (by decide +kernel) rfl
theorem lL_56 : Cond.methodLink RL 56 yX10_box ∈ zTb := zin 1108 (by decide +kernel) rfl
theorem lL_60 : Cond.methodLink RL 60 yX10_usual ∈ zTb := zin 1112 (by decide +kernel) rfl
theorem lX10_148 : Cond.methodLink RX10 148 yX10_isLand ∈ zTb := zin 1116 (by decide +kernel) rfl
theorem lX10_151 : Cond.methodLink RX10 151 yX10_isWord ∈ zTb := zin 1120 (by decide +kernel) rfl
theorem lX10_144 : Cond.methodLink RX10 144 yX10_words ∈ zTb := zin 1124 (by decide +kernel) rfl
theorem lX10_154 : Cond.methodLink RX10 154 yX10_use ∈ zTb := zin 1128 (by decide +kernel) rfl
theorem lL_65 : Cond.methodLink RL 65 yX10_player ∈ zTb := zin 1132 (by decide +kernel) rfl
theorem lX10_158 : Cond.methodLink RX10 158 yX10_setPlayer ∈ zTb := zin 1136 (by decide +kernel) rfl
theorem lL_69 : Cond.methodLink RL 69 yX10_about ∈ zTb := zin 1140 (by decide +kernel) rfl
theorem lX10_162 : Cond.methodLink RX10 162 yX10_isPlayer ∈ zTb := zin 1144 (by decide +kernel) rfl
theorem lX10_165 : Cond.methodLink RX10 165 yX10_tell ∈ zTb := zin 1148 (by decide +kernel) rfl
theorem lL_73 : Cond.methodLink RL 73 yX10_mark ∈ zTb := zin 1152 (by decide +kernel) rfl
theorem lX10_168 : Cond.methodLink RX10 168 yX10_isSloppy ∈ zTb := zin 1156 (by decide +kernel) rfl
theorem lX10_174 : Cond.methodLink RX10 174 yX10_setDrawing ∈ zTb := zin 1160 (by decide +kernel) rfl
theorem lX10_190 : Cond.methodLink RX10 190 yX10_see ∈ zTb := zin 1164 (by decide +kernel) rfl
theorem lX10_187 : Cond.methodLink RX10 187 yX10_seeDrawing ∈ zTb := zin 1168 (by decide +kernel) rfl
theorem lX10_193 : Cond.methodLink RX10 193 yX10_setShares ∈ zTb := zin 1172 (by decide +kernel) rfl
theorem lX10_184 : Cond.methodLink RX10 184 yX10_sumOf ∈ zTb := zin 1176 (by decide +kernel) rfl
theorem lX10_181 : Cond.methodLink RX10 181 yX10_drawingSet ∈ zTb := zin 1180 (by decide +kernel) rfl
theorem lX10_196 : Cond.methodLink RX10 196 yX10_seeSet ∈ zTb := zin 1184 (by decide +kernel) rfl
theorem lX10_200 : Cond.methodLink RX10 200 yX10_greatest ∈ zTb := zin 1188 (by decide +kernel) rfl
theorem lL_77 : Cond.methodLink RL 77 yX10_draws ∈ zTb := zin 1192 (by decide +kernel) rfl
theorem lX10_203 : Cond.methodLink RX10 203 yX10_rowOf ∈ zTb := zin 1196 (by decide +kernel) rfl
theorem lX10_206 : Cond.methodLink RX10 206 yX10_row ∈ zTb := zin 1200 (by decide +kernel) rfl
theorem lL_81 : Cond.methodLink RL 81 yX10_guess ∈ zTb := zin 1201 (by decide +kernel) rfl
theorem lX10_209 : Cond.methodLink RX10 209 yX10_isBy ∈ zTb := zin 1205 (by decide +kernel) rfl
theorem lX10_212 : Cond.methodLink RX10 212 yX10_askedDrawn ∈ zTb := zin 1209 (by decide +kernel) rfl
theorem lX10_215 : Cond.methodLink RX10 215 yX10_seeRow ∈ zTb := zin 1213 (by decide +kernel) rfl
theorem lX10_218 : Cond.methodLink RX10 218 yX10_sharesRow ∈ zTb := zin 1217 (by decide +kernel) rfl
theorem lL_85 : Cond.methodLink RL 85 yX10_step ∈ zTb := zin 1221 (by decide +kernel) rfl
theorem lX10_221 : Cond.methodLink RX10 221 yX10_setStep ∈ zTb := zin 1225 (by decide +kernel) rfl
theorem lL_89 : Cond.methodLink RL 89 yX10_comes ∈ zTb := zin 1229 (by decide +kernel) rfl
theorem lX10_238 : Cond.methodLink RX10 238 yX10_askedTable ∈ zTb := zin 1233 (by decide +kernel) rfl
theorem lX10_224 : Cond.methodLink RX10 224 yX10_askedSeats ∈ zTb := zin 1237 (by decide +kernel) rfl
theorem lX10_241 : Cond.methodLink RX10 241 yX10_setOdds ∈ zTb := zin 1241 (by decide +kernel) rfl
theorem lX10_232 : Cond.methodLink RX10 232 yX10_steps ∈ zTb := zin 1245 (by decide +kernel) rfl
theorem lX10_235 : Cond.methodLink RX10 235 yX10_goOn ∈ zTb := zin 1249 (by decide +kernel) rfl
theorem lX10_244 : Cond.methodLink RX10 244 yX10_whole ∈ zTb := zin 1253 (by decide +kernel) rfl
theorem qX10_230 : Cond.constantLong RX10 230 (24) ∈ zTb := zin 1256 (by decide +kernel) rfl
theorem lX10_248 : Cond.methodLink RX10 248 yX10_part ∈ zTb := zin 1257 (by decide +kernel) rfl
theorem lL_93 : Cond.methodLink RL 93 yX10_most ∈ zTb := zin 1261 (by decide +kernel) rfl
theorem lX10_252 : Cond.methodLink RX10 252 yX10_askedRound ∈ zTb := zin 1265 (by decide +kernel) rfl
theorem lL_97 : Cond.methodLink RL 97 yX10_keeps ∈ zTb := zin 1269 (by decide +kernel) rfl
theorem qX10_257 : Cond.constantLong RX10 257 (9223372036854775807) ∈ zTb := zin 1273 (by decide +kernel) rfl
theorem lL_101 : Cond.methodLink RL 101 yX10_was ∈ zTb := zin 1274 (by decide +kernel) rfl
theorem lL_105 : Cond.methodLink RL 105 yX10_off ∈ zTb := zin 1278 (by decide +kernel) rfl
theorem lL_109 : Cond.methodLink RL 109 yX10_kept ∈ zTb := zin 1282 (by decide +kernel) rfl
theorem lX10_264 : Cond.methodLink RX10 264 yX10_askedPads ∈ zTb := zin 1286 (by decide +kernel) rfl
theorem lX10_267 : Cond.methodLink RX10 267 yX10_keptOf ∈ zTb := zin 1290 (by decide +kernel) rfl
theorem qX10_259 : Cond.constantLong RX10 259 (-1) ∈ zTb := zin 1294 (by decide +kernel) rfl
theorem lL_113 : Cond.methodLink RL 113 yX10_seats ∈ zTb := zin 1295 (by decide +kernel) rfl
theorem lX10_276 : Cond.methodLink RX10 276 yX10_sit ∈ zTb := zin 1299 (by decide +kernel) rfl
theorem lL_117 : Cond.methodLink RL 117 yX10_parts ∈ zTb := zin 1303 (by decide +kernel) rfl
theorem lX10_285 : Cond.methodLink RX10 285 yX10_setFor ∈ zTb := zin 1307 (by decide +kernel) rfl
theorem lX10_282 : Cond.methodLink RX10 282 yX10_sizeOf ∈ zTb := zin 1311 (by decide +kernel) rfl
theorem lL_121 : Cond.methodLink RL 121 yX10_few ∈ zTb := zin 1314 (by decide +kernel) rfl
theorem lL_125 : Cond.methodLink RL 125 yX10_soon ∈ zTb := zin 1318 (by decide +kernel) rfl
theorem lX10_297 : Cond.methodLink RX10 297 yX10_rowSet ∈ zTb := zin 1322 (by decide +kernel) rfl
theorem lX10_294 : Cond.methodLink RX10 294 yX10_watch ∈ zTb := zin 1326 (by decide +kernel) rfl
theorem lX10_288 : Cond.methodLink RX10 288 yX10_knownFrom ∈ zTb := zin 1330 (by decide +kernel) rfl
theorem lL_129 : Cond.methodLink RL 129 yX10_common ∈ zTb := zin 1334 (by decide +kernel) rfl
theorem lL_133 : Cond.methodLink RL 133 yX10_land ∈ zTb := zin 1338 (by decide +kernel) rfl
theorem lL_137 : Cond.methodLink RL 137 yX10_leaf ∈ zTb := zin 1342 (by decide +kernel) rfl
theorem lX10_300 : Cond.methodLink RX10 300 yX10_newLeaf ∈ zTb := zin 1346 (by decide +kernel) rfl
theorem lL_141 : Cond.methodLink RL 141 yX10_guessed ∈ zTb := zin 1350 (by decide +kernel) rfl
theorem lL_145 : Cond.methodLink RL 145 yX10_told ∈ zTb := zin 1354 (by decide +kernel) rfl
theorem lX10_304 : Cond.methodLink RX10 304 yX10_leafTells ∈ zTb := zin 1358 (by decide +kernel) rfl
theorem lL_149 : Cond.methodLink RL 149 yX10_back ∈ zTb := zin 1362 (by decide +kernel) rfl
theorem lL_153 : Cond.methodLink RL 153 yX10_hand ∈ zTb := zin 1366 (by decide +kernel) rfl
theorem lX10_310 : Cond.methodLink RX10 310 yX10_leavesOf ∈ zTb := zin 1370 (by decide +kernel) rfl
theorem lX10_307 : Cond.methodLink RX10 307 yX10_isLeafOf ∈ zTb := zin 1374 (by decide +kernel) rfl
theorem lX10_313 : Cond.methodLink RX10 313 yX10_tryAs ∈ zTb := zin 1378 (by decide +kernel) rfl
theorem lL_157 : Cond.methodLink RL 157 yX10_guesser ∈ zTb := zin 1382 (by decide +kernel) rfl
theorem lX10_316 : Cond.methodLink RX10 316 yX10_shareByLeaf ∈ zTb := zin 1386 (by decide +kernel) rfl
theorem lL_161 : Cond.methodLink RL 161 yX10_machine ∈ zTb := zin 1390 (by decide +kernel) rfl
theorem lX10_322 : Cond.methodLink RX10 322 yX10_takes ∈ zTb := zin 1394 (by decide +kernel) rfl
theorem lL_166 : Cond.methodLink RL 166 yX10_held ∈ zTb := zin 1398 (by decide +kernel) rfl
theorem lL_170 : Cond.methodLink RL 170 yX10_sign ∈ zTb := zin 1402 (by decide +kernel) rfl
theorem lX10_325 : Cond.methodLink RX10 325 yX10_setSign ∈ zTb := zin 1406 (by decide +kernel) rfl
theorem lL_174 : Cond.methodLink RL 174 yX10_stranger ∈ zTb := zin 1410 (by decide +kernel) rfl
theorem lL_178 : Cond.methodLink RL 178 yX10_image ∈ zTb := zin 1414 (by decide +kernel) rfl
theorem lL_182 : Cond.methodLink RL 182 yX10_on ∈ zTb := zin 1418 (by decide +kernel) rfl
theorem lX10_329 : Cond.methodLink RX10 329 yX10_isPlayerBy ∈ zTb := zin 1422 (by decide +kernel) rfl
theorem lL_186 : Cond.methodLink RL 186 yX10_asked ∈ zTb := zin 1426 (by decide +kernel) rfl
theorem lL_191 : Cond.methodLink RL 191 yX10_upper ∈ zTb := zin 1430 (by decide +kernel) rfl
theorem lL_195 : Cond.methodLink RL 195 yX10_lower ∈ zTb := zin 1434 (by decide +kernel) rfl
theorem lL_199 : Cond.methodLink RL 199 yX10_count ∈ zTb := zin 1438 (by decide +kernel) rfl
theorem lX10_332 : Cond.methodLink RX10 332 yX10_counts ∈ zTb := zin 1442 (by decide +kernel) rfl
theorem lL_203 : Cond.methodLink RL 203 yX10_finding ∈ zTb := zin 1446 (by decide +kernel) rfl
theorem lL_207 : Cond.methodLink RL 207 yX10_findings ∈ zTb := zin 1450 (by decide +kernel) rfl
theorem lL_211 : Cond.methodLink RL 211 yX10_digest ∈ zTb := zin 1454 (by decide +kernel) rfl
theorem qX10_343 : Cond.constantLong RX10 343 (17) ∈ zTb := zin 1458 (by decide +kernel) rfl
theorem lX10_340 : Cond.methodLink RX10 340 yX10_mix ∈ zTb := zin 1459 (by decide +kernel) rfl
theorem qX10_335 : Cond.constantLong RX10 335 (31) ∈ zTb := zin 1463 (by decide +kernel) rfl
theorem lX10_345 : Cond.methodLink RX10 345 yX10_mixAll ∈ zTb := zin 1464 (by decide +kernel) rfl
theorem kM_max_s : Cond.static Lib.Math.max.name ∈ zTb := zin 172 (by decide +kernel) rfl
theorem kM_max_c : Cond.code Lib.Math.max.name Lib.Math.max.code 2 (some .int) ∈ zTb := zin 173 (by decide +kernel) rfl
theorem kM_min_s : Cond.static Lib.Math.min.name ∈ zTb := zin 320 (by decide +kernel) rfl
theorem kM_min_c : Cond.code Lib.Math.min.name Lib.Math.min.code 2 (some .int) ∈ zTb := zin 321 (by decide +kernel) rfl
theorem kM_i : Cond.initialized "java/lang/Math" ∈ zTb := zin 8 (by decide +kernel) rfl
theorem kS_i : Cond.initialized "java/lang/System" ∈ zTb := zin 13 (by decide +kernel) rfl
theorem kS_n : Cond.native arraycopyName ∈ zTb := zin 373 (by decide +kernel) rfl
theorem kS_s : Cond.static arraycopyName ∈ zTb := zin 372 (by decide +kernel) rfl
theorem fX0_9 : Cond.fieldLink RX0 9 RX0 (TX0 0).2.1 (TX0 0).2.2.1 ∈ zTb := zin 37 (by decide +kernel) rfl
theorem fX0_15 : Cond.fieldLink RX0 15 RX0 (TX0 4).2.1 (TX0 4).2.2.1 ∈ zTb := zin 45 (by decide +kernel) rfl
theorem fX0_19 : Cond.fieldLink RX0 19 RX0 (TX0 1).2.1 (TX0 1).2.2.1 ∈ zTb := zin 39 (by decide +kernel) rfl
theorem fX0_23 : Cond.fieldLink RX0 23 RX0 (TX0 2).2.1 (TX0 2).2.2.1 ∈ zTb := zin 41 (by decide +kernel) rfl
theorem fX0_26 : Cond.fieldLink RX0 26 RX0 (TX0 3).2.1 (TX0 3).2.2.1 ∈ zTb := zin 43 (by decide +kernel) rfl
theorem fX1_9 : Cond.fieldLink RX1 9 RX1 (TX1 0).2.1 (TX1 0).2.2.1 ∈ zTb := zin 191 (by decide +kernel) rfl
theorem fX1_15 : Cond.fieldLink RX1 15 RX1 (TX1 1).2.1 (TX1 1).2.2.1 ∈ zTb := zin 192 (by decide +kernel) rfl
theorem fX1_19 : Cond.fieldLinkNest RX1 19 RX7 (TX7 1).2.1 (TX7 1).2.2.1 "PadRound" ∈ zTb := zin 178 (by decide +kernel) rfl
theorem fX1_32 : Cond.fieldLinkNest RX1 32 RX2 (TX2 1).2.1 (TX2 1).2.2.1 "PadRound" ∈ zTb := zin 70 (by decide +kernel) rfl
theorem fX1_35 : Cond.fieldLinkNest RX1 35 RX2 (TX2 0).2.1 (TX2 0).2.2.1 "PadRound" ∈ zTb := zin 66 (by decide +kernel) rfl
theorem fX10_7 : Cond.fieldLink RX10 7 RX10 (TX10 1).2.1 (TX10 1).2.2.1 ∈ zTb := zin 909 (by decide +kernel) rfl
theorem fX10_13 : Cond.fieldLink RX10 13 RX10 (TX10 4).2.1 (TX10 4).2.2.1 ∈ zTb := zin 912 (by decide +kernel) rfl
theorem fX10_17 : Cond.fieldLink RX10 17 RX10 (TX10 5).2.1 (TX10 5).2.2.1 ∈ zTb := zin 913 (by decide +kernel) rfl
theorem fX10_20 : Cond.fieldLink RX10 20 RX10 (TX10 6).2.1 (TX10 6).2.2.1 ∈ zTb := zin 914 (by decide +kernel) rfl
theorem fX10_23 : Cond.fieldLink RX10 23 RX10 (TX10 7).2.1 (TX10 7).2.2.1 ∈ zTb := zin 915 (by decide +kernel) rfl
theorem fX10_26 : Cond.fieldLink RX10 26 RX10 (TX10 8).2.1 (TX10 8).2.2.1 ∈ zTb := zin 916 (by decide +kernel) rfl
theorem fX10_29 : Cond.fieldLink RX10 29 RX10 (TX10 9).2.1 (TX10 9).2.2.1 ∈ zTb := zin 917 (by decide +kernel) rfl
theorem fX10_32 : Cond.fieldLink RX10 32 RX10 (TX10 10).2.1 (TX10 10).2.2.1 ∈ zTb := zin 918 (by decide +kernel) rfl
theorem fX10_35 : Cond.fieldLink RX10 35 RX10 (TX10 11).2.1 (TX10 11).2.2.1 ∈ zTb := zin 919 (by decide +kernel) rfl
theorem fX10_38 : Cond.fieldLink RX10 38 RX10 (TX10 14).2.1 (TX10 14).2.2.1 ∈ zTb := zin 922 (by decide +kernel) rfl
theorem fX10_41 : Cond.fieldLink RX10 41 RX10 (TX10 15).2.1 (TX10 15).2.2.1 ∈ zTb := zin 923 (by decide +kernel) rfl
theorem fX10_44 : Cond.fieldLink RX10 44 RX10 (TX10 17).2.1 (TX10 17).2.2.1 ∈ zTb := zin 925 (by decide +kernel) rfl
theorem fX10_47 : Cond.fieldLink RX10 47 RX10 (TX10 19).2.1 (TX10 19).2.2.1 ∈ zTb := zin 927 (by decide +kernel) rfl
theorem fX10_50 : Cond.fieldLink RX10 50 RX10 (TX10 20).2.1 (TX10 20).2.2.1 ∈ zTb := zin 928 (by decide +kernel) rfl
theorem fX10_53 : Cond.fieldLink RX10 53 RX10 (TX10 21).2.1 (TX10 21).2.2.1 ∈ zTb := zin 929 (by decide +kernel) rfl
theorem fX10_56 : Cond.fieldLink RX10 56 RX10 (TX10 23).2.1 (TX10 23).2.2.1 ∈ zTb := zin 931 (by decide +kernel) rfl
theorem fX10_60 : Cond.fieldLink RX10 60 RX10 (TX10 24).2.1 (TX10 24).2.2.1 ∈ zTb := zin 932 (by decide +kernel) rfl
theorem fX10_63 : Cond.fieldLink RX10 63 RX10 (TX10 25).2.1 (TX10 25).2.2.1 ∈ zTb := zin 933 (by decide +kernel) rfl
theorem fX10_66 : Cond.fieldLink RX10 66 RX10 (TX10 27).2.1 (TX10 27).2.2.1 ∈ zTb := zin 935 (by decide +kernel) rfl
theorem fX10_69 : Cond.fieldLink RX10 69 RX10 (TX10 28).2.1 (TX10 28).2.2.1 ∈ zTb := zin 936 (by decide +kernel) rfl
theorem fX10_72 : Cond.fieldLink RX10 72 RX10 (TX10 32).2.1 (TX10 32).2.2.1 ∈ zTb := zin 940 (by decide +kernel) rfl
theorem fX10_75 : Cond.fieldLink RX10 75 RX10 (TX10 33).2.1 (TX10 33).2.2.1 ∈ zTb := zin 941 (by decide +kernel) rfl
theorem fX10_78 : Cond.fieldLink RX10 78 RX10 (TX10 36).2.1 (TX10 36).2.2.1 ∈ zTb := zin 944 (by decide +kernel) rfl
theorem fX10_81 : Cond.fieldLink RX10 81 RX10 (TX10 0).2.1 (TX10 0).2.2.1 ∈ zTb := zin 908 (by decide +kernel) rfl
theorem fX10_85 : Cond.fieldLink RX10 85 RX10 (TX10 2).2.1 (TX10 2).2.2.1 ∈ zTb := zin 910 (by decide +kernel) rfl
theorem fX10_88 : Cond.fieldLink RX10 88 RX10 (TX10 3).2.1 (TX10 3).2.2.1 ∈ zTb := zin 911 (by decide +kernel) rfl
theorem fX10_126 : Cond.fieldLink RX10 126 RX10 (TX10 12).2.1 (TX10 12).2.2.1 ∈ zTb := zin 920 (by decide +kernel) rfl
theorem fX10_138 : Cond.fieldLink RX10 138 RX10 (TX10 13).2.1 (TX10 13).2.2.1 ∈ zTb := zin 921 (by decide +kernel) rfl
theorem fX10_141 : Cond.fieldLink RX10 141 RX10 (TX10 35).2.1 (TX10 35).2.2.1 ∈ zTb := zin 943 (by decide +kernel) rfl
theorem fX10_171 : Cond.fieldLink RX10 171 RX10 (TX10 16).2.1 (TX10 16).2.2.1 ∈ zTb := zin 924 (by decide +kernel) rfl
theorem fX10_178 : Cond.fieldLink RX10 178 RX10 (TX10 18).2.1 (TX10 18).2.2.1 ∈ zTb := zin 926 (by decide +kernel) rfl
theorem fX10_227 : Cond.fieldLink RX10 227 RX10 (TX10 22).2.1 (TX10 22).2.2.1 ∈ zTb := zin 930 (by decide +kernel) rfl
theorem fX10_261 : Cond.fieldLink RX10 261 RX10 (TX10 26).2.1 (TX10 26).2.2.1 ∈ zTb := zin 934 (by decide +kernel) rfl
theorem fX10_270 : Cond.fieldLink RX10 270 RX10 (TX10 29).2.1 (TX10 29).2.2.1 ∈ zTb := zin 937 (by decide +kernel) rfl
theorem fX10_273 : Cond.fieldLink RX10 273 RX10 (TX10 30).2.1 (TX10 30).2.2.1 ∈ zTb := zin 938 (by decide +kernel) rfl
theorem fX10_279 : Cond.fieldLink RX10 279 RX10 (TX10 31).2.1 (TX10 31).2.2.1 ∈ zTb := zin 939 (by decide +kernel) rfl
theorem fX10_291 : Cond.fieldLink RX10 291 RX10 (TX10 34).2.1 (TX10 34).2.2.1 ∈ zTb := zin 942 (by decide +kernel) rfl
theorem fX10_319 : Cond.fieldLink RX10 319 RX10 (TX10 37).2.1 (TX10 37).2.2.1 ∈ zTb := zin 945 (by decide +kernel) rfl
theorem fX10_337 : Cond.fieldLink RX10 337 RX10 (TX10 38).2.1 (TX10 38).2.2.1 ∈ zTb := zin 946 (by decide +kernel) rfl
theorem fX2_9 : Cond.fieldLink RX2 9 RX2 (TX2 0).2.1 (TX2 0).2.2.1 ∈ zTb := zin 65 (by decide +kernel) rfl
theorem fX2_15 : Cond.fieldLink RX2 15 RX2 (TX2 1).2.1 (TX2 1).2.2.1 ∈ zTb := zin 69 (by decide +kernel) rfl
theorem fX2_19 : Cond.fieldLinkNest RX2 19 RX7 (TX7 1).2.1 (TX7 1).2.2.1 "PadRound" ∈ zTb := zin 177 (by decide +kernel) rfl
theorem fX2_36 : Cond.fieldLinkNest RX2 36 RX4 (TX4 5).2.1 (TX4 5).2.2.1 "PadRound" ∈ zTb := zin 219 (by decide +kernel) rfl
theorem fX3_10 : Cond.fieldLink RX3 10 RX3 (TX3 0).2.1 (TX3 0).2.2.1 ∈ zTb := zin 240 (by decide +kernel) rfl
theorem fX3_16 : Cond.fieldLink RX3 16 RX3 (TX3 1).2.1 (TX3 1).2.2.1 ∈ zTb := zin 242 (by decide +kernel) rfl
theorem fX3_20 : Cond.fieldLink RX3 20 RX3 (TX3 2).2.1 (TX3 2).2.2.1 ∈ zTb := zin 244 (by decide +kernel) rfl
theorem fX3_24 : Cond.fieldLink RX3 24 RX3 (TX3 3).2.1 (TX3 3).2.2.1 ∈ zTb := zin 245 (by decide +kernel) rfl
theorem fX3_35 : Cond.fieldLink RX3 35 RX3 (TX3 4).2.1 (TX3 4).2.2.1 ∈ zTb := zin 247 (by decide +kernel) rfl
theorem fX3_37 : Cond.fieldLink RX3 37 RX3 (TX3 5).2.1 (TX3 5).2.2.1 ∈ zTb := zin 249 (by decide +kernel) rfl
theorem fX4_9 : Cond.fieldLink RX4 9 RX4 (TX4 0).2.1 (TX4 0).2.2.1 ∈ zTb := zin 205 (by decide +kernel) rfl
theorem fX4_15 : Cond.fieldLink RX4 15 RX4 (TX4 5).2.1 (TX4 5).2.2.1 ∈ zTb := zin 217 (by decide +kernel) rfl
theorem fX4_19 : Cond.fieldLink RX4 19 RX4 (TX4 1).2.1 (TX4 1).2.2.1 ∈ zTb := zin 208 (by decide +kernel) rfl
theorem fX4_23 : Cond.fieldLink RX4 23 RX4 (TX4 2).2.1 (TX4 2).2.2.1 ∈ zTb := zin 211 (by decide +kernel) rfl
theorem fX4_26 : Cond.fieldLink RX4 26 RX4 (TX4 3).2.1 (TX4 3).2.2.1 ∈ zTb := zin 212 (by decide +kernel) rfl
theorem fX4_29 : Cond.fieldLink RX4 29 RX4 (TX4 4).2.1 (TX4 4).2.2.1 ∈ zTb := zin 214 (by decide +kernel) rfl
theorem fX5_9 : Cond.fieldLink RX5 9 RX5 (TX5 0).2.1 (TX5 0).2.2.1 ∈ zTb := zin 106 (by decide +kernel) rfl
theorem fX5_15 : Cond.fieldLink RX5 15 RX5 (TX5 1).2.1 (TX5 1).2.2.1 ∈ zTb := zin 107 (by decide +kernel) rfl
theorem fX5_18 : Cond.fieldLink RX5 18 RX5 (TX5 2).2.1 (TX5 2).2.2.1 ∈ zTb := zin 109 (by decide +kernel) rfl
theorem fX5_21 : Cond.fieldLink RX5 21 RX5 (TX5 3).2.1 (TX5 3).2.2.1 ∈ zTb := zin 111 (by decide +kernel) rfl
theorem fX5_25 : Cond.fieldLink RX5 25 RX5 (TX5 4).2.1 (TX5 4).2.2.1 ∈ zTb := zin 113 (by decide +kernel) rfl
theorem fX5_34 : Cond.fieldLink RX5 34 RX5 (TX5 6).2.1 (TX5 6).2.2.1 ∈ zTb := zin 116 (by decide +kernel) rfl
theorem fX5_38 : Cond.fieldLinkNest RX5 38 RX7 (TX7 1).2.1 (TX7 1).2.2.1 "PadRound" ∈ zTb := zin 179 (by decide +kernel) rfl
theorem fX5_43 : Cond.fieldLink RX5 43 RX5 (TX5 5).2.1 (TX5 5).2.2.1 ∈ zTb := zin 114 (by decide +kernel) rfl
theorem fX5_72 : Cond.fieldLink RX5 72 RX5 (TX5 7).2.1 (TX5 7).2.2.1 ∈ zTb := zin 118 (by decide +kernel) rfl
theorem fX6_9 : Cond.fieldLink RX6 9 RX6 (TX6 0).2.1 (TX6 0).2.2.1 ∈ zTb := zin 84 (by decide +kernel) rfl
theorem fX6_15 : Cond.fieldLink RX6 15 RX6 (TX6 1).2.1 (TX6 1).2.2.1 ∈ zTb := zin 85 (by decide +kernel) rfl
theorem fX6_18 : Cond.fieldLink RX6 18 RX6 (TX6 2).2.1 (TX6 2).2.2.1 ∈ zTb := zin 87 (by decide +kernel) rfl
theorem fX6_22 : Cond.fieldLinkNest RX6 22 RX4 (TX4 5).2.1 (TX4 5).2.2.1 "PadRound" ∈ zTb := zin 218 (by decide +kernel) rfl
theorem fX6_28 : Cond.fieldLinkNest RX6 28 RX1 (TX1 1).2.1 (TX1 1).2.2.1 "PadRound" ∈ zTb := zin 193 (by decide +kernel) rfl
theorem fX6_35 : Cond.fieldLinkNest RX6 35 RX4 (TX4 4).2.1 (TX4 4).2.2.1 "PadRound" ∈ zTb := zin 215 (by decide +kernel) rfl
theorem fX6_38 : Cond.fieldLink RX6 38 RX6 (TX6 3).2.1 (TX6 3).2.2.1 ∈ zTb := zin 89 (by decide +kernel) rfl
theorem fX6_45 : Cond.fieldLinkNest RX6 45 RX4 (TX4 1).2.1 (TX4 1).2.2.1 "PadRound" ∈ zTb := zin 209 (by decide +kernel) rfl
theorem fX6_48 : Cond.fieldLinkNest RX6 48 RX2 (TX2 1).2.1 (TX2 1).2.2.1 "PadRound" ∈ zTb := zin 71 (by decide +kernel) rfl
theorem fX6_59 : Cond.fieldLinkNest RX6 59 RX2 (TX2 0).2.1 (TX2 0).2.2.1 "PadRound" ∈ zTb := zin 67 (by decide +kernel) rfl
theorem fX6_65 : Cond.fieldLinkNest RX6 65 RX4 (TX4 0).2.1 (TX4 0).2.2.1 "PadRound" ∈ zTb := zin 206 (by decide +kernel) rfl
theorem fX7_9 : Cond.fieldLink RX7 9 RX7 (TX7 1).2.1 (TX7 1).2.2.1 ∈ zTb := zin 176 (by decide +kernel) rfl
theorem fX7_21 : Cond.fieldLink RX7 21 RX7 (TX7 0).2.1 (TX7 0).2.2.1 ∈ zTb := zin 174 (by decide +kernel) rfl
theorem fX8_9 : Cond.fieldLink RX8 9 RX8 (TX8 0).2.1 (TX8 0).2.2.1 ∈ zTb := zin 144 (by decide +kernel) rfl
theorem fX8_15 : Cond.fieldLink RX8 15 RX8 (TX8 1).2.1 (TX8 1).2.2.1 ∈ zTb := zin 145 (by decide +kernel) rfl
theorem fX8_18 : Cond.fieldLink RX8 18 RX8 (TX8 2).2.1 (TX8 2).2.2.1 ∈ zTb := zin 146 (by decide +kernel) rfl
theorem fX8_21 : Cond.fieldLink RX8 21 RX8 (TX8 3).2.1 (TX8 3).2.2.1 ∈ zTb := zin 148 (by decide +kernel) rfl
theorem fX8_25 : Cond.fieldLink RX8 25 RX8 (TX8 5).2.1 (TX8 5).2.2.1 ∈ zTb := zin 151 (by decide +kernel) rfl
theorem fX8_29 : Cond.fieldLink RX8 29 RX8 (TX8 4).2.1 (TX8 4).2.2.1 ∈ zTb := zin 149 (by decide +kernel) rfl
theorem fX9_11 : Cond.fieldLink RX9 11 RX9 (TX9 0).2.1 (TX9 0).2.2.1 ∈ zTb := zin 264 (by decide +kernel) rfl
theorem fX9_15 : Cond.fieldLink RX9 15 RX9 (TX9 1).2.1 (TX9 1).2.2.1 ∈ zTb := zin 265 (by decide +kernel) rfl
theorem fX9_20 : Cond.fieldLink RX9 20 RX9 (TX9 2).2.1 (TX9 2).2.2.1 ∈ zTb := zin 266 (by decide +kernel) rfl
theorem fX9_26 : Cond.fieldLink RX9 26 RX9 (TX9 3).2.1 (TX9 3).2.2.1 ∈ zTb := zin 267 (by decide +kernel) rfl
theorem fX9_32 : Cond.fieldLink RX9 32 RX9 (TX9 4).2.1 (TX9 4).2.2.1 ∈ zTb := zin 268 (by decide +kernel) rfl
theorem fX9_39 : Cond.fieldLink RX9 39 RX9 (TX9 5).2.1 (TX9 5).2.2.1 ∈ zTb := zin 269 (by decide +kernel) rfl
theorem fX9_46 : Cond.fieldLink RX9 46 RX9 (TX9 6).2.1 (TX9 6).2.2.1 ∈ zTb := zin 270 (by decide +kernel) rfl
theorem fX9_53 : Cond.fieldLink RX9 53 RX9 (TX9 7).2.1 (TX9 7).2.2.1 ∈ zTb := zin 271 (by decide +kernel) rfl
theorem fX9_60 : Cond.fieldLink RX9 60 RX9 (TX9 8).2.1 (TX9 8).2.2.1 ∈ zTb := zin 272 (by decide +kernel) rfl
theorem fX9_67 : Cond.fieldLink RX9 67 RX9 (TX9 9).2.1 (TX9 9).2.2.1 ∈ zTb := zin 273 (by decide +kernel) rfl
theorem fX9_79 : Cond.fieldLink RX9 79 RX9 (TX9 10).2.1 (TX9 10).2.2.1 ∈ zTb := zin 274 (by decide +kernel) rfl
theorem fX9_118 : Cond.fieldLinkNest RX9 118 RX7 (TX7 0).2.1 (TX7 0).2.2.1 "PadRound" ∈ zTb := zin 175 (by decide +kernel) rfl
theorem fX9_128 : Cond.fieldLinkNest RX9 128 RX7 (TX7 1).2.1 (TX7 1).2.2.1 "PadRound" ∈ zTb := zin 180 (by decide +kernel) rfl
theorem fX9_150 : Cond.fieldLink RX9 150 RX9 (TX9 11).2.1 (TX9 11).2.2.1 ∈ zTb := zin 275 (by decide +kernel) rfl
theorem fX9_153 : Cond.fieldLink RX9 153 RX9 (TX9 12).2.1 (TX9 12).2.2.1 ∈ zTb := zin 276 (by decide +kernel) rfl
theorem fX9_156 : Cond.fieldLinkNest RX9 156 RX1 (TX1 1).2.1 (TX1 1).2.2.1 "PadRound" ∈ zTb := zin 194 (by decide +kernel) rfl
theorem fX9_189 : Cond.fieldLinkNest RX9 189 RX2 (TX2 1).2.1 (TX2 1).2.2.1 "PadRound" ∈ zTb := zin 72 (by decide +kernel) rfl
theorem fX9_194 : Cond.fieldLinkNest RX9 194 RX4 (TX4 4).2.1 (TX4 4).2.2.1 "PadRound" ∈ zTb := zin 216 (by decide +kernel) rfl
theorem fX9_198 : Cond.fieldLinkNest RX9 198 RX4 (TX4 3).2.1 (TX4 3).2.2.1 "PadRound" ∈ zTb := zin 213 (by decide +kernel) rfl
theorem fX9_201 : Cond.fieldLinkNest RX9 201 RX6 (TX6 3).2.1 (TX6 3).2.2.1 "PadRound" ∈ zTb := zin 90 (by decide +kernel) rfl
theorem fX9_208 : Cond.fieldLinkNest RX9 208 RX2 (TX2 0).2.1 (TX2 0).2.2.1 "PadRound" ∈ zTb := zin 68 (by decide +kernel) rfl
theorem fX9_229 : Cond.fieldLinkNest RX9 229 RX6 (TX6 1).2.1 (TX6 1).2.2.1 "PadRound" ∈ zTb := zin 86 (by decide +kernel) rfl
theorem fX9_232 : Cond.fieldLinkNest RX9 232 RX6 (TX6 2).2.1 (TX6 2).2.2.1 "PadRound" ∈ zTb := zin 88 (by decide +kernel) rfl
theorem fX9_256 : Cond.fieldLinkNest RX9 256 RX5 (TX5 6).2.1 (TX5 6).2.2.1 "PadRound" ∈ zTb := zin 117 (by decide +kernel) rfl
theorem fX9_257 : Cond.fieldLinkNest RX9 257 RX5 (TX5 3).2.1 (TX5 3).2.2.1 "PadRound" ∈ zTb := zin 112 (by decide +kernel) rfl
theorem fX9_269 : Cond.fieldLinkNest RX9 269 RX5 (TX5 5).2.1 (TX5 5).2.2.1 "PadRound" ∈ zTb := zin 115 (by decide +kernel) rfl
theorem fX9_277 : Cond.fieldLinkNest RX9 277 RX5 (TX5 7).2.1 (TX5 7).2.2.1 "PadRound" ∈ zTb := zin 119 (by decide +kernel) rfl
theorem fX9_281 : Cond.fieldLinkNest RX9 281 RX5 (TX5 2).2.1 (TX5 2).2.2.1 "PadRound" ∈ zTb := zin 110 (by decide +kernel) rfl
theorem fX9_296 : Cond.fieldLinkNest RX9 296 RX4 (TX4 1).2.1 (TX4 1).2.2.1 "PadRound" ∈ zTb := zin 210 (by decide +kernel) rfl
theorem fX9_303 : Cond.fieldLinkNest RX9 303 RX8 (TX8 4).2.1 (TX8 4).2.2.1 "PadRound" ∈ zTb := zin 150 (by decide +kernel) rfl
theorem fX9_314 : Cond.fieldLinkNest RX9 314 RX8 (TX8 2).2.1 (TX8 2).2.2.1 "PadRound" ∈ zTb := zin 147 (by decide +kernel) rfl
theorem fX9_344 : Cond.fieldLinkNest RX9 344 RX3 (TX3 3).2.1 (TX3 3).2.2.1 "PadRound" ∈ zTb := zin 246 (by decide +kernel) rfl
theorem fX9_350 : Cond.fieldLinkNest RX9 350 RX3 (TX3 1).2.1 (TX3 1).2.2.1 "PadRound" ∈ zTb := zin 243 (by decide +kernel) rfl
theorem fX9_354 : Cond.fieldLinkNest RX9 354 RX3 (TX3 4).2.1 (TX3 4).2.2.1 "PadRound" ∈ zTb := zin 248 (by decide +kernel) rfl
theorem fX9_371 : Cond.fieldLinkNest RX9 371 RX0 (TX0 2).2.1 (TX0 2).2.2.1 "PadRound" ∈ zTb := zin 42 (by decide +kernel) rfl
theorem fX9_374 : Cond.fieldLinkNest RX9 374 RX0 (TX0 3).2.1 (TX0 3).2.2.1 "PadRound" ∈ zTb := zin 44 (by decide +kernel) rfl
theorem fX9_377 : Cond.fieldLinkNest RX9 377 RX0 (TX0 4).2.1 (TX0 4).2.2.1 "PadRound" ∈ zTb := zin 46 (by decide +kernel) rfl
theorem fX9_387 : Cond.fieldLinkNest RX9 387 RX0 (TX0 1).2.1 (TX0 1).2.2.1 "PadRound" ∈ zTb := zin 40 (by decide +kernel) rfl
theorem fX9_390 : Cond.fieldLinkNest RX9 390 RX0 (TX0 0).2.1 (TX0 0).2.2.1 "PadRound" ∈ zTb := zin 38 (by decide +kernel) rfl
theorem fX9_412 : Cond.fieldLinkNest RX9 412 RX4 (TX4 0).2.1 (TX4 0).2.2.1 "PadRound" ∈ zTb := zin 207 (by decide +kernel) rfl
theorem fX9_424 : Cond.fieldLinkNest RX9 424 RX5 (TX5 1).2.1 (TX5 1).2.2.1 "PadRound" ∈ zTb := zin 108 (by decide +kernel) rfl
theorem fX9_444 : Cond.fieldLinkNest RX9 444 RX3 (TX3 0).2.1 (TX3 0).2.2.1 "PadRound" ∈ zTb := zin 241 (by decide +kernel) rfl
theorem fX9_447 : Cond.fieldLinkNest RX9 447 RX3 (TX3 5).2.1 (TX3 5).2.2.1 "PadRound" ∈ zTb := zin 250 (by decide +kernel) rfl
end
section
theorem gX0_9 {E : zE} {M : zY} {d : Nat} {Q : Option Value → zM → Prop} {pc : Nat} {ls : List (Option Value)} {st : List Value} {σ : zM} {a : Nat} (pc' : Nat) (hM : M.1.cls = RX0) (hd : decode M.2.1 pc = .ok (.getfield 9, 3)) (hp : pc + 3 = pc') (hk : (kd a).1 = 0) (k : At E M d Q pc' ls (zr E (a + 1) :: st) σ) : At E M d Q pc ls (zr E a :: st) σ := z_getf pc' hd hp (a := a) (ci := 0) hk (by decide) rfl iX0 (j := 0) (by decide) (by rw [hM]; exact fX0_9) rfl rfl k
theorem pX0_15 {E : zE} {M : zY} {d : Nat} {Q : Option Value → zM → Prop} {pc : Nat} {ls : List (Option Value)} {st : List Value} {σ : zM} {a : Nat} {x : Int64} (pc' : Nat) (hM : M.1.cls = RX0) (hd : decode M.2.1 pc = .ok (.putfield 15, 3)) (hp : pc + 3 = pc') (hk : (kd a).1 = 0) (k : At E M d Q pc' ls st (sl σ a 4 x)) : At E M d Q pc ls (.long x :: zr E a :: st) σ := z_putf pc' (sl σ a 4 x) tyX0 tyX0_ok nmX0 hd hp (a := a) (ci := 0) hk (by decide) rfl iX0 (j := 4) (by decide) (by rw [hM]; exact fX0_15) rfl rfl (tyX0_ok 4 (by decide)) rfl rfl (by simp [zO]) (zh_sl σ _ _ _) (by simp [zO, sl, zu]) k
theorem pX0_19 {E : zE} {M : zY} {d : Nat} {Q : Option Value → zM → Prop} {pc : Nat} {ls : List (Option Value)} {st : List Value} {σ : zM} {a : Nat} {x : Int32} (pc' : Nat) (hM : M.1.cls = RX0) (hd : decode M.2.1 pc = .ok (.putfield 19, 3)) (hp : pc + 3 = pc') (hk : (kd a).1 = 0) (k : At E M d Q pc' ls st (si σ a 1 x)) : At E M d Q pc ls (.int x :: zr E a :: st) σ := z_putf pc' (si σ a 1 x) tyX0 tyX0_ok nmX0 hd hp (a := a) (ci := 0) hk (by decide) rfl iX0 (j := 1) (by decide) (by rw [hM]; exact fX0_19) rfl rfl (tyX0_ok 1 (by decide)) rfl rfl (by simp [zO]) (zh_si σ _ _ _) (by simp [zO, si, zu]) k
theorem pX0_23 {E : zE} {M : zY} {d : Nat} {Q : Option Value → zM → Prop} {pc : Nat} {ls : List (Option Value)} {st : List Value} {σ : zM} {a : Nat} {x : Int32} (pc' : Nat) (hM : M.1.cls = RX0) (hd : decode M.2.1 pc = .ok (.putfield 23, 3)) (hp : pc + 3 = pc') (hk : (kd a).1 = 0) (k : At E M d Q pc' ls st (si σ a 2 x)) : At E M d Q pc ls (.int x :: zr E a :: st) σ := z_putf pc' (si σ a 2 x) tyX0 tyX0_ok nmX0 hd hp (a := a) (ci := 0) hk (by decide) rfl iX0 (j := 2) (by decide) (by rw [hM]; exact fX0_23) rfl rfl (tyX0_ok 2 (by decide)) rfl rfl (by simp [zO]) (zh_si σ _ _ _) (by simp [zO, si, zu]) k
theorem pX0_26 {E : zE} {M : zY} {d : Nat} {Q : Option Value → zM → Prop} {pc : Nat} {ls : List (Option Value)} {st : List Value} {σ : zM} {a : Nat} {x : Int64} (pc' : Nat) (hM : M.1.cls = RX0) (hd : decode M.2.1 pc = .ok (.putfield 26, 3)) (hp : pc + 3 = pc') (hk : (kd a).1 = 0) (k : At E M d Q pc' ls st (sl σ a 3 x)) : At E M d Q pc ls (.long x :: zr E a :: st) σ := z_putf pc' (sl σ a 3 x) tyX0 tyX0_ok nmX0 hd hp (a := a) (ci := 0) hk (by decide) rfl iX0 (j := 3) (by decide) (by rw [hM]; exact fX0_26) rfl rfl (tyX0_ok 3 (by decide)) rfl rfl (by simp [zO]) (zh_sl σ _ _ _) (by simp [zO, sl, zu]) k
theorem gX1_9 {E : zE} {M : zY} {d : Nat} {Q : Option Value → zM → Prop} {pc : Nat} {ls : List (Option Value)} {st : List Value} {σ : zM} {a : Nat} (pc' : Nat) (hM : M.1.cls = RX1) (hd : decode M.2.1 pc = .ok (.getfield 9, 3)) (hp : pc + 3 = pc') (hk : (kd a).1 = 1) (k : At E M d Q pc' ls (zr E (a + 1) :: st) σ) : At E M d Q pc ls (zr E a :: st) σ := z_getf pc' hd hp (a := a) (ci := 1) hk (by decide) rfl iX1 (j := 0) (by decide) (by rw [hM]; exact fX1_9) rfl rfl k
theorem gX1_15 {E : zE} {M : zY} {d : Nat} {Q : Option Value → zM → Prop} {pc : Nat} {ls : List (Option Value)} {st : List Value} {σ : zM} {a : Nat} (pc' : Nat) (hM : M.1.cls = RX1) (hd : decode M.2.1 pc = .ok (.getfield 15, 3)) (hp : pc + 3 = pc') (hk : (kd a).1 = 1) (k : At E M d Q pc' ls (.int (gi σ a 1) :: st) σ) : At E M d Q pc ls (zr E a :: st) σ := z_getf pc' hd hp (a := a) (ci := 1) hk (by decide) rfl iX1 (j := 1) (by decide) (by rw [hM]; exact fX1_15) rfl rfl k
theorem pX1_15 {E : zE} {M : zY} {d : Nat} {Q : Option Value → zM → Prop} {pc : Nat} {ls : List (Option Value)} {st : List Value} {σ : zM} {a : Nat} {x : Int32} (pc' : Nat) (hM : M.1.cls = RX1) (hd : decode M.2.1 pc = .ok (.putfield 15, 3)) (hp : pc + 3 = pc') (hk : (kd a).1 = 1) (k : At E M d Q pc' ls st (si σ a 1 x)) : At E M d Q pc ls (.int x :: zr E a :: st) σ := z_putf pc' (si σ a 1 x) tyX1 tyX1_ok nmX1 hd hp (a := a) (ci := 1) hk (by decide) rfl iX1 (j := 1) (by decide) (by rw [hM]; exact fX1_15) rfl rfl (tyX1_ok 1 (by decide)) rfl rfl (by simp [zO]) (zh_si σ _ _ _) (by simp [zO, si, zu]) k
theorem gX1_19 {E : zE} {M : zY} {d : Nat} {Q : Option Value → zM → Prop} {pc : Nat} {ls : List (Option Value)} {st : List Value} {σ : zM} {a : Nat} (pc' : Nat) (hM : M.1.cls = RX1) (hd : decode M.2.1 pc = .ok (.getfield 19, 3)) (hp : pc + 3 = pc') (hk : (kd a).1 = 7) (k : At E M d Q pc' ls (.int (gi σ a 1) :: st) σ) : At E M d Q pc ls (zr E a :: st) σ := z_getfN pc' hd hp (a := a) (ci := 7) hk (by decide) rfl iX7 (j := 1) (by decide) (by rw [hM]; exact fX1_19) rfl rfl k
theorem gX1_32 {E : zE} {M : zY} {d : Nat} {Q : Option Value → zM → Prop} {pc : Nat} {ls : List (Option Value)} {st : List Value} {σ : zM} {a : Nat} (pc' : Nat) (hM : M.1.cls = RX1) (hd : decode M.2.1 pc = .ok (.getfield 32, 3)) (hp : pc + 3 = pc') (hk : (kd a).1 = 2) (k : At E M d Q pc' ls (.int (gi σ a 1) :: st) σ) : At E M d Q pc ls (zr E a :: st) σ := z_getfN pc' hd hp (a := a) (ci := 2) hk (by decide) rfl iX2 (j := 1) (by decide) (by rw [hM]; exact fX1_32) rfl rfl k
theorem gX1_35 {E : zE} {M : zY} {d : Nat} {Q : Option Value → zM → Prop} {pc : Nat} {ls : List (Option Value)} {st : List Value} {σ : zM} {a : Nat} (pc' : Nat) (hM : M.1.cls = RX1) (hd : decode M.2.1 pc = .ok (.getfield 35, 3)) (hp : pc + 3 = pc') (hk : (kd a).1 = 2) (k : At E M d Q pc' ls (zr E (a + 1) :: st) σ) : At E M d Q pc ls (zr E a :: st) σ := z_getfN pc' hd hp (a := a) (ci := 2) hk (by decide) rfl iX2 (j := 0) (by decide) (by rw [hM]; exact fX1_35) rfl rfl k
theorem gX10_7 {E : zE} {M : zY} {d : Nat} {Q : Option Value → zM → Prop} {pc : Nat} {ls : List (Option Value)} {st : List Value} {σ : zM} (pc' : Nat) (hM : M.1.cls = RX10) (hd : decode M.2.1 pc = .ok (.getfield 7, 3)) (hp : pc + 3 = pc') (k : At E M d Q pc' ls (zr E (103) :: st) σ) : At E M d Q pc ls (zr E 102 :: st) σ := z_getf pc' hd hp (a := 102) (ci := 10) rfl (by decide) rfl iX10 (j := 1) (by decide) (by rw [hM]; exact fX10_7) rfl rfl k
theorem gX10_13 {E : zE} {M : zY} {d : Nat} {Q : Option Value → zM → Prop} {pc : Nat} {ls : List (Option Value)} {st : List Value} {σ : zM} (pc' : Nat) (hM : M.1.cls = RX10) (hd : decode M.2.1 pc = .ok (.getfield 13, 3)) (hp : pc + 3 = pc') (k : At E M d Q pc' ls (.long (gl σ 102 4) :: st) σ) : At E M d Q pc ls (zr E 102 :: st) σ := z_getf pc' hd hp (a := 102) (ci := 10) rfl (by decide) rfl iX10 (j := 4) (by decide) (by rw [hM]; exact fX10_13) rfl rfl k
theorem pX10_13 {E : zE} {M : zY} {d : Nat} {Q : Option Value → zM → Prop} {pc : Nat} {ls : List (Option Value)} {st : List Value} {σ : zM} {x : Int64} (pc' : Nat) (hM : M.1.cls = RX10) (hd : decode M.2.1 pc = .ok (.putfield 13, 3)) (hp : pc + 3 = pc') (k : At E M d Q pc' ls st (sl σ 102 4 x)) : At E M d Q pc ls (.long x :: zr E 102 :: st) σ := z_putf pc' (sl σ 102 4 x) tyX10 tyX10_ok nmX10 hd hp (a := 102) (ci := 10) rfl (by decide) rfl iX10 (j := 4) (by decide) (by rw [hM]; exact fX10_13) rfl rfl (tyX10_ok 4 (by decide)) rfl rfl (by simp [zO]) (zh_sl σ _ _ _) (by simp [zO, sl, zu]) k
theorem gX10_17 {E : zE} {M : zY} {d : Nat} {Q : Option Value → zM → Prop} {pc : Nat} {ls : List (Option Value)} {st : List Value} {σ : zM} (pc' : Nat) (hM : M.1.cls = RX10) (hd : decode M.2.1 pc = .ok (.getfield 17, 3)) (hp : pc + 3 = pc') (k : At E M d Q pc' ls (zr E (104) :: st) σ) : At E M d Q pc ls (zr E 102 :: st) σ := z_getf pc' hd hp (a := 102) (ci := 10) rfl (by decide) rfl iX10 (j := 5) (by decide) (by rw [hM]; exact fX10_17) rfl rfl k
theorem gX10_20 {E : zE} {M : zY} {d : Nat} {Q : Option Value → zM → Prop} {pc : Nat} {ls : List (Option Value)} {st : List Value} {σ : zM} (pc' : Nat) (hM : M.1.cls = RX10) (hd : decode M.2.1 pc = .ok (.getfield 20, 3)) (hp : pc + 3 = pc') (k : At E M d Q pc' ls (zr E (105) :: st) σ) : At E M d Q pc ls (zr E 102 :: st) σ := z_getf pc' hd hp (a := 102) (ci := 10) rfl (by decide) rfl iX10 (j := 6) (by decide) (by rw [hM]; exact fX10_20) rfl rfl k
theorem gX10_23 {E : zE} {M : zY} {d : Nat} {Q : Option Value → zM → Prop} {pc : Nat} {ls : List (Option Value)} {st : List Value} {σ : zM} (pc' : Nat) (hM : M.1.cls = RX10) (hd : decode M.2.1 pc = .ok (.getfield 23, 3)) (hp : pc + 3 = pc') (k : At E M d Q pc' ls (zr E (106) :: st) σ) : At E M d Q pc ls (zr E 102 :: st) σ := z_getf pc' hd hp (a := 102) (ci := 10) rfl (by decide) rfl iX10 (j := 7) (by decide) (by rw [hM]; exact fX10_23) rfl rfl k
theorem gX10_26 {E : zE} {M : zY} {d : Nat} {Q : Option Value → zM → Prop} {pc : Nat} {ls : List (Option Value)} {st : List Value} {σ : zM} (pc' : Nat) (hM : M.1.cls = RX10) (hd : decode M.2.1 pc = .ok (.getfield 26, 3)) (hp : pc + 3 = pc') (k : At E M d Q pc' ls (zr E (107) :: st) σ) : At E M d Q pc ls (zr E 102 :: st) σ := z_getf pc' hd hp (a := 102) (ci := 10) rfl (by decide) rfl iX10 (j := 8) (by decide) (by rw [hM]; exact fX10_26) rfl rfl k
theorem gX10_29 {E : zE} {M : zY} {d : Nat} {Q : Option Value → zM → Prop} {pc : Nat} {ls : List (Option Value)} {st : List Value} {σ : zM} (pc' : Nat) (hM : M.1.cls = RX10) (hd : decode M.2.1 pc = .ok (.getfield 29, 3)) (hp : pc + 3 = pc') (k : At E M d Q pc' ls (zr E (108) :: st) σ) : At E M d Q pc ls (zr E 102 :: st) σ := z_getf pc' hd hp (a := 102) (ci := 10) rfl (by decide) rfl iX10 (j := 9) (by decide) (by rw [hM]; exact fX10_29) rfl rfl k
theorem gX10_32 {E : zE} {M : zY} {d : Nat} {Q : Option Value → zM → Prop} {pc : Nat} {ls : List (Option Value)} {st : List Value} {σ : zM} (pc' : Nat) (hM : M.1.cls = RX10) (hd : decode M.2.1 pc = .ok (.getfield 32, 3)) (hp : pc + 3 = pc') (k : At E M d Q pc' ls (zr E (109) :: st) σ) : At E M d Q pc ls (zr E 102 :: st) σ := z_getf pc' hd hp (a := 102) (ci := 10) rfl (by decide) rfl iX10 (j := 10) (by decide) (by rw [hM]; exact fX10_32) rfl rfl k
theorem gX10_35 {E : zE} {M : zY} {d : Nat} {Q : Option Value → zM → Prop} {pc : Nat} {ls : List (Option Value)} {st : List Value} {σ : zM} (pc' : Nat) (hM : M.1.cls = RX10) (hd : decode M.2.1 pc = .ok (.getfield 35, 3)) (hp : pc + 3 = pc') (k : At E M d Q pc' ls (zr E (110) :: st) σ) : At E M d Q pc ls (zr E 102 :: st) σ := z_getf pc' hd hp (a := 102) (ci := 10) rfl (by decide) rfl iX10 (j := 11) (by decide) (by rw [hM]; exact fX10_35) rfl rfl k
theorem gX10_38 {E : zE} {M : zY} {d : Nat} {Q : Option Value → zM → Prop} {pc : Nat} {ls : List (Option Value)} {st : List Value} {σ : zM} (pc' : Nat) (hM : M.1.cls = RX10) (hd : decode M.2.1 pc = .ok (.getfield 38, 3)) (hp : pc + 3 = pc') (k : At E M d Q pc' ls (zr E (111) :: st) σ) : At E M d Q pc ls (zr E 102 :: st) σ := z_getf pc' hd hp (a := 102) (ci := 10) rfl (by decide) rfl iX10 (j := 14) (by decide) (by rw [hM]; exact fX10_38) rfl rfl k
theorem gX10_41 {E : zE} {M : zY} {d : Nat} {Q : Option Value → zM → Prop} {pc : Nat} {ls : List (Option Value)} {st : List Value} {σ : zM} (pc' : Nat) (hM : M.1.cls = RX10) (hd : decode M.2.1 pc = .ok (.getfield 41, 3)) (hp : pc + 3 = pc') (k : At E M d Q pc' ls (zr E (112) :: st) σ) : At E M d Q pc ls (zr E 102 :: st) σ := z_getf pc' hd hp (a := 102) (ci := 10) rfl (by decide) rfl iX10 (j := 15) (by decide) (by rw [hM]; exact fX10_41) rfl rfl k
theorem gX10_44 {E : zE} {M : zY} {d : Nat} {Q : Option Value → zM → Prop} {pc : Nat} {ls : List (Option Value)} {st : List Value} {σ : zM} (pc' : Nat) (hM : M.1.cls = RX10) (hd : decode M.2.1 pc = .ok (.getfield 44, 3)) (hp : pc + 3 = pc') (k : At E M d Q pc' ls (zr E (113) :: st) σ) : At E M d Q pc ls (zr E 102 :: st) σ := z_getf pc' hd hp (a := 102) (ci := 10) rfl (by decide) rfl iX10 (j := 17) (by decide) (by rw [hM]; exact fX10_44) rfl rfl k
theorem gX10_47 {E : zE} {M : zY} {d : Nat} {Q : Option Value → zM → Prop} {pc : Nat} {ls : List (Option Value)} {st : List Value} {σ : zM} (pc' : Nat) (hM : M.1.cls = RX10) (hd : decode M.2.1 pc = .ok (.getfield 47, 3)) (hp : pc + 3 = pc') (k : At E M d Q pc' ls (zr E (114) :: st) σ) : At E M d Q pc ls (zr E 102 :: st) σ := z_getf pc' hd hp (a := 102) (ci := 10) rfl (by decide) rfl iX10 (j := 19) (by decide) (by rw [hM]; exact fX10_47) rfl rfl k
theorem gX10_50 {E : zE} {M : zY} {d : Nat} {Q : Option Value → zM → Prop} {pc : Nat} {ls : List (Option Value)} {st : List Value} {σ : zM} (pc' : Nat) (hM : M.1.cls = RX10) (hd : decode M.2.1 pc = .ok (.getfield 50, 3)) (hp : pc + 3 = pc') (k : At E M d Q pc' ls (zr E (115) :: st) σ) : At E M d Q pc ls (zr E 102 :: st) σ := z_getf pc' hd hp (a := 102) (ci := 10) rfl (by decide) rfl iX10 (j := 20) (by decide) (by rw [hM]; exact fX10_50) rfl rfl k
theorem gX10_53 {E : zE} {M : zY} {d : Nat} {Q : Option Value → zM → Prop} {pc : Nat} {ls : List (Option Value)} {st : List Value} {σ : zM} (pc' : Nat) (hM : M.1.cls = RX10) (hd : decode M.2.1 pc = .ok (.getfield 53, 3)) (hp : pc + 3 = pc') (k : At E M d Q pc' ls (zr E (116) :: st) σ) : At E M d Q pc ls (zr E 102 :: st) σ := z_getf pc' hd hp (a := 102) (ci := 10) rfl (by decide) rfl iX10 (j := 21) (by decide) (by rw [hM]; exact fX10_53) rfl rfl k
theorem gX10_56 {E : zE} {M : zY} {d : Nat} {Q : Option Value → zM → Prop} {pc : Nat} {ls : List (Option Value)} {st : List Value} {σ : zM} (pc' : Nat) (hM : M.1.cls = RX10) (hd : decode M.2.1 pc = .ok (.getfield 56, 3)) (hp : pc + 3 = pc') (k : At E M d Q pc' ls (zr E (117) :: st) σ) : At E M d Q pc ls (zr E 102 :: st) σ := z_getf pc' hd hp (a := 102) (ci := 10) rfl (by decide) rfl iX10 (j := 23) (by decide) (by rw [hM]; exact fX10_56) rfl rfl k
theorem gX10_60 {E : zE} {M : zY} {d : Nat} {Q : Option Value → zM → Prop} {pc : Nat} {ls : List (Option Value)} {st : List Value} {σ : zM} (pc' : Nat) (hM : M.1.cls = RX10) (hd : decode M.2.1 pc = .ok (.getfield 60, 3)) (hp : pc + 3 = pc') (k : At E M d Q pc' ls (zr E (118) :: st) σ) : At E M d Q pc ls (zr E 102 :: st) σ := z_getf pc' hd hp (a := 102) (ci := 10) rfl (by decide) rfl iX10 (j := 24) (by decide) (by rw [hM]; exact fX10_60) rfl rfl k
theorem gX10_63 {E : zE} {M : zY} {d : Nat} {Q : Option Value → zM → Prop} {pc : Nat} {ls : List (Option Value)} {st : List Value} {σ : zM} (pc' : Nat) (hM : M.1.cls = RX10) (hd : decode M.2.1 pc = .ok (.getfield 63, 3)) (hp : pc + 3 = pc') (k : At E M d Q pc' ls (zr E (119) :: st) σ) : At E M d Q pc ls (zr E 102 :: st) σ := z_getf pc' hd hp (a := 102) (ci := 10) rfl (by decide) rfl iX10 (j := 25) (by decide) (by rw [hM]; exact fX10_63) rfl rfl k
theorem gX10_66 {E : zE} {M : zY} {d : Nat} {Q : Option Value → zM → Prop} {pc : Nat} {ls : List (Option Value)} {st : List Value} {σ : zM} (pc' : Nat) (hM : M.1.cls = RX10) (hd : decode M.2.1 pc = .ok (.getfield 66, 3)) (hp : pc + 3 = pc') (k : At E M d Q pc' ls (zr E (120) :: st) σ) : At E M d Q pc ls (zr E 102 :: st) σ := z_getf pc' hd hp (a := 102) (ci := 10) rfl (by decide) rfl iX10 (j := 27) (by decide) (by rw [hM]; exact fX10_66) rfl rfl k
theorem gX10_69 {E : zE} {M : zY} {d : Nat} {Q : Option Value → zM → Prop} {pc : Nat} {ls : List (Option Value)} {st : List Value} {σ : zM} (pc' : Nat) (hM : M.1.cls = RX10) (hd : decode M.2.1 pc = .ok (.getfield 69, 3)) (hp : pc + 3 = pc') (k : At E M d Q pc' ls (zr E (121) :: st) σ) : At E M d Q pc ls (zr E 102 :: st) σ := z_getf pc' hd hp (a := 102) (ci := 10) rfl (by decide) rfl iX10 (j := 28) (by decide) (by rw [hM]; exact fX10_69) rfl rfl k
theorem gX10_72 {E : zE} {M : zY} {d : Nat} {Q : Option Value → zM → Prop} {pc : Nat} {ls : List (Option Value)} {st : List Value} {σ : zM} (pc' : Nat) (hM : M.1.cls = RX10) (hd : decode M.2.1 pc = .ok (.getfield 72, 3)) (hp : pc + 3 = pc') (k : At E M d Q pc' ls (zr E (122) :: st) σ) : At E M d Q pc ls (zr E 102 :: st) σ := z_getf pc' hd hp (a := 102) (ci := 10) rfl (by decide) rfl iX10 (j := 32) (by decide) (by rw [hM]; exact fX10_72) rfl rfl k
theorem gX10_75 {E : zE} {M : zY} {d : Nat} {Q : Option Value → zM → Prop} {pc : Nat} {ls : List (Option Value)} {st : List Value} {σ : zM} (pc' : Nat) (hM : M.1.cls = RX10) (hd : decode M.2.1 pc = .ok (.getfield 75, 3)) (hp : pc + 3 = pc') (k : At E M d Q pc' ls (zr E (123) :: st) σ) : At E M d Q pc ls (zr E 102 :: st) σ := z_getf pc' hd hp (a := 102) (ci := 10) rfl (by decide) rfl iX10 (j := 33) (by decide) (by rw [hM]; exact fX10_75) rfl rfl k
theorem gX10_78 {E : zE} {M : zY} {d : Nat} {Q : Option Value → zM → Prop} {pc : Nat} {ls : List (Option Value)} {st : List Value} {σ : zM} (pc' : Nat) (hM : M.1.cls = RX10) (hd : decode M.2.1 pc = .ok (.getfield 78, 3)) (hp : pc + 3 = pc') (k : At E M d Q pc' ls (zr E (124) :: st) σ) : At E M d Q pc ls (zr E 102 :: st) σ := z_getf pc' hd hp (a := 102) (ci := 10) rfl (by decide) rfl iX10 (j := 36) (by decide) (by rw [hM]; exact fX10_78) rfl rfl k
theorem gX10_81 {E : zE} {M : zY} {d : Nat} {Q : Option Value → zM → Prop} {pc : Nat} {ls : List (Option Value)} {st : List Value} {σ : zM} (pc' : Nat) (hM : M.1.cls = RX10) (hd : decode M.2.1 pc = .ok (.getfield 81, 3)) (hp : pc + 3 = pc') (k : At E M d Q pc' ls (.int (gi σ 102 0) :: st) σ) : At E M d Q pc ls (zr E 102 :: st) σ := z_getf pc' hd hp (a := 102) (ci := 10) rfl (by decide) rfl iX10 (j := 0) (by decide) (by rw [hM]; exact fX10_81) rfl rfl k
theorem pX10_81 {E : zE} {M : zY} {d : Nat} {Q : Option Value → zM → Prop} {pc : Nat} {ls : List (Option Value)} {st : List Value} {σ : zM} {x : Int32} (pc' : Nat) (hM : M.1.cls = RX10) (hd : decode M.2.1 pc = .ok (.putfield 81, 3)) (hp : pc + 3 = pc') (k : At E M d Q pc' ls st (si σ 102 0 x)) : At E M d Q pc ls (.int x :: zr E 102 :: st) σ := z_putf pc' (si σ 102 0 x) tyX10 tyX10_ok nmX10 hd hp (a := 102) (ci := 10) rfl (by decide) rfl iX10 (j := 0) (by decide) (by rw [hM]; exact fX10_81) rfl rfl (tyX10_ok 0 (by decide)) rfl rfl (by simp [zO]) (zh_si σ _ _ _) (by simp [zO, si, zu]) k
theorem gX10_85 {E : zE} {M : zY} {d : Nat} {Q : Option Value → zM → Prop} {pc : Nat} {ls : List (Option Value)} {st : List Value} {σ : zM} (pc' : Nat) (hM : M.1.cls = RX10) (hd : decode M.2.1 pc = .ok (.getfield 85, 3)) (hp : pc + 3 = pc') (k : At E M d Q pc' ls (.int (gi σ 102 2) :: st) σ) : At E M d Q pc ls (zr E 102 :: st) σ := z_getf pc' hd hp (a := 102) (ci := 10) rfl (by decide) rfl iX10 (j := 2) (by decide) (by rw [hM]; exact fX10_85) rfl rfl k
theorem pX10_85 {E : zE} {M : zY} {d : Nat} {Q : Option Value → zM → Prop} {pc : Nat} {ls : List (Option Value)} {st : List Value} {σ : zM} {x : Int32} (pc' : Nat) (hM : M.1.cls = RX10) (hd : decode M.2.1 pc = .ok (.putfield 85, 3)) (hp : pc + 3 = pc') (k : At E M d Q pc' ls st (si σ 102 2 x)) : At E M d Q pc ls (.int x :: zr E 102 :: st) σ := z_putf pc' (si σ 102 2 x) tyX10 tyX10_ok nmX10 hd hp (a := 102) (ci := 10) rfl (by decide) rfl iX10 (j := 2) (by decide) (by rw [hM]; exact fX10_85) rfl rfl (tyX10_ok 2 (by decide)) rfl rfl (by simp [zO]) (zh_si σ _ _ _) (by simp [zO, si, zu]) k
theorem gX10_88 {E : zE} {M : zY} {d : Nat} {Q : Option Value → zM → Prop} {pc : Nat} {ls : List (Option Value)} {st : List Value} {σ : zM} (pc' : Nat) (hM : M.1.cls = RX10) (hd : decode M.2.1 pc = .ok (.getfield 88, 3)) (hp : pc + 3 = pc') (k : At E M d Q pc' ls (.long (gl σ 102 3) :: st) σ) : At E M d Q pc ls (zr E 102 :: st) σ := z_getf pc' hd hp (a := 102) (ci := 10) rfl (by decide) rfl iX10 (j := 3) (by decide) (by rw [hM]; exact fX10_88) rfl rfl k
theorem pX10_88 {E : zE} {M : zY} {d : Nat} {Q : Option Value → zM → Prop} {pc : Nat} {ls : List (Option Value)} {st : List Value} {σ : zM} {x : Int64} (pc' : Nat) (hM : M.1.cls = RX10) (hd : decode M.2.1 pc = .ok (.putfield 88, 3)) (hp : pc + 3 = pc') (k : At E M d Q pc' ls st (sl σ 102 3 x)) : At E M d Q pc ls (.long x :: zr E 102 :: st) σ := z_putf pc' (sl σ 102 3 x) tyX10 tyX10_ok nmX10 hd hp (a := 102) (ci := 10) rfl (by decide) rfl iX10 (j := 3) (by decide) (by rw [hM]; exact fX10_88) rfl rfl (tyX10_ok 3 (by decide)) rfl rfl (by simp [zO]) (zh_sl σ _ _ _) (by simp [zO, sl, zu]) k
theorem gX10_126 {E : zE} {M : zY} {d : Nat} {Q : Option Value → zM → Prop} {pc : Nat} {ls : List (Option Value)} {st : List Value} {σ : zM} (pc' : Nat) (hM : M.1.cls = RX10) (hd : decode M.2.1 pc = .ok (.getfield 126, 3)) (hp : pc + 3 = pc') (k : At E M d Q pc' ls (.int (gi σ 102 12) :: st) σ) : At E M d Q pc ls (zr E 102 :: st) σ := z_getf pc' hd hp (a := 102) (ci := 10) rfl (by decide) rfl iX10 (j := 12) (by decide) (by rw [hM]; exact fX10_126) rfl rfl k
theorem pX10_126 {E : zE} {M : zY} {d : Nat} {Q : Option Value → zM → Prop} {pc : Nat} {ls : List (Option Value)} {st : List Value} {σ : zM} {x : Int32} (pc' : Nat) (hM : M.1.cls = RX10) (hd : decode M.2.1 pc = .ok (.putfield 126, 3)) (hp : pc + 3 = pc') (k : At E M d Q pc' ls st (si σ 102 12 x)) : At E M d Q pc ls (.int x :: zr E 102 :: st) σ := z_putf pc' (si σ 102 12 x) tyX10 tyX10_ok nmX10 hd hp (a := 102) (ci := 10) rfl (by decide) rfl iX10 (j := 12) (by decide) (by rw [hM]; exact fX10_126) rfl rfl (tyX10_ok 12 (by decide)) rfl rfl (by simp [zO]) (zh_si σ _ _ _) (by simp [zO, si, zu]) k
theorem gX10_138 {E : zE} {M : zY} {d : Nat} {Q : Option Value → zM → Prop} {pc : Nat} {ls : List (Option Value)} {st : List Value} {σ : zM} (pc' : Nat) (hM : M.1.cls = RX10) (hd : decode M.2.1 pc = .ok (.getfield 138, 3)) (hp : pc + 3 = pc') (k : At E M d Q pc' ls (.int (gi σ 102 13) :: st) σ) : At E M d Q pc ls (zr E 102 :: st) σ := z_getf pc' hd hp (a := 102) (ci := 10) rfl (by decide) rfl iX10 (j := 13) (by decide) (by rw [hM]; exact fX10_138) rfl rfl k
theorem pX10_138 {E : zE} {M : zY} {d : Nat} {Q : Option Value → zM → Prop} {pc : Nat} {ls : List (Option Value)} {st : List Value} {σ : zM} {x : Int32} (pc' : Nat) (hM : M.1.cls = RX10) (hd : decode M.2.1 pc = .ok (.putfield 138, 3)) (hp : pc + 3 = pc') (k : At E M d Q pc' ls st (si σ 102 13 x)) : At E M d Q pc ls (.int x :: zr E 102 :: st) σ := z_putf pc' (si σ 102 13 x) tyX10 tyX10_ok nmX10 hd hp (a := 102) (ci := 10) rfl (by decide) rfl iX10 (j := 13) (by decide) (by rw [hM]; exact fX10_138) rfl rfl (tyX10_ok 13 (by decide)) rfl rfl (by simp [zO]) (zh_si σ _ _ _) (by simp [zO, si, zu]) k
theorem gX10_141 {E : zE} {M : zY} {d : Nat} {Q : Option Value → zM → Prop} {pc : Nat} {ls : List (Option Value)} {st : List Value} {σ : zM} (pc' : Nat) (hM : M.1.cls = RX10) (hd : decode M.2.1 pc = .ok (.getfield 141, 3)) (hp : pc + 3 = pc') (k : At E M d Q pc' ls (.int (gi σ 102 35) :: st) σ) : At E M d Q pc ls (zr E 102 :: st) σ := z_getf pc' hd hp (a := 102) (ci := 10) rfl (by decide) rfl iX10 (j := 35) (by decide) (by rw [hM]; exact fX10_141) rfl rfl k
theorem pX10_141 {E : zE} {M : zY} {d : Nat} {Q : Option Value → zM → Prop} {pc : Nat} {ls : List (Option Value)} {st : List Value} {σ : zM} {x : Int32} (pc' : Nat) (hM : M.1.cls = RX10) (hd : decode M.2.1 pc = .ok (.putfield 141, 3)) (hp : pc + 3 = pc') (k : At E M d Q pc' ls st (si σ 102 35 x)) : At E M d Q pc ls (.int x :: zr E 102 :: st) σ := z_putf pc' (si σ 102 35 x) tyX10 tyX10_ok nmX10 hd hp (a := 102) (ci := 10) rfl (by decide) rfl iX10 (j := 35) (by decide) (by rw [hM]; exact fX10_141) rfl rfl (tyX10_ok 35 (by decide)) rfl rfl (by simp [zO]) (zh_si σ _ _ _) (by simp [zO, si, zu]) k
theorem gX10_171 {E : zE} {M : zY} {d : Nat} {Q : Option Value → zM → Prop} {pc : Nat} {ls : List (Option Value)} {st : List Value} {σ : zM} (pc' : Nat) (hM : M.1.cls = RX10) (hd : decode M.2.1 pc = .ok (.getfield 171, 3)) (hp : pc + 3 = pc') (k : At E M d Q pc' ls (.int (gi σ 102 16) :: st) σ) : At E M d Q pc ls (zr E 102 :: st) σ := z_getf pc' hd hp (a := 102) (ci := 10) rfl (by decide) rfl iX10 (j := 16) (by decide) (by rw [hM]; exact fX10_171) rfl rfl k
theorem pX10_171 {E : zE} {M : zY} {d : Nat} {Q : Option Value → zM → Prop} {pc : Nat} {ls : List (Option Value)} {st : List Value} {σ : zM} {x : Int32} (pc' : Nat) (hM : M.1.cls = RX10) (hd : decode M.2.1 pc = .ok (.putfield 171, 3)) (hp : pc + 3 = pc') (k : At E M d Q pc' ls st (si σ 102 16 x)) : At E M d Q pc ls (.int x :: zr E 102 :: st) σ := z_putf pc' (si σ 102 16 x) tyX10 tyX10_ok nmX10 hd hp (a := 102) (ci := 10) rfl (by decide) rfl iX10 (j := 16) (by decide) (by rw [hM]; exact fX10_171) rfl rfl (tyX10_ok 16 (by decide)) rfl rfl (by simp [zO]) (zh_si σ _ _ _) (by simp [zO, si, zu]) k
theorem gX10_178 {E : zE} {M : zY} {d : Nat} {Q : Option Value → zM → Prop} {pc : Nat} {ls : List (Option Value)} {st : List Value} {σ : zM} (pc' : Nat) (hM : M.1.cls = RX10) (hd : decode M.2.1 pc = .ok (.getfield 178, 3)) (hp : pc + 3 = pc') (k : At E M d Q pc' ls (.int (gi σ 102 18) :: st) σ) : At E M d Q pc ls (zr E 102 :: st) σ := z_getf pc' hd hp (a := 102) (ci := 10) rfl (by decide) rfl iX10 (j := 18) (by decide) (by rw [hM]; exact fX10_178) rfl rfl k
theorem pX10_178 {E : zE} {M : zY} {d : Nat} {Q : Option Value → zM → Prop} {pc : Nat} {ls : List (Option Value)} {st : List Value} {σ : zM} {x : Int32} (pc' : Nat) (hM : M.1.cls = RX10) (hd : decode M.2.1 pc = .ok (.putfield 178, 3)) (hp : pc + 3 = pc') (k : At E M d Q pc' ls st (si σ 102 18 x)) : At E M d Q pc ls (.int x :: zr E 102 :: st) σ := z_putf pc' (si σ 102 18 x) tyX10 tyX10_ok nmX10 hd hp (a := 102) (ci := 10) rfl (by decide) rfl iX10 (j := 18) (by decide) (by rw [hM]; exact fX10_178) rfl rfl (tyX10_ok 18 (by decide)) rfl rfl (by simp [zO]) (zh_si σ _ _ _) (by simp [zO, si, zu]) k
theorem gX10_227 {E : zE} {M : zY} {d : Nat} {Q : Option Value → zM → Prop} {pc : Nat} {ls : List (Option Value)} {st : List Value} {σ : zM} (pc' : Nat) (hM : M.1.cls = RX10) (hd : decode M.2.1 pc = .ok (.getfield 227, 3)) (hp : pc + 3 = pc') (k : At E M d Q pc' ls (.int (gi σ 102 22) :: st) σ) : At E M d Q pc ls (zr E 102 :: st) σ := z_getf pc' hd hp (a := 102) (ci := 10) rfl (by decide) rfl iX10 (j := 22) (by decide) (by rw [hM]; exact fX10_227) rfl rfl k
theorem pX10_227 {E : zE} {M : zY} {d : Nat} {Q : Option Value → zM → Prop} {pc : Nat} {ls : List (Option Value)} {st : List Value} {σ : zM} {x : Int32} (pc' : Nat) (hM : M.1.cls = RX10) (hd : decode M.2.1 pc = .ok (.putfield 227, 3)) (hp : pc + 3 = pc') (k : At E M d Q pc' ls st (si σ 102 22 x)) : At E M d Q pc ls (.int x :: zr E 102 :: st) σ := z_putf pc' (si σ 102 22 x) tyX10 tyX10_ok nmX10 hd hp (a := 102) (ci := 10) rfl (by decide) rfl iX10 (j := 22) (by decide) (by rw [hM]; exact fX10_227) rfl rfl (tyX10_ok 22 (by decide)) rfl rfl (by simp [zO]) (zh_si σ _ _ _) (by simp [zO, si, zu]) k
theorem gX10_261 {E : zE} {M : zY} {d : Nat} {Q : Option Value → zM → Prop} {pc : Nat} {ls : List (Option Value)} {st : List Value} {σ : zM} (pc' : Nat) (hM : M.1.cls = RX10) (hd : decode M.2.1 pc = .ok (.getfield 261, 3)) (hp : pc + 3 = pc') (k : At E M d Q pc' ls (.int (gi σ 102 26) :: st) σ) : At E M d Q pc ls (zr E 102 :: st) σ := z_getf pc' hd hp (a := 102) (ci := 10) rfl (by decide) rfl iX10 (j := 26) (by decide) (by rw [hM]; exact fX10_261) rfl rfl k
theorem pX10_261 {E : zE} {M : zY} {d : Nat} {Q : Option Value → zM → Prop} {pc : Nat} {ls : List (Option Value)} {st : List Value} {σ : zM} {x : Int32} (pc' : Nat) (hM : M.1.cls = RX10) (hd : decode M.2.1 pc = .ok (.putfield 261, 3)) (hp : pc + 3 = pc') (k : At E M d Q pc' ls st (si σ 102 26 x)) : At E M d Q pc ls (.int x :: zr E 102 :: st) σ := z_putf pc' (si σ 102 26 x) tyX10 tyX10_ok nmX10 hd hp (a := 102) (ci := 10) rfl (by decide) rfl iX10 (j := 26) (by decide) (by rw [hM]; exact fX10_261) rfl rfl (tyX10_ok 26 (by decide)) rfl rfl (by simp [zO]) (zh_si σ _ _ _) (by simp [zO, si, zu]) k
theorem gX10_270 {E : zE} {M : zY} {d : Nat} {Q : Option Value → zM → Prop} {pc : Nat} {ls : List (Option Value)} {st : List Value} {σ : zM} (pc' : Nat) (hM : M.1.cls = RX10) (hd : decode M.2.1 pc = .ok (.getfield 270, 3)) (hp : pc + 3 = pc') (k : At E M d Q pc' ls (.long (gl σ 102 29) :: st) σ) : At E M d Q pc ls (zr E 102 :: st) σ := z_getf pc' hd hp (a := 102) (ci := 10) rfl (by decide) rfl iX10 (j := 29) (by decide) (by rw [hM]; exact fX10_270) rfl rfl k
theorem pX10_270 {E : zE} {M : zY} {d : Nat} {Q : Option Value → zM → Prop} {pc : Nat} {ls : List (Option Value)} {st : List Value} {σ : zM} {x : Int64} (pc' : Nat) (hM : M.1.cls = RX10) (hd : decode M.2.1 pc = .ok (.putfield 270, 3)) (hp : pc + 3 = pc') (k : At E M d Q pc' ls st (sl σ 102 29 x)) : At E M d Q pc ls (.long x :: zr E 102 :: st) σ := z_putf pc' (sl σ 102 29 x) tyX10 tyX10_ok nmX10 hd hp (a := 102) (ci := 10) rfl (by decide) rfl iX10 (j := 29) (by decide) (by rw [hM]; exact fX10_270) rfl rfl (tyX10_ok 29 (by decide)) rfl rfl (by simp [zO]) (zh_sl σ _ _ _) (by simp [zO, sl, zu]) k
theorem gX10_273 {E : zE} {M : zY} {d : Nat} {Q : Option Value → zM → Prop} {pc : Nat} {ls : List (Option Value)} {st : List Value} {σ : zM} (pc' : Nat) (hM : M.1.cls = RX10) (hd : decode M.2.1 pc = .ok (.getfield 273, 3)) (hp : pc + 3 = pc') (k : At E M d Q pc' ls (.int (gi σ 102 30) :: st) σ) : At E M d Q pc ls (zr E 102 :: st) σ := z_getf pc' hd hp (a := 102) (ci := 10) rfl (by decide) rfl iX10 (j := 30) (by decide) (by rw [hM]; exact fX10_273) rfl rfl k
theorem pX10_273 {E : zE} {M : zY} {d : Nat} {Q : Option Value → zM → Prop} {pc : Nat} {ls : List (Option Value)} {st : List Value} {σ : zM} {x : Int32} (pc' : Nat) (hM : M.1.cls = RX10) (hd : decode M.2.1 pc = .ok (.putfield 273, 3)) (hp : pc + 3 = pc') (k : At E M d Q pc' ls st (si σ 102 30 x)) : At E M d Q pc ls (.int x :: zr E 102 :: st) σ := z_putf pc' (si σ 102 30 x) tyX10 tyX10_ok nmX10 hd hp (a := 102) (ci := 10) rfl (by decide) rfl iX10 (j := 30) (by decide) (by rw [hM]; exact fX10_273) rfl rfl (tyX10_ok 30 (by decide)) rfl rfl (by simp [zO]) (zh_si σ _ _ _) (by simp [zO, si, zu]) k
theorem gX10_279 {E : zE} {M : zY} {d : Nat} {Q : Option Value → zM → Prop} {pc : Nat} {ls : List (Option Value)} {st : List Value} {σ : zM} (pc' : Nat) (hM : M.1.cls = RX10) (hd : decode M.2.1 pc = .ok (.getfield 279, 3)) (hp : pc + 3 = pc') (k : At E M d Q pc' ls (.int (gi σ 102 31) :: st) σ) : At E M d Q pc ls (zr E 102 :: st) σ := z_getf pc' hd hp (a := 102) (ci := 10) rfl (by decide) rfl iX10 (j := 31) (by decide) (by rw [hM]; exact fX10_279) rfl rfl k
theorem pX10_279 {E : zE} {M : zY} {d : Nat} {Q : Option Value → zM → Prop} {pc : Nat} {ls : List (Option Value)} {st : List Value} {σ : zM} {x : Int32} (pc' : Nat) (hM : M.1.cls = RX10) (hd : decode M.2.1 pc = .ok (.putfield 279, 3)) (hp : pc + 3 = pc') (k : At E M d Q pc' ls st (si σ 102 31 x)) : At E M d Q pc ls (.int x :: zr E 102 :: st) σ := z_putf pc' (si σ 102 31 x) tyX10 tyX10_ok nmX10 hd hp (a := 102) (ci := 10) rfl (by decide) rfl iX10 (j := 31) (by decide) (by rw [hM]; exact fX10_279) rfl rfl (tyX10_ok 31 (by decide)) rfl rfl (by simp [zO]) (zh_si σ _ _ _) (by simp [zO, si, zu]) k
theorem gX10_291 {E : zE} {M : zY} {d : Nat} {Q : Option Value → zM → Prop} {pc : Nat} {ls : List (Option Value)} {st : List Value} {σ : zM} (pc' : Nat) (hM : M.1.cls = RX10) (hd : decode M.2.1 pc = .ok (.getfield 291, 3)) (hp : pc + 3 = pc') (k : At E M d Q pc' ls (.int (gi σ 102 34) :: st) σ) : At E M d Q pc ls (zr E 102 :: st) σ := z_getf pc' hd hp (a := 102) (ci := 10) rfl (by decide) rfl iX10 (j := 34) (by decide) (by rw [hM]; exact fX10_291) rfl rfl k
theorem pX10_291 {E : zE} {M : zY} {d : Nat} {Q : Option Value → zM → Prop} {pc : Nat} {ls : List (Option Value)} {st : List Value} {σ : zM} {x : Int32} (pc' : Nat) (hM : M.1.cls = RX10) (hd : decode M.2.1 pc = .ok (.putfield 291, 3)) (hp : pc + 3 = pc') (k : At E M d Q pc' ls st (si σ 102 34 x)) : At E M d Q pc ls (.int x :: zr E 102 :: st) σ := z_putf pc' (si σ 102 34 x) tyX10 tyX10_ok nmX10 hd hp (a := 102) (ci := 10) rfl (by decide) rfl iX10 (j := 34) (by decide) (by rw [hM]; exact fX10_291) rfl rfl (tyX10_ok 34 (by decide)) rfl rfl (by simp [zO]) (zh_si σ _ _ _) (by simp [zO, si, zu]) k
theorem gX10_319 {E : zE} {M : zY} {d : Nat} {Q : Option Value → zM → Prop} {pc : Nat} {ls : List (Option Value)} {st : List Value} {σ : zM} (pc' : Nat) (hM : M.1.cls = RX10) (hd : decode M.2.1 pc = .ok (.getfield 319, 3)) (hp : pc + 3 = pc') (k : At E M d Q pc' ls (.int (gi σ 102 37) :: st) σ) : At E M d Q pc ls (zr E 102 :: st) σ := z_getf pc' hd hp (a := 102) (ci := 10) rfl (by decide) rfl iX10 (j := 37) (by decide) (by rw [hM]; exact fX10_319) rfl rfl k
theorem pX10_319 {E : zE} {M : zY} {d : Nat} {Q : Option Value → zM → Prop} {pc : Nat} {ls : List (Option Value)} {st : List Value} {σ : zM} {x : Int32} (pc' : Nat) (hM : M.1.cls = RX10) (hd : decode M.2.1 pc = .ok (.putfield 319, 3)) (hp : pc + 3 = pc') (k : At E M d Q pc' ls st (si σ 102 37 x)) : At E M d Q pc ls (.int x :: zr E 102 :: st) σ := z_putf pc' (si σ 102 37 x) tyX10 tyX10_ok nmX10 hd hp (a := 102) (ci := 10) rfl (by decide) rfl iX10 (j := 37) (by decide) (by rw [hM]; exact fX10_319) rfl rfl (tyX10_ok 37 (by decide)) rfl rfl (by simp [zO]) (zh_si σ _ _ _) (by simp [zO, si, zu]) k
theorem gX10_337 {E : zE} {M : zY} {d : Nat} {Q : Option Value → zM → Prop} {pc : Nat} {ls : List (Option Value)} {st : List Value} {σ : zM} (pc' : Nat) (hM : M.1.cls = RX10) (hd : decode M.2.1 pc = .ok (.getfield 337, 3)) (hp : pc + 3 = pc') (k : At E M d Q pc' ls (.long (gl σ 102 38) :: st) σ) : At E M d Q pc ls (zr E 102 :: st) σ := z_getf pc' hd hp (a := 102) (ci := 10) rfl (by decide) rfl iX10 (j := 38) (by decide) (by rw [hM]; exact fX10_337) rfl rfl k
theorem pX10_337 {E : zE} {M : zY} {d : Nat} {Q : Option Value → zM → Prop} {pc : Nat} {ls : List (Option Value)} {st : List Value} {σ : zM} {x : Int64} (pc' : Nat) (hM : M.1.cls = RX10) (hd : decode M.2.1 pc = .ok (.putfield 337, 3)) (hp : pc + 3 = pc') (k : At E M d Q pc' ls st (sl σ 102 38 x)) : At E M d Q pc ls (.long x :: zr E 102 :: st) σ := z_putf pc' (sl σ 102 38 x) tyX10 tyX10_ok nmX10 hd hp (a := 102) (ci := 10) rfl (by decide) rfl iX10 (j := 38) (by decide) (by rw [hM]; exact fX10_337) rfl rfl (tyX10_ok 38 (by decide)) rfl rfl (by simp [zO]) (zh_sl σ _ _ _) (by simp [zO, sl, zu]) k
theorem gX2_9 {E : zE} {M : zY} {d : Nat} {Q : Option Value → zM → Prop} {pc : Nat} {ls : List (Option Value)} {st : List Value} {σ : zM} {a : Nat} (pc' : Nat) (hM : M.1.cls = RX2) (hd : decode M.2.1 pc = .ok (.getfield 9, 3)) (hp : pc + 3 = pc') (hk : (kd a).1 = 2) (k : At E M d Q pc' ls (zr E (a + 1) :: st) σ) : At E M d Q pc ls (zr E a :: st) σ := z_getf pc' hd hp (a := a) (ci := 2) hk (by decide) rfl iX2 (j := 0) (by decide) (by rw [hM]; exact fX2_9) rfl rfl k
theorem gX2_15 {E : zE} {M : zY} {d : Nat} {Q : Option Value → zM → Prop} {pc : Nat} {ls : List (Option Value)} {st : List Value} {σ : zM} {a : Nat} (pc' : Nat) (hM : M.1.cls = RX2) (hd : decode M.2.1 pc = .ok (.getfield 15, 3)) (hp : pc + 3 = pc') (hk : (kd a).1 = 2) (k : At E M d Q pc' ls (.int (gi σ a 1) :: st) σ) : At E M d Q pc ls (zr E a :: st) σ := z_getf pc' hd hp (a := a) (ci := 2) hk (by decide) rfl iX2 (j := 1) (by decide) (by rw [hM]; exact fX2_15) rfl rfl k
theorem pX2_15 {E : zE} {M : zY} {d : Nat} {Q : Option Value → zM → Prop} {pc : Nat} {ls : List (Option Value)} {st : List Value} {σ : zM} {a : Nat} {x : Int32} (pc' : Nat) (hM : M.1.cls = RX2) (hd : decode M.2.1 pc = .ok (.putfield 15, 3)) (hp : pc + 3 = pc') (hk : (kd a).1 = 2) (k : At E M d Q pc' ls st (si σ a 1 x)) : At E M d Q pc ls (.int x :: zr E a :: st) σ := z_putf pc' (si σ a 1 x) tyX2 tyX2_ok nmX2 hd hp (a := a) (ci := 2) hk (by decide) rfl iX2 (j := 1) (by decide) (by rw [hM]; exact fX2_15) rfl rfl (tyX2_ok 1 (by decide)) rfl rfl (by simp [zO]) (zh_si σ _ _ _) (by simp [zO, si, zu]) k
theorem gX2_19 {E : zE} {M : zY} {d : Nat} {Q : Option Value → zM → Prop} {pc : Nat} {ls : List (Option Value)} {st : List Value} {σ : zM} {a : Nat} (pc' : Nat) (hM : M.1.cls = RX2) (hd : decode M.2.1 pc = .ok (.getfield 19, 3)) (hp : pc + 3 = pc') (hk : (kd a).1 = 7) (k : At E M d Q pc' ls (.int (gi σ a 1) :: st) σ) : At E M d Q pc ls (zr E a :: st) σ := z_getfN pc' hd hp (a := a) (ci := 7) hk (by decide) rfl iX7 (j := 1) (by decide) (by rw [hM]; exact fX2_19) rfl rfl k
theorem gX2_36 {E : zE} {M : zY} {d : Nat} {Q : Option Value → zM → Prop} {pc : Nat} {ls : List (Option Value)} {st : List Value} {σ : zM} {a : Nat} (pc' : Nat) (hM : M.1.cls = RX2) (hd : decode M.2.1 pc = .ok (.getfield 36, 3)) (hp : pc + 3 = pc') (hk : (kd a).1 = 4) (k : At E M d Q pc' ls (zr E (gr σ a 5) :: st) σ) : At E M d Q pc ls (zr E a :: st) σ := z_getfN pc' hd hp (a := a) (ci := 4) hk (by decide) rfl iX4 (j := 5) (by decide) (by rw [hM]; exact fX2_36) rfl rfl k
theorem gX3_10 {E : zE} {M : zY} {d : Nat} {Q : Option Value → zM → Prop} {pc : Nat} {ls : List (Option Value)} {st : List Value} {σ : zM} {a : Nat} (pc' : Nat) (hM : M.1.cls = RX3) (hd : decode M.2.1 pc = .ok (.getfield 10, 3)) (hp : pc + 3 = pc') (hk : (kd a).1 = 3) (k : At E M d Q pc' ls (zr E (a + 1) :: st) σ) : At E M d Q pc ls (zr E a :: st) σ := z_getf pc' hd hp (a := a) (ci := 3) hk (by decide) rfl iX3 (j := 0) (by decide) (by rw [hM]; exact fX3_10) rfl rfl k
theorem gX3_16 {E : zE} {M : zY} {d : Nat} {Q : Option Value → zM → Prop} {pc : Nat} {ls : List (Option Value)} {st : List Value} {σ : zM} {a : Nat} (pc' : Nat) (hM : M.1.cls = RX3) (hd : decode M.2.1 pc = .ok (.getfield 16, 3)) (hp : pc + 3 = pc') (hk : (kd a).1 = 3) (k : At E M d Q pc' ls (.int (gi σ a 1) :: st) σ) : At E M d Q pc ls (zr E a :: st) σ := z_getf pc' hd hp (a := a) (ci := 3) hk (by decide) rfl iX3 (j := 1) (by decide) (by rw [hM]; exact fX3_16) rfl rfl k
theorem pX3_16 {E : zE} {M : zY} {d : Nat} {Q : Option Value → zM → Prop} {pc : Nat} {ls : List (Option Value)} {st : List Value} {σ : zM} {a : Nat} {x : Int32} (pc' : Nat) (hM : M.1.cls = RX3) (hd : decode M.2.1 pc = .ok (.putfield 16, 3)) (hp : pc + 3 = pc') (hk : (kd a).1 = 3) (hx : x = 0 ∨ x = 1) (k : At E M d Q pc' ls st (si σ a 1 x)) : At E M d Q pc ls (.int x :: zr E a :: st) σ := z_putf pc' (si σ a 1 x) tyX3 tyX3_ok nmX3 hd hp (a := a) (ci := 3) hk (by decide) rfl iX3 (j := 1) (by decide) (by rw [hM]; exact fX3_16) rfl rfl (tyX3_ok 1 (by decide)) (by rcases hx with rfl | rfl <;> rfl) (by rcases hx with rfl | rfl <;> rfl) (by simp [zO]) (zh_si σ _ _ _) (by simp [zO, si, zu]) k
theorem gX3_20 {E : zE} {M : zY} {d : Nat} {Q : Option Value → zM → Prop} {pc : Nat} {ls : List (Option Value)} {st : List Value} {σ : zM} {a : Nat} (pc' : Nat) (hM : M.1.cls = RX3) (hd : decode M.2.1 pc = .ok (.getfield 20, 3)) (hp : pc + 3 = pc') (hk : (kd a).1 = 3) (k : At E M d Q pc' ls (.int (gi σ a 2) :: st) σ) : At E M d Q pc ls (zr E a :: st) σ := z_getf pc' hd hp (a := a) (ci := 3) hk (by decide) rfl iX3 (j := 2) (by decide) (by rw [hM]; exact fX3_20) rfl rfl k
theorem pX3_20 {E : zE} {M : zY} {d : Nat} {Q : Option Value → zM → Prop} {pc : Nat} {ls : List (Option Value)} {st : List Value} {σ : zM} {a : Nat} {x : Int32} (pc' : Nat) (hM : M.1.cls = RX3) (hd : decode M.2.1 pc = .ok (.putfield 20, 3)) (hp : pc + 3 = pc') (hk : (kd a).1 = 3) (k : At E M d Q pc' ls st (si σ a 2 x)) : At E M d Q pc ls (.int x :: zr E a :: st) σ := z_putf pc' (si σ a 2 x) tyX3 tyX3_ok nmX3 hd hp (a := a) (ci := 3) hk (by decide) rfl iX3 (j := 2) (by decide) (by rw [hM]; exact fX3_20) rfl rfl (tyX3_ok 2 (by decide)) rfl rfl (by simp [zO]) (zh_si σ _ _ _) (by simp [zO, si, zu]) k
theorem gX3_24 {E : zE} {M : zY} {d : Nat} {Q : Option Value → zM → Prop} {pc : Nat} {ls : List (Option Value)} {st : List Value} {σ : zM} {a : Nat} (pc' : Nat) (hM : M.1.cls = RX3) (hd : decode M.2.1 pc = .ok (.getfield 24, 3)) (hp : pc + 3 = pc') (hk : (kd a).1 = 3) (k : At E M d Q pc' ls (.int (gi σ a 3) :: st) σ) : At E M d Q pc ls (zr E a :: st) σ := z_getf pc' hd hp (a := a) (ci := 3) hk (by decide) rfl iX3 (j := 3) (by decide) (by rw [hM]; exact fX3_24) rfl rfl k
theorem pX3_24 {E : zE} {M : zY} {d : Nat} {Q : Option Value → zM → Prop} {pc : Nat} {ls : List (Option Value)} {st : List Value} {σ : zM} {a : Nat} {x : Int32} (pc' : Nat) (hM : M.1.cls = RX3) (hd : decode M.2.1 pc = .ok (.putfield 24, 3)) (hp : pc + 3 = pc') (hk : (kd a).1 = 3) (k : At E M d Q pc' ls st (si σ a 3 x)) : At E M d Q pc ls (.int x :: zr E a :: st) σ := z_putf pc' (si σ a 3 x) tyX3 tyX3_ok nmX3 hd hp (a := a) (ci := 3) hk (by decide) rfl iX3 (j := 3) (by decide) (by rw [hM]; exact fX3_24) rfl rfl (tyX3_ok 3 (by decide)) rfl rfl (by simp [zO]) (zh_si σ _ _ _) (by simp [zO, si, zu]) k
theorem gX3_35 {E : zE} {M : zY} {d : Nat} {Q : Option Value → zM → Prop} {pc : Nat} {ls : List (Option Value)} {st : List Value} {σ : zM} {a : Nat} (pc' : Nat) (hM : M.1.cls = RX3) (hd : decode M.2.1 pc = .ok (.getfield 35, 3)) (hp : pc + 3 = pc') (hk : (kd a).1 = 3) (k : At E M d Q pc' ls (.int (gi σ a 4) :: st) σ) : At E M d Q pc ls (zr E a :: st) σ := z_getf pc' hd hp (a := a) (ci := 3) hk (by decide) rfl iX3 (j := 4) (by decide) (by rw [hM]; exact fX3_35) rfl rfl k
theorem pX3_35 {E : zE} {M : zY} {d : Nat} {Q : Option Value → zM → Prop} {pc : Nat} {ls : List (Option Value)} {st : List Value} {σ : zM} {a : Nat} {x : Int32} (pc' : Nat) (hM : M.1.cls = RX3) (hd : decode M.2.1 pc = .ok (.putfield 35, 3)) (hp : pc + 3 = pc') (hk : (kd a).1 = 3) (k : At E M d Q pc' ls st (si σ a 4 x)) : At E M d Q pc ls (.int x :: zr E a :: st) σ := z_putf pc' (si σ a 4 x) tyX3 tyX3_ok nmX3 hd hp (a := a) (ci := 3) hk (by decide) rfl iX3 (j := 4) (by decide) (by rw [hM]; exact fX3_35) rfl rfl (tyX3_ok 4 (by decide)) rfl rfl (by simp [zO]) (zh_si σ _ _ _) (by simp [zO, si, zu]) k
theorem gX3_37 {E : zE} {M : zY} {d : Nat} {Q : Option Value → zM → Prop} {pc : Nat} {ls : List (Option Value)} {st : List Value} {σ : zM} {a : Nat} (pc' : Nat) (hM : M.1.cls = RX3) (hd : decode M.2.1 pc = .ok (.getfield 37, 3)) (hp : pc + 3 = pc') (hk : (kd a).1 = 3) (k : At E M d Q pc' ls (.int (gi σ a 5) :: st) σ) : At E M d Q pc ls (zr E a :: st) σ := z_getf pc' hd hp (a := a) (ci := 3) hk (by decide) rfl iX3 (j := 5) (by decide) (by rw [hM]; exact fX3_37) rfl rfl k
theorem pX3_37 {E : zE} {M : zY} {d : Nat} {Q : Option Value → zM → Prop} {pc : Nat} {ls : List (Option Value)} {st : List Value} {σ : zM} {a : Nat} {x : Int32} (pc' : Nat) (hM : M.1.cls = RX3) (hd : decode M.2.1 pc = .ok (.putfield 37, 3)) (hp : pc + 3 = pc') (hk : (kd a).1 = 3) (k : At E M d Q pc' ls st (si σ a 5 x)) : At E M d Q pc ls (.int x :: zr E a :: st) σ := z_putf pc' (si σ a 5 x) tyX3 tyX3_ok nmX3 hd hp (a := a) (ci := 3) hk (by decide) rfl iX3 (j := 5) (by decide) (by rw [hM]; exact fX3_37) rfl rfl (tyX3_ok 5 (by decide)) rfl rfl (by simp [zO]) (zh_si σ _ _ _) (by simp [zO, si, zu]) k
theorem gX4_15 {E : zE} {M : zY} {d : Nat} {Q : Option Value → zM → Prop} {pc : Nat} {ls : List (Option Value)} {st : List Value} {σ : zM} {a : Nat} (pc' : Nat) (hM : M.1.cls = RX4) (hd : decode M.2.1 pc = .ok (.getfield 15, 3)) (hp : pc + 3 = pc') (hk : (kd a).1 = 4) (k : At E M d Q pc' ls (zr E (gr σ a 5) :: st) σ) : At E M d Q pc ls (zr E a :: st) σ := z_getf pc' hd hp (a := a) (ci := 4) hk (by decide) rfl iX4 (j := 5) (by decide) (by rw [hM]; exact fX4_15) rfl rfl k
theorem pX4_15 {E : zE} {M : zY} {d : Nat} {Q : Option Value → zM → Prop} {pc : Nat} {ls : List (Option Value)} {st : List Value} {σ : zM} {a : Nat} {x : Nat} (pc' : Nat) (hM : M.1.cls = RX4) (hd : decode M.2.1 pc = .ok (.putfield 15, 3)) (hp : pc + 3 = pc') (hk : (kd a).1 = 4) (k : At E M d Q pc' ls st (sr σ a 5 x)) : At E M d Q pc ls (zr E x :: zr E a :: st) σ := z_putf pc' (sr σ a 5 x) tyX4 tyX4_ok nmX4 hd hp (a := a) (ci := 4) hk (by decide) rfl iX4 (j := 5) (by decide) (by rw [hM]; exact fX4_15) rfl rfl (tyX4_ok 5 (by decide)) rfl rfl (by simp [zO]) (zh_sr σ _ _ _) (by simp [zO, sr, zu]) k
theorem gX4_19 {E : zE} {M : zY} {d : Nat} {Q : Option Value → zM → Prop} {pc : Nat} {ls : List (Option Value)} {st : List Value} {σ : zM} {a : Nat} (pc' : Nat) (hM : M.1.cls = RX4) (hd : decode M.2.1 pc = .ok (.getfield 19, 3)) (hp : pc + 3 = pc') (hk : (kd a).1 = 4) (k : At E M d Q pc' ls (.int (gi σ a 1) :: st) σ) : At E M d Q pc ls (zr E a :: st) σ := z_getf pc' hd hp (a := a) (ci := 4) hk (by decide) rfl iX4 (j := 1) (by decide) (by rw [hM]; exact fX4_19) rfl rfl k
theorem pX4_19 {E : zE} {M : zY} {d : Nat} {Q : Option Value → zM → Prop} {pc : Nat} {ls : List (Option Value)} {st : List Value} {σ : zM} {a : Nat} {x : Int32} (pc' : Nat) (hM : M.1.cls = RX4) (hd : decode M.2.1 pc = .ok (.putfield 19, 3)) (hp : pc + 3 = pc') (hk : (kd a).1 = 4) (k : At E M d Q pc' ls st (si σ a 1 x)) : At E M d Q pc ls (.int x :: zr E a :: st) σ := z_putf pc' (si σ a 1 x) tyX4 tyX4_ok nmX4 hd hp (a := a) (ci := 4) hk (by decide) rfl iX4 (j := 1) (by decide) (by rw [hM]; exact fX4_19) rfl rfl (tyX4_ok 1 (by decide)) rfl rfl (by simp [zO]) (zh_si σ _ _ _) (by simp [zO, si, zu]) k
theorem gX4_23 {E : zE} {M : zY} {d : Nat} {Q : Option Value → zM → Prop} {pc : Nat} {ls : List (Option Value)} {st : List Value} {σ : zM} {a : Nat} (pc' : Nat) (hM : M.1.cls = RX4) (hd : decode M.2.1 pc = .ok (.getfield 23, 3)) (hp : pc + 3 = pc') (hk : (kd a).1 = 4) (k : At E M d Q pc' ls (.int (gi σ a 2) :: st) σ) : At E M d Q pc ls (zr E a :: st) σ := z_getf pc' hd hp (a := a) (ci := 4) hk (by decide) rfl iX4 (j := 2) (by decide) (by rw [hM]; exact fX4_23) rfl rfl k
theorem pX4_23 {E : zE} {M : zY} {d : Nat} {Q : Option Value → zM → Prop} {pc : Nat} {ls : List (Option Value)} {st : List Value} {σ : zM} {a : Nat} {x : Int32} (pc' : Nat) (hM : M.1.cls = RX4) (hd : decode M.2.1 pc = .ok (.putfield 23, 3)) (hp : pc + 3 = pc') (hk : (kd a).1 = 4) (k : At E M d Q pc' ls st (si σ a 2 x)) : At E M d Q pc ls (.int x :: zr E a :: st) σ := z_putf pc' (si σ a 2 x) tyX4 tyX4_ok nmX4 hd hp (a := a) (ci := 4) hk (by decide) rfl iX4 (j := 2) (by decide) (by rw [hM]; exact fX4_23) rfl rfl (tyX4_ok 2 (by decide)) rfl rfl (by simp [zO]) (zh_si σ _ _ _) (by simp [zO, si, zu]) k
theorem gX4_26 {E : zE} {M : zY} {d : Nat} {Q : Option Value → zM → Prop} {pc : Nat} {ls : List (Option Value)} {st : List Value} {σ : zM} {a : Nat} (pc' : Nat) (hM : M.1.cls = RX4) (hd : decode M.2.1 pc = .ok (.getfield 26, 3)) (hp : pc + 3 = pc') (hk : (kd a).1 = 4) (k : At E M d Q pc' ls (.int (gi σ a 3) :: st) σ) : At E M d Q pc ls (zr E a :: st) σ := z_getf pc' hd hp (a := a) (ci := 4) hk (by decide) rfl iX4 (j := 3) (by decide) (by rw [hM]; exact fX4_26) rfl rfl k
theorem pX4_26 {E : zE} {M : zY} {d : Nat} {Q : Option Value → zM → Prop} {pc : Nat} {ls : List (Option Value)} {st : List Value} {σ : zM} {a : Nat} {x : Int32} (pc' : Nat) (hM : M.1.cls = RX4) (hd : decode M.2.1 pc = .ok (.putfield 26, 3)) (hp : pc + 3 = pc') (hk : (kd a).1 = 4) (k : At E M d Q pc' ls st (si σ a 3 x)) : At E M d Q pc ls (.int x :: zr E a :: st) σ := z_putf pc' (si σ a 3 x) tyX4 tyX4_ok nmX4 hd hp (a := a) (ci := 4) hk (by decide) rfl iX4 (j := 3) (by decide) (by rw [hM]; exact fX4_26) rfl rfl (tyX4_ok 3 (by decide)) rfl rfl (by simp [zO]) (zh_si σ _ _ _) (by simp [zO, si, zu]) k
theorem gX4_29 {E : zE} {M : zY} {d : Nat} {Q : Option Value → zM → Prop} {pc : Nat} {ls : List (Option Value)} {st : List Value} {σ : zM} {a : Nat} (pc' : Nat) (hM : M.1.cls = RX4) (hd : decode M.2.1 pc = .ok (.getfield 29, 3)) (hp : pc + 3 = pc') (hk : (kd a).1 = 4) (k : At E M d Q pc' ls (.int (gi σ a 4) :: st) σ) : At E M d Q pc ls (zr E a :: st) σ := z_getf pc' hd hp (a := a) (ci := 4) hk (by decide) rfl iX4 (j := 4) (by decide) (by rw [hM]; exact fX4_29) rfl rfl k
theorem pX4_29 {E : zE} {M : zY} {d : Nat} {Q : Option Value → zM → Prop} {pc : Nat} {ls : List (Option Value)} {st : List Value} {σ : zM} {a : Nat} {x : Int32} (pc' : Nat) (hM : M.1.cls = RX4) (hd : decode M.2.1 pc = .ok (.putfield 29, 3)) (hp : pc + 3 = pc') (hk : (kd a).1 = 4) (k : At E M d Q pc' ls st (si σ a 4 x)) : At E M d Q pc ls (.int x :: zr E a :: st) σ := z_putf pc' (si σ a 4 x) tyX4 tyX4_ok nmX4 hd hp (a := a) (ci := 4) hk (by decide) rfl iX4 (j := 4) (by decide) (by rw [hM]; exact fX4_29) rfl rfl (tyX4_ok 4 (by decide)) rfl rfl (by simp [zO]) (zh_si σ _ _ _) (by simp [zO, si, zu]) k
theorem gX5_9 {E : zE} {M : zY} {d : Nat} {Q : Option Value → zM → Prop} {pc : Nat} {ls : List (Option Value)} {st : List Value} {σ : zM} {a : Nat} (pc' : Nat) (hM : M.1.cls = RX5) (hd : decode M.2.1 pc = .ok (.getfield 9, 3)) (hp : pc + 3 = pc') (hk : (kd a).1 = 5) (k : At E M d Q pc' ls (zr E (a + 1) :: st) σ) : At E M d Q pc ls (zr E a :: st) σ := z_getf pc' hd hp (a := a) (ci := 5) hk (by decide) rfl iX5 (j := 0) (by decide) (by rw [hM]; exact fX5_9) rfl rfl k
theorem gX5_15 {E : zE} {M : zY} {d : Nat} {Q : Option Value → zM → Prop} {pc : Nat} {ls : List (Option Value)} {st : List Value} {σ : zM} {a : Nat} (pc' : Nat) (hM : M.1.cls = RX5) (hd : decode M.2.1 pc = .ok (.getfield 15, 3)) (hp : pc + 3 = pc') (hk : (kd a).1 = 5) (k : At E M d Q pc' ls (zr E (a + 2) :: st) σ) : At E M d Q pc ls (zr E a :: st) σ := z_getf pc' hd hp (a := a) (ci := 5) hk (by decide) rfl iX5 (j := 1) (by decide) (by rw [hM]; exact fX5_15) rfl rfl k
theorem gX5_18 {E : zE} {M : zY} {d : Nat} {Q : Option Value → zM → Prop} {pc : Nat} {ls : List (Option Value)} {st : List Value} {σ : zM} {a : Nat} (pc' : Nat) (hM : M.1.cls = RX5) (hd : decode M.2.1 pc = .ok (.getfield 18, 3)) (hp : pc + 3 = pc') (hk : (kd a).1 = 5) (k : At E M d Q pc' ls (zr E (a + 3) :: st) σ) : At E M d Q pc ls (zr E a :: st) σ := z_getf pc' hd hp (a := a) (ci := 5) hk (by decide) rfl iX5 (j := 2) (by decide) (by rw [hM]; exact fX5_18) rfl rfl k
theorem gX5_21 {E : zE} {M : zY} {d : Nat} {Q : Option Value → zM → Prop} {pc : Nat} {ls : List (Option Value)} {st : List Value} {σ : zM} {a : Nat} (pc' : Nat) (hM : M.1.cls = RX5) (hd : decode M.2.1 pc = .ok (.getfield 21, 3)) (hp : pc + 3 = pc') (hk : (kd a).1 = 5) (k : At E M d Q pc' ls (zr E (a + 4) :: st) σ) : At E M d Q pc ls (zr E a :: st) σ := z_getf pc' hd hp (a := a) (ci := 5) hk (by decide) rfl iX5 (j := 3) (by decide) (by rw [hM]; exact fX5_21) rfl rfl k
theorem gX5_25 {E : zE} {M : zY} {d : Nat} {Q : Option Value → zM → Prop} {pc : Nat} {ls : List (Option Value)} {st : List Value} {σ : zM} {a : Nat} (pc' : Nat) (hM : M.1.cls = RX5) (hd : decode M.2.1 pc = .ok (.getfield 25, 3)) (hp : pc + 3 = pc') (hk : (kd a).1 = 5) (k : At E M d Q pc' ls (zr E (a + 5) :: st) σ) : At E M d Q pc ls (zr E a :: st) σ := z_getf pc' hd hp (a := a) (ci := 5) hk (by decide) rfl iX5 (j := 4) (by decide) (by rw [hM]; exact fX5_25) rfl rfl k
theorem gX5_34 {E : zE} {M : zY} {d : Nat} {Q : Option Value → zM → Prop} {pc : Nat} {ls : List (Option Value)} {st : List Value} {σ : zM} {a : Nat} (pc' : Nat) (hM : M.1.cls = RX5) (hd : decode M.2.1 pc = .ok (.getfield 34, 3)) (hp : pc + 3 = pc') (hk : (kd a).1 = 5) (k : At E M d Q pc' ls (.int (gi σ a 6) :: st) σ) : At E M d Q pc ls (zr E a :: st) σ := z_getf pc' hd hp (a := a) (ci := 5) hk (by decide) rfl iX5 (j := 6) (by decide) (by rw [hM]; exact fX5_34) rfl rfl k
theorem pX5_34 {E : zE} {M : zY} {d : Nat} {Q : Option Value → zM → Prop} {pc : Nat} {ls : List (Option Value)} {st : List Value} {σ : zM} {a : Nat} {x : Int32} (pc' : Nat) (hM : M.1.cls = RX5) (hd : decode M.2.1 pc = .ok (.putfield 34, 3)) (hp : pc + 3 = pc') (hk : (kd a).1 = 5) (k : At E M d Q pc' ls st (si σ a 6 x)) : At E M d Q pc ls (.int x :: zr E a :: st) σ := z_putf pc' (si σ a 6 x) tyX5 tyX5_ok nmX5 hd hp (a := a) (ci := 5) hk (by decide) rfl iX5 (j := 6) (by decide) (by rw [hM]; exact fX5_34) rfl rfl (tyX5_ok 6 (by decide)) rfl rfl (by simp [zO]) (zh_si σ _ _ _) (by simp [zO, si, zu]) k
theorem gX5_38 {E : zE} {M : zY} {d : Nat} {Q : Option Value → zM → Prop} {pc : Nat} {ls : List (Option Value)} {st : List Value} {σ : zM} {a : Nat} (pc' : Nat) (hM : M.1.cls = RX5) (hd : decode M.2.1 pc = .ok (.getfield 38, 3)) (hp : pc + 3 = pc') (hk : (kd a).1 = 7) (k : At E M d Q pc' ls (.int (gi σ a 1) :: st) σ) : At E M d Q pc ls (zr E a :: st) σ := z_getfN pc' hd hp (a := a) (ci := 7) hk (by decide) rfl iX7 (j := 1) (by decide) (by rw [hM]; exact fX5_38) rfl rfl k
theorem gX5_43 {E : zE} {M : zY} {d : Nat} {Q : Option Value → zM → Prop} {pc : Nat} {ls : List (Option Value)} {st : List Value} {σ : zM} {a : Nat} (pc' : Nat) (hM : M.1.cls = RX5) (hd : decode M.2.1 pc = .ok (.getfield 43, 3)) (hp : pc + 3 = pc') (hk : (kd a).1 = 5) (k : At E M d Q pc' ls (.int (gi σ a 5) :: st) σ) : At E M d Q pc ls (zr E a :: st) σ := z_getf pc' hd hp (a := a) (ci := 5) hk (by decide) rfl iX5 (j := 5) (by decide) (by rw [hM]; exact fX5_43) rfl rfl k
theorem pX5_43 {E : zE} {M : zY} {d : Nat} {Q : Option Value → zM → Prop} {pc : Nat} {ls : List (Option Value)} {st : List Value} {σ : zM} {a : Nat} {x : Int32} (pc' : Nat) (hM : M.1.cls = RX5) (hd : decode M.2.1 pc = .ok (.putfield 43, 3)) (hp : pc + 3 = pc') (hk : (kd a).1 = 5) (k : At E M d Q pc' ls st (si σ a 5 x)) : At E M d Q pc ls (.int x :: zr E a :: st) σ := z_putf pc' (si σ a 5 x) tyX5 tyX5_ok nmX5 hd hp (a := a) (ci := 5) hk (by decide) rfl iX5 (j := 5) (by decide) (by rw [hM]; exact fX5_43) rfl rfl (tyX5_ok 5 (by decide)) rfl rfl (by simp [zO]) (zh_si σ _ _ _) (by simp [zO, si, zu]) k
theorem gX5_72 {E : zE} {M : zY} {d : Nat} {Q : Option Value → zM → Prop} {pc : Nat} {ls : List (Option Value)} {st : List Value} {σ : zM} {a : Nat} (pc' : Nat) (hM : M.1.cls = RX5) (hd : decode M.2.1 pc = .ok (.getfield 72, 3)) (hp : pc + 3 = pc') (hk : (kd a).1 = 5) (k : At E M d Q pc' ls (.long (gl σ a 7) :: st) σ) : At E M d Q pc ls (zr E a :: st) σ := z_getf pc' hd hp (a := a) (ci := 5) hk (by decide) rfl iX5 (j := 7) (by decide) (by rw [hM]; exact fX5_72) rfl rfl k
theorem pX5_72 {E : zE} {M : zY} {d : Nat} {Q : Option Value → zM → Prop} {pc : Nat} {ls : List (Option Value)} {st : List Value} {σ : zM} {a : Nat} {x : Int64} (pc' : Nat) (hM : M.1.cls = RX5) (hd : decode M.2.1 pc = .ok (.putfield 72, 3)) (hp : pc + 3 = pc') (hk : (kd a).1 = 5) (k : At E M d Q pc' ls st (sl σ a 7 x)) : At E M d Q pc ls (.long x :: zr E a :: st) σ := z_putf pc' (sl σ a 7 x) tyX5 tyX5_ok nmX5 hd hp (a := a) (ci := 5) hk (by decide) rfl iX5 (j := 7) (by decide) (by rw [hM]; exact fX5_72) rfl rfl (tyX5_ok 7 (by decide)) rfl rfl (by simp [zO]) (zh_sl σ _ _ _) (by simp [zO, sl, zu]) k
theorem gX6_9 {E : zE} {M : zY} {d : Nat} {Q : Option Value → zM → Prop} {pc : Nat} {ls : List (Option Value)} {st : List Value} {σ : zM} {a : Nat} (pc' : Nat) (hM : M.1.cls = RX6) (hd : decode M.2.1 pc = .ok (.getfield 9, 3)) (hp : pc + 3 = pc') (hk : (kd a).1 = 6) (k : At E M d Q pc' ls (zr E (a + 1) :: st) σ) : At E M d Q pc ls (zr E a :: st) σ := z_getf pc' hd hp (a := a) (ci := 6) hk (by decide) rfl iX6 (j := 0) (by decide) (by rw [hM]; exact fX6_9) rfl rfl k
theorem gX6_15 {E : zE} {M : zY} {d : Nat} {Q : Option Value → zM → Prop} {pc : Nat} {ls : List (Option Value)} {st : List Value} {σ : zM} {a : Nat} (pc' : Nat) (hM : M.1.cls = RX6) (hd : decode M.2.1 pc = .ok (.getfield 15, 3)) (hp : pc + 3 = pc') (hk : (kd a).1 = 6) (k : At E M d Q pc' ls (zr E (a + 2) :: st) σ) : At E M d Q pc ls (zr E a :: st) σ := z_getf pc' hd hp (a := a) (ci := 6) hk (by decide) rfl iX6 (j := 1) (by decide) (by rw [hM]; exact fX6_15) rfl rfl k
theorem gX6_18 {E : zE} {M : zY} {d : Nat} {Q : Option Value → zM → Prop} {pc : Nat} {ls : List (Option Value)} {st : List Value} {σ : zM} {a : Nat} (pc' : Nat) (hM : M.1.cls = RX6) (hd : decode M.2.1 pc = .ok (.getfield 18, 3)) (hp : pc + 3 = pc') (hk : (kd a).1 = 6) (k : At E M d Q pc' ls (.int (gi σ a 2) :: st) σ) : At E M d Q pc ls (zr E a :: st) σ := z_getf pc' hd hp (a := a) (ci := 6) hk (by decide) rfl iX6 (j := 2) (by decide) (by rw [hM]; exact fX6_18) rfl rfl k
theorem pX6_18 {E : zE} {M : zY} {d : Nat} {Q : Option Value → zM → Prop} {pc : Nat} {ls : List (Option Value)} {st : List Value} {σ : zM} {a : Nat} {x : Int32} (pc' : Nat) (hM : M.1.cls = RX6) (hd : decode M.2.1 pc = .ok (.putfield 18, 3)) (hp : pc + 3 = pc') (hk : (kd a).1 = 6) (k : At E M d Q pc' ls st (si σ a 2 x)) : At E M d Q pc ls (.int x :: zr E a :: st) σ := z_putf pc' (si σ a 2 x) tyX6 tyX6_ok nmX6 hd hp (a := a) (ci := 6) hk (by decide) rfl iX6 (j := 2) (by decide) (by rw [hM]; exact fX6_18) rfl rfl (tyX6_ok 2 (by decide)) rfl rfl (by simp [zO]) (zh_si σ _ _ _) (by simp [zO, si, zu]) k
theorem gX6_22 {E : zE} {M : zY} {d : Nat} {Q : Option Value → zM → Prop} {pc : Nat} {ls : List (Option Value)} {st : List Value} {σ : zM} {a : Nat} (pc' : Nat) (hM : M.1.cls = RX6) (hd : decode M.2.1 pc = .ok (.getfield 22, 3)) (hp : pc + 3 = pc') (hk : (kd a).1 = 4) (k : At E M d Q pc' ls (zr E (gr σ a 5) :: st) σ) : At E M d Q pc ls (zr E a :: st) σ := z_getfN pc' hd hp (a := a) (ci := 4) hk (by decide) rfl iX4 (j := 5) (by decide) (by rw [hM]; exact fX6_22) rfl rfl k
theorem gX6_28 {E : zE} {M : zY} {d : Nat} {Q : Option Value → zM → Prop} {pc : Nat} {ls : List (Option Value)} {st : List Value} {σ : zM} {a : Nat} (pc' : Nat) (hM : M.1.cls = RX6) (hd : decode M.2.1 pc = .ok (.getfield 28, 3)) (hp : pc + 3 = pc') (hk : (kd a).1 = 1) (k : At E M d Q pc' ls (.int (gi σ a 1) :: st) σ) : At E M d Q pc ls (zr E a :: st) σ := z_getfN pc' hd hp (a := a) (ci := 1) hk (by decide) rfl iX1 (j := 1) (by decide) (by rw [hM]; exact fX6_28) rfl rfl k
theorem gX6_35 {E : zE} {M : zY} {d : Nat} {Q : Option Value → zM → Prop} {pc : Nat} {ls : List (Option Value)} {st : List Value} {σ : zM} {a : Nat} (pc' : Nat) (hM : M.1.cls = RX6) (hd : decode M.2.1 pc = .ok (.getfield 35, 3)) (hp : pc + 3 = pc') (hk : (kd a).1 = 4) (k : At E M d Q pc' ls (.int (gi σ a 4) :: st) σ) : At E M d Q pc ls (zr E a :: st) σ := z_getfN pc' hd hp (a := a) (ci := 4) hk (by decide) rfl iX4 (j := 4) (by decide) (by rw [hM]; exact fX6_35) rfl rfl k
theorem gX6_38 {E : zE} {M : zY} {d : Nat} {Q : Option Value → zM → Prop} {pc : Nat} {ls : List (Option Value)} {st : List Value} {σ : zM} {a : Nat} (pc' : Nat) (hM : M.1.cls = RX6) (hd : decode M.2.1 pc = .ok (.getfield 38, 3)) (hp : pc + 3 = pc') (hk : (kd a).1 = 6) (k : At E M d Q pc' ls (.int (gi σ a 3) :: st) σ) : At E M d Q pc ls (zr E a :: st) σ := z_getf pc' hd hp (a := a) (ci := 6) hk (by decide) rfl iX6 (j := 3) (by decide) (by rw [hM]; exact fX6_38) rfl rfl k
theorem pX6_38 {E : zE} {M : zY} {d : Nat} {Q : Option Value → zM → Prop} {pc : Nat} {ls : List (Option Value)} {st : List Value} {σ : zM} {a : Nat} {x : Int32} (pc' : Nat) (hM : M.1.cls = RX6) (hd : decode M.2.1 pc = .ok (.putfield 38, 3)) (hp : pc + 3 = pc') (hk : (kd a).1 = 6) (k : At E M d Q pc' ls st (si σ a 3 x)) : At E M d Q pc ls (.int x :: zr E a :: st) σ := z_putf pc' (si σ a 3 x) tyX6 tyX6_ok nmX6 hd hp (a := a) (ci := 6) hk (by decide) rfl iX6 (j := 3) (by decide) (by rw [hM]; exact fX6_38) rfl rfl (tyX6_ok 3 (by decide)) rfl rfl (by simp [zO]) (zh_si σ _ _ _) (by simp [zO, si, zu]) k
theorem gX6_45 {E : zE} {M : zY} {d : Nat} {Q : Option Value → zM → Prop} {pc : Nat} {ls : List (Option Value)} {st : List Value} {σ : zM} {a : Nat} (pc' : Nat) (hM : M.1.cls = RX6) (hd : decode M.2.1 pc = .ok (.getfield 45, 3)) (hp : pc + 3 = pc') (hk : (kd a).1 = 4) (k : At E M d Q pc' ls (.int (gi σ a 1) :: st) σ) : At E M d Q pc ls (zr E a :: st) σ := z_getfN pc' hd hp (a := a) (ci := 4) hk (by decide) rfl iX4 (j := 1) (by decide) (by rw [hM]; exact fX6_45) rfl rfl k
theorem gX6_48 {E : zE} {M : zY} {d : Nat} {Q : Option Value → zM → Prop} {pc : Nat} {ls : List (Option Value)} {st : List Value} {σ : zM} {a : Nat} (pc' : Nat) (hM : M.1.cls = RX6) (hd : decode M.2.1 pc = .ok (.getfield 48, 3)) (hp : pc + 3 = pc') (hk : (kd a).1 = 2) (k : At E M d Q pc' ls (.int (gi σ a 1) :: st) σ) : At E M d Q pc ls (zr E a :: st) σ := z_getfN pc' hd hp (a := a) (ci := 2) hk (by decide) rfl iX2 (j := 1) (by decide) (by rw [hM]; exact fX6_48) rfl rfl k
theorem gX6_59 {E : zE} {M : zY} {d : Nat} {Q : Option Value → zM → Prop} {pc : Nat} {ls : List (Option Value)} {st : List Value} {σ : zM} {a : Nat} (pc' : Nat) (hM : M.1.cls = RX6) (hd : decode M.2.1 pc = .ok (.getfield 59, 3)) (hp : pc + 3 = pc') (hk : (kd a).1 = 2) (k : At E M d Q pc' ls (zr E (a + 1) :: st) σ) : At E M d Q pc ls (zr E a :: st) σ := z_getfN pc' hd hp (a := a) (ci := 2) hk (by decide) rfl iX2 (j := 0) (by decide) (by rw [hM]; exact fX6_59) rfl rfl k
theorem gX6_65 {E : zE} {M : zY} {d : Nat} {Q : Option Value → zM → Prop} {pc : Nat} {ls : List (Option Value)} {st : List Value} {σ : zM} {a : Nat} (pc' : Nat) (hM : M.1.cls = RX6) (hd : decode M.2.1 pc = .ok (.getfield 65, 3)) (hp : pc + 3 = pc') (hk : (kd a).1 = 4) (k : At E M d Q pc' ls (zr E (a + 1) :: st) σ) : At E M d Q pc ls (zr E a :: st) σ := z_getfN pc' hd hp (a := a) (ci := 4) hk (by decide) rfl iX4 (j := 0) (by decide) (by rw [hM]; exact fX6_65) rfl rfl k
theorem gX7_9 {E : zE} {M : zY} {d : Nat} {Q : Option Value → zM → Prop} {pc : Nat} {ls : List (Option Value)} {st : List Value} {σ : zM} {a : Nat} (pc' : Nat) (hM : M.1.cls = RX7) (hd : decode M.2.1 pc = .ok (.getfield 9, 3)) (hp : pc + 3 = pc') (hk : (kd a).1 = 7) (k : At E M d Q pc' ls (.int (gi σ a 1) :: st) σ) : At E M d Q pc ls (zr E a :: st) σ := z_getf pc' hd hp (a := a) (ci := 7) hk (by decide) rfl iX7 (j := 1) (by decide) (by rw [hM]; exact fX7_9) rfl rfl k
theorem pX7_9 {E : zE} {M : zY} {d : Nat} {Q : Option Value → zM → Prop} {pc : Nat} {ls : List (Option Value)} {st : List Value} {σ : zM} {a : Nat} {x : Int32} (pc' : Nat) (hM : M.1.cls = RX7) (hd : decode M.2.1 pc = .ok (.putfield 9, 3)) (hp : pc + 3 = pc') (hk : (kd a).1 = 7) (k : At E M d Q pc' ls st (si σ a 1 x)) : At E M d Q pc ls (.int x :: zr E a :: st) σ := z_putf pc' (si σ a 1 x) tyX7 tyX7_ok nmX7 hd hp (a := a) (ci := 7) hk (by decide) rfl iX7 (j := 1) (by decide) (by rw [hM]; exact fX7_9) rfl rfl (tyX7_ok 1 (by decide)) rfl rfl (by simp [zO]) (zh_si σ _ _ _) (by simp [zO, si, zu]) k
theorem gX7_21 {E : zE} {M : zY} {d : Nat} {Q : Option Value → zM → Prop} {pc : Nat} {ls : List (Option Value)} {st : List Value} {σ : zM} {a : Nat} (pc' : Nat) (hM : M.1.cls = RX7) (hd : decode M.2.1 pc = .ok (.getfield 21, 3)) (hp : pc + 3 = pc') (hk : (kd a).1 = 7) (k : At E M d Q pc' ls (zr E (a + 1) :: st) σ) : At E M d Q pc ls (zr E a :: st) σ := z_getf pc' hd hp (a := a) (ci := 7) hk (by decide) rfl iX7 (j := 0) (by decide) (by rw [hM]; exact fX7_21) rfl rfl k
theorem gX8_9 {E : zE} {M : zY} {d : Nat} {Q : Option Value → zM → Prop} {pc : Nat} {ls : List (Option Value)} {st : List Value} {σ : zM} {a : Nat} (pc' : Nat) (hM : M.1.cls = RX8) (hd : decode M.2.1 pc = .ok (.getfield 9, 3)) (hp : pc + 3 = pc') (hk : (kd a).1 = 8) (k : At E M d Q pc' ls (zr E (a + 1) :: st) σ) : At E M d Q pc ls (zr E a :: st) σ := z_getf pc' hd hp (a := a) (ci := 8) hk (by decide) rfl iX8 (j := 0) (by decide) (by rw [hM]; exact fX8_9) rfl rfl k
theorem gX8_15 {E : zE} {M : zY} {d : Nat} {Q : Option Value → zM → Prop} {pc : Nat} {ls : List (Option Value)} {st : List Value} {σ : zM} {a : Nat} (pc' : Nat) (hM : M.1.cls = RX8) (hd : decode M.2.1 pc = .ok (.getfield 15, 3)) (hp : pc + 3 = pc') (hk : (kd a).1 = 8) (k : At E M d Q pc' ls (zr E (a + 2) :: st) σ) : At E M d Q pc ls (zr E a :: st) σ := z_getf pc' hd hp (a := a) (ci := 8) hk (by decide) rfl iX8 (j := 1) (by decide) (by rw [hM]; exact fX8_15) rfl rfl k
theorem gX8_18 {E : zE} {M : zY} {d : Nat} {Q : Option Value → zM → Prop} {pc : Nat} {ls : List (Option Value)} {st : List Value} {σ : zM} {a : Nat} (pc' : Nat) (hM : M.1.cls = RX8) (hd : decode M.2.1 pc = .ok (.getfield 18, 3)) (hp : pc + 3 = pc') (hk : (kd a).1 = 8) (k : At E M d Q pc' ls (zr E (a + 3) :: st) σ) : At E M d Q pc ls (zr E a :: st) σ := z_getf pc' hd hp (a := a) (ci := 8) hk (by decide) rfl iX8 (j := 2) (by decide) (by rw [hM]; exact fX8_18) rfl rfl k
theorem gX8_21 {E : zE} {M : zY} {d : Nat} {Q : Option Value → zM → Prop} {pc : Nat} {ls : List (Option Value)} {st : List Value} {σ : zM} {a : Nat} (pc' : Nat) (hM : M.1.cls = RX8) (hd : decode M.2.1 pc = .ok (.getfield 21, 3)) (hp : pc + 3 = pc') (hk : (kd a).1 = 8) (k : At E M d Q pc' ls (zr E (a + 4) :: st) σ) : At E M d Q pc ls (zr E a :: st) σ := z_getf pc' hd hp (a := a) (ci := 8) hk (by decide) rfl iX8 (j := 3) (by decide) (by rw [hM]; exact fX8_21) rfl rfl k
theorem gX8_25 {E : zE} {M : zY} {d : Nat} {Q : Option Value → zM → Prop} {pc : Nat} {ls : List (Option Value)} {st : List Value} {σ : zM} {a : Nat} (pc' : Nat) (hM : M.1.cls = RX8) (hd : decode M.2.1 pc = .ok (.getfield 25, 3)) (hp : pc + 3 = pc') (hk : (kd a).1 = 8) (k : At E M d Q pc' ls (.int (gi σ a 5) :: st) σ) : At E M d Q pc ls (zr E a :: st) σ := z_getf pc' hd hp (a := a) (ci := 8) hk (by decide) rfl iX8 (j := 5) (by decide) (by rw [hM]; exact fX8_25) rfl rfl k
theorem pX8_25 {E : zE} {M : zY} {d : Nat} {Q : Option Value → zM → Prop} {pc : Nat} {ls : List (Option Value)} {st : List Value} {σ : zM} {a : Nat} {x : Int32} (pc' : Nat) (hM : M.1.cls = RX8) (hd : decode M.2.1 pc = .ok (.putfield 25, 3)) (hp : pc + 3 = pc') (hk : (kd a).1 = 8) (hx : x = 0 ∨ x = 1) (k : At E M d Q pc' ls st (si σ a 5 x)) : At E M d Q pc ls (.int x :: zr E a :: st) σ := z_putf pc' (si σ a 5 x) tyX8 tyX8_ok nmX8 hd hp (a := a) (ci := 8) hk (by decide) rfl iX8 (j := 5) (by decide) (by rw [hM]; exact fX8_25) rfl rfl (tyX8_ok 5 (by decide)) (by rcases hx with rfl | rfl <;> rfl) (by rcases hx with rfl | rfl <;> rfl) (by simp [zO]) (zh_si σ _ _ _) (by simp [zO, si, zu]) k
theorem gX8_29 {E : zE} {M : zY} {d : Nat} {Q : Option Value → zM → Prop} {pc : Nat} {ls : List (Option Value)} {st : List Value} {σ : zM} {a : Nat} (pc' : Nat) (hM : M.1.cls = RX8) (hd : decode M.2.1 pc = .ok (.getfield 29, 3)) (hp : pc + 3 = pc') (hk : (kd a).1 = 8) (k : At E M d Q pc' ls (.int (gi σ a 4) :: st) σ) : At E M d Q pc ls (zr E a :: st) σ := z_getf pc' hd hp (a := a) (ci := 8) hk (by decide) rfl iX8 (j := 4) (by decide) (by rw [hM]; exact fX8_29) rfl rfl k
theorem pX8_29 {E : zE} {M : zY} {d : Nat} {Q : Option Value → zM → Prop} {pc : Nat} {ls : List (Option Value)} {st : List Value} {σ : zM} {a : Nat} {x : Int32} (pc' : Nat) (hM : M.1.cls = RX8) (hd : decode M.2.1 pc = .ok (.putfield 29, 3)) (hp : pc + 3 = pc') (hk : (kd a).1 = 8) (k : At E M d Q pc' ls st (si σ a 4 x)) : At E M d Q pc ls (.int x :: zr E a :: st) σ := z_putf pc' (si σ a 4 x) tyX8 tyX8_ok nmX8 hd hp (a := a) (ci := 8) hk (by decide) rfl iX8 (j := 4) (by decide) (by rw [hM]; exact fX8_29) rfl rfl (tyX8_ok 4 (by decide)) rfl rfl (by simp [zO]) (zh_si σ _ _ _) (by simp [zO, si, zu]) k
theorem gX9_11 {E : zE} {M : zY} {d : Nat} {Q : Option Value → zM → Prop} {pc : Nat} {ls : List (Option Value)} {st : List Value} {σ : zM} (pc' : Nat) (hM : M.1.cls = RX9) (hd : decode M.2.1 pc = .ok (.getfield 11, 3)) (hp : pc + 3 = pc') (k : At E M d Q pc' ls (zr E (1) :: st) σ) : At E M d Q pc ls (zr E 0 :: st) σ := z_getf pc' hd hp (a := 0) (ci := 9) rfl (by decide) rfl iX9 (j := 0) (by decide) (by rw [hM]; exact fX9_11) rfl rfl k
theorem gX9_15 {E : zE} {M : zY} {d : Nat} {Q : Option Value → zM → Prop} {pc : Nat} {ls : List (Option Value)} {st : List Value} {σ : zM} (pc' : Nat) (hM : M.1.cls = RX9) (hd : decode M.2.1 pc = .ok (.getfield 15, 3)) (hp : pc + 3 = pc') (k : At E M d Q pc' ls (zr E (2) :: st) σ) : At E M d Q pc ls (zr E 0 :: st) σ := z_getf pc' hd hp (a := 0) (ci := 9) rfl (by decide) rfl iX9 (j := 1) (by decide) (by rw [hM]; exact fX9_15) rfl rfl k
theorem gX9_20 {E : zE} {M : zY} {d : Nat} {Q : Option Value → zM → Prop} {pc : Nat} {ls : List (Option Value)} {st : List Value} {σ : zM} (pc' : Nat) (hM : M.1.cls = RX9) (hd : decode M.2.1 pc = .ok (.getfield 20, 3)) (hp : pc + 3 = pc') (k : At E M d Q pc' ls (zr E (3) :: st) σ) : At E M d Q pc ls (zr E 0 :: st) σ := z_getf pc' hd hp (a := 0) (ci := 9) rfl (by decide) rfl iX9 (j := 2) (by decide) (by rw [hM]; exact fX9_20) rfl rfl k
theorem gX9_26 {E : zE} {M : zY} {d : Nat} {Q : Option Value → zM → Prop} {pc : Nat} {ls : List (Option Value)} {st : List Value} {σ : zM} (pc' : Nat) (hM : M.1.cls = RX9) (hd : decode M.2.1 pc = .ok (.getfield 26, 3)) (hp : pc + 3 = pc') (k : At E M d Q pc' ls (zr E (4) :: st) σ) : At E M d Q pc ls (zr E 0 :: st) σ := z_getf pc' hd hp (a := 0) (ci := 9) rfl (by decide) rfl iX9 (j := 3) (by decide) (by rw [hM]; exact fX9_26) rfl rfl k
theorem gX9_32 {E : zE} {M : zY} {d : Nat} {Q : Option Value → zM → Prop} {pc : Nat} {ls : List (Option Value)} {st : List Value} {σ : zM} (pc' : Nat) (hM : M.1.cls = RX9) (hd : decode M.2.1 pc = .ok (.getfield 32, 3)) (hp : pc + 3 = pc') (k : At E M d Q pc' ls (zr E (5) :: st) σ) : At E M d Q pc ls (zr E 0 :: st) σ := z_getf pc' hd hp (a := 0) (ci := 9) rfl (by decide) rfl iX9 (j := 4) (by decide) (by rw [hM]; exact fX9_32) rfl rfl k
theorem gX9_39 {E : zE} {M : zY} {d : Nat} {Q : Option Value → zM → Prop} {pc : Nat} {ls : List (Option Value)} {st : List Value} {σ : zM} (pc' : Nat) (hM : M.1.cls = RX9) (hd : decode M.2.1 pc = .ok (.getfield 39, 3)) (hp : pc + 3 = pc') (k : At E M d Q pc' ls (zr E (6) :: st) σ) : At E M d Q pc ls (zr E 0 :: st) σ := z_getf pc' hd hp (a := 0) (ci := 9) rfl (by decide) rfl iX9 (j := 5) (by decide) (by rw [hM]; exact fX9_39) rfl rfl k
theorem gX9_46 {E : zE} {M : zY} {d : Nat} {Q : Option Value → zM → Prop} {pc : Nat} {ls : List (Option Value)} {st : List Value} {σ : zM} (pc' : Nat) (hM : M.1.cls = RX9) (hd : decode M.2.1 pc = .ok (.getfield 46, 3)) (hp : pc + 3 = pc') (k : At E M d Q pc' ls (zr E (8) :: st) σ) : At E M d Q pc ls (zr E 0 :: st) σ := z_getf pc' hd hp (a := 0) (ci := 9) rfl (by decide) rfl iX9 (j := 6) (by decide) (by rw [hM]; exact fX9_46) rfl rfl k
theorem gX9_53 {E : zE} {M : zY} {d : Nat} {Q : Option Value → zM → Prop} {pc : Nat} {ls : List (Option Value)} {st : List Value} {σ : zM} (pc' : Nat) (hM : M.1.cls = RX9) (hd : decode M.2.1 pc = .ok (.getfield 53, 3)) (hp : pc + 3 = pc') (k : At E M d Q pc' ls (zr E (10) :: st) σ) : At E M d Q pc ls (zr E 0 :: st) σ := z_getf pc' hd hp (a := 0) (ci := 9) rfl (by decide) rfl iX9 (j := 7) (by decide) (by rw [hM]; exact fX9_53) rfl rfl k
theorem gX9_60 {E : zE} {M : zY} {d : Nat} {Q : Option Value → zM → Prop} {pc : Nat} {ls : List (Option Value)} {st : List Value} {σ : zM} (pc' : Nat) (hM : M.1.cls = RX9) (hd : decode M.2.1 pc = .ok (.getfield 60, 3)) (hp : pc + 3 = pc') (k : At E M d Q pc' ls (zr E (13) :: st) σ) : At E M d Q pc ls (zr E 0 :: st) σ := z_getf pc' hd hp (a := 0) (ci := 9) rfl (by decide) rfl iX9 (j := 8) (by decide) (by rw [hM]; exact fX9_60) rfl rfl k
theorem gX9_67 {E : zE} {M : zY} {d : Nat} {Q : Option Value → zM → Prop} {pc : Nat} {ls : List (Option Value)} {st : List Value} {σ : zM} (pc' : Nat) (hM : M.1.cls = RX9) (hd : decode M.2.1 pc = .ok (.getfield 67, 3)) (hp : pc + 3 = pc') (k : At E M d Q pc' ls (zr E (19) :: st) σ) : At E M d Q pc ls (zr E 0 :: st) σ := z_getf pc' hd hp (a := 0) (ci := 9) rfl (by decide) rfl iX9 (j := 9) (by decide) (by rw [hM]; exact fX9_67) rfl rfl k
theorem gX9_79 {E : zE} {M : zY} {d : Nat} {Q : Option Value → zM → Prop} {pc : Nat} {ls : List (Option Value)} {st : List Value} {σ : zM} (pc' : Nat) (hM : M.1.cls = RX9) (hd : decode M.2.1 pc = .ok (.getfield 79, 3)) (hp : pc + 3 = pc') (k : At E M d Q pc' ls (zr E (100) :: st) σ) : At E M d Q pc ls (zr E 0 :: st) σ := z_getf pc' hd hp (a := 0) (ci := 9) rfl (by decide) rfl iX9 (j := 10) (by decide) (by rw [hM]; exact fX9_79) rfl rfl k
theorem gX9_118 {E : zE} {M : zY} {d : Nat} {Q : Option Value → zM → Prop} {pc : Nat} {ls : List (Option Value)} {st : List Value} {σ : zM} {a : Nat} (pc' : Nat) (hM : M.1.cls = RX9) (hd : decode M.2.1 pc = .ok (.getfield 118, 3)) (hp : pc + 3 = pc') (hk : (kd a).1 = 7) (k : At E M d Q pc' ls (zr E (a + 1) :: st) σ) : At E M d Q pc ls (zr E a :: st) σ := z_getfN pc' hd hp (a := a) (ci := 7) hk (by decide) rfl iX7 (j := 0) (by decide) (by rw [hM]; exact fX9_118) rfl rfl k
theorem gX9_128 {E : zE} {M : zY} {d : Nat} {Q : Option Value → zM → Prop} {pc : Nat} {ls : List (Option Value)} {st : List Value} {σ : zM} {a : Nat} (pc' : Nat) (hM : M.1.cls = RX9) (hd : decode M.2.1 pc = .ok (.getfield 128, 3)) (hp : pc + 3 = pc') (hk : (kd a).1 = 7) (k : At E M d Q pc' ls (.int (gi σ a 1) :: st) σ) : At E M d Q pc ls (zr E a :: st) σ := z_getfN pc' hd hp (a := a) (ci := 7) hk (by decide) rfl iX7 (j := 1) (by decide) (by rw [hM]; exact fX9_128) rfl rfl k
theorem gX9_150 {E : zE} {M : zY} {d : Nat} {Q : Option Value → zM → Prop} {pc : Nat} {ls : List (Option Value)} {st : List Value} {σ : zM} (pc' : Nat) (hM : M.1.cls = RX9) (hd : decode M.2.1 pc = .ok (.getfield 150, 3)) (hp : pc + 3 = pc') (k : At E M d Q pc' ls (.int (gi σ 0 11) :: st) σ) : At E M d Q pc ls (zr E 0 :: st) σ := z_getf pc' hd hp (a := 0) (ci := 9) rfl (by decide) rfl iX9 (j := 11) (by decide) (by rw [hM]; exact fX9_150) rfl rfl k
theorem pX9_150 {E : zE} {M : zY} {d : Nat} {Q : Option Value → zM → Prop} {pc : Nat} {ls : List (Option Value)} {st : List Value} {σ : zM} {x : Int32} (pc' : Nat) (hM : M.1.cls = RX9) (hd : decode M.2.1 pc = .ok (.putfield 150, 3)) (hp : pc + 3 = pc') (k : At E M d Q pc' ls st (si σ 0 11 x)) : At E M d Q pc ls (.int x :: zr E 0 :: st) σ := z_putf pc' (si σ 0 11 x) tyX9 tyX9_ok nmX9 hd hp (a := 0) (ci := 9) rfl (by decide) rfl iX9 (j := 11) (by decide) (by rw [hM]; exact fX9_150) rfl rfl (tyX9_ok 11 (by decide)) rfl rfl (by simp [zO]) (zh_si σ _ _ _) (by simp [zO, si, zu]) k
theorem gX9_153 {E : zE} {M : zY} {d : Nat} {Q : Option Value → zM → Prop} {pc : Nat} {ls : List (Option Value)} {st : List Value} {σ : zM} (pc' : Nat) (hM : M.1.cls = RX9) (hd : decode M.2.1 pc = .ok (.getfield 153, 3)) (hp : pc + 3 = pc') (k : At E M d Q pc' ls (.int (gi σ 0 12) :: st) σ) : At E M d Q pc ls (zr E 0 :: st) σ := z_getf pc' hd hp (a := 0) (ci := 9) rfl (by decide) rfl iX9 (j := 12) (by decide) (by rw [hM]; exact fX9_153) rfl rfl k
theorem pX9_153 {E : zE} {M : zY} {d : Nat} {Q : Option Value → zM → Prop} {pc : Nat} {ls : List (Option Value)} {st : List Value} {σ : zM} {x : Int32} (pc' : Nat) (hM : M.1.cls = RX9) (hd : decode M.2.1 pc = .ok (.putfield 153, 3)) (hp : pc + 3 = pc') (k : At E M d Q pc' ls st (si σ 0 12 x)) : At E M d Q pc ls (.int x :: zr E 0 :: st) σ := z_putf pc' (si σ 0 12 x) tyX9 tyX9_ok nmX9 hd hp (a := 0) (ci := 9) rfl (by decide) rfl iX9 (j := 12) (by decide) (by rw [hM]; exact fX9_153) rfl rfl (tyX9_ok 12 (by decide)) rfl rfl (by simp [zO]) (zh_si σ _ _ _) (by simp [zO, si, zu]) k
theorem gX9_156 {E : zE} {M : zY} {d : Nat} {Q : Option Value → zM → Prop} {pc : Nat} {ls : List (Option Value)} {st : List Value} {σ : zM} {a : Nat} (pc' : Nat) (hM : M.1.cls = RX9) (hd : decode M.2.1 pc = .ok (.getfield 156, 3)) (hp : pc + 3 = pc') (hk : (kd a).1 = 1) (k : At E M d Q pc' ls (.int (gi σ a 1) :: st) σ) : At E M d Q pc ls (zr E a :: st) σ := z_getfN pc' hd hp (a := a) (ci := 1) hk (by decide) rfl iX1 (j := 1) (by decide) (by rw [hM]; exact fX9_156) rfl rfl k
theorem gX9_189 {E : zE} {M : zY} {d : Nat} {Q : Option Value → zM → Prop} {pc : Nat} {ls : List (Option Value)} {st : List Value} {σ : zM} {a : Nat} (pc' : Nat) (hM : M.1.cls = RX9) (hd : decode M.2.1 pc = .ok (.getfield 189, 3)) (hp : pc + 3 = pc') (hk : (kd a).1 = 2) (k : At E M d Q pc' ls (.int (gi σ a 1) :: st) σ) : At E M d Q pc ls (zr E a :: st) σ := z_getfN pc' hd hp (a := a) (ci := 2) hk (by decide) rfl iX2 (j := 1) (by decide) (by rw [hM]; exact fX9_189) rfl rfl k
theorem pX9_189 {E : zE} {M : zY} {d : Nat} {Q : Option Value → zM → Prop} {pc : Nat} {ls : List (Option Value)} {st : List Value} {σ : zM} {a : Nat} {x : Int32} (pc' : Nat) (hM : M.1.cls = RX9) (hd : decode M.2.1 pc = .ok (.putfield 189, 3)) (hp : pc + 3 = pc') (hk : (kd a).1 = 2) (k : At E M d Q pc' ls st (si σ a 1 x)) : At E M d Q pc ls (.int x :: zr E a :: st) σ := z_putfN pc' (si σ a 1 x) tyX2 tyX2_ok nmX2 hd hp (a := a) (ci := 2) hk (by decide) rfl iX2 (j := 1) (by decide) (by rw [hM]; exact fX9_189) rfl rfl (tyX2_ok 1 (by decide)) rfl rfl (by simp [zO]) (zh_si σ _ _ _) (by simp [zO, si, zu]) k
theorem gX9_194 {E : zE} {M : zY} {d : Nat} {Q : Option Value → zM → Prop} {pc : Nat} {ls : List (Option Value)} {st : List Value} {σ : zM} {a : Nat} (pc' : Nat) (hM : M.1.cls = RX9) (hd : decode M.2.1 pc = .ok (.getfield 194, 3)) (hp : pc + 3 = pc') (hk : (kd a).1 = 4) (k : At E M d Q pc' ls (.int (gi σ a 4) :: st) σ) : At E M d Q pc ls (zr E a :: st) σ := z_getfN pc' hd hp (a := a) (ci := 4) hk (by decide) rfl iX4 (j := 4) (by decide) (by rw [hM]; exact fX9_194) rfl rfl k
theorem gX9_198 {E : zE} {M : zY} {d : Nat} {Q : Option Value → zM → Prop} {pc : Nat} {ls : List (Option Value)} {st : List Value} {σ : zM} {a : Nat} (pc' : Nat) (hM : M.1.cls = RX9) (hd : decode M.2.1 pc = .ok (.getfield 198, 3)) (hp : pc + 3 = pc') (hk : (kd a).1 = 4) (k : At E M d Q pc' ls (.int (gi σ a 3) :: st) σ) : At E M d Q pc ls (zr E a :: st) σ := z_getfN pc' hd hp (a := a) (ci := 4) hk (by decide) rfl iX4 (j := 3) (by decide) (by rw [hM]; exact fX9_198) rfl rfl k
theorem gX9_201 {E : zE} {M : zY} {d : Nat} {Q : Option Value → zM → Prop} {pc : Nat} {ls : List (Option Value)} {st : List Value} {σ : zM} {a : Nat} (pc' : Nat) (hM : M.1.cls = RX9) (hd : decode M.2.1 pc = .ok (.getfield 201, 3)) (hp : pc + 3 = pc') (hk : (kd a).1 = 6) (k : At E M d Q pc' ls (.int (gi σ a 3) :: st) σ) : At E M d Q pc ls (zr E a :: st) σ := z_getfN pc' hd hp (a := a) (ci := 6) hk (by decide) rfl iX6 (j := 3) (by decide) (by rw [hM]; exact fX9_201) rfl rfl k
theorem gX9_208 {E : zE} {M : zY} {d : Nat} {Q : Option Value → zM → Prop} {pc : Nat} {ls : List (Option Value)} {st : List Value} {σ : zM} {a : Nat} (pc' : Nat) (hM : M.1.cls = RX9) (hd : decode M.2.1 pc = .ok (.getfield 208, 3)) (hp : pc + 3 = pc') (hk : (kd a).1 = 2) (k : At E M d Q pc' ls (zr E (a + 1) :: st) σ) : At E M d Q pc ls (zr E a :: st) σ := z_getfN pc' hd hp (a := a) (ci := 2) hk (by decide) rfl iX2 (j := 0) (by decide) (by rw [hM]; exact fX9_208) rfl rfl k
theorem gX9_229 {E : zE} {M : zY} {d : Nat} {Q : Option Value → zM → Prop} {pc : Nat} {ls : List (Option Value)} {st : List Value} {σ : zM} {a : Nat} (pc' : Nat) (hM : M.1.cls = RX9) (hd : decode M.2.1 pc = .ok (.getfield 229, 3)) (hp : pc + 3 = pc') (hk : (kd a).1 = 6) (k : At E M d Q pc' ls (zr E (a + 2) :: st) σ) : At E M d Q pc ls (zr E a :: st) σ := z_getfN pc' hd hp (a := a) (ci := 6) hk (by decide) rfl iX6 (j := 1) (by decide) (by rw [hM]; exact fX9_229) rfl rfl k
theorem gX9_232 {E : zE} {M : zY} {d : Nat} {Q : Option Value → zM → Prop} {pc : Nat} {ls : List (Option Value)} {st : List Value} {σ : zM} {a : Nat} (pc' : Nat) (hM : M.1.cls = RX9) (hd : decode M.2.1 pc = .ok (.getfield 232, 3)) (hp : pc + 3 = pc') (hk : (kd a).1 = 6) (k : At E M d Q pc' ls (.int (gi σ a 2) :: st) σ) : At E M d Q pc ls (zr E a :: st) σ := z_getfN pc' hd hp (a := a) (ci := 6) hk (by decide) rfl iX6 (j := 2) (by decide) (by rw [hM]; exact fX9_232) rfl rfl k
theorem gX9_256 {E : zE} {M : zY} {d : Nat} {Q : Option Value → zM → Prop} {pc : Nat} {ls : List (Option Value)} {st : List Value} {σ : zM} {a : Nat} (pc' : Nat) (hM : M.1.cls = RX9) (hd : decode M.2.1 pc = .ok (.getfield 256, 3)) (hp : pc + 3 = pc') (hk : (kd a).1 = 5) (k : At E M d Q pc' ls (.int (gi σ a 6) :: st) σ) : At E M d Q pc ls (zr E a :: st) σ := z_getfN pc' hd hp (a := a) (ci := 5) hk (by decide) rfl iX5 (j := 6) (by decide) (by rw [hM]; exact fX9_256) rfl rfl k
theorem gX9_257 {E : zE} {M : zY} {d : Nat} {Q : Option Value → zM → Prop} {pc : Nat} {ls : List (Option Value)} {st : List Value} {σ : zM} {a : Nat} (pc' : Nat) (hM : M.1.cls = RX9) (hd : decode M.2.1 pc = .ok (.getfield 257, 3)) (hp : pc + 3 = pc') (hk : (kd a).1 = 5) (k : At E M d Q pc' ls (zr E (a + 4) :: st) σ) : At E M d Q pc ls (zr E a :: st) σ := z_getfN pc' hd hp (a := a) (ci := 5) hk (by decide) rfl iX5 (j := 3) (by decide) (by rw [hM]; exact fX9_257) rfl rfl k
theorem gX9_269 {E : zE} {M : zY} {d : Nat} {Q : Option Value → zM → Prop} {pc : Nat} {ls : List (Option Value)} {st : List Value} {σ : zM} {a : Nat} (pc' : Nat) (hM : M.1.cls = RX9) (hd : decode M.2.1 pc = .ok (.getfield 269, 3)) (hp : pc + 3 = pc') (hk : (kd a).1 = 5) (k : At E M d Q pc' ls (.int (gi σ a 5) :: st) σ) : At E M d Q pc ls (zr E a :: st) σ := z_getfN pc' hd hp (a := a) (ci := 5) hk (by decide) rfl iX5 (j := 5) (by decide) (by rw [hM]; exact fX9_269) rfl rfl k
theorem gX9_277 {E : zE} {M : zY} {d : Nat} {Q : Option Value → zM → Prop} {pc : Nat} {ls : List (Option Value)} {st : List Value} {σ : zM} {a : Nat} (pc' : Nat) (hM : M.1.cls = RX9) (hd : decode M.2.1 pc = .ok (.getfield 277, 3)) (hp : pc + 3 = pc') (hk : (kd a).1 = 5) (k : At E M d Q pc' ls (.long (gl σ a 7) :: st) σ) : At E M d Q pc ls (zr E a :: st) σ := z_getfN pc' hd hp (a := a) (ci := 5) hk (by decide) rfl iX5 (j := 7) (by decide) (by rw [hM]; exact fX9_277) rfl rfl k
theorem gX9_281 {E : zE} {M : zY} {d : Nat} {Q : Option Value → zM → Prop} {pc : Nat} {ls : List (Option Value)} {st : List Value} {σ : zM} {a : Nat} (pc' : Nat) (hM : M.1.cls = RX9) (hd : decode M.2.1 pc = .ok (.getfield 281, 3)) (hp : pc + 3 = pc') (hk : (kd a).1 = 5) (k : At E M d Q pc' ls (zr E (a + 3) :: st) σ) : At E M d Q pc ls (zr E a :: st) σ := z_getfN pc' hd hp (a := a) (ci := 5) hk (by decide) rfl iX5 (j := 2) (by decide) (by rw [hM]; exact fX9_281) rfl rfl k
theorem gX9_296 {E : zE} {M : zY} {d : Nat} {Q : Option Value → zM → Prop} {pc : Nat} {ls : List (Option Value)} {st : List Value} {σ : zM} {a : Nat} (pc' : Nat) (hM : M.1.cls = RX9) (hd : decode M.2.1 pc = .ok (.getfield 296, 3)) (hp : pc + 3 = pc') (hk : (kd a).1 = 4) (k : At E M d Q pc' ls (.int (gi σ a 1) :: st) σ) : At E M d Q pc ls (zr E a :: st) σ := z_getfN pc' hd hp (a := a) (ci := 4) hk (by decide) rfl iX4 (j := 1) (by decide) (by rw [hM]; exact fX9_296) rfl rfl k
theorem gX9_303 {E : zE} {M : zY} {d : Nat} {Q : Option Value → zM → Prop} {pc : Nat} {ls : List (Option Value)} {st : List Value} {σ : zM} {a : Nat} (pc' : Nat) (hM : M.1.cls = RX9) (hd : decode M.2.1 pc = .ok (.getfield 303, 3)) (hp : pc + 3 = pc') (hk : (kd a).1 = 8) (k : At E M d Q pc' ls (.int (gi σ a 4) :: st) σ) : At E M d Q pc ls (zr E a :: st) σ := z_getfN pc' hd hp (a := a) (ci := 8) hk (by decide) rfl iX8 (j := 4) (by decide) (by rw [hM]; exact fX9_303) rfl rfl k
theorem gX9_314 {E : zE} {M : zY} {d : Nat} {Q : Option Value → zM → Prop} {pc : Nat} {ls : List (Option Value)} {st : List Value} {σ : zM} {a : Nat} (pc' : Nat) (hM : M.1.cls = RX9) (hd : decode M.2.1 pc = .ok (.getfield 314, 3)) (hp : pc + 3 = pc') (hk : (kd a).1 = 8) (k : At E M d Q pc' ls (zr E (a + 3) :: st) σ) : At E M d Q pc ls (zr E a :: st) σ := z_getfN pc' hd hp (a := a) (ci := 8) hk (by decide) rfl iX8 (j := 2) (by decide) (by rw [hM]; exact fX9_314) rfl rfl k
theorem gX9_344 {E : zE} {M : zY} {d : Nat} {Q : Option Value → zM → Prop} {pc : Nat} {ls : List (Option Value)} {st : List Value} {σ : zM} {a : Nat} (pc' : Nat) (hM : M.1.cls = RX9) (hd : decode M.2.1 pc = .ok (.getfield 344, 3)) (hp : pc + 3 = pc') (hk : (kd a).1 = 3) (k : At E M d Q pc' ls (.int (gi σ a 3) :: st) σ) : At E M d Q pc ls (zr E a :: st) σ := z_getfN pc' hd hp (a := a) (ci := 3) hk (by decide) rfl iX3 (j := 3) (by decide) (by rw [hM]; exact fX9_344) rfl rfl k
theorem gX9_350 {E : zE} {M : zY} {d : Nat} {Q : Option Value → zM → Prop} {pc : Nat} {ls : List (Option Value)} {st : List Value} {σ : zM} {a : Nat} (pc' : Nat) (hM : M.1.cls = RX9) (hd : decode M.2.1 pc = .ok (.getfield 350, 3)) (hp : pc + 3 = pc') (hk : (kd a).1 = 3) (k : At E M d Q pc' ls (.int (gi σ a 1) :: st) σ) : At E M d Q pc ls (zr E a :: st) σ := z_getfN pc' hd hp (a := a) (ci := 3) hk (by decide) rfl iX3 (j := 1) (by decide) (by rw [hM]; exact fX9_350) rfl rfl k
theorem gX9_354 {E : zE} {M : zY} {d : Nat} {Q : Option Value → zM → Prop} {pc : Nat} {ls : List (Option Value)} {st : List Value} {σ : zM} {a : Nat} (pc' : Nat) (hM : M.1.cls = RX9) (hd : decode M.2.1 pc = .ok (.getfield 354, 3)) (hp : pc + 3 = pc') (hk : (kd a).1 = 3) (k : At E M d Q pc' ls (.int (gi σ a 4) :: st) σ) : At E M d Q pc ls (zr E a :: st) σ := z_getfN pc' hd hp (a := a) (ci := 3) hk (by decide) rfl iX3 (j := 4) (by decide) (by rw [hM]; exact fX9_354) rfl rfl k
theorem gX9_371 {E : zE} {M : zY} {d : Nat} {Q : Option Value → zM → Prop} {pc : Nat} {ls : List (Option Value)} {st : List Value} {σ : zM} {a : Nat} (pc' : Nat) (hM : M.1.cls = RX9) (hd : decode M.2.1 pc = .ok (.getfield 371, 3)) (hp : pc + 3 = pc') (hk : (kd a).1 = 0) (k : At E M d Q pc' ls (.int (gi σ a 2) :: st) σ) : At E M d Q pc ls (zr E a :: st) σ := z_getfN pc' hd hp (a := a) (ci := 0) hk (by decide) rfl iX0 (j := 2) (by decide) (by rw [hM]; exact fX9_371) rfl rfl k
theorem gX9_374 {E : zE} {M : zY} {d : Nat} {Q : Option Value → zM → Prop} {pc : Nat} {ls : List (Option Value)} {st : List Value} {σ : zM} {a : Nat} (pc' : Nat) (hM : M.1.cls = RX9) (hd : decode M.2.1 pc = .ok (.getfield 374, 3)) (hp : pc + 3 = pc') (hk : (kd a).1 = 0) (k : At E M d Q pc' ls (.long (gl σ a 3) :: st) σ) : At E M d Q pc ls (zr E a :: st) σ := z_getfN pc' hd hp (a := a) (ci := 0) hk (by decide) rfl iX0 (j := 3) (by decide) (by rw [hM]; exact fX9_374) rfl rfl k
theorem gX9_377 {E : zE} {M : zY} {d : Nat} {Q : Option Value → zM → Prop} {pc : Nat} {ls : List (Option Value)} {st : List Value} {σ : zM} {a : Nat} (pc' : Nat) (hM : M.1.cls = RX9) (hd : decode M.2.1 pc = .ok (.getfield 377, 3)) (hp : pc + 3 = pc') (hk : (kd a).1 = 0) (k : At E M d Q pc' ls (.long (gl σ a 4) :: st) σ) : At E M d Q pc ls (zr E a :: st) σ := z_getfN pc' hd hp (a := a) (ci := 0) hk (by decide) rfl iX0 (j := 4) (by decide) (by rw [hM]; exact fX9_377) rfl rfl k
theorem gX9_387 {E : zE} {M : zY} {d : Nat} {Q : Option Value → zM → Prop} {pc : Nat} {ls : List (Option Value)} {st : List Value} {σ : zM} {a : Nat} (pc' : Nat) (hM : M.1.cls = RX9) (hd : decode M.2.1 pc = .ok (.getfield 387, 3)) (hp : pc + 3 = pc') (hk : (kd a).1 = 0) (k : At E M d Q pc' ls (.int (gi σ a 1) :: st) σ) : At E M d Q pc ls (zr E a :: st) σ := z_getfN pc' hd hp (a := a) (ci := 0) hk (by decide) rfl iX0 (j := 1) (by decide) (by rw [hM]; exact fX9_387) rfl rfl k
theorem gX9_390 {E : zE} {M : zY} {d : Nat} {Q : Option Value → zM → Prop} {pc : Nat} {ls : List (Option Value)} {st : List Value} {σ : zM} {a : Nat} (pc' : Nat) (hM : M.1.cls = RX9) (hd : decode M.2.1 pc = .ok (.getfield 390, 3)) (hp : pc + 3 = pc') (hk : (kd a).1 = 0) (k : At E M d Q pc' ls (zr E (a + 1) :: st) σ) : At E M d Q pc ls (zr E a :: st) σ := z_getfN pc' hd hp (a := a) (ci := 0) hk (by decide) rfl iX0 (j := 0) (by decide) (by rw [hM]; exact fX9_390) rfl rfl k
theorem gX9_412 {E : zE} {M : zY} {d : Nat} {Q : Option Value → zM → Prop} {pc : Nat} {ls : List (Option Value)} {st : List Value} {σ : zM} {a : Nat} (pc' : Nat) (hM : M.1.cls = RX9) (hd : decode M.2.1 pc = .ok (.getfield 412, 3)) (hp : pc + 3 = pc') (hk : (kd a).1 = 4) (k : At E M d Q pc' ls (zr E (a + 1) :: st) σ) : At E M d Q pc ls (zr E a :: st) σ := z_getfN pc' hd hp (a := a) (ci := 4) hk (by decide) rfl iX4 (j := 0) (by decide) (by rw [hM]; exact fX9_412) rfl rfl k
theorem gX9_424 {E : zE} {M : zY} {d : Nat} {Q : Option Value → zM → Prop} {pc : Nat} {ls : List (Option Value)} {st : List Value} {σ : zM} {a : Nat} (pc' : Nat) (hM : M.1.cls = RX9) (hd : decode M.2.1 pc = .ok (.getfield 424, 3)) (hp : pc + 3 = pc') (hk : (kd a).1 = 5) (k : At E M d Q pc' ls (zr E (a + 2) :: st) σ) : At E M d Q pc ls (zr E a :: st) σ := z_getfN pc' hd hp (a := a) (ci := 5) hk (by decide) rfl iX5 (j := 1) (by decide) (by rw [hM]; exact fX9_424) rfl rfl k
theorem gX9_444 {E : zE} {M : zY} {d : Nat} {Q : Option Value → zM → Prop} {pc : Nat} {ls : List (Option Value)} {st : List Value} {σ : zM} {a : Nat} (pc' : Nat) (hM : M.1.cls = RX9) (hd : decode M.2.1 pc = .ok (.getfield 444, 3)) (hp : pc + 3 = pc') (hk : (kd a).1 = 3) (k : At E M d Q pc' ls (zr E (a + 1) :: st) σ) : At E M d Q pc ls (zr E a :: st) σ := z_getfN pc' hd hp (a := a) (ci := 3) hk (by decide) rfl iX3 (j := 0) (by decide) (by rw [hM]; exact fX9_444) rfl rfl k
theorem gX9_447 {E : zE} {M : zY} {d : Nat} {Q : Option Value → zM → Prop} {pc : Nat} {ls : List (Option Value)} {st : List Value} {σ : zM} {a : Nat} (pc' : Nat) (hM : M.1.cls = RX9) (hd : decode M.2.1 pc = .ok (.getfield 447, 3)) (hp : pc + 3 = pc') (hk : (kd a).1 = 3) (k : At E M d Q pc' ls (.int (gi σ a 5) :: st) σ) : At E M d Q pc ls (zr E a :: st) σ := z_getfN pc' hd hp (a := a) (ci := 3) hk (by decide) rfl iX3 (j := 5) (by decide) (by rw [hM]; exact fX9_447) rfl rfl k
theorem zs_astore_n_2_3 {E : zE} {M : zY} {d : Nat} {Q : Option Value → zM → Prop} {pc : Nat} {st : List Value} {σ : zM} {a0 a1 a2 : Option Value} {x : Nat} (pc' : Nat) (hn : M.2.2.1 = 3) (hd : decode M.2.1 pc = .ok (.astore_n 2, 1)) (hp : pc + 1 = pc') (hc : zck [a0, a1, a2] 2 = true) (k : At E M d Q pc' [a0, a1, some (zr E x)] st σ) : At E M d Q pc [a0, a1, a2] (zr E x :: st) σ := z_astore_ng pc' hd hp (by rw [hn]; decide) hc rfl k
theorem zs_iinc_1_2_1 {E : zE} {M : zY} {d : Nat} {Q : Option Value → zM → Prop} {pc : Nat} {st : List Value} {σ : zM} {a0 : Option Value} {x : Int32} (pc' : Nat) (hn : M.2.2.1 = 2) (hd : decode M.2.1 pc = .ok (.iinc 1 (1), 3)) (hp : pc + 3 = pc') (hc : zck [a0, some (.int x)] 1 = true) (k : At E M d Q pc' [a0, some (.int (x + nI 1))] st σ) : At E M d Q pc [a0, some (.int x)] (st) σ := z_iincg pc' hd hp (v := x + nI 1) rfl rfl (by rw [hn]; decide) hc rfl k
theorem zs_iinc_1_3_1 {E : zE} {M : zY} {d : Nat} {Q : Option Value → zM → Prop} {pc : Nat} {st : List Value} {σ : zM} {a0 a2 : Option Value} {x : Int32} (pc' : Nat) (hn : M.2.2.1 = 3) (hd : decode M.2.1 pc = .ok (.iinc 1 (1), 3)) (hp : pc + 3 = pc') (hc : zck [a0, some (.int x), a2] 1 = true) (k : At E M d Q pc' [a0, some (.int (x + nI 1)), a2] st σ) : At E M d Q pc [a0, some (.int x), a2] (st) σ := z_iincg pc' hd hp (v := x + nI 1) rfl rfl (by rw [hn]; decide) hc rfl k
theorem zs_iinc_1_4_1 {E : zE} {M : zY} {d : Nat} {Q : Option Value → zM → Prop} {pc : Nat} {st : List Value} {σ : zM} {a0 a2 a3 : Option Value} {x : Int32} (pc' : Nat) (hn : M.2.2.1 = 4) (hd : decode M.2.1 pc = .ok (.iinc 1 (1), 3)) (hp : pc + 3 = pc') (hc : zck [a0, some (.int x), a2, a3] 1 = true) (k : At E M d Q pc' [a0, some (.int (x + nI 1)), a2, a3] st σ) : At E M d Q pc [a0, some (.int x), a2, a3] (st) σ := z_iincg pc' hd hp (v := x + nI 1) rfl rfl (by rw [hn]; decide) hc rfl k
theorem zs_iinc_1_6_1 {E : zE} {M : zY} {d : Nat} {Q : Option Value → zM → Prop} {pc : Nat} {st : List Value} {σ : zM} {a0 a2 a3 a4 a5 : Option Value} {x : Int32} (pc' : Nat) (hn : M.2.2.1 = 6) (hd : decode M.2.1 pc = .ok (.iinc 1 (1), 3)) (hp : pc + 3 = pc') (hc : zck [a0, some (.int x), a2, a3, a4, a5] 1 = true) (k : At E M d Q pc' [a0, some (.int (x + nI 1)), a2, a3, a4, a5] st σ) : At E M d Q pc [a0, some (.int x), a2, a3, a4, a5] (st) σ := z_iincg pc' hd hp (v := x + nI 1) rfl rfl (by rw [hn]; decide) hc rfl k
theorem zs_iinc_2_3_m1 {E : zE} {M : zY} {d : Nat} {Q : Option Value → zM → Prop} {pc : Nat} {st : List Value} {σ : zM} {a0 a1 : Option Value} {x : Int32} (pc' : Nat) (hn : M.2.2.1 = 3) (hd : decode M.2.1 pc = .ok (.iinc 2 (-1), 3)) (hp : pc + 3 = pc') (hc : zck [a0, a1, some (.int x)] 2 = true) (k : At E M d Q pc' [a0, a1, some (.int (x + (-1)))] st σ) : At E M d Q pc [a0, a1, some (.int x)] (st) σ := z_iincg pc' hd hp (v := x + (-1)) rfl rfl (by rw [hn]; decide) hc rfl k
theorem zs_iinc_2_3_1 {E : zE} {M : zY} {d : Nat} {Q : Option Value → zM → Prop} {pc : Nat} {st : List Value} {σ : zM} {a0 a1 : Option Value} {x : Int32} (pc' : Nat) (hn : M.2.2.1 = 3) (hd : decode M.2.1 pc = .ok (.iinc 2 (1), 3)) (hp : pc + 3 = pc') (hc : zck [a0, a1, some (.int x)] 2 = true) (k : At E M d Q pc' [a0, a1, some (.int (x + nI 1))] st σ) : At E M d Q pc [a0, a1, some (.int x)] (st) σ := z_iincg pc' hd hp (v := x + nI 1) rfl rfl (by rw [hn]; decide) hc rfl k
theorem zs_iinc_2_4_1 {E : zE} {M : zY} {d : Nat} {Q : Option Value → zM → Prop} {pc : Nat} {st : List Value} {σ : zM} {a0 a1 a3 : Option Value} {x : Int32} (pc' : Nat) (hn : M.2.2.1 = 4) (hd : decode M.2.1 pc = .ok (.iinc 2 (1), 3)) (hp : pc + 3 = pc') (hc : zck [a0, a1, some (.int x), a3] 2 = true) (k : At E M d Q pc' [a0, a1, some (.int (x + nI 1)), a3] st σ) : At E M d Q pc [a0, a1, some (.int x), a3] (st) σ := z_iincg pc' hd hp (v := x + nI 1) rfl rfl (by rw [hn]; decide) hc rfl k
theorem zs_iinc_2_5_1 {E : zE} {M : zY} {d : Nat} {Q : Option Value → zM → Prop} {pc : Nat} {st : List Value} {σ : zM} {a0 a1 a3 a4 : Option Value} {x : Int32} (pc' : Nat) (hn : M.2.2.1 = 5) (hd : decode M.2.1 pc = .ok (.iinc 2 (1), 3)) (hp : pc + 3 = pc') (hc : zck [a0, a1, some (.int x), a3, a4] 2 = true) (k : At E M d Q pc' [a0, a1, some (.int (x + nI 1)), a3, a4] st σ) : At E M d Q pc [a0, a1, some (.int x), a3, a4] (st) σ := z_iincg pc' hd hp (v := x + nI 1) rfl rfl (by rw [hn]; decide) hc rfl k
theorem zs_iinc_2_6_1 {E : zE} {M : zY} {d : Nat} {Q : Option Value → zM → Prop} {pc : Nat} {st : List Value} {σ : zM} {a0 a1 a3 a4 a5 : Option Value} {x : Int32} (pc' : Nat) (hn : M.2.2.1 = 6) (hd : decode M.2.1 pc = .ok (.iinc 2 (1), 3)) (hp : pc + 3 = pc') (hc : zck [a0, a1, some (.int x), a3, a4, a5] 2 = true) (k : At E M d Q pc' [a0, a1, some (.int (x + nI 1)), a3, a4, a5] st σ) : At E M d Q pc [a0, a1, some (.int x), a3, a4, a5] (st) σ := z_iincg pc' hd hp (v := x + nI 1) rfl rfl (by rw [hn]; decide) hc rfl k
theorem zs_iinc_2_7_1 {E : zE} {M : zY} {d : Nat} {Q : Option Value → zM → Prop} {pc : Nat} {st : List Value} {σ : zM} {a0 a1 a3 a4 a5 a6 : Option Value} {x : Int32} (pc' : Nat) (hn : M.2.2.1 = 7) (hd : decode M.2.1 pc = .ok (.iinc 2 (1), 3)) (hp : pc + 3 = pc') (hc : zck [a0, a1, some (.int x), a3, a4, a5, a6] 2 = true) (k : At E M d Q pc' [a0, a1, some (.int (x + nI 1)), a3, a4, a5, a6] st σ) : At E M d Q pc [a0, a1, some (.int x), a3, a4, a5, a6] (st) σ := z_iincg pc' hd hp (v := x + nI 1) rfl rfl (by rw [hn]; decide) hc rfl k
theorem zs_iinc_3_4_1 {E : zE} {M : zY} {d : Nat} {Q : Option Value → zM → Prop} {pc : Nat} {st : List Value} {σ : zM} {a0 a1 a2 : Option Value} {x : Int32} (pc' : Nat) (hn : M.2.2.1 = 4) (hd : decode M.2.1 pc = .ok (.iinc 3 (1), 3)) (hp : pc + 3 = pc') (hc : zck [a0, a1, a2, some (.int x)] 3 = true) (k : At E M d Q pc' [a0, a1, a2, some (.int (x + nI 1))] st σ) : At E M d Q pc [a0, a1, a2, some (.int x)] (st) σ := z_iincg pc' hd hp (v := x + nI 1) rfl rfl (by rw [hn]; decide) hc rfl k
theorem zs_iinc_3_5_1 {E : zE} {M : zY} {d : Nat} {Q : Option Value → zM → Prop} {pc : Nat} {st : List Value} {σ : zM} {a0 a1 a2 a4 : Option Value} {x : Int32} (pc' : Nat) (hn : M.2.2.1 = 5) (hd : decode M.2.1 pc = .ok (.iinc 3 (1), 3)) (hp : pc + 3 = pc') (hc : zck [a0, a1, a2, some (.int x), a4] 3 = true) (k : At E M d Q pc' [a0, a1, a2, some (.int (x + nI 1)), a4] st σ) : At E M d Q pc [a0, a1, a2, some (.int x), a4] (st) σ := z_iincg pc' hd hp (v := x + nI 1) rfl rfl (by rw [hn]; decide) hc rfl k
theorem zs_iinc_3_6_m1 {E : zE} {M : zY} {d : Nat} {Q : Option Value → zM → Prop} {pc : Nat} {st : List Value} {σ : zM} {a0 a1 a2 a4 a5 : Option Value} {x : Int32} (pc' : Nat) (hn : M.2.2.1 = 6) (hd : decode M.2.1 pc = .ok (.iinc 3 (-1), 3)) (hp : pc + 3 = pc') (hc : zck [a0, a1, a2, some (.int x), a4, a5] 3 = true) (k : At E M d Q pc' [a0, a1, a2, some (.int (x + (-1))), a4, a5] st σ) : At E M d Q pc [a0, a1, a2, some (.int x), a4, a5] (st) σ := z_iincg pc' hd hp (v := x + (-1)) rfl rfl (by rw [hn]; decide) hc rfl k
theorem zs_iinc_3_7_m1 {E : zE} {M : zY} {d : Nat} {Q : Option Value → zM → Prop} {pc : Nat} {st : List Value} {σ : zM} {a0 a1 a2 a4 a5 a6 : Option Value} {x : Int32} (pc' : Nat) (hn : M.2.2.1 = 7) (hd : decode M.2.1 pc = .ok (.iinc 3 (-1), 3)) (hp : pc + 3 = pc') (hc : zck [a0, a1, a2, some (.int x), a4, a5, a6] 3 = true) (k : At E M d Q pc' [a0, a1, a2, some (.int (x + (-1))), a4, a5, a6] st σ) : At E M d Q pc [a0, a1, a2, some (.int x), a4, a5, a6] (st) σ := z_iincg pc' hd hp (v := x + (-1)) rfl rfl (by rw [hn]; decide) hc rfl k
theorem zs_iinc_4_5_1 {E : zE} {M : zY} {d : Nat} {Q : Option Value → zM → Prop} {pc : Nat} {st : List Value} {σ : zM} {a0 a1 a2 a3 : Option Value} {x : Int32} (pc' : Nat) (hn : M.2.2.1 = 5) (hd : decode M.2.1 pc = .ok (.iinc 4 (1), 3)) (hp : pc + 3 = pc') (hc : zck [a0, a1, a2, a3, some (.int x)] 4 = true) (k : At E M d Q pc' [a0, a1, a2, a3, some (.int (x + nI 1))] st σ) : At E M d Q pc [a0, a1, a2, a3, some (.int x)] (st) σ := z_iincg pc' hd hp (v := x + nI 1) rfl rfl (by rw [hn]; decide) hc rfl k
theorem zs_iinc_4_6_m1 {E : zE} {M : zY} {d : Nat} {Q : Option Value → zM → Prop} {pc : Nat} {st : List Value} {σ : zM} {a0 a1 a2 a3 a5 : Option Value} {x : Int32} (pc' : Nat) (hn : M.2.2.1 = 6) (hd : decode M.2.1 pc = .ok (.iinc 4 (-1), 3)) (hp : pc + 3 = pc') (hc : zck [a0, a1, a2, a3, some (.int x), a5] 4 = true) (k : At E M d Q pc' [a0, a1, a2, a3, some (.int (x + (-1))), a5] st σ) : At E M d Q pc [a0, a1, a2, a3, some (.int x), a5] (st) σ := z_iincg pc' hd hp (v := x + (-1)) rfl rfl (by rw [hn]; decide) hc rfl k
theorem zs_iinc_4_6_1 {E : zE} {M : zY} {d : Nat} {Q : Option Value → zM → Prop} {pc : Nat} {st : List Value} {σ : zM} {a0 a1 a2 a3 a5 : Option Value} {x : Int32} (pc' : Nat) (hn : M.2.2.1 = 6) (hd : decode M.2.1 pc = .ok (.iinc 4 (1), 3)) (hp : pc + 3 = pc') (hc : zck [a0, a1, a2, a3, some (.int x), a5] 4 = true) (k : At E M d Q pc' [a0, a1, a2, a3, some (.int (x + nI 1)), a5] st σ) : At E M d Q pc [a0, a1, a2, a3, some (.int x), a5] (st) σ := z_iincg pc' hd hp (v := x + nI 1) rfl rfl (by rw [hn]; decide) hc rfl k
theorem zs_iinc_4_7_m1 {E : zE} {M : zY} {d : Nat} {Q : Option Value → zM → Prop} {pc : Nat} {st : List Value} {σ : zM} {a0 a1 a2 a3 a5 a6 : Option Value} {x : Int32} (pc' : Nat) (hn : M.2.2.1 = 7) (hd : decode M.2.1 pc = .ok (.iinc 4 (-1), 3)) (hp : pc + 3 = pc') (hc : zck [a0, a1, a2, a3, some (.int x), a5, a6] 4 = true) (k : At E M d Q pc' [a0, a1, a2, a3, some (.int (x + (-1))), a5, a6] st σ) : At E M d Q pc [a0, a1, a2, a3, some (.int x), a5, a6] (st) σ := z_iincg pc' hd hp (v := x + (-1)) rfl rfl (by rw [hn]; decide) hc rfl k
theorem zs_iinc_4_7_1 {E : zE} {M : zY} {d : Nat} {Q : Option Value → zM → Prop} {pc : Nat} {st : List Value} {σ : zM} {a0 a1 a2 a3 a5 a6 : Option Value} {x : Int32} (pc' : Nat) (hn : M.2.2.1 = 7) (hd : decode M.2.1 pc = .ok (.iinc 4 (1), 3)) (hp : pc + 3 = pc') (hc : zck [a0, a1, a2, a3, some (.int x), a5, a6] 4 = true) (k : At E M d Q pc' [a0, a1, a2, a3, some (.int (x + nI 1)), a5, a6] st σ) : At E M d Q pc [a0, a1, a2, a3, some (.int x), a5, a6] (st) σ := z_iincg pc' hd hp (v := x + nI 1) rfl rfl (by rw [hn]; decide) hc rfl k
theorem zs_iinc_5_6_1 {E : zE} {M : zY} {d : Nat} {Q : Option Value → zM → Prop} {pc : Nat} {st : List Value} {σ : zM} {a0 a1 a2 a3 a4 : Option Value} {x : Int32} (pc' : Nat) (hn : M.2.2.1 = 6) (hd : decode M.2.1 pc = .ok (.iinc 5 (1), 3)) (hp : pc + 3 = pc') (hc : zck [a0, a1, a2, a3, a4, some (.int x)] 5 = true) (k : At E M d Q pc' [a0, a1, a2, a3, a4, some (.int (x + nI 1))] st σ) : At E M d Q pc [a0, a1, a2, a3, a4, some (.int x)] (st) σ := z_iincg pc' hd hp (v := x + nI 1) rfl rfl (by rw [hn]; decide) hc rfl k
theorem zs_iinc_5_7_m1 {E : zE} {M : zY} {d : Nat} {Q : Option Value → zM → Prop} {pc : Nat} {st : List Value} {σ : zM} {a0 a1 a2 a3 a4 a6 : Option Value} {x : Int32} (pc' : Nat) (hn : M.2.2.1 = 7) (hd : decode M.2.1 pc = .ok (.iinc 5 (-1), 3)) (hp : pc + 3 = pc') (hc : zck [a0, a1, a2, a3, a4, some (.int x), a6] 5 = true) (k : At E M d Q pc' [a0, a1, a2, a3, a4, some (.int (x + (-1))), a6] st σ) : At E M d Q pc [a0, a1, a2, a3, a4, some (.int x), a6] (st) σ := z_iincg pc' hd hp (v := x + (-1)) rfl rfl (by rw [hn]; decide) hc rfl k
theorem zs_iinc_5_7_1 {E : zE} {M : zY} {d : Nat} {Q : Option Value → zM → Prop} {pc : Nat} {st : List Value} {σ : zM} {a0 a1 a2 a3 a4 a6 : Option Value} {x : Int32} (pc' : Nat) (hn : M.2.2.1 = 7) (hd : decode M.2.1 pc = .ok (.iinc 5 (1), 3)) (hp : pc + 3 = pc') (hc : zck [a0, a1, a2, a3, a4, some (.int x), a6] 5 = true) (k : At E M d Q pc' [a0, a1, a2, a3, a4, some (.int (x + nI 1)), a6] st σ) : At E M d Q pc [a0, a1, a2, a3, a4, some (.int x), a6] (st) σ := z_iincg pc' hd hp (v := x + nI 1) rfl rfl (by rw [hn]; decide) hc rfl k
theorem zs_iinc_5_8_1 {E : zE} {M : zY} {d : Nat} {Q : Option Value → zM → Prop} {pc : Nat} {st : List Value} {σ : zM} {a0 a1 a2 a3 a4 a6 a7 : Option Value} {x : Int32} (pc' : Nat) (hn : M.2.2.1 = 8) (hd : decode M.2.1 pc = .ok (.iinc 5 (1), 3)) (hp : pc + 3 = pc') (hc : zck [a0, a1, a2, a3, a4, some (.int x), a6, a7] 5 = true) (k : At E M d Q pc' [a0, a1, a2, a3, a4, some (.int (x + nI 1)), a6, a7] st σ) : At E M d Q pc [a0, a1, a2, a3, a4, some (.int x), a6, a7] (st) σ := z_iincg pc' hd hp (v := x + nI 1) rfl rfl (by rw [hn]; decide) hc rfl k
theorem zs_iinc_5_9_1 {E : zE} {M : zY} {d : Nat} {Q : Option Value → zM → Prop} {pc : Nat} {st : List Value} {σ : zM} {a0 a1 a2 a3 a4 a6 a7 a8 : Option Value} {x : Int32} (pc' : Nat) (hn : M.2.2.1 = 9) (hd : decode M.2.1 pc = .ok (.iinc 5 (1), 3)) (hp : pc + 3 = pc') (hc : zck [a0, a1, a2, a3, a4, some (.int x), a6, a7, a8] 5 = true) (k : At E M d Q pc' [a0, a1, a2, a3, a4, some (.int (x + nI 1)), a6, a7, a8] st σ) : At E M d Q pc [a0, a1, a2, a3, a4, some (.int x), a6, a7, a8] (st) σ := z_iincg pc' hd hp (v := x + nI 1) rfl rfl (by rw [hn]; decide) hc rfl k
theorem zs_iinc_6_7_m1 {E : zE} {M : zY} {d : Nat} {Q : Option Value → zM → Prop} {pc : Nat} {st : List Value} {σ : zM} {a0 a1 a2 a3 a4 a5 : Option Value} {x : Int32} (pc' : Nat) (hn : M.2.2.1 = 7) (hd : decode M.2.1 pc = .ok (.iinc 6 (-1), 3)) (hp : pc + 3 = pc') (hc : zck [a0, a1, a2, a3, a4, a5, some (.int x)] 6 = true) (k : At E M d Q pc' [a0, a1, a2, a3, a4, a5, some (.int (x + (-1)))] st σ) : At E M d Q pc [a0, a1, a2, a3, a4, a5, some (.int x)] (st) σ := z_iincg pc' hd hp (v := x + (-1)) rfl rfl (by rw [hn]; decide) hc rfl k
theorem zs_iinc_6_7_1 {E : zE} {M : zY} {d : Nat} {Q : Option Value → zM → Prop} {pc : Nat} {st : List Value} {σ : zM} {a0 a1 a2 a3 a4 a5 : Option Value} {x : Int32} (pc' : Nat) (hn : M.2.2.1 = 7) (hd : decode M.2.1 pc = .ok (.iinc 6 (1), 3)) (hp : pc + 3 = pc') (hc : zck [a0, a1, a2, a3, a4, a5, some (.int x)] 6 = true) (k : At E M d Q pc' [a0, a1, a2, a3, a4, a5, some (.int (x + nI 1))] st σ) : At E M d Q pc [a0, a1, a2, a3, a4, a5, some (.int x)] (st) σ := z_iincg pc' hd hp (v := x + nI 1) rfl rfl (by rw [hn]; decide) hc rfl k
theorem zs_iinc_6_8_1 {E : zE} {M : zY} {d : Nat} {Q : Option Value → zM → Prop} {pc : Nat} {st : List Value} {σ : zM} {a0 a1 a2 a3 a4 a5 a7 : Option Value} {x : Int32} (pc' : Nat) (hn : M.2.2.1 = 8) (hd : decode M.2.1 pc = .ok (.iinc 6 (1), 3)) (hp : pc + 3 = pc') (hc : zck [a0, a1, a2, a3, a4, a5, some (.int x), a7] 6 = true) (k : At E M d Q pc' [a0, a1, a2, a3, a4, a5, some (.int (x + nI 1)), a7] st σ) : At E M d Q pc [a0, a1, a2, a3, a4, a5, some (.int x), a7] (st) σ := z_iincg pc' hd hp (v := x + nI 1) rfl rfl (by rw [hn]; decide) hc rfl k
theorem zs_iinc_7_8_1 {E : zE} {M : zY} {d : Nat} {Q : Option Value → zM → Prop} {pc : Nat} {st : List Value} {σ : zM} {a0 a1 a2 a3 a4 a5 a6 : Option Value} {x : Int32} (pc' : Nat) (hn : M.2.2.1 = 8) (hd : decode M.2.1 pc = .ok (.iinc 7 (1), 3)) (hp : pc + 3 = pc') (hc : zck [a0, a1, a2, a3, a4, a5, a6, some (.int x)] 7 = true) (k : At E M d Q pc' [a0, a1, a2, a3, a4, a5, a6, some (.int (x + nI 1))] st σ) : At E M d Q pc [a0, a1, a2, a3, a4, a5, a6, some (.int x)] (st) σ := z_iincg pc' hd hp (v := x + nI 1) rfl rfl (by rw [hn]; decide) hc rfl k
theorem zs_iinc_7_9_1 {E : zE} {M : zY} {d : Nat} {Q : Option Value → zM → Prop} {pc : Nat} {st : List Value} {σ : zM} {a0 a1 a2 a3 a4 a5 a6 a8 : Option Value} {x : Int32} (pc' : Nat) (hn : M.2.2.1 = 9) (hd : decode M.2.1 pc = .ok (.iinc 7 (1), 3)) (hp : pc + 3 = pc') (hc : zck [a0, a1, a2, a3, a4, a5, a6, some (.int x), a8] 7 = true) (k : At E M d Q pc' [a0, a1, a2, a3, a4, a5, a6, some (.int (x + nI 1)), a8] st σ) : At E M d Q pc [a0, a1, a2, a3, a4, a5, a6, some (.int x), a8] (st) σ := z_iincg pc' hd hp (v := x + nI 1) rfl rfl (by rw [hn]; decide) hc rfl k
theorem zs_iinc_8_9_1 {E : zE} {M : zY} {d : Nat} {Q : Option Value → zM → Prop} {pc : Nat} {st : List Value} {σ : zM} {a0 a1 a2 a3 a4 a5 a6 a7 : Option Value} {x : Int32} (pc' : Nat) (hn : M.2.2.1 = 9) (hd : decode M.2.1 pc = .ok (.iinc 8 (1), 3)) (hp : pc + 3 = pc') (hc : zck [a0, a1, a2, a3, a4, a5, a6, a7, some (.int x)] 8 = true) (k : At E M d Q pc' [a0, a1, a2, a3, a4, a5, a6, a7, some (.int (x + nI 1))] st σ) : At E M d Q pc [a0, a1, a2, a3, a4, a5, a6, a7, some (.int x)] (st) σ := z_iincg pc' hd hp (v := x + nI 1) rfl rfl (by rw [hn]; decide) hc rfl k
theorem zs_iinc_8_10_1 {E : zE} {M : zY} {d : Nat} {Q : Option Value → zM → Prop} {pc : Nat} {st : List Value} {σ : zM} {a0 a1 a2 a3 a4 a5 a6 a7 a9 : Option Value} {x : Int32} (pc' : Nat) (hn : M.2.2.1 = 10) (hd : decode M.2.1 pc = .ok (.iinc 8 (1), 3)) (hp : pc + 3 = pc') (hc : zck [a0, a1, a2, a3, a4, a5, a6, a7, some (.int x), a9] 8 = true) (k : At E M d Q pc' [a0, a1, a2, a3, a4, a5, a6, a7, some (.int (x + nI 1)), a9] st σ) : At E M d Q pc [a0, a1, a2, a3, a4, a5, a6, a7, some (.int x), a9] (st) σ := z_iincg pc' hd hp (v := x + nI 1) rfl rfl (by rw [hn]; decide) hc rfl k
theorem zs_iinc_8_11_1 {E : zE} {M : zY} {d : Nat} {Q : Option Value → zM → Prop} {pc : Nat} {st : List Value} {σ : zM} {a0 a1 a2 a3 a4 a5 a6 a7 a9 a10 : Option Value} {x : Int32} (pc' : Nat) (hn : M.2.2.1 = 11) (hd : decode M.2.1 pc = .ok (.iinc 8 (1), 3)) (hp : pc + 3 = pc') (hc : zck [a0, a1, a2, a3, a4, a5, a6, a7, some (.int x), a9, a10] 8 = true) (k : At E M d Q pc' [a0, a1, a2, a3, a4, a5, a6, a7, some (.int (x + nI 1)), a9, a10] st σ) : At E M d Q pc [a0, a1, a2, a3, a4, a5, a6, a7, some (.int x), a9, a10] (st) σ := z_iincg pc' hd hp (v := x + nI 1) rfl rfl (by rw [hn]; decide) hc rfl k
theorem zs_iinc_8_12_1 {E : zE} {M : zY} {d : Nat} {Q : Option Value → zM → Prop} {pc : Nat} {st : List Value} {σ : zM} {a0 a1 a2 a3 a4 a5 a6 a7 a9 a10 a11 : Option Value} {x : Int32} (pc' : Nat) (hn : M.2.2.1 = 12) (hd : decode M.2.1 pc = .ok (.iinc 8 (1), 3)) (hp : pc + 3 = pc') (hc : zck [a0, a1, a2, a3, a4, a5, a6, a7, some (.int x), a9, a10, a11] 8 = true) (k : At E M d Q pc' [a0, a1, a2, a3, a4, a5, a6, a7, some (.int (x + nI 1)), a9, a10, a11] st σ) : At E M d Q pc [a0, a1, a2, a3, a4, a5, a6, a7, some (.int x), a9, a10, a11] (st) σ := z_iincg pc' hd hp (v := x + nI 1) rfl rfl (by rw [hn]; decide) hc rfl k
theorem zs_iinc_9_10_1 {E : zE} {M : zY} {d : Nat} {Q : Option Value → zM → Prop} {pc : Nat} {st : List Value} {σ : zM} {a0 a1 a2 a3 a4 a5 a6 a7 a8 : Option Value} {x : Int32} (pc' : Nat) (hn : M.2.2.1 = 10) (hd : decode M.2.1 pc = .ok (.iinc 9 (1), 3)) (hp : pc + 3 = pc') (hc : zck [a0, a1, a2, a3, a4, a5, a6, a7, a8, some (.int x)] 9 = true) (k : At E M d Q pc' [a0, a1, a2, a3, a4, a5, a6, a7, a8, some (.int (x + nI 1))] st σ) : At E M d Q pc [a0, a1, a2, a3, a4, a5, a6, a7, a8, some (.int x)] (st) σ := z_iincg pc' hd hp (v := x + nI 1) rfl rfl (by rw [hn]; decide) hc rfl k
theorem zs_iinc_9_12_1 {E : zE} {M : zY} {d : Nat} {Q : Option Value → zM → Prop} {pc : Nat} {st : List Value} {σ : zM} {a0 a1 a2 a3 a4 a5 a6 a7 a8 a10 a11 : Option Value} {x : Int32} (pc' : Nat) (hn : M.2.2.1 = 12) (hd : decode M.2.1 pc = .ok (.iinc 9 (1), 3)) (hp : pc + 3 = pc') (hc : zck [a0, a1, a2, a3, a4, a5, a6, a7, a8, some (.int x), a10, a11] 9 = true) (k : At E M d Q pc' [a0, a1, a2, a3, a4, a5, a6, a7, a8, some (.int (x + nI 1)), a10, a11] st σ) : At E M d Q pc [a0, a1, a2, a3, a4, a5, a6, a7, a8, some (.int x), a10, a11] (st) σ := z_iincg pc' hd hp (v := x + nI 1) rfl rfl (by rw [hn]; decide) hc rfl k
theorem zs_iinc_11_12_1 {E : zE} {M : zY} {d : Nat} {Q : Option Value → zM → Prop} {pc : Nat} {st : List Value} {σ : zM} {a0 a1 a2 a3 a4 a5 a6 a7 a8 a9 a10 : Option Value} {x : Int32} (pc' : Nat) (hn : M.2.2.1 = 12) (hd : decode M.2.1 pc = .ok (.iinc 11 (1), 3)) (hp : pc + 3 = pc') (hc : zck [a0, a1, a2, a3, a4, a5, a6, a7, a8, a9, a10, some (.int x)] 11 = true) (k : At E M d Q pc' [a0, a1, a2, a3, a4, a5, a6, a7, a8, a9, a10, some (.int (x + nI 1))] st σ) : At E M d Q pc [a0, a1, a2, a3, a4, a5, a6, a7, a8, a9, a10, some (.int x)] (st) σ := z_iincg pc' hd hp (v := x + nI 1) rfl rfl (by rw [hn]; decide) hc rfl k
theorem zs_istore_4_5 {E : zE} {M : zY} {d : Nat} {Q : Option Value → zM → Prop} {pc : Nat} {st : List Value} {σ : zM} {a0 a1 a2 a3 a4 : Option Value} {x : Int32} (pc' : Nat) (hn : M.2.2.1 = 5) (hd : decode M.2.1 pc = .ok (.istore 4, 2)) (hp : pc + 2 = pc') (hc : zck [a0, a1, a2, a3, a4] 4 = true) (k : At E M d Q pc' [a0, a1, a2, a3, some (.int x)] st σ) : At E M d Q pc [a0, a1, a2, a3, a4] (.int x :: st) σ := z_istoreg pc' hd hp (by rw [hn]; decide) hc rfl k
theorem zs_istore_4_6 {E : zE} {M : zY} {d : Nat} {Q : Option Value → zM → Prop} {pc : Nat} {st : List Value} {σ : zM} {a0 a1 a2 a3 a4 a5 : Option Value} {x : Int32} (pc' : Nat) (hn : M.2.2.1 = 6) (hd : decode M.2.1 pc = .ok (.istore 4, 2)) (hp : pc + 2 = pc') (hc : zck [a0, a1, a2, a3, a4, a5] 4 = true) (k : At E M d Q pc' [a0, a1, a2, a3, some (.int x), a5] st σ) : At E M d Q pc [a0, a1, a2, a3, a4, a5] (.int x :: st) σ := z_istoreg pc' hd hp (by rw [hn]; decide) hc rfl k
theorem zs_istore_4_7 {E : zE} {M : zY} {d : Nat} {Q : Option Value → zM → Prop} {pc : Nat} {st : List Value} {σ : zM} {a0 a1 a2 a3 a4 a5 a6 : Option Value} {x : Int32} (pc' : Nat) (hn : M.2.2.1 = 7) (hd : decode M.2.1 pc = .ok (.istore 4, 2)) (hp : pc + 2 = pc') (hc : zck [a0, a1, a2, a3, a4, a5, a6] 4 = true) (k : At E M d Q pc' [a0, a1, a2, a3, some (.int x), a5, a6] st σ) : At E M d Q pc [a0, a1, a2, a3, a4, a5, a6] (.int x :: st) σ := z_istoreg pc' hd hp (by rw [hn]; decide) hc rfl k
theorem zs_istore_4_8 {E : zE} {M : zY} {d : Nat} {Q : Option Value → zM → Prop} {pc : Nat} {st : List Value} {σ : zM} {a0 a1 a2 a3 a4 a5 a6 a7 : Option Value} {x : Int32} (pc' : Nat) (hn : M.2.2.1 = 8) (hd : decode M.2.1 pc = .ok (.istore 4, 2)) (hp : pc + 2 = pc') (hc : zck [a0, a1, a2, a3, a4, a5, a6, a7] 4 = true) (k : At E M d Q pc' [a0, a1, a2, a3, some (.int x), a5, a6, a7] st σ) : At E M d Q pc [a0, a1, a2, a3, a4, a5, a6, a7] (.int x :: st) σ := z_istoreg pc' hd hp (by rw [hn]; decide) hc rfl k
theorem zs_istore_4_9 {E : zE} {M : zY} {d : Nat} {Q : Option Value → zM → Prop} {pc : Nat} {st : List Value} {σ : zM} {a0 a1 a2 a3 a4 a5 a6 a7 a8 : Option Value} {x : Int32} (pc' : Nat) (hn : M.2.2.1 = 9) (hd : decode M.2.1 pc = .ok (.istore 4, 2)) (hp : pc + 2 = pc') (hc : zck [a0, a1, a2, a3, a4, a5, a6, a7, a8] 4 = true) (k : At E M d Q pc' [a0, a1, a2, a3, some (.int x), a5, a6, a7, a8] st σ) : At E M d Q pc [a0, a1, a2, a3, a4, a5, a6, a7, a8] (.int x :: st) σ := z_istoreg pc' hd hp (by rw [hn]; decide) hc rfl k
theorem zs_istore_4_10 {E : zE} {M : zY} {d : Nat} {Q : Option Value → zM → Prop} {pc : Nat} {st : List Value} {σ : zM} {a0 a1 a2 a3 a4 a5 a6 a7 a8 a9 : Option Value} {x : Int32} (pc' : Nat) (hn : M.2.2.1 = 10) (hd : decode M.2.1 pc = .ok (.istore 4, 2)) (hp : pc + 2 = pc') (hc : zck [a0, a1, a2, a3, a4, a5, a6, a7, a8, a9] 4 = true) (k : At E M d Q pc' [a0, a1, a2, a3, some (.int x), a5, a6, a7, a8, a9] st σ) : At E M d Q pc [a0, a1, a2, a3, a4, a5, a6, a7, a8, a9] (.int x :: st) σ := z_istoreg pc' hd hp (by rw [hn]; decide) hc rfl k
theorem zs_istore_4_12 {E : zE} {M : zY} {d : Nat} {Q : Option Value → zM → Prop} {pc : Nat} {st : List Value} {σ : zM} {a0 a1 a2 a3 a4 a5 a6 a7 a8 a9 a10 a11 : Option Value} {x : Int32} (pc' : Nat) (hn : M.2.2.1 = 12) (hd : decode M.2.1 pc = .ok (.istore 4, 2)) (hp : pc + 2 = pc') (hc : zck [a0, a1, a2, a3, a4, a5, a6, a7, a8, a9, a10, a11] 4 = true) (k : At E M d Q pc' [a0, a1, a2, a3, some (.int x), a5, a6, a7, a8, a9, a10, a11] st σ) : At E M d Q pc [a0, a1, a2, a3, a4, a5, a6, a7, a8, a9, a10, a11] (.int x :: st) σ := z_istoreg pc' hd hp (by rw [hn]; decide) hc rfl k
theorem zs_istore_5_6 {E : zE} {M : zY} {d : Nat} {Q : Option Value → zM → Prop} {pc : Nat} {st : List Value} {σ : zM} {a0 a1 a2 a3 a4 a5 : Option Value} {x : Int32} (pc' : Nat) (hn : M.2.2.1 = 6) (hd : decode M.2.1 pc = .ok (.istore 5, 2)) (hp : pc + 2 = pc') (hc : zck [a0, a1, a2, a3, a4, a5] 5 = true) (k : At E M d Q pc' [a0, a1, a2, a3, a4, some (.int x)] st σ) : At E M d Q pc [a0, a1, a2, a3, a4, a5] (.int x :: st) σ := z_istoreg pc' hd hp (by rw [hn]; decide) hc rfl k
theorem zs_istore_5_7 {E : zE} {M : zY} {d : Nat} {Q : Option Value → zM → Prop} {pc : Nat} {st : List Value} {σ : zM} {a0 a1 a2 a3 a4 a5 a6 : Option Value} {x : Int32} (pc' : Nat) (hn : M.2.2.1 = 7) (hd : decode M.2.1 pc = .ok (.istore 5, 2)) (hp : pc + 2 = pc') (hc : zck [a0, a1, a2, a3, a4, a5, a6] 5 = true) (k : At E M d Q pc' [a0, a1, a2, a3, a4, some (.int x), a6] st σ) : At E M d Q pc [a0, a1, a2, a3, a4, a5, a6] (.int x :: st) σ := z_istoreg pc' hd hp (by rw [hn]; decide) hc rfl k
theorem zs_istore_5_8 {E : zE} {M : zY} {d : Nat} {Q : Option Value → zM → Prop} {pc : Nat} {st : List Value} {σ : zM} {a0 a1 a2 a3 a4 a5 a6 a7 : Option Value} {x : Int32} (pc' : Nat) (hn : M.2.2.1 = 8) (hd : decode M.2.1 pc = .ok (.istore 5, 2)) (hp : pc + 2 = pc') (hc : zck [a0, a1, a2, a3, a4, a5, a6, a7] 5 = true) (k : At E M d Q pc' [a0, a1, a2, a3, a4, some (.int x), a6, a7] st σ) : At E M d Q pc [a0, a1, a2, a3, a4, a5, a6, a7] (.int x :: st) σ := z_istoreg pc' hd hp (by rw [hn]; decide) hc rfl k
theorem zs_istore_5_9 {E : zE} {M : zY} {d : Nat} {Q : Option Value → zM → Prop} {pc : Nat} {st : List Value} {σ : zM} {a0 a1 a2 a3 a4 a5 a6 a7 a8 : Option Value} {x : Int32} (pc' : Nat) (hn : M.2.2.1 = 9) (hd : decode M.2.1 pc = .ok (.istore 5, 2)) (hp : pc + 2 = pc') (hc : zck [a0, a1, a2, a3, a4, a5, a6, a7, a8] 5 = true) (k : At E M d Q pc' [a0, a1, a2, a3, a4, some (.int x), a6, a7, a8] st σ) : At E M d Q pc [a0, a1, a2, a3, a4, a5, a6, a7, a8] (.int x :: st) σ := z_istoreg pc' hd hp (by rw [hn]; decide) hc rfl k
theorem zs_istore_5_10 {E : zE} {M : zY} {d : Nat} {Q : Option Value → zM → Prop} {pc : Nat} {st : List Value} {σ : zM} {a0 a1 a2 a3 a4 a5 a6 a7 a8 a9 : Option Value} {x : Int32} (pc' : Nat) (hn : M.2.2.1 = 10) (hd : decode M.2.1 pc = .ok (.istore 5, 2)) (hp : pc + 2 = pc') (hc : zck [a0, a1, a2, a3, a4, a5, a6, a7, a8, a9] 5 = true) (k : At E M d Q pc' [a0, a1, a2, a3, a4, some (.int x), a6, a7, a8, a9] st σ) : At E M d Q pc [a0, a1, a2, a3, a4, a5, a6, a7, a8, a9] (.int x :: st) σ := z_istoreg pc' hd hp (by rw [hn]; decide) hc rfl k
theorem zs_istore_5_12 {E : zE} {M : zY} {d : Nat} {Q : Option Value → zM → Prop} {pc : Nat} {st : List Value} {σ : zM} {a0 a1 a2 a3 a4 a5 a6 a7 a8 a9 a10 a11 : Option Value} {x : Int32} (pc' : Nat) (hn : M.2.2.1 = 12) (hd : decode M.2.1 pc = .ok (.istore 5, 2)) (hp : pc + 2 = pc') (hc : zck [a0, a1, a2, a3, a4, a5, a6, a7, a8, a9, a10, a11] 5 = true) (k : At E M d Q pc' [a0, a1, a2, a3, a4, some (.int x), a6, a7, a8, a9, a10, a11] st σ) : At E M d Q pc [a0, a1, a2, a3, a4, a5, a6, a7, a8, a9, a10, a11] (.int x :: st) σ := z_istoreg pc' hd hp (by rw [hn]; decide) hc rfl k
theorem zs_istore_6_7 {E : zE} {M : zY} {d : Nat} {Q : Option Value → zM → Prop} {pc : Nat} {st : List Value} {σ : zM} {a0 a1 a2 a3 a4 a5 a6 : Option Value} {x : Int32} (pc' : Nat) (hn : M.2.2.1 = 7) (hd : decode M.2.1 pc = .ok (.istore 6, 2)) (hp : pc + 2 = pc') (hc : zck [a0, a1, a2, a3, a4, a5, a6] 6 = true) (k : At E M d Q pc' [a0, a1, a2, a3, a4, a5, some (.int x)] st σ) : At E M d Q pc [a0, a1, a2, a3, a4, a5, a6] (.int x :: st) σ := z_istoreg pc' hd hp (by rw [hn]; decide) hc rfl k
theorem zs_istore_6_8 {E : zE} {M : zY} {d : Nat} {Q : Option Value → zM → Prop} {pc : Nat} {st : List Value} {σ : zM} {a0 a1 a2 a3 a4 a5 a6 a7 : Option Value} {x : Int32} (pc' : Nat) (hn : M.2.2.1 = 8) (hd : decode M.2.1 pc = .ok (.istore 6, 2)) (hp : pc + 2 = pc') (hc : zck [a0, a1, a2, a3, a4, a5, a6, a7] 6 = true) (k : At E M d Q pc' [a0, a1, a2, a3, a4, a5, some (.int x), a7] st σ) : At E M d Q pc [a0, a1, a2, a3, a4, a5, a6, a7] (.int x :: st) σ := z_istoreg pc' hd hp (by rw [hn]; decide) hc rfl k
theorem zs_istore_6_9 {E : zE} {M : zY} {d : Nat} {Q : Option Value → zM → Prop} {pc : Nat} {st : List Value} {σ : zM} {a0 a1 a2 a3 a4 a5 a6 a7 a8 : Option Value} {x : Int32} (pc' : Nat) (hn : M.2.2.1 = 9) (hd : decode M.2.1 pc = .ok (.istore 6, 2)) (hp : pc + 2 = pc') (hc : zck [a0, a1, a2, a3, a4, a5, a6, a7, a8] 6 = true) (k : At E M d Q pc' [a0, a1, a2, a3, a4, a5, some (.int x), a7, a8] st σ) : At E M d Q pc [a0, a1, a2, a3, a4, a5, a6, a7, a8] (.int x :: st) σ := z_istoreg pc' hd hp (by rw [hn]; decide) hc rfl k
theorem zs_istore_6_10 {E : zE} {M : zY} {d : Nat} {Q : Option Value → zM → Prop} {pc : Nat} {st : List Value} {σ : zM} {a0 a1 a2 a3 a4 a5 a6 a7 a8 a9 : Option Value} {x : Int32} (pc' : Nat) (hn : M.2.2.1 = 10) (hd : decode M.2.1 pc = .ok (.istore 6, 2)) (hp : pc + 2 = pc') (hc : zck [a0, a1, a2, a3, a4, a5, a6, a7, a8, a9] 6 = true) (k : At E M d Q pc' [a0, a1, a2, a3, a4, a5, some (.int x), a7, a8, a9] st σ) : At E M d Q pc [a0, a1, a2, a3, a4, a5, a6, a7, a8, a9] (.int x :: st) σ := z_istoreg pc' hd hp (by rw [hn]; decide) hc rfl k
theorem zs_istore_6_12 {E : zE} {M : zY} {d : Nat} {Q : Option Value → zM → Prop} {pc : Nat} {st : List Value} {σ : zM} {a0 a1 a2 a3 a4 a5 a6 a7 a8 a9 a10 a11 : Option Value} {x : Int32} (pc' : Nat) (hn : M.2.2.1 = 12) (hd : decode M.2.1 pc = .ok (.istore 6, 2)) (hp : pc + 2 = pc') (hc : zck [a0, a1, a2, a3, a4, a5, a6, a7, a8, a9, a10, a11] 6 = true) (k : At E M d Q pc' [a0, a1, a2, a3, a4, a5, some (.int x), a7, a8, a9, a10, a11] st σ) : At E M d Q pc [a0, a1, a2, a3, a4, a5, a6, a7, a8, a9, a10, a11] (.int x :: st) σ := z_istoreg pc' hd hp (by rw [hn]; decide) hc rfl k
theorem zs_istore_7_8 {E : zE} {M : zY} {d : Nat} {Q : Option Value → zM → Prop} {pc : Nat} {st : List Value} {σ : zM} {a0 a1 a2 a3 a4 a5 a6 a7 : Option Value} {x : Int32} (pc' : Nat) (hn : M.2.2.1 = 8) (hd : decode M.2.1 pc = .ok (.istore 7, 2)) (hp : pc + 2 = pc') (hc : zck [a0, a1, a2, a3, a4, a5, a6, a7] 7 = true) (k : At E M d Q pc' [a0, a1, a2, a3, a4, a5, a6, some (.int x)] st σ) : At E M d Q pc [a0, a1, a2, a3, a4, a5, a6, a7] (.int x :: st) σ := z_istoreg pc' hd hp (by rw [hn]; decide) hc rfl k
theorem zs_istore_7_9 {E : zE} {M : zY} {d : Nat} {Q : Option Value → zM → Prop} {pc : Nat} {st : List Value} {σ : zM} {a0 a1 a2 a3 a4 a5 a6 a7 a8 : Option Value} {x : Int32} (pc' : Nat) (hn : M.2.2.1 = 9) (hd : decode M.2.1 pc = .ok (.istore 7, 2)) (hp : pc + 2 = pc') (hc : zck [a0, a1, a2, a3, a4, a5, a6, a7, a8] 7 = true) (k : At E M d Q pc' [a0, a1, a2, a3, a4, a5, a6, some (.int x), a8] st σ) : At E M d Q pc [a0, a1, a2, a3, a4, a5, a6, a7, a8] (.int x :: st) σ := z_istoreg pc' hd hp (by rw [hn]; decide) hc rfl k
theorem zs_istore_8_9 {E : zE} {M : zY} {d : Nat} {Q : Option Value → zM → Prop} {pc : Nat} {st : List Value} {σ : zM} {a0 a1 a2 a3 a4 a5 a6 a7 a8 : Option Value} {x : Int32} (pc' : Nat) (hn : M.2.2.1 = 9) (hd : decode M.2.1 pc = .ok (.istore 8, 2)) (hp : pc + 2 = pc') (hc : zck [a0, a1, a2, a3, a4, a5, a6, a7, a8] 8 = true) (k : At E M d Q pc' [a0, a1, a2, a3, a4, a5, a6, a7, some (.int x)] st σ) : At E M d Q pc [a0, a1, a2, a3, a4, a5, a6, a7, a8] (.int x :: st) σ := z_istoreg pc' hd hp (by rw [hn]; decide) hc rfl k
theorem zs_istore_8_10 {E : zE} {M : zY} {d : Nat} {Q : Option Value → zM → Prop} {pc : Nat} {st : List Value} {σ : zM} {a0 a1 a2 a3 a4 a5 a6 a7 a8 a9 : Option Value} {x : Int32} (pc' : Nat) (hn : M.2.2.1 = 10) (hd : decode M.2.1 pc = .ok (.istore 8, 2)) (hp : pc + 2 = pc') (hc : zck [a0, a1, a2, a3, a4, a5, a6, a7, a8, a9] 8 = true) (k : At E M d Q pc' [a0, a1, a2, a3, a4, a5, a6, a7, some (.int x), a9] st σ) : At E M d Q pc [a0, a1, a2, a3, a4, a5, a6, a7, a8, a9] (.int x :: st) σ := z_istoreg pc' hd hp (by rw [hn]; decide) hc rfl k
theorem zs_istore_8_11 {E : zE} {M : zY} {d : Nat} {Q : Option Value → zM → Prop} {pc : Nat} {st : List Value} {σ : zM} {a0 a1 a2 a3 a4 a5 a6 a7 a8 a9 a10 : Option Value} {x : Int32} (pc' : Nat) (hn : M.2.2.1 = 11) (hd : decode M.2.1 pc = .ok (.istore 8, 2)) (hp : pc + 2 = pc') (hc : zck [a0, a1, a2, a3, a4, a5, a6, a7, a8, a9, a10] 8 = true) (k : At E M d Q pc' [a0, a1, a2, a3, a4, a5, a6, a7, some (.int x), a9, a10] st σ) : At E M d Q pc [a0, a1, a2, a3, a4, a5, a6, a7, a8, a9, a10] (.int x :: st) σ := z_istoreg pc' hd hp (by rw [hn]; decide) hc rfl k
theorem zs_istore_8_12 {E : zE} {M : zY} {d : Nat} {Q : Option Value → zM → Prop} {pc : Nat} {st : List Value} {σ : zM} {a0 a1 a2 a3 a4 a5 a6 a7 a8 a9 a10 a11 : Option Value} {x : Int32} (pc' : Nat) (hn : M.2.2.1 = 12) (hd : decode M.2.1 pc = .ok (.istore 8, 2)) (hp : pc + 2 = pc') (hc : zck [a0, a1, a2, a3, a4, a5, a6, a7, a8, a9, a10, a11] 8 = true) (k : At E M d Q pc' [a0, a1, a2, a3, a4, a5, a6, a7, some (.int x), a9, a10, a11] st σ) : At E M d Q pc [a0, a1, a2, a3, a4, a5, a6, a7, a8, a9, a10, a11] (.int x :: st) σ := z_istoreg pc' hd hp (by rw [hn]; decide) hc rfl k
theorem zs_istore_9_10 {E : zE} {M : zY} {d : Nat} {Q : Option Value → zM → Prop} {pc : Nat} {st : List Value} {σ : zM} {a0 a1 a2 a3 a4 a5 a6 a7 a8 a9 : Option Value} {x : Int32} (pc' : Nat) (hn : M.2.2.1 = 10) (hd : decode M.2.1 pc = .ok (.istore 9, 2)) (hp : pc + 2 = pc') (hc : zck [a0, a1, a2, a3, a4, a5, a6, a7, a8, a9] 9 = true) (k : At E M d Q pc' [a0, a1, a2, a3, a4, a5, a6, a7, a8, some (.int x)] st σ) : At E M d Q pc [a0, a1, a2, a3, a4, a5, a6, a7, a8, a9] (.int x :: st) σ := z_istoreg pc' hd hp (by rw [hn]; decide) hc rfl k
theorem zs_istore_9_12 {E : zE} {M : zY} {d : Nat} {Q : Option Value → zM → Prop} {pc : Nat} {st : List Value} {σ : zM} {a0 a1 a2 a3 a4 a5 a6 a7 a8 a9 a10 a11 : Option Value} {x : Int32} (pc' : Nat) (hn : M.2.2.1 = 12) (hd : decode M.2.1 pc = .ok (.istore 9, 2)) (hp : pc + 2 = pc') (hc : zck [a0, a1, a2, a3, a4, a5, a6, a7, a8, a9, a10, a11] 9 = true) (k : At E M d Q pc' [a0, a1, a2, a3, a4, a5, a6, a7, a8, some (.int x), a10, a11] st σ) : At E M d Q pc [a0, a1, a2, a3, a4, a5, a6, a7, a8, a9, a10, a11] (.int x :: st) σ := z_istoreg pc' hd hp (by rw [hn]; decide) hc rfl k
theorem zs_istore_11_12 {E : zE} {M : zY} {d : Nat} {Q : Option Value → zM → Prop} {pc : Nat} {st : List Value} {σ : zM} {a0 a1 a2 a3 a4 a5 a6 a7 a8 a9 a10 a11 : Option Value} {x : Int32} (pc' : Nat) (hn : M.2.2.1 = 12) (hd : decode M.2.1 pc = .ok (.istore 11, 2)) (hp : pc + 2 = pc') (hc : zck [a0, a1, a2, a3, a4, a5, a6, a7, a8, a9, a10, a11] 11 = true) (k : At E M d Q pc' [a0, a1, a2, a3, a4, a5, a6, a7, a8, a9, a10, some (.int x)] st σ) : At E M d Q pc [a0, a1, a2, a3, a4, a5, a6, a7, a8, a9, a10, a11] (.int x :: st) σ := z_istoreg pc' hd hp (by rw [hn]; decide) hc rfl k
theorem zs_istore_n_0_1 {E : zE} {M : zY} {d : Nat} {Q : Option Value → zM → Prop} {pc : Nat} {st : List Value} {σ : zM} {a0 : Option Value} {x : Int32} (pc' : Nat) (hn : M.2.2.1 = 1) (hd : decode M.2.1 pc = .ok (.istore_n 0, 1)) (hp : pc + 1 = pc') (hc : zck [a0] 0 = true) (k : At E M d Q pc' [some (.int x)] st σ) : At E M d Q pc [a0] (.int x :: st) σ := z_istore_ng pc' hd hp (by rw [hn]; decide) hc rfl k
theorem zs_istore_n_1_2 {E : zE} {M : zY} {d : Nat} {Q : Option Value → zM → Prop} {pc : Nat} {st : List Value} {σ : zM} {a0 a1 : Option Value} {x : Int32} (pc' : Nat) (hn : M.2.2.1 = 2) (hd : decode M.2.1 pc = .ok (.istore_n 1, 1)) (hp : pc + 1 = pc') (hc : zck [a0, a1] 1 = true) (k : At E M d Q pc' [a0, some (.int x)] st σ) : At E M d Q pc [a0, a1] (.int x :: st) σ := z_istore_ng pc' hd hp (by rw [hn]; decide) hc rfl k
theorem zs_istore_n_1_3 {E : zE} {M : zY} {d : Nat} {Q : Option Value → zM → Prop} {pc : Nat} {st : List Value} {σ : zM} {a0 a1 a2 : Option Value} {x : Int32} (pc' : Nat) (hn : M.2.2.1 = 3) (hd : decode M.2.1 pc = .ok (.istore_n 1, 1)) (hp : pc + 1 = pc') (hc : zck [a0, a1, a2] 1 = true) (k : At E M d Q pc' [a0, some (.int x), a2] st σ) : At E M d Q pc [a0, a1, a2] (.int x :: st) σ := z_istore_ng pc' hd hp (by rw [hn]; decide) hc rfl k
theorem zs_istore_n_1_4 {E : zE} {M : zY} {d : Nat} {Q : Option Value → zM → Prop} {pc : Nat} {st : List Value} {σ : zM} {a0 a1 a2 a3 : Option Value} {x : Int32} (pc' : Nat) (hn : M.2.2.1 = 4) (hd : decode M.2.1 pc = .ok (.istore_n 1, 1)) (hp : pc + 1 = pc') (hc : zck [a0, a1, a2, a3] 1 = true) (k : At E M d Q pc' [a0, some (.int x), a2, a3] st σ) : At E M d Q pc [a0, a1, a2, a3] (.int x :: st) σ := z_istore_ng pc' hd hp (by rw [hn]; decide) hc rfl k
theorem zs_istore_n_1_5 {E : zE} {M : zY} {d : Nat} {Q : Option Value → zM → Prop} {pc : Nat} {st : List Value} {σ : zM} {a0 a1 a2 a3 a4 : Option Value} {x : Int32} (pc' : Nat) (hn : M.2.2.1 = 5) (hd : decode M.2.1 pc = .ok (.istore_n 1, 1)) (hp : pc + 1 = pc') (hc : zck [a0, a1, a2, a3, a4] 1 = true) (k : At E M d Q pc' [a0, some (.int x), a2, a3, a4] st σ) : At E M d Q pc [a0, a1, a2, a3, a4] (.int x :: st) σ := z_istore_ng pc' hd hp (by rw [hn]; decide) hc rfl k
theorem zs_istore_n_1_6 {E : zE} {M : zY} {d : Nat} {Q : Option Value → zM → Prop} {pc : Nat} {st : List Value} {σ : zM} {a0 a1 a2 a3 a4 a5 : Option Value} {x : Int32} (pc' : Nat) (hn : M.2.2.1 = 6) (hd : decode M.2.1 pc = .ok (.istore_n 1, 1)) (hp : pc + 1 = pc') (hc : zck [a0, a1, a2, a3, a4, a5] 1 = true) (k : At E M d Q pc' [a0, some (.int x), a2, a3, a4, a5] st σ) : At E M d Q pc [a0, a1, a2, a3, a4, a5] (.int x :: st) σ := z_istore_ng pc' hd hp (by rw [hn]; decide) hc rfl k
theorem zs_istore_n_2_3 {E : zE} {M : zY} {d : Nat} {Q : Option Value → zM → Prop} {pc : Nat} {st : List Value} {σ : zM} {a0 a1 a2 : Option Value} {x : Int32} (pc' : Nat) (hn : M.2.2.1 = 3) (hd : decode M.2.1 pc = .ok (.istore_n 2, 1)) (hp : pc + 1 = pc') (hc : zck [a0, a1, a2] 2 = true) (k : At E M d Q pc' [a0, a1, some (.int x)] st σ) : At E M d Q pc [a0, a1, a2] (.int x :: st) σ := z_istore_ng pc' hd hp (by rw [hn]; decide) hc rfl k
theorem zs_istore_n_2_4 {E : zE} {M : zY} {d : Nat} {Q : Option Value → zM → Prop} {pc : Nat} {st : List Value} {σ : zM} {a0 a1 a2 a3 : Option Value} {x : Int32} (pc' : Nat) (hn : M.2.2.1 = 4) (hd : decode M.2.1 pc = .ok (.istore_n 2, 1)) (hp : pc + 1 = pc') (hc : zck [a0, a1, a2, a3] 2 = true) (k : At E M d Q pc' [a0, a1, some (.int x), a3] st σ) : At E M d Q pc [a0, a1, a2, a3] (.int x :: st) σ := z_istore_ng pc' hd hp (by rw [hn]; decide) hc rfl k
theorem zs_istore_n_2_5 {E : zE} {M : zY} {d : Nat} {Q : Option Value → zM → Prop} {pc : Nat} {st : List Value} {σ : zM} {a0 a1 a2 a3 a4 : Option Value} {x : Int32} (pc' : Nat) (hn : M.2.2.1 = 5) (hd : decode M.2.1 pc = .ok (.istore_n 2, 1)) (hp : pc + 1 = pc') (hc : zck [a0, a1, a2, a3, a4] 2 = true) (k : At E M d Q pc' [a0, a1, some (.int x), a3, a4] st σ) : At E M d Q pc [a0, a1, a2, a3, a4] (.int x :: st) σ := z_istore_ng pc' hd hp (by rw [hn]; decide) hc rfl k
theorem zs_istore_n_2_6 {E : zE} {M : zY} {d : Nat} {Q : Option Value → zM → Prop} {pc : Nat} {st : List Value} {σ : zM} {a0 a1 a2 a3 a4 a5 : Option Value} {x : Int32} (pc' : Nat) (hn : M.2.2.1 = 6) (hd : decode M.2.1 pc = .ok (.istore_n 2, 1)) (hp : pc + 1 = pc') (hc : zck [a0, a1, a2, a3, a4, a5] 2 = true) (k : At E M d Q pc' [a0, a1, some (.int x), a3, a4, a5] st σ) : At E M d Q pc [a0, a1, a2, a3, a4, a5] (.int x :: st) σ := z_istore_ng pc' hd hp (by rw [hn]; decide) hc rfl k
theorem zs_istore_n_2_7 {E : zE} {M : zY} {d : Nat} {Q : Option Value → zM → Prop} {pc : Nat} {st : List Value} {σ : zM} {a0 a1 a2 a3 a4 a5 a6 : Option Value} {x : Int32} (pc' : Nat) (hn : M.2.2.1 = 7) (hd : decode M.2.1 pc = .ok (.istore_n 2, 1)) (hp : pc + 1 = pc') (hc : zck [a0, a1, a2, a3, a4, a5, a6] 2 = true) (k : At E M d Q pc' [a0, a1, some (.int x), a3, a4, a5, a6] st σ) : At E M d Q pc [a0, a1, a2, a3, a4, a5, a6] (.int x :: st) σ := z_istore_ng pc' hd hp (by rw [hn]; decide) hc rfl k
theorem zs_istore_n_2_11 {E : zE} {M : zY} {d : Nat} {Q : Option Value → zM → Prop} {pc : Nat} {st : List Value} {σ : zM} {a0 a1 a2 a3 a4 a5 a6 a7 a8 a9 a10 : Option Value} {x : Int32} (pc' : Nat) (hn : M.2.2.1 = 11) (hd : decode M.2.1 pc = .ok (.istore_n 2, 1)) (hp : pc + 1 = pc') (hc : zck [a0, a1, a2, a3, a4, a5, a6, a7, a8, a9, a10] 2 = true) (k : At E M d Q pc' [a0, a1, some (.int x), a3, a4, a5, a6, a7, a8, a9, a10] st σ) : At E M d Q pc [a0, a1, a2, a3, a4, a5, a6, a7, a8, a9, a10] (.int x :: st) σ := z_istore_ng pc' hd hp (by rw [hn]; decide) hc rfl k
theorem zs_istore_n_2_12 {E : zE} {M : zY} {d : Nat} {Q : Option Value → zM → Prop} {pc : Nat} {st : List Value} {σ : zM} {a0 a1 a2 a3 a4 a5 a6 a7 a8 a9 a10 a11 : Option Value} {x : Int32} (pc' : Nat) (hn : M.2.2.1 = 12) (hd : decode M.2.1 pc = .ok (.istore_n 2, 1)) (hp : pc + 1 = pc') (hc : zck [a0, a1, a2, a3, a4, a5, a6, a7, a8, a9, a10, a11] 2 = true) (k : At E M d Q pc' [a0, a1, some (.int x), a3, a4, a5, a6, a7, a8, a9, a10, a11] st σ) : At E M d Q pc [a0, a1, a2, a3, a4, a5, a6, a7, a8, a9, a10, a11] (.int x :: st) σ := z_istore_ng pc' hd hp (by rw [hn]; decide) hc rfl k
theorem zs_istore_n_3_4 {E : zE} {M : zY} {d : Nat} {Q : Option Value → zM → Prop} {pc : Nat} {st : List Value} {σ : zM} {a0 a1 a2 a3 : Option Value} {x : Int32} (pc' : Nat) (hn : M.2.2.1 = 4) (hd : decode M.2.1 pc = .ok (.istore_n 3, 1)) (hp : pc + 1 = pc') (hc : zck [a0, a1, a2, a3] 3 = true) (k : At E M d Q pc' [a0, a1, a2, some (.int x)] st σ) : At E M d Q pc [a0, a1, a2, a3] (.int x :: st) σ := z_istore_ng pc' hd hp (by rw [hn]; decide) hc rfl k
theorem zs_istore_n_3_5 {E : zE} {M : zY} {d : Nat} {Q : Option Value → zM → Prop} {pc : Nat} {st : List Value} {σ : zM} {a0 a1 a2 a3 a4 : Option Value} {x : Int32} (pc' : Nat) (hn : M.2.2.1 = 5) (hd : decode M.2.1 pc = .ok (.istore_n 3, 1)) (hp : pc + 1 = pc') (hc : zck [a0, a1, a2, a3, a4] 3 = true) (k : At E M d Q pc' [a0, a1, a2, some (.int x), a4] st σ) : At E M d Q pc [a0, a1, a2, a3, a4] (.int x :: st) σ := z_istore_ng pc' hd hp (by rw [hn]; decide) hc rfl k
theorem zs_istore_n_3_6 {E : zE} {M : zY} {d : Nat} {Q : Option Value → zM → Prop} {pc : Nat} {st : List Value} {σ : zM} {a0 a1 a2 a3 a4 a5 : Option Value} {x : Int32} (pc' : Nat) (hn : M.2.2.1 = 6) (hd : decode M.2.1 pc = .ok (.istore_n 3, 1)) (hp : pc + 1 = pc') (hc : zck [a0, a1, a2, a3, a4, a5] 3 = true) (k : At E M d Q pc' [a0, a1, a2, some (.int x), a4, a5] st σ) : At E M d Q pc [a0, a1, a2, a3, a4, a5] (.int x :: st) σ := z_istore_ng pc' hd hp (by rw [hn]; decide) hc rfl k
theorem zs_istore_n_3_7 {E : zE} {M : zY} {d : Nat} {Q : Option Value → zM → Prop} {pc : Nat} {st : List Value} {σ : zM} {a0 a1 a2 a3 a4 a5 a6 : Option Value} {x : Int32} (pc' : Nat) (hn : M.2.2.1 = 7) (hd : decode M.2.1 pc = .ok (.istore_n 3, 1)) (hp : pc + 1 = pc') (hc : zck [a0, a1, a2, a3, a4, a5, a6] 3 = true) (k : At E M d Q pc' [a0, a1, a2, some (.int x), a4, a5, a6] st σ) : At E M d Q pc [a0, a1, a2, a3, a4, a5, a6] (.int x :: st) σ := z_istore_ng pc' hd hp (by rw [hn]; decide) hc rfl k
theorem zs_istore_n_3_8 {E : zE} {M : zY} {d : Nat} {Q : Option Value → zM → Prop} {pc : Nat} {st : List Value} {σ : zM} {a0 a1 a2 a3 a4 a5 a6 a7 : Option Value} {x : Int32} (pc' : Nat) (hn : M.2.2.1 = 8) (hd : decode M.2.1 pc = .ok (.istore_n 3, 1)) (hp : pc + 1 = pc') (hc : zck [a0, a1, a2, a3, a4, a5, a6, a7] 3 = true) (k : At E M d Q pc' [a0, a1, a2, some (.int x), a4, a5, a6, a7] st σ) : At E M d Q pc [a0, a1, a2, a3, a4, a5, a6, a7] (.int x :: st) σ := z_istore_ng pc' hd hp (by rw [hn]; decide) hc rfl k
theorem zs_istore_n_3_11 {E : zE} {M : zY} {d : Nat} {Q : Option Value → zM → Prop} {pc : Nat} {st : List Value} {σ : zM} {a0 a1 a2 a3 a4 a5 a6 a7 a8 a9 a10 : Option Value} {x : Int32} (pc' : Nat) (hn : M.2.2.1 = 11) (hd : decode M.2.1 pc = .ok (.istore_n 3, 1)) (hp : pc + 1 = pc') (hc : zck [a0, a1, a2, a3, a4, a5, a6, a7, a8, a9, a10] 3 = true) (k : At E M d Q pc' [a0, a1, a2, some (.int x), a4, a5, a6, a7, a8, a9, a10] st σ) : At E M d Q pc [a0, a1, a2, a3, a4, a5, a6, a7, a8, a9, a10] (.int x :: st) σ := z_istore_ng pc' hd hp (by rw [hn]; decide) hc rfl k
theorem zs_istore_n_3_12 {E : zE} {M : zY} {d : Nat} {Q : Option Value → zM → Prop} {pc : Nat} {st : List Value} {σ : zM} {a0 a1 a2 a3 a4 a5 a6 a7 a8 a9 a10 a11 : Option Value} {x : Int32} (pc' : Nat) (hn : M.2.2.1 = 12) (hd : decode M.2.1 pc = .ok (.istore_n 3, 1)) (hp : pc + 1 = pc') (hc : zck [a0, a1, a2, a3, a4, a5, a6, a7, a8, a9, a10, a11] 3 = true) (k : At E M d Q pc' [a0, a1, a2, some (.int x), a4, a5, a6, a7, a8, a9, a10, a11] st σ) : At E M d Q pc [a0, a1, a2, a3, a4, a5, a6, a7, a8, a9, a10, a11] (.int x :: st) σ := z_istore_ng pc' hd hp (by rw [hn]; decide) hc rfl k
theorem zs_lstore_4_6 {E : zE} {M : zY} {d : Nat} {Q : Option Value → zM → Prop} {pc : Nat} {st : List Value} {σ : zM} {a0 a1 a2 a3 a4 a5 : Option Value} {x : Int64} (pc' : Nat) (hn : M.2.2.1 = 6) (hd : decode M.2.1 pc = .ok (.lstore 4, 2)) (hp : pc + 2 = pc') (hc : zck [a0, a1, a2, a3, a4, a5] 4 = true) (k : At E M d Q pc' [a0, a1, a2, a3, some (.long x), none] st σ) : At E M d Q pc [a0, a1, a2, a3, a4, a5] (.long x :: st) σ := z_lstoreg pc' hd hp (by rw [hn]; decide) hc rfl k
theorem zs_lstore_4_7 {E : zE} {M : zY} {d : Nat} {Q : Option Value → zM → Prop} {pc : Nat} {st : List Value} {σ : zM} {a0 a1 a2 a3 a4 a5 a6 : Option Value} {x : Int64} (pc' : Nat) (hn : M.2.2.1 = 7) (hd : decode M.2.1 pc = .ok (.lstore 4, 2)) (hp : pc + 2 = pc') (hc : zck [a0, a1, a2, a3, a4, a5, a6] 4 = true) (k : At E M d Q pc' [a0, a1, a2, a3, some (.long x), none, a6] st σ) : At E M d Q pc [a0, a1, a2, a3, a4, a5, a6] (.long x :: st) σ := z_lstoreg pc' hd hp (by rw [hn]; decide) hc rfl k
theorem zs_lstore_4_8 {E : zE} {M : zY} {d : Nat} {Q : Option Value → zM → Prop} {pc : Nat} {st : List Value} {σ : zM} {a0 a1 a2 a3 a4 a5 a6 a7 : Option Value} {x : Int64} (pc' : Nat) (hn : M.2.2.1 = 8) (hd : decode M.2.1 pc = .ok (.lstore 4, 2)) (hp : pc + 2 = pc') (hc : zck [a0, a1, a2, a3, a4, a5, a6, a7] 4 = true) (k : At E M d Q pc' [a0, a1, a2, a3, some (.long x), none, a6, a7] st σ) : At E M d Q pc [a0, a1, a2, a3, a4, a5, a6, a7] (.long x :: st) σ := z_lstoreg pc' hd hp (by rw [hn]; decide) hc rfl k
theorem zs_lstore_4_11 {E : zE} {M : zY} {d : Nat} {Q : Option Value → zM → Prop} {pc : Nat} {st : List Value} {σ : zM} {a0 a1 a2 a3 a4 a5 a6 a7 a8 a9 a10 : Option Value} {x : Int64} (pc' : Nat) (hn : M.2.2.1 = 11) (hd : decode M.2.1 pc = .ok (.lstore 4, 2)) (hp : pc + 2 = pc') (hc : zck [a0, a1, a2, a3, a4, a5, a6, a7, a8, a9, a10] 4 = true) (k : At E M d Q pc' [a0, a1, a2, a3, some (.long x), none, a6, a7, a8, a9, a10] st σ) : At E M d Q pc [a0, a1, a2, a3, a4, a5, a6, a7, a8, a9, a10] (.long x :: st) σ := z_lstoreg pc' hd hp (by rw [hn]; decide) hc rfl k
theorem zs_lstore_4_12 {E : zE} {M : zY} {d : Nat} {Q : Option Value → zM → Prop} {pc : Nat} {st : List Value} {σ : zM} {a0 a1 a2 a3 a4 a5 a6 a7 a8 a9 a10 a11 : Option Value} {x : Int64} (pc' : Nat) (hn : M.2.2.1 = 12) (hd : decode M.2.1 pc = .ok (.lstore 4, 2)) (hp : pc + 2 = pc') (hc : zck [a0, a1, a2, a3, a4, a5, a6, a7, a8, a9, a10, a11] 4 = true) (k : At E M d Q pc' [a0, a1, a2, a3, some (.long x), none, a6, a7, a8, a9, a10, a11] st σ) : At E M d Q pc [a0, a1, a2, a3, a4, a5, a6, a7, a8, a9, a10, a11] (.long x :: st) σ := z_lstoreg pc' hd hp (by rw [hn]; decide) hc rfl k
theorem zs_lstore_5_7 {E : zE} {M : zY} {d : Nat} {Q : Option Value → zM → Prop} {pc : Nat} {st : List Value} {σ : zM} {a0 a1 a2 a3 a4 a5 a6 : Option Value} {x : Int64} (pc' : Nat) (hn : M.2.2.1 = 7) (hd : decode M.2.1 pc = .ok (.lstore 5, 2)) (hp : pc + 2 = pc') (hc : zck [a0, a1, a2, a3, a4, a5, a6] 5 = true) (k : At E M d Q pc' [a0, a1, a2, a3, a4, some (.long x), none] st σ) : At E M d Q pc [a0, a1, a2, a3, a4, a5, a6] (.long x :: st) σ := z_lstoreg pc' hd hp (by rw [hn]; decide) hc rfl k
theorem zs_lstore_5_8 {E : zE} {M : zY} {d : Nat} {Q : Option Value → zM → Prop} {pc : Nat} {st : List Value} {σ : zM} {a0 a1 a2 a3 a4 a5 a6 a7 : Option Value} {x : Int64} (pc' : Nat) (hn : M.2.2.1 = 8) (hd : decode M.2.1 pc = .ok (.lstore 5, 2)) (hp : pc + 2 = pc') (hc : zck [a0, a1, a2, a3, a4, a5, a6, a7] 5 = true) (k : At E M d Q pc' [a0, a1, a2, a3, a4, some (.long x), none, a7] st σ) : At E M d Q pc [a0, a1, a2, a3, a4, a5, a6, a7] (.long x :: st) σ := z_lstoreg pc' hd hp (by rw [hn]; decide) hc rfl k
theorem zs_lstore_5_10 {E : zE} {M : zY} {d : Nat} {Q : Option Value → zM → Prop} {pc : Nat} {st : List Value} {σ : zM} {a0 a1 a2 a3 a4 a5 a6 a7 a8 a9 : Option Value} {x : Int64} (pc' : Nat) (hn : M.2.2.1 = 10) (hd : decode M.2.1 pc = .ok (.lstore 5, 2)) (hp : pc + 2 = pc') (hc : zck [a0, a1, a2, a3, a4, a5, a6, a7, a8, a9] 5 = true) (k : At E M d Q pc' [a0, a1, a2, a3, a4, some (.long x), none, a7, a8, a9] st σ) : At E M d Q pc [a0, a1, a2, a3, a4, a5, a6, a7, a8, a9] (.long x :: st) σ := z_lstoreg pc' hd hp (by rw [hn]; decide) hc rfl k
theorem zs_lstore_5_12 {E : zE} {M : zY} {d : Nat} {Q : Option Value → zM → Prop} {pc : Nat} {st : List Value} {σ : zM} {a0 a1 a2 a3 a4 a5 a6 a7 a8 a9 a10 a11 : Option Value} {x : Int64} (pc' : Nat) (hn : M.2.2.1 = 12) (hd : decode M.2.1 pc = .ok (.lstore 5, 2)) (hp : pc + 2 = pc') (hc : zck [a0, a1, a2, a3, a4, a5, a6, a7, a8, a9, a10, a11] 5 = true) (k : At E M d Q pc' [a0, a1, a2, a3, a4, some (.long x), none, a7, a8, a9, a10, a11] st σ) : At E M d Q pc [a0, a1, a2, a3, a4, a5, a6, a7, a8, a9, a10, a11] (.long x :: st) σ := z_lstoreg pc' hd hp (by rw [hn]; decide) hc rfl k
theorem zs_lstore_6_8 {E : zE} {M : zY} {d : Nat} {Q : Option Value → zM → Prop} {pc : Nat} {st : List Value} {σ : zM} {a0 a1 a2 a3 a4 a5 a6 a7 : Option Value} {x : Int64} (pc' : Nat) (hn : M.2.2.1 = 8) (hd : decode M.2.1 pc = .ok (.lstore 6, 2)) (hp : pc + 2 = pc') (hc : zck [a0, a1, a2, a3, a4, a5, a6, a7] 6 = true) (k : At E M d Q pc' [a0, a1, a2, a3, a4, a5, some (.long x), none] st σ) : At E M d Q pc [a0, a1, a2, a3, a4, a5, a6, a7] (.long x :: st) σ := z_lstoreg pc' hd hp (by rw [hn]; decide) hc rfl k
theorem zs_lstore_6_9 {E : zE} {M : zY} {d : Nat} {Q : Option Value → zM → Prop} {pc : Nat} {st : List Value} {σ : zM} {a0 a1 a2 a3 a4 a5 a6 a7 a8 : Option Value} {x : Int64} (pc' : Nat) (hn : M.2.2.1 = 9) (hd : decode M.2.1 pc = .ok (.lstore 6, 2)) (hp : pc + 2 = pc') (hc : zck [a0, a1, a2, a3, a4, a5, a6, a7, a8] 6 = true) (k : At E M d Q pc' [a0, a1, a2, a3, a4, a5, some (.long x), none, a8] st σ) : At E M d Q pc [a0, a1, a2, a3, a4, a5, a6, a7, a8] (.long x :: st) σ := z_lstoreg pc' hd hp (by rw [hn]; decide) hc rfl k
theorem zs_lstore_6_10 {E : zE} {M : zY} {d : Nat} {Q : Option Value → zM → Prop} {pc : Nat} {st : List Value} {σ : zM} {a0 a1 a2 a3 a4 a5 a6 a7 a8 a9 : Option Value} {x : Int64} (pc' : Nat) (hn : M.2.2.1 = 10) (hd : decode M.2.1 pc = .ok (.lstore 6, 2)) (hp : pc + 2 = pc') (hc : zck [a0, a1, a2, a3, a4, a5, a6, a7, a8, a9] 6 = true) (k : At E M d Q pc' [a0, a1, a2, a3, a4, a5, some (.long x), none, a8, a9] st σ) : At E M d Q pc [a0, a1, a2, a3, a4, a5, a6, a7, a8, a9] (.long x :: st) σ := z_lstoreg pc' hd hp (by rw [hn]; decide) hc rfl k
theorem zs_lstore_6_11 {E : zE} {M : zY} {d : Nat} {Q : Option Value → zM → Prop} {pc : Nat} {st : List Value} {σ : zM} {a0 a1 a2 a3 a4 a5 a6 a7 a8 a9 a10 : Option Value} {x : Int64} (pc' : Nat) (hn : M.2.2.1 = 11) (hd : decode M.2.1 pc = .ok (.lstore 6, 2)) (hp : pc + 2 = pc') (hc : zck [a0, a1, a2, a3, a4, a5, a6, a7, a8, a9, a10] 6 = true) (k : At E M d Q pc' [a0, a1, a2, a3, a4, a5, some (.long x), none, a8, a9, a10] st σ) : At E M d Q pc [a0, a1, a2, a3, a4, a5, a6, a7, a8, a9, a10] (.long x :: st) σ := z_lstoreg pc' hd hp (by rw [hn]; decide) hc rfl k
theorem zs_lstore_6_12 {E : zE} {M : zY} {d : Nat} {Q : Option Value → zM → Prop} {pc : Nat} {st : List Value} {σ : zM} {a0 a1 a2 a3 a4 a5 a6 a7 a8 a9 a10 a11 : Option Value} {x : Int64} (pc' : Nat) (hn : M.2.2.1 = 12) (hd : decode M.2.1 pc = .ok (.lstore 6, 2)) (hp : pc + 2 = pc') (hc : zck [a0, a1, a2, a3, a4, a5, a6, a7, a8, a9, a10, a11] 6 = true) (k : At E M d Q pc' [a0, a1, a2, a3, a4, a5, some (.long x), none, a8, a9, a10, a11] st σ) : At E M d Q pc [a0, a1, a2, a3, a4, a5, a6, a7, a8, a9, a10, a11] (.long x :: st) σ := z_lstoreg pc' hd hp (by rw [hn]; decide) hc rfl k
theorem zs_lstore_7_10 {E : zE} {M : zY} {d : Nat} {Q : Option Value → zM → Prop} {pc : Nat} {st : List Value} {σ : zM} {a0 a1 a2 a3 a4 a5 a6 a7 a8 a9 : Option Value} {x : Int64} (pc' : Nat) (hn : M.2.2.1 = 10) (hd : decode M.2.1 pc = .ok (.lstore 7, 2)) (hp : pc + 2 = pc') (hc : zck [a0, a1, a2, a3, a4, a5, a6, a7, a8, a9] 7 = true) (k : At E M d Q pc' [a0, a1, a2, a3, a4, a5, a6, some (.long x), none, a9] st σ) : At E M d Q pc [a0, a1, a2, a3, a4, a5, a6, a7, a8, a9] (.long x :: st) σ := z_lstoreg pc' hd hp (by rw [hn]; decide) hc rfl k
theorem zs_lstore_7_12 {E : zE} {M : zY} {d : Nat} {Q : Option Value → zM → Prop} {pc : Nat} {st : List Value} {σ : zM} {a0 a1 a2 a3 a4 a5 a6 a7 a8 a9 a10 a11 : Option Value} {x : Int64} (pc' : Nat) (hn : M.2.2.1 = 12) (hd : decode M.2.1 pc = .ok (.lstore 7, 2)) (hp : pc + 2 = pc') (hc : zck [a0, a1, a2, a3, a4, a5, a6, a7, a8, a9, a10, a11] 7 = true) (k : At E M d Q pc' [a0, a1, a2, a3, a4, a5, a6, some (.long x), none, a9, a10, a11] st σ) : At E M d Q pc [a0, a1, a2, a3, a4, a5, a6, a7, a8, a9, a10, a11] (.long x :: st) σ := z_lstoreg pc' hd hp (by rw [hn]; decide) hc rfl k
theorem zs_lstore_8_12 {E : zE} {M : zY} {d : Nat} {Q : Option Value → zM → Prop} {pc : Nat} {st : List Value} {σ : zM} {a0 a1 a2 a3 a4 a5 a6 a7 a8 a9 a10 a11 : Option Value} {x : Int64} (pc' : Nat) (hn : M.2.2.1 = 12) (hd : decode M.2.1 pc = .ok (.lstore 8, 2)) (hp : pc + 2 = pc') (hc : zck [a0, a1, a2, a3, a4, a5, a6, a7, a8, a9, a10, a11] 8 = true) (k : At E M d Q pc' [a0, a1, a2, a3, a4, a5, a6, a7, some (.long x), none, a10, a11] st σ) : At E M d Q pc [a0, a1, a2, a3, a4, a5, a6, a7, a8, a9, a10, a11] (.long x :: st) σ := z_lstoreg pc' hd hp (by rw [hn]; decide) hc rfl k
theorem zs_lstore_9_11 {E : zE} {M : zY} {d : Nat} {Q : Option Value → zM → Prop} {pc : Nat} {st : List Value} {σ : zM} {a0 a1 a2 a3 a4 a5 a6 a7 a8 a9 a10 : Option Value} {x : Int64} (pc' : Nat) (hn : M.2.2.1 = 11) (hd : decode M.2.1 pc = .ok (.lstore 9, 2)) (hp : pc + 2 = pc') (hc : zck [a0, a1, a2, a3, a4, a5, a6, a7, a8, a9, a10] 9 = true) (k : At E M d Q pc' [a0, a1, a2, a3, a4, a5, a6, a7, a8, some (.long x), none] st σ) : At E M d Q pc [a0, a1, a2, a3, a4, a5, a6, a7, a8, a9, a10] (.long x :: st) σ := z_lstoreg pc' hd hp (by rw [hn]; decide) hc rfl k
theorem zs_lstore_9_12 {E : zE} {M : zY} {d : Nat} {Q : Option Value → zM → Prop} {pc : Nat} {st : List Value} {σ : zM} {a0 a1 a2 a3 a4 a5 a6 a7 a8 a9 a10 a11 : Option Value} {x : Int64} (pc' : Nat) (hn : M.2.2.1 = 12) (hd : decode M.2.1 pc = .ok (.lstore 9, 2)) (hp : pc + 2 = pc') (hc : zck [a0, a1, a2, a3, a4, a5, a6, a7, a8, a9, a10, a11] 9 = true) (k : At E M d Q pc' [a0, a1, a2, a3, a4, a5, a6, a7, a8, some (.long x), none, a11] st σ) : At E M d Q pc [a0, a1, a2, a3, a4, a5, a6, a7, a8, a9, a10, a11] (.long x :: st) σ := z_lstoreg pc' hd hp (by rw [hn]; decide) hc rfl k
theorem zs_lstore_10_12 {E : zE} {M : zY} {d : Nat} {Q : Option Value → zM → Prop} {pc : Nat} {st : List Value} {σ : zM} {a0 a1 a2 a3 a4 a5 a6 a7 a8 a9 a10 a11 : Option Value} {x : Int64} (pc' : Nat) (hn : M.2.2.1 = 12) (hd : decode M.2.1 pc = .ok (.lstore 10, 2)) (hp : pc + 2 = pc') (hc : zck [a0, a1, a2, a3, a4, a5, a6, a7, a8, a9, a10, a11] 10 = true) (k : At E M d Q pc' [a0, a1, a2, a3, a4, a5, a6, a7, a8, a9, some (.long x), none] st σ) : At E M d Q pc [a0, a1, a2, a3, a4, a5, a6, a7, a8, a9, a10, a11] (.long x :: st) σ := z_lstoreg pc' hd hp (by rw [hn]; decide) hc rfl k
theorem zs_lstore_n_1_4 {E : zE} {M : zY} {d : Nat} {Q : Option Value → zM → Prop} {pc : Nat} {st : List Value} {σ : zM} {a0 a1 a2 a3 : Option Value} {x : Int64} (pc' : Nat) (hn : M.2.2.1 = 4) (hd : decode M.2.1 pc = .ok (.lstore_n 1, 1)) (hp : pc + 1 = pc') (hc : zck [a0, a1, a2, a3] 1 = true) (k : At E M d Q pc' [a0, some (.long x), none, a3] st σ) : At E M d Q pc [a0, a1, a2, a3] (.long x :: st) σ := z_lstore_ng pc' hd hp (by rw [hn]; decide) hc rfl k
theorem zs_lstore_n_1_5 {E : zE} {M : zY} {d : Nat} {Q : Option Value → zM → Prop} {pc : Nat} {st : List Value} {σ : zM} {a0 a1 a2 a3 a4 : Option Value} {x : Int64} (pc' : Nat) (hn : M.2.2.1 = 5) (hd : decode M.2.1 pc = .ok (.lstore_n 1, 1)) (hp : pc + 1 = pc') (hc : zck [a0, a1, a2, a3, a4] 1 = true) (k : At E M d Q pc' [a0, some (.long x), none, a3, a4] st σ) : At E M d Q pc [a0, a1, a2, a3, a4] (.long x :: st) σ := z_lstore_ng pc' hd hp (by rw [hn]; decide) hc rfl k
theorem zs_lstore_n_2_5 {E : zE} {M : zY} {d : Nat} {Q : Option Value → zM → Prop} {pc : Nat} {st : List Value} {σ : zM} {a0 a1 a2 a3 a4 : Option Value} {x : Int64} (pc' : Nat) (hn : M.2.2.1 = 5) (hd : decode M.2.1 pc = .ok (.lstore_n 2, 1)) (hp : pc + 1 = pc') (hc : zck [a0, a1, a2, a3, a4] 2 = true) (k : At E M d Q pc' [a0, a1, some (.long x), none, a4] st σ) : At E M d Q pc [a0, a1, a2, a3, a4] (.long x :: st) σ := z_lstore_ng pc' hd hp (by rw [hn]; decide) hc rfl k
theorem zs_lstore_n_2_8 {E : zE} {M : zY} {d : Nat} {Q : Option Value → zM → Prop} {pc : Nat} {st : List Value} {σ : zM} {a0 a1 a2 a3 a4 a5 a6 a7 : Option Value} {x : Int64} (pc' : Nat) (hn : M.2.2.1 = 8) (hd : decode M.2.1 pc = .ok (.lstore_n 2, 1)) (hp : pc + 1 = pc') (hc : zck [a0, a1, a2, a3, a4, a5, a6, a7] 2 = true) (k : At E M d Q pc' [a0, a1, some (.long x), none, a4, a5, a6, a7] st σ) : At E M d Q pc [a0, a1, a2, a3, a4, a5, a6, a7] (.long x :: st) σ := z_lstore_ng pc' hd hp (by rw [hn]; decide) hc rfl k
theorem zs_lstore_n_3_6 {E : zE} {M : zY} {d : Nat} {Q : Option Value → zM → Prop} {pc : Nat} {st : List Value} {σ : zM} {a0 a1 a2 a3 a4 a5 : Option Value} {x : Int64} (pc' : Nat) (hn : M.2.2.1 = 6) (hd : decode M.2.1 pc = .ok (.lstore_n 3, 1)) (hp : pc + 1 = pc') (hc : zck [a0, a1, a2, a3, a4, a5] 3 = true) (k : At E M d Q pc' [a0, a1, a2, some (.long x), none, a5] st σ) : At E M d Q pc [a0, a1, a2, a3, a4, a5] (.long x :: st) σ := z_lstore_ng pc' hd hp (by rw [hn]; decide) hc rfl k
theorem z_cSI1 {E : zE} {M : zY} {d : Nat} {Q : Option Value → zM → Prop} {pc : Nat} {ls : List (Option Value)} {st : List Value} {σ : zM} {M' : zY} {idx : Nat} {v1 : Value} {P : Int32 → zM → Prop} (pc' : Nat) (hR : Ret E M' d [v1] σ (qI P)) (hc : zCalS M' 1) (hd : decode M.2.1 pc = .ok (.invokestatic idx, 3)) (hp : pc + 3 = pc') (hl : Cond.methodLink M.1.cls idx M'.1 ∈ zTb) (hw : (st.map fun v => v.category).sum ≤ 8) (k : ∀ (x : Int32) (τ : zM), P x τ → At E M (d + 1) Q pc' ls (.int x :: st) τ) : At E M (d + 1) Q pc ls (v1 :: st) σ := z_callS pc' (As := [v1]) hR hc hd hp hl rfl rfl hw (fun v τ h => by obtain ⟨x, rfl, hP⟩ := h; exact k x τ hP)
theorem z_cSI3 {E : zE} {M : zY} {d : Nat} {Q : Option Value → zM → Prop} {pc : Nat} {ls : List (Option Value)} {st : List Value} {σ : zM} {M' : zY} {idx : Nat} {v1 v2 v3 : Value} {P : Int32 → zM → Prop} (pc' : Nat) (hR : Ret E M' d [v1, v2, v3] σ (qI P)) (hc : zCalS M' 3) (hd : decode M.2.1 pc = .ok (.invokestatic idx, 3)) (hp : pc + 3 = pc') (hl : Cond.methodLink M.1.cls idx M'.1 ∈ zTb) (hw : (st.map fun v => v.category).sum ≤ 8) (k : ∀ (x : Int32) (τ : zM), P x τ → At E M (d + 1) Q pc' ls (.int x :: st) τ) : At E M (d + 1) Q pc ls (v3 :: v2 :: v1 :: st) σ := z_callS pc' (As := [v1, v2, v3]) hR hc hd hp hl rfl rfl hw (fun v τ h => by obtain ⟨x, rfl, hP⟩ := h; exact k x τ hP)
theorem z_cSJ1 {E : zE} {M : zY} {d : Nat} {Q : Option Value → zM → Prop} {pc : Nat} {ls : List (Option Value)} {st : List Value} {σ : zM} {M' : zY} {idx : Nat} {v1 : Value} {P : Int64 → zM → Prop} (pc' : Nat) (hR : Ret E M' d [v1] σ (qJ P)) (hc : zCalS M' 1) (hd : decode M.2.1 pc = .ok (.invokestatic idx, 3)) (hp : pc + 3 = pc') (hl : Cond.methodLink M.1.cls idx M'.1 ∈ zTb) (hw : (st.map fun v => v.category).sum ≤ 8) (k : ∀ (x : Int64) (τ : zM), P x τ → At E M (d + 1) Q pc' ls (.long x :: st) τ) : At E M (d + 1) Q pc ls (v1 :: st) σ := z_callS pc' (As := [v1]) hR hc hd hp hl rfl rfl hw (fun v τ h => by obtain ⟨x, rfl, hP⟩ := h; exact k x τ hP)
theorem z_cSV3 {E : zE} {M : zY} {d : Nat} {Q : Option Value → zM → Prop} {pc : Nat} {ls : List (Option Value)} {st : List Value} {σ : zM} {M' : zY} {idx : Nat} {v1 v2 v3 : Value} {P : zM → Prop} (pc' : Nat) (hR : Ret E M' d [v1, v2, v3] σ (qV P)) (hc : zCalS M' 3) (hd : decode M.2.1 pc = .ok (.invokestatic idx, 3)) (hp : pc + 3 = pc') (hl : Cond.methodLink M.1.cls idx M'.1 ∈ zTb) (hw : (st.map fun v => v.category).sum ≤ 8) (k : ∀ (τ : zM), P τ → At E M (d + 1) Q pc' ls (st) τ) : At E M (d + 1) Q pc ls (v3 :: v2 :: v1 :: st) σ := z_callS pc' (As := [v1, v2, v3]) hR hc hd hp hl rfl rfl hw (fun v τ h => by obtain ⟨rfl, hP⟩ := h; exact k τ hP)
theorem z_cSNI3 {E : zE} {M : zY} {d : Nat} {Q : Option Value → zM → Prop} {pc : Nat} {ls : List (Option Value)} {st : List Value} {σ : zM} {M' : zY} {idx : Nat} {host : String} {v1 v2 v3 : Value} {P : Int32 → zM → Prop} (pc' : Nat) (hR : Ret E M' d [v1, v2, v3] σ (qI P)) (hc : zCalS M' 3) (hd : decode M.2.1 pc = .ok (.invokestatic idx, 3)) (hp : pc + 3 = pc') (hl : Cond.methodLinkNest M.1.cls idx M'.1 host ∈ zTb) (hw : (st.map fun v => v.category).sum ≤ 8) (k : ∀ (x : Int32) (τ : zM), P x τ → At E M (d + 1) Q pc' ls (.int x :: st) τ) : At E M (d + 1) Q pc ls (v3 :: v2 :: v1 :: st) σ := z_callSN pc' (As := [v1, v2, v3]) hR hc hd hp hl rfl rfl hw (fun v τ h => by obtain ⟨x, rfl, hP⟩ := h; exact k x τ hP)
theorem z_cSNV3 {E : zE} {M : zY} {d : Nat} {Q : Option Value → zM → Prop} {pc : Nat} {ls : List (Option Value)} {st : List Value} {σ : zM} {M' : zY} {idx : Nat} {host : String} {v1 v2 v3 : Value} {P : zM → Prop} (pc' : Nat) (hR : Ret E M' d [v1, v2, v3] σ (qV P)) (hc : zCalS M' 3) (hd : decode M.2.1 pc = .ok (.invokestatic idx, 3)) (hp : pc + 3 = pc') (hl : Cond.methodLinkNest M.1.cls idx M'.1 host ∈ zTb) (hw : (st.map fun v => v.category).sum ≤ 8) (k : ∀ (τ : zM), P τ → At E M (d + 1) Q pc' ls (st) τ) : At E M (d + 1) Q pc ls (v3 :: v2 :: v1 :: st) σ := z_callSN pc' (As := [v1, v2, v3]) hR hc hd hp hl rfl rfl hw (fun v τ h => by obtain ⟨rfl, hP⟩ := h; exact k τ hP)
theorem z_cVA1 {E : zE} {M : zY} {d : Nat} {Q : Option Value → zM → Prop} {pc : Nat} {ls : List (Option Value)} {st : List Value} {σ : zM} {M' : zY} {idx ci a : Nat} {v1 : Value} {P : Value → zM → Prop} (pc' : Nat) (hR : Ret E M' d [zr E a, v1] σ (qA P)) (hc : zCalV M' 1 ci) (hd : decode M.2.1 pc = .ok (.invokevirtual idx, 3)) (hp : pc + 3 = pc') (hl : Cond.methodLink M.1.cls idx M'.1 ∈ zTb) (hk : (kd a).1 = ci) (hw : (st.map fun v => v.category).sum ≤ 8) (k : ∀ (x : Value) (τ : zM), P x τ → At E M (d + 1) Q pc' ls (x :: st) τ) : At E M (d + 1) Q pc ls (v1 :: zr E a :: st) σ := z_callV pc' (As := [v1]) hR hc hd hp hl hk rfl rfl hw (fun v τ h => by obtain ⟨x, rfl, hP⟩ := h; exact k x τ hP)
theorem z_cVI0 {E : zE} {M : zY} {d : Nat} {Q : Option Value → zM → Prop} {pc : Nat} {ls : List (Option Value)} {st : List Value} {σ : zM} {M' : zY} {idx ci a : Nat} {P : Int32 → zM → Prop} (pc' : Nat) (hR : Ret E M' d [zr E a] σ (qI P)) (hc : zCalV M' 0 ci) (hd : decode M.2.1 pc = .ok (.invokevirtual idx, 3)) (hp : pc + 3 = pc') (hl : Cond.methodLink M.1.cls idx M'.1 ∈ zTb) (hk : (kd a).1 = ci) (hw : (st.map fun v => v.category).sum ≤ 8) (k : ∀ (x : Int32) (τ : zM), P x τ → At E M (d + 1) Q pc' ls (.int x :: st) τ) : At E M (d + 1) Q pc ls (zr E a :: st) σ := z_callV pc' (As := []) hR hc hd hp hl hk rfl rfl hw (fun v τ h => by obtain ⟨x, rfl, hP⟩ := h; exact k x τ hP)
theorem z_cVI1 {E : zE} {M : zY} {d : Nat} {Q : Option Value → zM → Prop} {pc : Nat} {ls : List (Option Value)} {st : List Value} {σ : zM} {M' : zY} {idx ci a : Nat} {v1 : Value} {P : Int32 → zM → Prop} (pc' : Nat) (hR : Ret E M' d [zr E a, v1] σ (qI P)) (hc : zCalV M' 1 ci) (hd : decode M.2.1 pc = .ok (.invokevirtual idx, 3)) (hp : pc + 3 = pc') (hl : Cond.methodLink M.1.cls idx M'.1 ∈ zTb) (hk : (kd a).1 = ci) (hw : (st.map fun v => v.category).sum ≤ 8) (k : ∀ (x : Int32) (τ : zM), P x τ → At E M (d + 1) Q pc' ls (.int x :: st) τ) : At E M (d + 1) Q pc ls (v1 :: zr E a :: st) σ := z_callV pc' (As := [v1]) hR hc hd hp hl hk rfl rfl hw (fun v τ h => by obtain ⟨x, rfl, hP⟩ := h; exact k x τ hP)
theorem z_cVI2 {E : zE} {M : zY} {d : Nat} {Q : Option Value → zM → Prop} {pc : Nat} {ls : List (Option Value)} {st : List Value} {σ : zM} {M' : zY} {idx ci a : Nat} {v1 v2 : Value} {P : Int32 → zM → Prop} (pc' : Nat) (hR : Ret E M' d [zr E a, v1, v2] σ (qI P)) (hc : zCalV M' 2 ci) (hd : decode M.2.1 pc = .ok (.invokevirtual idx, 3)) (hp : pc + 3 = pc') (hl : Cond.methodLink M.1.cls idx M'.1 ∈ zTb) (hk : (kd a).1 = ci) (hw : (st.map fun v => v.category).sum ≤ 8) (k : ∀ (x : Int32) (τ : zM), P x τ → At E M (d + 1) Q pc' ls (.int x :: st) τ) : At E M (d + 1) Q pc ls (v2 :: v1 :: zr E a :: st) σ := z_callV pc' (As := [v1, v2]) hR hc hd hp hl hk rfl rfl hw (fun v τ h => by obtain ⟨x, rfl, hP⟩ := h; exact k x τ hP)
theorem z_cVI3 {E : zE} {M : zY} {d : Nat} {Q : Option Value → zM → Prop} {pc : Nat} {ls : List (Option Value)} {st : List Value} {σ : zM} {M' : zY} {idx ci a : Nat} {v1 v2 v3 : Value} {P : Int32 → zM → Prop} (pc' : Nat) (hR : Ret E M' d [zr E a, v1, v2, v3] σ (qI P)) (hc : zCalV M' 3 ci) (hd : decode M.2.1 pc = .ok (.invokevirtual idx, 3)) (hp : pc + 3 = pc') (hl : Cond.methodLink M.1.cls idx M'.1 ∈ zTb) (hk : (kd a).1 = ci) (hw : (st.map fun v => v.category).sum ≤ 8) (k : ∀ (x : Int32) (τ : zM), P x τ → At E M (d + 1) Q pc' ls (.int x :: st) τ) : At E M (d + 1) Q pc ls (v3 :: v2 :: v1 :: zr E a :: st) σ := z_callV pc' (As := [v1, v2, v3]) hR hc hd hp hl hk rfl rfl hw (fun v τ h => by obtain ⟨x, rfl, hP⟩ := h; exact k x τ hP)
theorem z_cVI4 {E : zE} {M : zY} {d : Nat} {Q : Option Value → zM → Prop} {pc : Nat} {ls : List (Option Value)} {st : List Value} {σ : zM} {M' : zY} {idx ci a : Nat} {v1 v2 v3 v4 : Value} {P : Int32 → zM → Prop} (pc' : Nat) (hR : Ret E M' d [zr E a, v1, v2, v3, v4] σ (qI P)) (hc : zCalV M' 4 ci) (hd : decode M.2.1 pc = .ok (.invokevirtual idx, 3)) (hp : pc + 3 = pc') (hl : Cond.methodLink M.1.cls idx M'.1 ∈ zTb) (hk : (kd a).1 = ci) (hw : (st.map fun v => v.category).sum ≤ 8) (k : ∀ (x : Int32) (τ : zM), P x τ → At E M (d + 1) Q pc' ls (.int x :: st) τ) : At E M (d + 1) Q pc ls (v4 :: v3 :: v2 :: v1 :: zr E a :: st) σ := z_callV pc' (As := [v1, v2, v3, v4]) hR hc hd hp hl hk rfl rfl hw (fun v τ h => by obtain ⟨x, rfl, hP⟩ := h; exact k x τ hP)
theorem z_cVI5 {E : zE} {M : zY} {d : Nat} {Q : Option Value → zM → Prop} {pc : Nat} {ls : List (Option Value)} {st : List Value} {σ : zM} {M' : zY} {idx ci a : Nat} {v1 v2 v3 v4 v5 : Value} {P : Int32 → zM → Prop} (pc' : Nat) (hR : Ret E M' d [zr E a, v1, v2, v3, v4, v5] σ (qI P)) (hc : zCalV M' 5 ci) (hd : decode M.2.1 pc = .ok (.invokevirtual idx, 3)) (hp : pc + 3 = pc') (hl : Cond.methodLink M.1.cls idx M'.1 ∈ zTb) (hk : (kd a).1 = ci) (hw : (st.map fun v => v.category).sum ≤ 8) (k : ∀ (x : Int32) (τ : zM), P x τ → At E M (d + 1) Q pc' ls (.int x :: st) τ) : At E M (d + 1) Q pc ls (v5 :: v4 :: v3 :: v2 :: v1 :: zr E a :: st) σ := z_callV pc' (As := [v1, v2, v3, v4, v5]) hR hc hd hp hl hk rfl rfl hw (fun v τ h => by obtain ⟨x, rfl, hP⟩ := h; exact k x τ hP)
theorem z_cVJ0 {E : zE} {M : zY} {d : Nat} {Q : Option Value → zM → Prop} {pc : Nat} {ls : List (Option Value)} {st : List Value} {σ : zM} {M' : zY} {idx ci a : Nat} {P : Int64 → zM → Prop} (pc' : Nat) (hR : Ret E M' d [zr E a] σ (qJ P)) (hc : zCalV M' 0 ci) (hd : decode M.2.1 pc = .ok (.invokevirtual idx, 3)) (hp : pc + 3 = pc') (hl : Cond.methodLink M.1.cls idx M'.1 ∈ zTb) (hk : (kd a).1 = ci) (hw : (st.map fun v => v.category).sum ≤ 8) (k : ∀ (x : Int64) (τ : zM), P x τ → At E M (d + 1) Q pc' ls (.long x :: st) τ) : At E M (d + 1) Q pc ls (zr E a :: st) σ := z_callV pc' (As := []) hR hc hd hp hl hk rfl rfl hw (fun v τ h => by obtain ⟨x, rfl, hP⟩ := h; exact k x τ hP)
theorem z_cVJ1 {E : zE} {M : zY} {d : Nat} {Q : Option Value → zM → Prop} {pc : Nat} {ls : List (Option Value)} {st : List Value} {σ : zM} {M' : zY} {idx ci a : Nat} {v1 : Value} {P : Int64 → zM → Prop} (pc' : Nat) (hR : Ret E M' d [zr E a, v1] σ (qJ P)) (hc : zCalV M' 1 ci) (hd : decode M.2.1 pc = .ok (.invokevirtual idx, 3)) (hp : pc + 3 = pc') (hl : Cond.methodLink M.1.cls idx M'.1 ∈ zTb) (hk : (kd a).1 = ci) (hw : (st.map fun v => v.category).sum ≤ 8) (k : ∀ (x : Int64) (τ : zM), P x τ → At E M (d + 1) Q pc' ls (.long x :: st) τ) : At E M (d + 1) Q pc ls (v1 :: zr E a :: st) σ := z_callV pc' (As := [v1]) hR hc hd hp hl hk rfl rfl hw (fun v τ h => by obtain ⟨x, rfl, hP⟩ := h; exact k x τ hP)
theorem z_cVJ2 {E : zE} {M : zY} {d : Nat} {Q : Option Value → zM → Prop} {pc : Nat} {ls : List (Option Value)} {st : List Value} {σ : zM} {M' : zY} {idx ci a : Nat} {v1 v2 : Value} {P : Int64 → zM → Prop} (pc' : Nat) (hR : Ret E M' d [zr E a, v1, v2] σ (qJ P)) (hc : zCalV M' 2 ci) (hd : decode M.2.1 pc = .ok (.invokevirtual idx, 3)) (hp : pc + 3 = pc') (hl : Cond.methodLink M.1.cls idx M'.1 ∈ zTb) (hk : (kd a).1 = ci) (hw : (st.map fun v => v.category).sum ≤ 8) (k : ∀ (x : Int64) (τ : zM), P x τ → At E M (d + 1) Q pc' ls (.long x :: st) τ) : At E M (d + 1) Q pc ls (v2 :: v1 :: zr E a :: st) σ := z_callV pc' (As := [v1, v2]) hR hc hd hp hl hk rfl rfl hw (fun v τ h => by obtain ⟨x, rfl, hP⟩ := h; exact k x τ hP)
theorem z_cVJ3 {E : zE} {M : zY} {d : Nat} {Q : Option Value → zM → Prop} {pc : Nat} {ls : List (Option Value)} {st : List Value} {σ : zM} {M' : zY} {idx ci a : Nat} {v1 v2 v3 : Value} {P : Int64 → zM → Prop} (pc' : Nat) (hR : Ret E M' d [zr E a, v1, v2, v3] σ (qJ P)) (hc : zCalV M' 3 ci) (hd : decode M.2.1 pc = .ok (.invokevirtual idx, 3)) (hp : pc + 3 = pc') (hl : Cond.methodLink M.1.cls idx M'.1 ∈ zTb) (hk : (kd a).1 = ci) (hw : (st.map fun v => v.category).sum ≤ 8) (k : ∀ (x : Int64) (τ : zM), P x τ → At E M (d + 1) Q pc' ls (.long x :: st) τ) : At E M (d + 1) Q pc ls (v3 :: v2 :: v1 :: zr E a :: st) σ := z_callV pc' (As := [v1, v2, v3]) hR hc hd hp hl hk rfl rfl hw (fun v τ h => by obtain ⟨x, rfl, hP⟩ := h; exact k x τ hP)
theorem z_cVV0 {E : zE} {M : zY} {d : Nat} {Q : Option Value → zM → Prop} {pc : Nat} {ls : List (Option Value)} {st : List Value} {σ : zM} {M' : zY} {idx ci a : Nat} {P : zM → Prop} (pc' : Nat) (hR : Ret E M' d [zr E a] σ (qV P)) (hc : zCalV M' 0 ci) (hd : decode M.2.1 pc = .ok (.invokevirtual idx, 3)) (hp : pc + 3 = pc') (hl : Cond.methodLink M.1.cls idx M'.1 ∈ zTb) (hk : (kd a).1 = ci) (hw : (st.map fun v => v.category).sum ≤ 8) (k : ∀ (τ : zM), P τ → At E M (d + 1) Q pc' ls (st) τ) : At E M (d + 1) Q pc ls (zr E a :: st) σ := z_callV pc' (As := []) hR hc hd hp hl hk rfl rfl hw (fun v τ h => by obtain ⟨rfl, hP⟩ := h; exact k τ hP)
theorem z_cVV1 {E : zE} {M : zY} {d : Nat} {Q : Option Value → zM → Prop} {pc : Nat} {ls : List (Option Value)} {st : List Value} {σ : zM} {M' : zY} {idx ci a : Nat} {v1 : Value} {P : zM → Prop} (pc' : Nat) (hR : Ret E M' d [zr E a, v1] σ (qV P)) (hc : zCalV M' 1 ci) (hd : decode M.2.1 pc = .ok (.invokevirtual idx, 3)) (hp : pc + 3 = pc') (hl : Cond.methodLink M.1.cls idx M'.1 ∈ zTb) (hk : (kd a).1 = ci) (hw : (st.map fun v => v.category).sum ≤ 8) (k : ∀ (τ : zM), P τ → At E M (d + 1) Q pc' ls (st) τ) : At E M (d + 1) Q pc ls (v1 :: zr E a :: st) σ := z_callV pc' (As := [v1]) hR hc hd hp hl hk rfl rfl hw (fun v τ h => by obtain ⟨rfl, hP⟩ := h; exact k τ hP)
theorem z_cVV2 {E : zE} {M : zY} {d : Nat} {Q : Option Value → zM → Prop} {pc : Nat} {ls : List (Option Value)} {st : List Value} {σ : zM} {M' : zY} {idx ci a : Nat} {v1 v2 : Value} {P : zM → Prop} (pc' : Nat) (hR : Ret E M' d [zr E a, v1, v2] σ (qV P)) (hc : zCalV M' 2 ci) (hd : decode M.2.1 pc = .ok (.invokevirtual idx, 3)) (hp : pc + 3 = pc') (hl : Cond.methodLink M.1.cls idx M'.1 ∈ zTb) (hk : (kd a).1 = ci) (hw : (st.map fun v => v.category).sum ≤ 8) (k : ∀ (τ : zM), P τ → At E M (d + 1) Q pc' ls (st) τ) : At E M (d + 1) Q pc ls (v2 :: v1 :: zr E a :: st) σ := z_callV pc' (As := [v1, v2]) hR hc hd hp hl hk rfl rfl hw (fun v τ h => by obtain ⟨rfl, hP⟩ := h; exact k τ hP)
theorem z_cVV3 {E : zE} {M : zY} {d : Nat} {Q : Option Value → zM → Prop} {pc : Nat} {ls : List (Option Value)} {st : List Value} {σ : zM} {M' : zY} {idx ci a : Nat} {v1 v2 v3 : Value} {P : zM → Prop} (pc' : Nat) (hR : Ret E M' d [zr E a, v1, v2, v3] σ (qV P)) (hc : zCalV M' 3 ci) (hd : decode M.2.1 pc = .ok (.invokevirtual idx, 3)) (hp : pc + 3 = pc') (hl : Cond.methodLink M.1.cls idx M'.1 ∈ zTb) (hk : (kd a).1 = ci) (hw : (st.map fun v => v.category).sum ≤ 8) (k : ∀ (τ : zM), P τ → At E M (d + 1) Q pc' ls (st) τ) : At E M (d + 1) Q pc ls (v3 :: v2 :: v1 :: zr E a :: st) σ := z_callV pc' (As := [v1, v2, v3]) hR hc hd hp hl hk rfl rfl hw (fun v τ h => by obtain ⟨rfl, hP⟩ := h; exact k τ hP)
theorem z_cVV4 {E : zE} {M : zY} {d : Nat} {Q : Option Value → zM → Prop} {pc : Nat} {ls : List (Option Value)} {st : List Value} {σ : zM} {M' : zY} {idx ci a : Nat} {v1 v2 v3 v4 : Value} {P : zM → Prop} (pc' : Nat) (hR : Ret E M' d [zr E a, v1, v2, v3, v4] σ (qV P)) (hc : zCalV M' 4 ci) (hd : decode M.2.1 pc = .ok (.invokevirtual idx, 3)) (hp : pc + 3 = pc') (hl : Cond.methodLink M.1.cls idx M'.1 ∈ zTb) (hk : (kd a).1 = ci) (hw : (st.map fun v => v.category).sum ≤ 8) (k : ∀ (τ : zM), P τ → At E M (d + 1) Q pc' ls (st) τ) : At E M (d + 1) Q pc ls (v4 :: v3 :: v2 :: v1 :: zr E a :: st) σ := z_callV pc' (As := [v1, v2, v3, v4]) hR hc hd hp hl hk rfl rfl hw (fun v τ h => by obtain ⟨rfl, hP⟩ := h; exact k τ hP)
theorem z_cVV5 {E : zE} {M : zY} {d : Nat} {Q : Option Value → zM → Prop} {pc : Nat} {ls : List (Option Value)} {st : List Value} {σ : zM} {M' : zY} {idx ci a : Nat} {v1 v2 v3 v4 v5 : Value} {P : zM → Prop} (pc' : Nat) (hR : Ret E M' d [zr E a, v1, v2, v3, v4, v5] σ (qV P)) (hc : zCalV M' 5 ci) (hd : decode M.2.1 pc = .ok (.invokevirtual idx, 3)) (hp : pc + 3 = pc') (hl : Cond.methodLink M.1.cls idx M'.1 ∈ zTb) (hk : (kd a).1 = ci) (hw : (st.map fun v => v.category).sum ≤ 8) (k : ∀ (τ : zM), P τ → At E M (d + 1) Q pc' ls (st) τ) : At E M (d + 1) Q pc ls (v5 :: v4 :: v3 :: v2 :: v1 :: zr E a :: st) σ := z_callV pc' (As := [v1, v2, v3, v4, v5]) hR hc hd hp hl hk rfl rfl hw (fun v τ h => by obtain ⟨rfl, hP⟩ := h; exact k τ hP)
end
