section
-- ===== PART A: goes FIRST, ahead of the names: the tables' words, and 'selects' of the private methods out of them =====
/-- a private method of a class that the tables say can be made, by its rows of tables_1 -/
def lw_okq (q : MethodName × Nat) : Prop := (q.1.cls ≠ "java/lang/invoke/MethodHandle" ∧ q.1.cls ≠ "java/lang/invoke/VarHandle") ∧ Cond.instantiable q.1.cls q.2 ∈ tables_1 ∧ Cond.privateMethod q.1 ∈ tables_1 ∧ Cond.instanceMethod q.1 ∈ tables_1
theorem lw_p0 : lw_okq (⟨"HomeByFour", "sheetAt", "(I)LHomeByFour$Sheet;"⟩, 8) := ⟨⟨by decide +kernel, by decide +kernel⟩, List.mem_of_getElem? (i := 18) (by decide +kernel), List.mem_of_getElem? (i := 246) (by decide +kernel), List.mem_of_getElem? (i := 247) (by decide +kernel)⟩
theorem lw_p1 : lw_okq (⟨"HomeByFour", "refused", "(I)I"⟩, 8) := ⟨⟨by decide +kernel, by decide +kernel⟩, List.mem_of_getElem? (i := 18) (by decide +kernel), List.mem_of_getElem? (i := 253) (by decide +kernel), List.mem_of_getElem? (i := 254) (by decide +kernel)⟩
theorem lw_p2 : lw_okq (⟨"HomeByFour", "failed", "(I)I"⟩, 8) := ⟨⟨by decide +kernel, by decide +kernel⟩, List.mem_of_getElem? (i := 18) (by decide +kernel), List.mem_of_getElem? (i := 273) (by decide +kernel), List.mem_of_getElem? (i := 274) (by decide +kernel)⟩
theorem lw_p3 : lw_okq (⟨"HomeByFour$Text", "codeAt", "(I)I"⟩, 3) := ⟨⟨by decide +kernel, by decide +kernel⟩, List.mem_of_getElem? (i := 277) (by decide +kernel), List.mem_of_getElem? (i := 301) (by decide +kernel), List.mem_of_getElem? (i := 302) (by decide +kernel)⟩
theorem lw_p4 : lw_okq (⟨"HomeByFour$Text", "isDigitAt", "(III)Z"⟩, 3) := ⟨⟨by decide +kernel, by decide +kernel⟩, List.mem_of_getElem? (i := 277) (by decide +kernel), List.mem_of_getElem? (i := 313) (by decide +kernel), List.mem_of_getElem? (i := 314) (by decide +kernel)⟩
theorem lw_p5 : lw_okq (⟨"HomeByFour$Text", "isKindAt", "(I)Z"⟩, 3) := ⟨⟨by decide +kernel, by decide +kernel⟩, List.mem_of_getElem? (i := 277) (by decide +kernel), List.mem_of_getElem? (i := 318) (by decide +kernel), List.mem_of_getElem? (i := 319) (by decide +kernel)⟩
theorem lw_p6 : lw_okq (⟨"HomeByFour$Text", "digitAt", "(I)I"⟩, 3) := ⟨⟨by decide +kernel, by decide +kernel⟩, List.mem_of_getElem? (i := 277) (by decide +kernel), List.mem_of_getElem? (i := 342) (by decide +kernel), List.mem_of_getElem? (i := 343) (by decide +kernel)⟩
theorem lw_p7 : lw_okq (⟨"HomeByFour", "followTold", "(IIIIZ)I"⟩, 8) := ⟨⟨by decide +kernel, by decide +kernel⟩, List.mem_of_getElem? (i := 18) (by decide +kernel), List.mem_of_getElem? (i := 501) (by decide +kernel), List.mem_of_getElem? (i := 502) (by decide +kernel)⟩
theorem lw_p8 : lw_okq (⟨"HomeByFour", "areStretches", "(LHomeByFour$Sheet;II)Z"⟩, 8) := ⟨⟨by decide +kernel, by decide +kernel⟩, List.mem_of_getElem? (i := 18) (by decide +kernel), List.mem_of_getElem? (i := 505) (by decide +kernel), List.mem_of_getElem? (i := 506) (by decide +kernel)⟩
theorem lw_p9 : lw_okq (⟨"HomeByFour", "followCells", "(LHomeByFour$Sheet;II)I"⟩, 8) := ⟨⟨by decide +kernel, by decide +kernel⟩, List.mem_of_getElem? (i := 18) (by decide +kernel), List.mem_of_getElem? (i := 510) (by decide +kernel), List.mem_of_getElem? (i := 511) (by decide +kernel)⟩
theorem lw_p10 : lw_okq (⟨"HomeByFour$Net", "costOf", "(I)I"⟩, 9) := ⟨⟨by decide +kernel, by decide +kernel⟩, List.mem_of_getElem? (i := 46) (by decide +kernel), List.mem_of_getElem? (i := 541) (by decide +kernel), List.mem_of_getElem? (i := 542) (by decide +kernel)⟩
theorem lw_p11 : lw_okq (⟨"HomeByFour$Quickest", "shorten", "(LHomeByFour$Net;)V"⟩, 1) := ⟨⟨by decide +kernel, by decide +kernel⟩, List.mem_of_getElem? (i := 182) (by decide +kernel), List.mem_of_getElem? (i := 573) (by decide +kernel), List.mem_of_getElem? (i := 574) (by decide +kernel)⟩
theorem lw_p12 : lw_okq (⟨"HomeByFour$Quickest", "shortenTo", "(III)V"⟩, 1) := ⟨⟨by decide +kernel, by decide +kernel⟩, List.mem_of_getElem? (i := 182) (by decide +kernel), List.mem_of_getElem? (i := 578) (by decide +kernel), List.mem_of_getElem? (i := 579) (by decide +kernel)⟩
theorem lw_p13 : lw_okq (⟨"HomeByFour", "refusalOfSearch", "(II)I"⟩, 8) := ⟨⟨by decide +kernel, by decide +kernel⟩, List.mem_of_getElem? (i := 18) (by decide +kernel), List.mem_of_getElem? (i := 596) (by decide +kernel), List.mem_of_getElem? (i := 597) (by decide +kernel)⟩
theorem lw_p14 : lw_okq (⟨"HomeByFour$Search", "goOn", "(I)V"⟩, 13) := ⟨⟨by decide +kernel, by decide +kernel⟩, List.mem_of_getElem? (i := 131) (by decide +kernel), List.mem_of_getElem? (i := 615) (by decide +kernel), List.mem_of_getElem? (i := 616) (by decide +kernel)⟩
theorem lw_p15 : lw_okq (⟨"HomeByFour$Search", "weigh", "(LHomeByFour$Walk;)V"⟩, 13) := ⟨⟨by decide +kernel, by decide +kernel⟩, List.mem_of_getElem? (i := 131) (by decide +kernel), List.mem_of_getElem? (i := 623) (by decide +kernel), List.mem_of_getElem? (i := 624) (by decide +kernel)⟩
def lw_privs_1 : List (MethodName × Nat) := [(⟨"HomeByFour", "sheetAt", "(I)LHomeByFour$Sheet;"⟩, 8), (⟨"HomeByFour", "refused", "(I)I"⟩, 8), (⟨"HomeByFour", "failed", "(I)I"⟩, 8), (⟨"HomeByFour$Text", "codeAt", "(I)I"⟩, 3), (⟨"HomeByFour$Text", "isDigitAt", "(III)Z"⟩, 3), (⟨"HomeByFour$Text", "isKindAt", "(I)Z"⟩, 3), (⟨"HomeByFour$Text", "digitAt", "(I)I"⟩, 3), (⟨"HomeByFour", "followTold", "(IIIIZ)I"⟩, 8), (⟨"HomeByFour", "areStretches", "(LHomeByFour$Sheet;II)Z"⟩, 8), (⟨"HomeByFour", "followCells", "(LHomeByFour$Sheet;II)I"⟩, 8), (⟨"HomeByFour$Net", "costOf", "(I)I"⟩, 9), (⟨"HomeByFour$Quickest", "shorten", "(LHomeByFour$Net;)V"⟩, 1), (⟨"HomeByFour$Quickest", "shortenTo", "(III)V"⟩, 1), (⟨"HomeByFour", "refusalOfSearch", "(II)I"⟩, 8), (⟨"HomeByFour$Search", "goOn", "(I)V"⟩, 13), (⟨"HomeByFour$Search", "weigh", "(LHomeByFour$Walk;)V"⟩, 13)]
theorem lw_r1 : ∀ q ∈ lw_privs_1, lw_okq q := List.forall_mem_cons.mpr ⟨lw_p0, List.forall_mem_cons.mpr ⟨lw_p1, List.forall_mem_cons.mpr ⟨lw_p2, List.forall_mem_cons.mpr ⟨lw_p3, List.forall_mem_cons.mpr ⟨lw_p4, List.forall_mem_cons.mpr ⟨lw_p5, List.forall_mem_cons.mpr ⟨lw_p6, List.forall_mem_cons.mpr ⟨lw_p7, List.forall_mem_cons.mpr ⟨lw_p8, List.forall_mem_cons.mpr ⟨lw_p9, List.forall_mem_cons.mpr ⟨lw_p10, List.forall_mem_cons.mpr ⟨lw_p11, List.forall_mem_cons.mpr ⟨lw_p12, List.forall_mem_cons.mpr ⟨lw_p13, List.forall_mem_cons.mpr ⟨lw_p14, List.forall_mem_cons.mpr ⟨lw_p15, fun _ h => absurd h List.not_mem_nil⟩⟩⟩⟩⟩⟩⟩⟩⟩⟩⟩⟩⟩⟩⟩⟩
theorem lw_p16 : lw_okq (⟨"HomeByFour$Search", "isTrail", "(LHomeByFour$Walk;)Z"⟩, 13) := ⟨⟨by decide +kernel, by decide +kernel⟩, List.mem_of_getElem? (i := 131) (by decide +kernel), List.mem_of_getElem? (i := 627) (by decide +kernel), List.mem_of_getElem? (i := 628) (by decide +kernel)⟩
theorem lw_p17 : lw_okq (⟨"HomeByFour$Search", "scoreOf", "(LHomeByFour$Walk;)I"⟩, 13) := ⟨⟨by decide +kernel, by decide +kernel⟩, List.mem_of_getElem? (i := 131) (by decide +kernel), List.mem_of_getElem? (i := 631) (by decide +kernel), List.mem_of_getElem? (i := 632) (by decide +kernel)⟩
theorem lw_p18 : lw_okq (⟨"HomeByFour", "joyFound", "()I"⟩, 8) := ⟨⟨by decide +kernel, by decide +kernel⟩, List.mem_of_getElem? (i := 18) (by decide +kernel), List.mem_of_getElem? (i := 641) (by decide +kernel), List.mem_of_getElem? (i := 642) (by decide +kernel)⟩
theorem lw_p19 : lw_okq (⟨"HomeByFour$Dawdling", "share", "(LHomeByFour$Net;I)V"⟩, 2) := ⟨⟨by decide +kernel, by decide +kernel⟩, List.mem_of_getElem? (i := 192) (by decide +kernel), List.mem_of_getElem? (i := 684) (by decide +kernel), List.mem_of_getElem? (i := 685) (by decide +kernel)⟩
theorem lw_p20 : lw_okq (⟨"HomeByFour$Dawdling", "waysFrom", "(LHomeByFour$Net;I)I"⟩, 2) := ⟨⟨by decide +kernel, by decide +kernel⟩, List.mem_of_getElem? (i := 192) (by decide +kernel), List.mem_of_getElem? (i := 688) (by decide +kernel), List.mem_of_getElem? (i := 689) (by decide +kernel)⟩
theorem lw_p21 : lw_okq (⟨"HomeByFour$Dawdling", "add", "(IJ)V"⟩, 2) := ⟨⟨by decide +kernel, by decide +kernel⟩, List.mem_of_getElem? (i := 192) (by decide +kernel), List.mem_of_getElem? (i := 695) (by decide +kernel), List.mem_of_getElem? (i := 696) (by decide +kernel)⟩
theorem lw_p22 : lw_okq (⟨"HomeByFourModel", "refused", "(I)I"⟩, 40) := ⟨⟨by decide +kernel, by decide +kernel⟩, List.mem_of_getElem? (i := 802) (by decide +kernel), List.mem_of_getElem? (i := 940) (by decide +kernel), List.mem_of_getElem? (i := 941) (by decide +kernel)⟩
theorem lw_p23 : lw_okq (⟨"HomeByFourModel", "cellsBarred", "(IIIJ)I"⟩, 40) := ⟨⟨by decide +kernel, by decide +kernel⟩, List.mem_of_getElem? (i := 802) (by decide +kernel), List.mem_of_getElem? (i := 945) (by decide +kernel), List.mem_of_getElem? (i := 946) (by decide +kernel)⟩
theorem lw_p24 : lw_okq (⟨"HomeByFourModel", "failed", "(I)I"⟩, 40) := ⟨⟨by decide +kernel, by decide +kernel⟩, List.mem_of_getElem? (i := 802) (by decide +kernel), List.mem_of_getElem? (i := 949) (by decide +kernel), List.mem_of_getElem? (i := 950) (by decide +kernel)⟩
theorem lw_p25 : lw_okq (⟨"HomeByFourModel", "readsNet", "(II)Z"⟩, 40) := ⟨⟨by decide +kernel, by decide +kernel⟩, List.mem_of_getElem? (i := 802) (by decide +kernel), List.mem_of_getElem? (i := 956) (by decide +kernel), List.mem_of_getElem? (i := 957) (by decide +kernel)⟩
theorem lw_p26 : lw_okq (⟨"HomeByFourModel", "codeAt", "(II)I"⟩, 40) := ⟨⟨by decide +kernel, by decide +kernel⟩, List.mem_of_getElem? (i := 802) (by decide +kernel), List.mem_of_getElem? (i := 960) (by decide +kernel), List.mem_of_getElem? (i := 961) (by decide +kernel)⟩
theorem lw_p27 : lw_okq (⟨"HomeByFourModel", "figure", "(IIIII)I"⟩, 40) := ⟨⟨by decide +kernel, by decide +kernel⟩, List.mem_of_getElem? (i := 802) (by decide +kernel), List.mem_of_getElem? (i := 964) (by decide +kernel), List.mem_of_getElem? (i := 965) (by decide +kernel)⟩
theorem lw_p28 : lw_okq (⟨"HomeByFourModel", "readsStretch", "(II)Z"⟩, 40) := ⟨⟨by decide +kernel, by decide +kernel⟩, List.mem_of_getElem? (i := 802) (by decide +kernel), List.mem_of_getElem? (i := 968) (by decide +kernel), List.mem_of_getElem? (i := 969) (by decide +kernel)⟩
theorem lw_p29 : lw_okq (⟨"HomeByFourModel", "noStretch", "(I)Z"⟩, 40) := ⟨⟨by decide +kernel, by decide +kernel⟩, List.mem_of_getElem? (i := 802) (by decide +kernel), List.mem_of_getElem? (i := 976) (by decide +kernel), List.mem_of_getElem? (i := 977) (by decide +kernel)⟩
theorem lw_p30 : lw_okq (⟨"HomeByFourModel", "takesOf", "(I)I"⟩, 40) := ⟨⟨by decide +kernel, by decide +kernel⟩, List.mem_of_getElem? (i := 802) (by decide +kernel), List.mem_of_getElem? (i := 980) (by decide +kernel), List.mem_of_getElem? (i := 981) (by decide +kernel)⟩
theorem lw_p31 : lw_okq (⟨"HomeByFourModel", "isShared", "(I)Z"⟩, 40) := ⟨⟨by decide +kernel, by decide +kernel⟩, List.mem_of_getElem? (i := 802) (by decide +kernel), List.mem_of_getElem? (i := 984) (by decide +kernel), List.mem_of_getElem? (i := 985) (by decide +kernel)⟩
def lw_privs_2 : List (MethodName × Nat) := [(⟨"HomeByFour$Search", "isTrail", "(LHomeByFour$Walk;)Z"⟩, 13), (⟨"HomeByFour$Search", "scoreOf", "(LHomeByFour$Walk;)I"⟩, 13), (⟨"HomeByFour", "joyFound", "()I"⟩, 8), (⟨"HomeByFour$Dawdling", "share", "(LHomeByFour$Net;I)V"⟩, 2), (⟨"HomeByFour$Dawdling", "waysFrom", "(LHomeByFour$Net;I)I"⟩, 2), (⟨"HomeByFour$Dawdling", "add", "(IJ)V"⟩, 2), (⟨"HomeByFourModel", "refused", "(I)I"⟩, 40), (⟨"HomeByFourModel", "cellsBarred", "(IIIJ)I"⟩, 40), (⟨"HomeByFourModel", "failed", "(I)I"⟩, 40), (⟨"HomeByFourModel", "readsNet", "(II)Z"⟩, 40), (⟨"HomeByFourModel", "codeAt", "(II)I"⟩, 40), (⟨"HomeByFourModel", "figure", "(IIIII)I"⟩, 40), (⟨"HomeByFourModel", "readsStretch", "(II)Z"⟩, 40), (⟨"HomeByFourModel", "noStretch", "(I)Z"⟩, 40), (⟨"HomeByFourModel", "takesOf", "(I)I"⟩, 40), (⟨"HomeByFourModel", "isShared", "(I)Z"⟩, 40)]
theorem lw_r2 : ∀ q ∈ lw_privs_2, lw_okq q := List.forall_mem_cons.mpr ⟨lw_p16, List.forall_mem_cons.mpr ⟨lw_p17, List.forall_mem_cons.mpr ⟨lw_p18, List.forall_mem_cons.mpr ⟨lw_p19, List.forall_mem_cons.mpr ⟨lw_p20, List.forall_mem_cons.mpr ⟨lw_p21, List.forall_mem_cons.mpr ⟨lw_p22, List.forall_mem_cons.mpr ⟨lw_p23, List.forall_mem_cons.mpr ⟨lw_p24, List.forall_mem_cons.mpr ⟨lw_p25, List.forall_mem_cons.mpr ⟨lw_p26, List.forall_mem_cons.mpr ⟨lw_p27, List.forall_mem_cons.mpr ⟨lw_p28, List.forall_mem_cons.mpr ⟨lw_p29, List.forall_mem_cons.mpr ⟨lw_p30, List.forall_mem_cons.mpr ⟨lw_p31, fun _ h => absurd h List.not_mem_nil⟩⟩⟩⟩⟩⟩⟩⟩⟩⟩⟩⟩⟩⟩⟩⟩
theorem lw_p32 : lw_okq (⟨"HomeByFourModel", "noPlace", "(I)Z"⟩, 40) := ⟨⟨by decide +kernel, by decide +kernel⟩, List.mem_of_getElem? (i := 802) (by decide +kernel), List.mem_of_getElem? (i := 1004) (by decide +kernel), List.mem_of_getElem? (i := 1005) (by decide +kernel)⟩
theorem lw_p33 : lw_okq (⟨"HomeByFourModel", "readsWalk", "(II)I"⟩, 40) := ⟨⟨by decide +kernel, by decide +kernel⟩, List.mem_of_getElem? (i := 802) (by decide +kernel), List.mem_of_getElem? (i := 1016) (by decide +kernel), List.mem_of_getElem? (i := 1017) (by decide +kernel)⟩
theorem lw_p34 : lw_okq (⟨"HomeByFourModel", "goesTo", "(II)I"⟩, 40) := ⟨⟨by decide +kernel, by decide +kernel⟩, List.mem_of_getElem? (i := 802) (by decide +kernel), List.mem_of_getElem? (i := 1020) (by decide +kernel), List.mem_of_getElem? (i := 1021) (by decide +kernel)⟩
theorem lw_p35 : lw_okq (⟨"HomeByFourModel", "minutesOf", "(I)I"⟩, 40) := ⟨⟨by decide +kernel, by decide +kernel⟩, List.mem_of_getElem? (i := 802) (by decide +kernel), List.mem_of_getElem? (i := 1024) (by decide +kernel), List.mem_of_getElem? (i := 1025) (by decide +kernel)⟩
theorem lw_p36 : lw_okq (⟨"HomeByFourModel", "sightsBy", "(I)I"⟩, 40) := ⟨⟨by decide +kernel, by decide +kernel⟩, List.mem_of_getElem? (i := 802) (by decide +kernel), List.mem_of_getElem? (i := 1028) (by decide +kernel), List.mem_of_getElem? (i := 1029) (by decide +kernel)⟩
theorem lw_p37 : lw_okq (⟨"HomeByFourModel", "goneBy", "(I)I"⟩, 40) := ⟨⟨by decide +kernel, by decide +kernel⟩, List.mem_of_getElem? (i := 802) (by decide +kernel), List.mem_of_getElem? (i := 1032) (by decide +kernel), List.mem_of_getElem? (i := 1033) (by decide +kernel)⟩
theorem lw_p38 : lw_okq (⟨"HomeByFourModel", "joyOf", "(I)I"⟩, 40) := ⟨⟨by decide +kernel, by decide +kernel⟩, List.mem_of_getElem? (i := 802) (by decide +kernel), List.mem_of_getElem? (i := 1036) (by decide +kernel), List.mem_of_getElem? (i := 1037) (by decide +kernel)⟩
theorem lw_p39 : lw_okq (⟨"HomeByFourModel", "costOf", "(I)I"⟩, 40) := ⟨⟨by decide +kernel, by decide +kernel⟩, List.mem_of_getElem? (i := 802) (by decide +kernel), List.mem_of_getElem? (i := 1040) (by decide +kernel), List.mem_of_getElem? (i := 1041) (by decide +kernel)⟩
theorem lw_p40 : lw_okq (⟨"HomeByFourModel", "refusedLong", "()J"⟩, 40) := ⟨⟨by decide +kernel, by decide +kernel⟩, List.mem_of_getElem? (i := 802) (by decide +kernel), List.mem_of_getElem? (i := 1049) (by decide +kernel), List.mem_of_getElem? (i := 1050) (by decide +kernel)⟩
theorem lw_p41 : lw_okq (⟨"HomeByFourModel", "safeBy", "(I)J"⟩, 40) := ⟨⟨by decide +kernel, by decide +kernel⟩, List.mem_of_getElem? (i := 802) (by decide +kernel), List.mem_of_getElem? (i := 1058) (by decide +kernel), List.mem_of_getElem? (i := 1059) (by decide +kernel)⟩
theorem lw_p42 : lw_okq (⟨"HomeByFourModel", "safeOf", "(I)I"⟩, 40) := ⟨⟨by decide +kernel, by decide +kernel⟩, List.mem_of_getElem? (i := 802) (by decide +kernel), List.mem_of_getElem? (i := 1062) (by decide +kernel), List.mem_of_getElem? (i := 1063) (by decide +kernel)⟩
theorem lw_p43 : lw_okq (⟨"HomeByFourModel", "laySoon", "(I)V"⟩, 40) := ⟨⟨by decide +kernel, by decide +kernel⟩, List.mem_of_getElem? (i := 802) (by decide +kernel), List.mem_of_getElem? (i := 1073) (by decide +kernel), List.mem_of_getElem? (i := 1074) (by decide +kernel)⟩
theorem lw_p44 : lw_okq (⟨"HomeByFourModel", "refusedFor", "(II)I"⟩, 40) := ⟨⟨by decide +kernel, by decide +kernel⟩, List.mem_of_getElem? (i := 802) (by decide +kernel), List.mem_of_getElem? (i := 1086) (by decide +kernel), List.mem_of_getElem? (i := 1087) (by decide +kernel)⟩
theorem lw_p45 : lw_okq (⟨"HomeByFourModel", "seek", "(IZ)V"⟩, 40) := ⟨⟨by decide +kernel, by decide +kernel⟩, List.mem_of_getElem? (i := 802) (by decide +kernel), List.mem_of_getElem? (i := 1093) (by decide +kernel), List.mem_of_getElem? (i := 1094) (by decide +kernel)⟩
theorem lw_p46 : lw_okq (⟨"HomeByFourModel", "beginRows", "()V"⟩, 40) := ⟨⟨by decide +kernel, by decide +kernel⟩, List.mem_of_getElem? (i := 802) (by decide +kernel), List.mem_of_getElem? (i := 1097) (by decide +kernel), List.mem_of_getElem? (i := 1098) (by decide +kernel)⟩
theorem lw_p47 : lw_okq (⟨"HomeByFourModel", "nextRow", "(I)Z"⟩, 40) := ⟨⟨by decide +kernel, by decide +kernel⟩, List.mem_of_getElem? (i := 802) (by decide +kernel), List.mem_of_getElem? (i := 1101) (by decide +kernel), List.mem_of_getElem? (i := 1102) (by decide +kernel)⟩
def lw_privs_3 : List (MethodName × Nat) := [(⟨"HomeByFourModel", "noPlace", "(I)Z"⟩, 40), (⟨"HomeByFourModel", "readsWalk", "(II)I"⟩, 40), (⟨"HomeByFourModel", "goesTo", "(II)I"⟩, 40), (⟨"HomeByFourModel", "minutesOf", "(I)I"⟩, 40), (⟨"HomeByFourModel", "sightsBy", "(I)I"⟩, 40), (⟨"HomeByFourModel", "goneBy", "(I)I"⟩, 40), (⟨"HomeByFourModel", "joyOf", "(I)I"⟩, 40), (⟨"HomeByFourModel", "costOf", "(I)I"⟩, 40), (⟨"HomeByFourModel", "refusedLong", "()J"⟩, 40), (⟨"HomeByFourModel", "safeBy", "(I)J"⟩, 40), (⟨"HomeByFourModel", "safeOf", "(I)I"⟩, 40), (⟨"HomeByFourModel", "laySoon", "(I)V"⟩, 40), (⟨"HomeByFourModel", "refusedFor", "(II)I"⟩, 40), (⟨"HomeByFourModel", "seek", "(IZ)V"⟩, 40), (⟨"HomeByFourModel", "beginRows", "()V"⟩, 40), (⟨"HomeByFourModel", "nextRow", "(I)Z"⟩, 40)]
theorem lw_r3 : ∀ q ∈ lw_privs_3, lw_okq q := List.forall_mem_cons.mpr ⟨lw_p32, List.forall_mem_cons.mpr ⟨lw_p33, List.forall_mem_cons.mpr ⟨lw_p34, List.forall_mem_cons.mpr ⟨lw_p35, List.forall_mem_cons.mpr ⟨lw_p36, List.forall_mem_cons.mpr ⟨lw_p37, List.forall_mem_cons.mpr ⟨lw_p38, List.forall_mem_cons.mpr ⟨lw_p39, List.forall_mem_cons.mpr ⟨lw_p40, List.forall_mem_cons.mpr ⟨lw_p41, List.forall_mem_cons.mpr ⟨lw_p42, List.forall_mem_cons.mpr ⟨lw_p43, List.forall_mem_cons.mpr ⟨lw_p44, List.forall_mem_cons.mpr ⟨lw_p45, List.forall_mem_cons.mpr ⟨lw_p46, List.forall_mem_cons.mpr ⟨lw_p47, fun _ h => absurd h List.not_mem_nil⟩⟩⟩⟩⟩⟩⟩⟩⟩⟩⟩⟩⟩⟩⟩⟩
theorem lw_p48 : lw_okq (⟨"HomeByFourModel", "partsOf", "(I)J"⟩, 40) := ⟨⟨by decide +kernel, by decide +kernel⟩, List.mem_of_getElem? (i := 802) (by decide +kernel), List.mem_of_getElem? (i := 1105) (by decide +kernel), List.mem_of_getElem? (i := 1106) (by decide +kernel)⟩
theorem lw_p49 : lw_okq (⟨"HomeByFourModel", "keepRow", "(IJ)V"⟩, 40) := ⟨⟨by decide +kernel, by decide +kernel⟩, List.mem_of_getElem? (i := 802) (by decide +kernel), List.mem_of_getElem? (i := 1109) (by decide +kernel), List.mem_of_getElem? (i := 1110) (by decide +kernel)⟩
theorem lw_p50 : lw_okq (⟨"HomeByFourModel", "toldBest", "(I)I"⟩, 40) := ⟨⟨by decide +kernel, by decide +kernel⟩, List.mem_of_getElem? (i := 802) (by decide +kernel), List.mem_of_getElem? (i := 1113) (by decide +kernel), List.mem_of_getElem? (i := 1114) (by decide +kernel)⟩
theorem lw_p51 : lw_okq (⟨"HomeByFourModel", "areSo", "(I)Z"⟩, 40) := ⟨⟨by decide +kernel, by decide +kernel⟩, List.mem_of_getElem? (i := 802) (by decide +kernel), List.mem_of_getElem? (i := 1138) (by decide +kernel), List.mem_of_getElem? (i := 1139) (by decide +kernel)⟩
theorem lw_p52 : lw_okq (⟨"HomeByFourModel", "goDawdling", "()V"⟩, 40) := ⟨⟨by decide +kernel, by decide +kernel⟩, List.mem_of_getElem? (i := 802) (by decide +kernel), List.mem_of_getElem? (i := 1146) (by decide +kernel), List.mem_of_getElem? (i := 1147) (by decide +kernel)⟩
theorem lw_p53 : lw_okq (⟨"HomeByFourModel", "openAt", "(I)I"⟩, 40) := ⟨⟨by decide +kernel, by decide +kernel⟩, List.mem_of_getElem? (i := 802) (by decide +kernel), List.mem_of_getElem? (i := 1150) (by decide +kernel), List.mem_of_getElem? (i := 1151) (by decide +kernel)⟩
theorem lw_p54 : lw_okq (⟨"HomeByFourModel", "noCell", "(II)I"⟩, 40) := ⟨⟨by decide +kernel, by decide +kernel⟩, List.mem_of_getElem? (i := 802) (by decide +kernel), List.mem_of_getElem? (i := 1167) (by decide +kernel), List.mem_of_getElem? (i := 1168) (by decide +kernel)⟩
theorem lw_p55 : lw_okq (⟨"HomeByFourModel", "failedLong", "(I)J"⟩, 40) := ⟨⟨by decide +kernel, by decide +kernel⟩, List.mem_of_getElem? (i := 802) (by decide +kernel), List.mem_of_getElem? (i := 1175) (by decide +kernel), List.mem_of_getElem? (i := 1176) (by decide +kernel)⟩
theorem lw_p56 : lw_okq (⟨"HomeByFourModel", "traced", "(I)V"⟩, 40) := ⟨⟨by decide +kernel, by decide +kernel⟩, List.mem_of_getElem? (i := 802) (by decide +kernel), List.mem_of_getElem? (i := 1187) (by decide +kernel), List.mem_of_getElem? (i := 1188) (by decide +kernel)⟩
def lw_privs_4 : List (MethodName × Nat) := [(⟨"HomeByFourModel", "partsOf", "(I)J"⟩, 40), (⟨"HomeByFourModel", "keepRow", "(IJ)V"⟩, 40), (⟨"HomeByFourModel", "toldBest", "(I)I"⟩, 40), (⟨"HomeByFourModel", "areSo", "(I)Z"⟩, 40), (⟨"HomeByFourModel", "goDawdling", "()V"⟩, 40), (⟨"HomeByFourModel", "openAt", "(I)I"⟩, 40), (⟨"HomeByFourModel", "noCell", "(II)I"⟩, 40), (⟨"HomeByFourModel", "failedLong", "(I)J"⟩, 40), (⟨"HomeByFourModel", "traced", "(I)V"⟩, 40)]
theorem lw_r4 : ∀ q ∈ lw_privs_4, lw_okq q := List.forall_mem_cons.mpr ⟨lw_p48, List.forall_mem_cons.mpr ⟨lw_p49, List.forall_mem_cons.mpr ⟨lw_p50, List.forall_mem_cons.mpr ⟨lw_p51, List.forall_mem_cons.mpr ⟨lw_p52, List.forall_mem_cons.mpr ⟨lw_p53, List.forall_mem_cons.mpr ⟨lw_p54, List.forall_mem_cons.mpr ⟨lw_p55, List.forall_mem_cons.mpr ⟨lw_p56, fun _ h => absurd h List.not_mem_nil⟩⟩⟩⟩⟩⟩⟩⟩⟩
def lw_privs : List (MethodName × Nat) := lw_privs_1 ++ (lw_privs_2 ++ (lw_privs_3 ++ (lw_privs_4)))
def lw_tbl : List Cond := k2_sels lw_privs ++ tables_1
theorem lw_privs_ok : ∀ q ∈ lw_privs, lw_okq q := by
  show ∀ q ∈ lw_privs_1 ++ (lw_privs_2 ++ (lw_privs_3 ++ (lw_privs_4))), lw_okq q
  exact List.forall_mem_append.mpr ⟨lw_r1, List.forall_mem_append.mpr ⟨lw_r2, List.forall_mem_append.mpr ⟨lw_r3, lw_r4⟩⟩⟩
end
section
/-- an instruction at a place, and the place behind it -/
def nx (cc : ByteArray) (pc : Nat) (i : Instr) (n pc2 : Nat) : Prop := decode cc pc = .ok (i, n) ∧ pc + n = pc2
/-- a jump at a place, its goal, and the place behind it -/
def bx (cc : ByteArray) (pc : Nat) (i : Instr) (off : Int) (tgt pc2 : Nat) : Prop := decode cc pc = .ok (i, 3) ∧ (pc : Int) + off = (tgt : Int) ∧ pc + 3 = pc2
abbrev MI : Type := MethodName × ByteArray × Nat × Option FieldType
def RX0 : String := "HomeByFour$Dawdling"
def TX0 : u_T := fun k => match k with
  | 0 => ("HomeByFour$Dawdling", "now", "[J", true)
  | _ => ("HomeByFour$Dawdling", "next", "[J", true)
def tyX0 : Nat → FieldType := fun k => match k with
  | 0 => .array .long
  | _ => .array .long
abbrev wsX00 : List Cond := u_ws RX0 TX0 2
theorem nmX0 : ∀ a, a < 2 → ∀ b, b < 2 → a ≠ b → (TX0 a).2.1 ≠ (TX0 b).2.1 := by decide +kernel
theorem tyX0_ok : ∀ k, k < 2 → parseFieldDescriptor (TX0 k).2.2.1 = some (tyX0 k) := by decide +kernel
abbrev cX0_init : ByteArray := prog_2_method_1_code
def yX0_init : MethodName := ⟨RX0, "<init>", "()V"⟩
abbrev cX0_partsAt : ByteArray := prog_2_method_2_code
def yX0_partsAt : MethodName := ⟨RX0, "partsAt", "(LHomeByFour$Net;II)J"⟩
abbrev cX0_share : ByteArray := prog_2_method_3_code
def yX0_share : MethodName := ⟨RX0, "share", "(LHomeByFour$Net;I)V"⟩
abbrev cX0_add : ByteArray := prog_2_method_4_code
def yX0_add : MethodName := ⟨RX0, "add", "(IJ)V"⟩
abbrev cX0_waysFrom : ByteArray := prog_2_method_5_code
def yX0_waysFrom : MethodName := ⟨RX0, "waysFrom", "(LHomeByFour$Net;I)I"⟩
def RX1 : String := "HomeByFour$Muddy"
def TX1 : u_T := fun k => match k with
  | 0 => ("HomeByFour$Stretch", "number", "I", true)
  | 1 => ("HomeByFour$Stretch", "onePlace", "I", true)
  | 2 => ("HomeByFour$Stretch", "otherPlace", "I", true)
  | 3 => ("HomeByFour$Stretch", "length", "I", true)
  | 4 => ("HomeByFour$Stretch", "sights", "I", true)
  | 5 => ("HomeByFour$Stretch", "danger", "I", true)
  | 6 => ("HomeByFour$Stretch", "minutes", "I", false)
  | 7 => ("HomeByFour$Stretch", "tenths", "I", false)
  | _ => ("HomeByFour$Stretch", "closed", "Z", false)
def tyX1 : Nat → FieldType := fun k => match k with
  | 0 => .int
  | 1 => .int
  | 2 => .int
  | 3 => .int
  | 4 => .int
  | 5 => .int
  | 6 => .int
  | 7 => .int
  | _ => .boolean
abbrev wsX10 : List Cond := u_ws RX1 TX1 9
theorem nmX1 : ∀ a, a < 9 → ∀ b, b < 9 → a ≠ b → (TX1 a).2.1 ≠ (TX1 b).2.1 := by decide +kernel
theorem tyX1_ok : ∀ k, k < 9 → parseFieldDescriptor (TX1 k).2.2.1 = some (tyX1 k) := by decide +kernel
abbrev cX1_init : ByteArray := prog_3_method_1_code
def yX1_init : MethodName := ⟨RX1, "<init>", "(IIIIII)V"⟩
abbrev cX1_kind : ByteArray := prog_3_method_2_code
def yX1_kind : MethodName := ⟨RX1, "kind", "()I"⟩
abbrev cX1_minutesAlone : ByteArray := prog_3_method_3_code
def yX1_minutesAlone : MethodName := ⟨RX1, "minutesAlone", "()I"⟩
abbrev cX1_toldWith : ByteArray := prog_3_method_4_code
def yX1_toldWith : MethodName := ⟨RX1, "toldWith", "(LHomeByFour$Trace;)I"⟩
def RX2 : String := "HomeByFour$Net"
def TX2 : u_T := fun k => match k with
  | 0 => ("HomeByFour$Net", "stretches", "[LHomeByFour$Stretch;", true)
  | 1 => ("HomeByFour$Net", "readOf", "[I", true)
  | 2 => ("HomeByFour$Net", "readMud", "[Z", true)
  | 3 => ("HomeByFour$Net", "places", "I", false)
  | 4 => ("HomeByFour$Net", "count", "I", false)
  | 5 => ("HomeByFour$Net", "dueBehind", "I", false)
  | 6 => ("HomeByFour$Net", "lateLaw", "I", false)
  | 7 => ("HomeByFour$Net", "friendTo", "I", false)
  | _ => ("HomeByFour$Net", "readings", "I", false)
def tyX2 : Nat → FieldType := fun k => match k with
  | 0 => .array (.object "HomeByFour$Stretch")
  | 1 => .array .int
  | 2 => .array .boolean
  | 3 => .int
  | 4 => .int
  | 5 => .int
  | 6 => .int
  | 7 => .int
  | _ => .int
abbrev wsX20 : List Cond := u_ws RX2 TX2 9
theorem nmX2 : ∀ a, a < 9 → ∀ b, b < 9 → a ≠ b → (TX2 a).2.1 ≠ (TX2 b).2.1 := by decide +kernel
theorem tyX2_ok : ∀ k, k < 9 → parseFieldDescriptor (TX2 k).2.2.1 = some (tyX2 k) := by decide +kernel
abbrev cX2_init : ByteArray := prog_4_method_1_code
def yX2_init : MethodName := ⟨RX2, "<init>", "()V"⟩
abbrev cX2_takeOver : ByteArray := prog_4_method_2_code
def yX2_takeOver : MethodName := ⟨RX2, "takeOver", "(LHomeByFour$Text;)V"⟩
abbrev cX2_befriend : ByteArray := prog_4_method_3_code
def yX2_befriend : MethodName := ⟨RX2, "befriend", "(I)V"⟩
abbrev cX2_isNone : ByteArray := prog_4_method_4_code
def yX2_isNone : MethodName := ⟨RX2, "isNone", "()Z"⟩
abbrev cX2_hasPlace : ByteArray := prog_4_method_5_code
def yX2_hasPlace : MethodName := ⟨RX2, "hasPlace", "(I)Z"⟩
abbrev cX2_home : ByteArray := prog_4_method_6_code
def yX2_home : MethodName := ⟨RX2, "home", "()I"⟩
abbrev cX2_stretchAt : ByteArray := prog_4_method_7_code
def yX2_stretchAt : MethodName := ⟨RX2, "stretchAt", "(I)LHomeByFour$Stretch;"⟩
abbrev cX2_addReading : ByteArray := prog_4_method_8_code
def yX2_addReading : MethodName := ⟨RX2, "addReading", "(IZ)I"⟩
abbrev cX2_readSet : ByteArray := prog_4_method_9_code
def yX2_readSet : MethodName := ⟨RX2, "readSet", "(Z)I"⟩
abbrev cX2_muddySet : ByteArray := prog_4_method_10_code
def yX2_muddySet : MethodName := ⟨RX2, "muddySet", "()I"⟩
abbrev cX2_joyOf : ByteArray := prog_4_method_11_code
def yX2_joyOf : MethodName := ⟨RX2, "joyOf", "(LHomeByFour$Walk;)I"⟩
abbrev cX2_costOf : ByteArray := prog_4_method_12_code
def yX2_costOf : MethodName := ⟨RX2, "costOf", "(I)I"⟩
def RX3 : String := "HomeByFour$Quickest"
def TX3 : u_T := fun k => match k with
  | _ => ("HomeByFour$Quickest", "least", "[I", true)
def tyX3 : Nat → FieldType := fun k => match k with
  | _ => .array .int
abbrev wsX30 : List Cond := u_ws RX3 TX3 1
theorem nmX3 : ∀ a, a < 1 → ∀ b, b < 1 → a ≠ b → (TX3 a).2.1 ≠ (TX3 b).2.1 := by decide +kernel
theorem tyX3_ok : ∀ k, k < 1 → parseFieldDescriptor (TX3 k).2.2.1 = some (tyX3 k) := by decide +kernel
abbrev cX3_init : ByteArray := prog_5_method_1_code
def yX3_init : MethodName := ⟨RX3, "<init>", "()V"⟩
abbrev cX3_leastMinutes : ByteArray := prog_5_method_2_code
def yX3_leastMinutes : MethodName := ⟨RX3, "leastMinutes", "(LHomeByFour$Net;II)I"⟩
abbrev cX3_shorten : ByteArray := prog_5_method_3_code
def yX3_shorten : MethodName := ⟨RX3, "shorten", "(LHomeByFour$Net;)V"⟩
abbrev cX3_shortenTo : ByteArray := prog_5_method_4_code
def yX3_shortenTo : MethodName := ⟨RX3, "shortenTo", "(III)V"⟩
def RX4 : String := "HomeByFour$Search"
def TX4 : u_T := fun k => match k with
  | 0 => ("HomeByFour$Search", "walks", "[LHomeByFour$Walk;", true)
  | 1 => ("HomeByFour$Search", "row", "[I", true)
  | 2 => ("HomeByFour$Search", "kept", "[I", true)
  | 3 => ("HomeByFour$Search", "keptSteps", "I", false)
  | 4 => ("HomeByFour$Search", "found", "I", false)
  | 5 => ("HomeByFour$Search", "score", "I", false)
  | 6 => ("HomeByFour$Search", "net", "LHomeByFour$Net;", false)
  | 7 => ("HomeByFour$Search", "goal", "I", false)
  | 8 => ("HomeByFour$Search", "most", "I", false)
  | 9 => ("HomeByFour$Search", "minutes", "I", false)
  | 10 => ("HomeByFour$Search", "wantedMud", "I", false)
  | 11 => ("HomeByFour$Search", "unwantedMud", "I", false)
  | _ => ("HomeByFour$Search", "muddy", "I", false)
def tyX4 : Nat → FieldType := fun k => match k with
  | 0 => .array (.object "HomeByFour$Walk")
  | 1 => .array .int
  | 2 => .array .int
  | 3 => .int
  | 4 => .int
  | 5 => .int
  | 6 => .object "HomeByFour$Net"
  | 7 => .int
  | 8 => .int
  | 9 => .int
  | 10 => .int
  | 11 => .int
  | _ => .int
abbrev wsX40 : List Cond := u_ws RX4 TX4 13
theorem nmX4 : ∀ a, a < 13 → ∀ b, b < 13 → a ≠ b → (TX4 a).2.1 ≠ (TX4 b).2.1 := by decide +kernel
theorem tyX4_ok : ∀ k, k < 13 → parseFieldDescriptor (TX4 k).2.2.1 = some (tyX4 k) := by decide +kernel
abbrev cX4_init : ByteArray := prog_6_method_1_code
def yX4_init : MethodName := ⟨RX4, "<init>", "()V"⟩
abbrev cX4_look : ByteArray := prog_6_method_2_code
def yX4_look : MethodName := ⟨RX4, "look", "(LHomeByFour$Net;III)V"⟩
abbrev cX4_stretchFound : ByteArray := prog_6_method_3_code
def yX4_stretchFound : MethodName := ⟨RX4, "stretchFound", "(I)I"⟩
abbrev cX4_goOn : ByteArray := prog_6_method_4_code
def yX4_goOn : MethodName := ⟨RX4, "goOn", "(I)V"⟩
abbrev cX4_weigh : ByteArray := prog_6_method_5_code
def yX4_weigh : MethodName := ⟨RX4, "weigh", "(LHomeByFour$Walk;)V"⟩
abbrev cX4_isTrail : ByteArray := prog_6_method_6_code
def yX4_isTrail : MethodName := ⟨RX4, "isTrail", "(LHomeByFour$Walk;)Z"⟩
abbrev cX4_scoreOf : ByteArray := prog_6_method_7_code
def yX4_scoreOf : MethodName := ⟨RX4, "scoreOf", "(LHomeByFour$Walk;)I"⟩
def RX5 : String := "HomeByFour$Sheet"
def TX5 : u_T := fun k => match k with
  | 0 => ("HomeByFour$Sheet", "cells", "[I", true)
  | 1 => ("HomeByFour$Sheet", "lane", "I", false)
  | _ => ("HomeByFour$Sheet", "length", "I", false)
def tyX5 : Nat → FieldType := fun k => match k with
  | 0 => .array .int
  | 1 => .int
  | _ => .int
abbrev wsX50 : List Cond := u_ws RX5 TX5 3
theorem nmX5 : ∀ a, a < 3 → ∀ b, b < 3 → a ≠ b → (TX5 a).2.1 ≠ (TX5 b).2.1 := by decide +kernel
theorem tyX5_ok : ∀ k, k < 3 → parseFieldDescriptor (TX5 k).2.2.1 = some (tyX5 k) := by decide +kernel
abbrev cX5_init : ByteArray := prog_7_method_1_code
def yX5_init : MethodName := ⟨RX5, "<init>", "()V"⟩
abbrev cX5_begin : ByteArray := prog_7_method_2_code
def yX5_begin : MethodName := ⟨RX5, "begin", "(II)V"⟩
abbrev cX5_drop : ByteArray := prog_7_method_3_code
def yX5_drop : MethodName := ⟨RX5, "drop", "()V"⟩
abbrev cX5_hasNothing : ByteArray := prog_7_method_4_code
def yX5_hasNothing : MethodName := ⟨RX5, "hasNothing", "()Z"⟩
abbrev cX5_hasCell : ByteArray := prog_7_method_5_code
def yX5_hasCell : MethodName := ⟨RX5, "hasCell", "(I)Z"⟩
abbrev cX5_hasCells : ByteArray := prog_7_method_6_code
def yX5_hasCells : MethodName := ⟨RX5, "hasCells", "(II)Z"⟩
abbrev cX5_read : ByteArray := prog_7_method_7_code
def yX5_read : MethodName := ⟨RX5, "read", "(I)I"⟩
abbrev cX5_write : ByteArray := prog_7_method_8_code
def yX5_write : MethodName := ⟨RX5, "write", "(II)V"⟩
abbrev cX5_faultOfRow : ByteArray := prog_7_method_9_code
def yX5_faultOfRow : MethodName := ⟨RX5, "faultOfRow", "(I)I"⟩
abbrev cX5_faultOfCells : ByteArray := prog_7_method_10_code
def yX5_faultOfCells : MethodName := ⟨RX5, "faultOfCells", "(III)I"⟩
def RX6 : String := "HomeByFour$Steep"
def TX6 : u_T := fun k => match k with
  | 0 => ("HomeByFour$Stretch", "number", "I", true)
  | 1 => ("HomeByFour$Stretch", "onePlace", "I", true)
  | 2 => ("HomeByFour$Stretch", "otherPlace", "I", true)
  | 3 => ("HomeByFour$Stretch", "length", "I", true)
  | 4 => ("HomeByFour$Stretch", "sights", "I", true)
  | 5 => ("HomeByFour$Stretch", "danger", "I", true)
  | 6 => ("HomeByFour$Stretch", "minutes", "I", false)
  | 7 => ("HomeByFour$Stretch", "tenths", "I", false)
  | _ => ("HomeByFour$Stretch", "closed", "Z", false)
def tyX6 : Nat → FieldType := fun k => match k with
  | 0 => .int
  | 1 => .int
  | 2 => .int
  | 3 => .int
  | 4 => .int
  | 5 => .int
  | 6 => .int
  | 7 => .int
  | _ => .boolean
abbrev wsX60 : List Cond := u_ws RX6 TX6 9
theorem nmX6 : ∀ a, a < 9 → ∀ b, b < 9 → a ≠ b → (TX6 a).2.1 ≠ (TX6 b).2.1 := by decide +kernel
theorem tyX6_ok : ∀ k, k < 9 → parseFieldDescriptor (TX6 k).2.2.1 = some (tyX6 k) := by decide +kernel
abbrev cX6_init : ByteArray := prog_8_method_1_code
def yX6_init : MethodName := ⟨RX6, "<init>", "(IIIIII)V"⟩
abbrev cX6_kind : ByteArray := prog_8_method_2_code
def yX6_kind : MethodName := ⟨RX6, "kind", "()I"⟩
abbrev cX6_minutesAlone : ByteArray := prog_8_method_3_code
def yX6_minutesAlone : MethodName := ⟨RX6, "minutesAlone", "()I"⟩
abbrev cX6_toldWith : ByteArray := prog_8_method_4_code
def yX6_toldWith : MethodName := ⟨RX6, "toldWith", "(LHomeByFour$Trace;)I"⟩
abbrev cX6_sungWith : ByteArray := prog_8_method_5_code
def yX6_sungWith : MethodName := ⟨RX6, "sungWith", "(LHomeByFour$Trace;)I"⟩
def RX7 : String := "HomeByFour$Stretch"
def TX7 : u_T := fun k => match k with
  | 0 => ("HomeByFour$Stretch", "number", "I", true)
  | 1 => ("HomeByFour$Stretch", "onePlace", "I", true)
  | 2 => ("HomeByFour$Stretch", "otherPlace", "I", true)
  | 3 => ("HomeByFour$Stretch", "length", "I", true)
  | 4 => ("HomeByFour$Stretch", "sights", "I", true)
  | 5 => ("HomeByFour$Stretch", "danger", "I", true)
  | 6 => ("HomeByFour$Stretch", "minutes", "I", false)
  | 7 => ("HomeByFour$Stretch", "tenths", "I", false)
  | _ => ("HomeByFour$Stretch", "closed", "Z", false)
def tyX7 : Nat → FieldType := fun k => match k with
  | 0 => .int
  | 1 => .int
  | 2 => .int
  | 3 => .int
  | 4 => .int
  | 5 => .int
  | 6 => .int
  | 7 => .int
  | _ => .boolean
abbrev wsX70 : List Cond := u_ws RX7 TX7 9
theorem nmX7 : ∀ a, a < 9 → ∀ b, b < 9 → a ≠ b → (TX7 a).2.1 ≠ (TX7 b).2.1 := by decide +kernel
theorem tyX7_ok : ∀ k, k < 9 → parseFieldDescriptor (TX7 k).2.2.1 = some (tyX7 k) := by decide +kernel
abbrev cX7_init : ByteArray := prog_9_method_1_code
def yX7_init : MethodName := ⟨RX7, "<init>", "(IIIIII)V"⟩
abbrev cX7_kind : ByteArray := prog_9_method_2_code
def yX7_kind : MethodName := ⟨RX7, "kind", "()I"⟩
abbrev cX7_minutesAlone : ByteArray := prog_9_method_3_code
def yX7_minutesAlone : MethodName := ⟨RX7, "minutesAlone", "()I"⟩
abbrev cX7_shareWith : ByteArray := prog_9_method_4_code
def yX7_shareWith : MethodName := ⟨RX7, "shareWith", "(I)V"⟩
abbrev cX7_leadsFrom : ByteArray := prog_9_method_5_code
def yX7_leadsFrom : MethodName := ⟨RX7, "leadsFrom", "(I)Z"⟩
abbrev cX7_otherEnd : ByteArray := prog_9_method_6_code
def yX7_otherEnd : MethodName := ⟨RX7, "otherEnd", "(I)I"⟩
abbrev cX7_toldWith : ByteArray := prog_9_method_7_code
def yX7_toldWith : MethodName := ⟨RX7, "toldWith", "(LHomeByFour$Trace;)I"⟩
abbrev cX7_toldAsStretch : ByteArray := prog_9_method_8_code
def yX7_toldAsStretch : MethodName := ⟨RX7, "toldAsStretch", "(LHomeByFour$Trace;)I"⟩
abbrev cX7_sungWith : ByteArray := prog_9_method_9_code
def yX7_sungWith : MethodName := ⟨RX7, "sungWith", "(LHomeByFour$Trace;)I"⟩
def RX8 : String := "HomeByFour$Text"
def TX8 : u_T := fun k => match k with
  | 0 => ("HomeByFour$Text", "sheet", "LHomeByFour$Sheet;", true)
  | 1 => ("HomeByFour$Text", "start", "I", true)
  | _ => ("HomeByFour$Text", "length", "I", true)
def tyX8 : Nat → FieldType := fun k => match k with
  | 0 => .object "HomeByFour$Sheet"
  | 1 => .int
  | _ => .int
abbrev wsX80 : List Cond := u_ws RX8 TX8 3
theorem nmX8 : ∀ a, a < 3 → ∀ b, b < 3 → a ≠ b → (TX8 a).2.1 ≠ (TX8 b).2.1 := by decide +kernel
theorem tyX8_ok : ∀ k, k < 3 → parseFieldDescriptor (TX8 k).2.2.1 = some (tyX8 k) := by decide +kernel
abbrev cX8_init : ByteArray := prog_10_method_1_code
def yX8_init : MethodName := ⟨RX8, "<init>", "(LHomeByFour$Sheet;II)V"⟩
abbrev cX8_firstFault : ByteArray := prog_10_method_2_code
def yX8_firstFault : MethodName := ⟨RX8, "firstFault", "()I"⟩
abbrev cX8_goesOnAt : ByteArray := prog_10_method_3_code
def yX8_goesOnAt : MethodName := ⟨RX8, "goesOnAt", "(I)Z"⟩
abbrev cX8_places : ByteArray := prog_10_method_4_code
def yX8_places : MethodName := ⟨RX8, "places", "()I"⟩
abbrev cX8_stretches : ByteArray := prog_10_method_5_code
def yX8_stretches : MethodName := ⟨RX8, "stretches", "()I"⟩
abbrev cX8_makeStretch : ByteArray := prog_10_method_6_code
def yX8_makeStretch : MethodName := ⟨RX8, "makeStretch", "(I)LHomeByFour$Stretch;"⟩
abbrev cX8_codeAt : ByteArray := prog_10_method_7_code
def yX8_codeAt : MethodName := ⟨RX8, "codeAt", "(I)I"⟩
abbrev cX8_digitAt : ByteArray := prog_10_method_8_code
def yX8_digitAt : MethodName := ⟨RX8, "digitAt", "(I)I"⟩
abbrev cX8_isDigitAt : ByteArray := prog_10_method_9_code
def yX8_isDigitAt : MethodName := ⟨RX8, "isDigitAt", "(III)Z"⟩
abbrev cX8_isKindAt : ByteArray := prog_10_method_10_code
def yX8_isKindAt : MethodName := ⟨RX8, "isKindAt", "(I)Z"⟩
def RX9 : String := "HomeByFour$Trace"
def TX9 : u_T := fun k => match k with
  | _ => ("HomeByFour$Trace", "left", "I", false)
def tyX9 : Nat → FieldType := fun k => match k with
  | _ => .int
abbrev wsX90 : List Cond := u_ws RX9 TX9 1
theorem nmX9 : ∀ a, a < 1 → ∀ b, b < 1 → a ≠ b → (TX9 a).2.1 ≠ (TX9 b).2.1 := by decide +kernel
theorem tyX9_ok : ∀ k, k < 1 → parseFieldDescriptor (TX9 k).2.2.1 = some (tyX9 k) := by decide +kernel
abbrev cX9_init : ByteArray := prog_11_method_1_code
def yX9_init : MethodName := ⟨RX9, "<init>", "()V"⟩
abbrev cX9_leave : ByteArray := prog_11_method_2_code
def yX9_leave : MethodName := ⟨RX9, "leave", "(I)V"⟩
def RX10 : String := "HomeByFour$Walk"
def TX10 : u_T := fun k => match k with
  | 0 => ("HomeByFour$Walk", "place", "I", false)
  | 1 => ("HomeByFour$Walk", "steps", "I", false)
  | 2 => ("HomeByFour$Walk", "minutes", "I", false)
  | 3 => ("HomeByFour$Walk", "sights", "I", false)
  | 4 => ("HomeByFour$Walk", "gone", "I", false)
  | _ => ("HomeByFour$Walk", "tenths", "J", false)
def tyX10 : Nat → FieldType := fun k => match k with
  | 0 => .int
  | 1 => .int
  | 2 => .int
  | 3 => .int
  | 4 => .int
  | _ => .long
abbrev wsX100 : List Cond := u_ws RX10 TX10 6
theorem nmX10 : ∀ a, a < 6 → ∀ b, b < 6 → a ≠ b → (TX10 a).2.1 ≠ (TX10 b).2.1 := by decide +kernel
theorem tyX10_ok : ∀ k, k < 6 → parseFieldDescriptor (TX10 k).2.2.1 = some (tyX10 k) := by decide +kernel
abbrev cX10_init : ByteArray := prog_12_method_1_code
def yX10_init : MethodName := ⟨RX10, "<init>", "()V"⟩
abbrev cX10_begin : ByteArray := prog_12_method_2_code
def yX10_begin : MethodName := ⟨RX10, "begin", "()V"⟩
abbrev cX10_follow : ByteArray := prog_12_method_3_code
def yX10_follow : MethodName := ⟨RX10, "follow", "(LHomeByFour$Walk;LHomeByFour$Stretch;)V"⟩
def RX11 : String := "HomeByFour"
def TX11 : u_T := fun k => match k with
  | 0 => ("HomeByFour", "sheets", "[LHomeByFour$Sheet;", true)
  | 1 => ("HomeByFour", "ways", "LHomeByFour$Net;", true)
  | 2 => ("HomeByFour", "told", "LHomeByFour$Walk;", true)
  | 3 => ("HomeByFour", "search", "LHomeByFour$Search;", true)
  | 4 => ("HomeByFour", "quick", "LHomeByFour$Quickest;", true)
  | 5 => ("HomeByFour", "dawdling", "LHomeByFour$Dawdling;", true)
  | 6 => ("HomeByFour", "marks", "LHomeByFour$Trace;", true)
  | _ => ("HomeByFour", "latestFault", "I", false)
def tyX11 : Nat → FieldType := fun k => match k with
  | 0 => .array (.object "HomeByFour$Sheet")
  | 1 => .object "HomeByFour$Net"
  | 2 => .object "HomeByFour$Walk"
  | 3 => .object "HomeByFour$Search"
  | 4 => .object "HomeByFour$Quickest"
  | 5 => .object "HomeByFour$Dawdling"
  | 6 => .object "HomeByFour$Trace"
  | _ => .int
abbrev wsX110 : List Cond := u_ws RX11 TX11 8
theorem nmX11 : ∀ a, a < 8 → ∀ b, b < 8 → a ≠ b → (TX11 a).2.1 ≠ (TX11 b).2.1 := by decide +kernel
theorem tyX11_ok : ∀ k, k < 8 → parseFieldDescriptor (TX11 k).2.2.1 = some (tyX11 k) := by decide +kernel
abbrev cX11_init : ByteArray := prog_1_method_1_code
def yX11_init : MethodName := ⟨RX11, "<init>", "()V"⟩
abbrev cX11_net : ByteArray := prog_1_method_2_code
def yX11_net : MethodName := ⟨RX11, "net", "(IIII)I"⟩
abbrev cX11_ofStretch : ByteArray := prog_1_method_3_code
def yX11_ofStretch : MethodName := ⟨RX11, "ofStretch", "(II)I"⟩
abbrev cX11_due : ByteArray := prog_1_method_4_code
def yX11_due : MethodName := ⟨RX11, "due", "(I)I"⟩
abbrev cX11_law : ByteArray := prog_1_method_5_code
def yX11_law : MethodName := ⟨RX11, "law", "(I)I"⟩
abbrev cX11_friend : ByteArray := prog_1_method_6_code
def yX11_friend : MethodName := ⟨RX11, "friend", "(I)I"⟩
abbrev cX11_close : ByteArray := prog_1_method_7_code
def yX11_close : MethodName := ⟨RX11, "close", "(IZ)I"⟩
abbrev cX11_walk : ByteArray := prog_1_method_8_code
def yX11_walk : MethodName := ⟨RX11, "walk", "(IIIII)I"⟩
abbrev cX11_safe : ByteArray := prog_1_method_9_code
def yX11_safe : MethodName := ⟨RX11, "safe", "(IIIII)J"⟩
abbrev cX11_quickest : ByteArray := prog_1_method_10_code
def yX11_quickest : MethodName := ⟨RX11, "quickest", "(I)I"⟩
abbrev cX11_via : ByteArray := prog_1_method_11_code
def yX11_via : MethodName := ⟨RX11, "via", "(I)I"⟩
abbrev cX11_best : ByteArray := prog_1_method_12_code
def yX11_best : MethodName := ⟨RX11, "best", "(II)I"⟩
abbrev cX11_safest : ByteArray := prog_1_method_13_code
def yX11_safest : MethodName := ⟨RX11, "safest", "(II)I"⟩
abbrev cX11_worth : ByteArray := prog_1_method_14_code
def yX11_worth : MethodName := ⟨RX11, "worth", "(I)I"⟩
abbrev cX11_reading : ByteArray := prog_1_method_15_code
def yX11_reading : MethodName := ⟨RX11, "reading", "(IZ)I"⟩
abbrev cX11_back : ByteArray := prog_1_method_16_code
def yX11_back : MethodName := ⟨RX11, "back", "(I)I"⟩
abbrev cX11_trails : ByteArray := prog_1_method_17_code
def yX11_trails : MethodName := ⟨RX11, "trails", "(III)I"⟩
abbrev cX11_dawdle : ByteArray := prog_1_method_18_code
def yX11_dawdle : MethodName := ⟨RX11, "dawdle", "(III)J"⟩
abbrev cX11_sheet : ByteArray := prog_1_method_19_code
def yX11_sheet : MethodName := ⟨RX11, "sheet", "(III)I"⟩
abbrev cX11_lose : ByteArray := prog_1_method_20_code
def yX11_lose : MethodName := ⟨RX11, "lose", "(I)I"⟩
abbrev cX11_put : ByteArray := prog_1_method_21_code
def yX11_put : MethodName := ⟨RX11, "put", "(III)I"⟩
abbrev cX11_cell : ByteArray := prog_1_method_22_code
def yX11_cell : MethodName := ⟨RX11, "cell", "(III)J"⟩
abbrev cX11_copy : ByteArray := prog_1_method_23_code
def yX11_copy : MethodName := ⟨RX11, "copy", "(IIIII)I"⟩
abbrev cX11_tell : ByteArray := prog_1_method_24_code
def yX11_tell : MethodName := ⟨RX11, "tell", "(I)I"⟩
abbrev cX11_sing : ByteArray := prog_1_method_25_code
def yX11_sing : MethodName := ⟨RX11, "sing", "(I)I"⟩
abbrev cX11_as : ByteArray := prog_1_method_26_code
def yX11_as : MethodName := ⟨RX11, "as", "(II)I"⟩
abbrev cX11_trace : ByteArray := prog_1_method_27_code
def yX11_trace : MethodName := ⟨RX11, "trace", "()I"⟩
abbrev cX11_fault : ByteArray := prog_1_method_28_code
def yX11_fault : MethodName := ⟨RX11, "fault", "()I"⟩
abbrev cX11_many : ByteArray := prog_1_method_29_code
def yX11_many : MethodName := ⟨RX11, "many", "(I)I"⟩
abbrev cX11_isWithin : ByteArray := prog_1_method_30_code
def yX11_isWithin : MethodName := ⟨RX11, "isWithin", "(III)Z"⟩
abbrev cX11_refused : ByteArray := prog_1_method_31_code
def yX11_refused : MethodName := ⟨RX11, "refused", "(I)I"⟩
abbrev cX11_failed : ByteArray := prog_1_method_32_code
def yX11_failed : MethodName := ⟨RX11, "failed", "(I)I"⟩
abbrev cX11_sheetAt : ByteArray := prog_1_method_33_code
def yX11_sheetAt : MethodName := ⟨RX11, "sheetAt", "(I)LHomeByFour$Sheet;"⟩
abbrev cX11_followTold : ByteArray := prog_1_method_34_code
def yX11_followTold : MethodName := ⟨RX11, "followTold", "(IIIIZ)I"⟩
abbrev cX11_areStretches : ByteArray := prog_1_method_35_code
def yX11_areStretches : MethodName := ⟨RX11, "areStretches", "(LHomeByFour$Sheet;II)Z"⟩
abbrev cX11_followCells : ByteArray := prog_1_method_36_code
def yX11_followCells : MethodName := ⟨RX11, "followCells", "(LHomeByFour$Sheet;II)I"⟩
abbrev cX11_refusalOfSearch : ByteArray := prog_1_method_37_code
def yX11_refusalOfSearch : MethodName := ⟨RX11, "refusalOfSearch", "(II)I"⟩
abbrev cX11_joyFound : ByteArray := prog_1_method_38_code
def yX11_joyFound : MethodName := ⟨RX11, "joyFound", "()I"⟩
abbrev cX11_powerOf : ByteArray := prog_1_method_39_code
def yX11_powerOf : MethodName := ⟨RX11, "powerOf", "(JI)J"⟩
abbrev cX11_inLeastTerms : ByteArray := prog_1_method_40_code
def yX11_inLeastTerms : MethodName := ⟨RX11, "inLeastTerms", "(JJI)J"⟩
abbrev cX11_commonDivisor : ByteArray := prog_1_method_41_code
def yX11_commonDivisor : MethodName := ⟨RX11, "commonDivisor", "(JJ)J"⟩
def RX12 : String := "HomeByFourModel"
def TX12 : u_T := fun k => match k with
  | 0 => ("HomeByFourModel", "fault", "I", false)
  | 1 => ("HomeByFourModel", "places", "I", false)
  | 2 => ("HomeByFourModel", "stretches", "I", false)
  | 3 => ("HomeByFourModel", "kindOf", "[I", true)
  | 4 => ("HomeByFourModel", "oneOf", "[I", true)
  | 5 => ("HomeByFourModel", "otherOf", "[I", true)
  | 6 => ("HomeByFourModel", "longOf", "[I", true)
  | 7 => ("HomeByFourModel", "sightsOf", "[I", true)
  | 8 => ("HomeByFourModel", "dangerOf", "[I", true)
  | 9 => ("HomeByFourModel", "dueBehind", "I", false)
  | 10 => ("HomeByFourModel", "lawNow", "I", false)
  | 11 => ("HomeByFourModel", "friendTo", "I", false)
  | 12 => ("HomeByFourModel", "closed", "I", false)
  | 13 => ("HomeByFourModel", "readAt", "I", false)
  | 14 => ("HomeByFourModel", "readPlaces", "I", false)
  | 15 => ("HomeByFourModel", "readStretches", "I", false)
  | 16 => ("HomeByFourModel", "readKind", "[I", true)
  | 17 => ("HomeByFourModel", "readOne", "[I", true)
  | 18 => ("HomeByFourModel", "readOther", "[I", true)
  | 19 => ("HomeByFourModel", "readLong", "[I", true)
  | 20 => ("HomeByFourModel", "readSights", "[I", true)
  | 21 => ("HomeByFourModel", "readDanger", "[I", true)
  | 22 => ("HomeByFourModel", "row", "[I", true)
  | 23 => ("HomeByFourModel", "endsAt", "I", false)
  | 24 => ("HomeByFourModel", "soonAt", "[I", true)
  | 25 => ("HomeByFourModel", "stands", "[I", true)
  | 26 => ("HomeByFourModel", "depth", "I", false)
  | 27 => ("HomeByFourModel", "bestRow", "[I", true)
  | 28 => ("HomeByFourModel", "bestMany", "I", false)
  | 29 => ("HomeByFourModel", "bestIs", "J", false)
  | 30 => ("HomeByFourModel", "readings", "I", false)
  | 31 => ("HomeByFourModel", "readingOf", "[I", true)
  | 32 => ("HomeByFourModel", "readingWas", "[Z", true)
  | 33 => ("HomeByFourModel", "waysTo", "[J", true)
  | 34 => ("HomeByFourModel", "waysThen", "[J", true)
  | 35 => ("HomeByFourModel", "sheetSize", "[I", true)
  | 36 => ("HomeByFourModel", "sheetLane", "[I", true)
  | 37 => ("HomeByFourModel", "sheet", "[I", true)
  | 38 => ("HomeByFourModel", "hands", "[I", true)
  | _ => ("HomeByFourModel", "traceNow", "I", false)
def tyX12 : Nat → FieldType := fun k => match k with
  | 0 => .int
  | 1 => .int
  | 2 => .int
  | 3 => .array .int
  | 4 => .array .int
  | 5 => .array .int
  | 6 => .array .int
  | 7 => .array .int
  | 8 => .array .int
  | 9 => .int
  | 10 => .int
  | 11 => .int
  | 12 => .int
  | 13 => .int
  | 14 => .int
  | 15 => .int
  | 16 => .array .int
  | 17 => .array .int
  | 18 => .array .int
  | 19 => .array .int
  | 20 => .array .int
  | 21 => .array .int
  | 22 => .array .int
  | 23 => .int
  | 24 => .array .int
  | 25 => .array .int
  | 26 => .int
  | 27 => .array .int
  | 28 => .int
  | 29 => .long
  | 30 => .int
  | 31 => .array .int
  | 32 => .array .boolean
  | 33 => .array .long
  | 34 => .array .long
  | 35 => .array .int
  | 36 => .array .int
  | 37 => .array .int
  | 38 => .array .int
  | _ => .int
abbrev wsX120 : List Cond := u_ws RX12 TX12 40
theorem nmX12 : ∀ a, a < 40 → ∀ b, b < 40 → a ≠ b → (TX12 a).2.1 ≠ (TX12 b).2.1 := by decide +kernel
theorem tyX12_ok : ∀ k, k < 40 → parseFieldDescriptor (TX12 k).2.2.1 = some (tyX12 k) := by decide +kernel
abbrev cX12_init : ByteArray := prog_14_method_1_code
def yX12_init : MethodName := ⟨RX12, "<init>", "()V"⟩
abbrev cX12_in : ByteArray := prog_14_method_2_code
def yX12_in : MethodName := ⟨RX12, "in", "(JJJ)Z"⟩
abbrev cX12_lost : ByteArray := prog_14_method_3_code
def yX12_lost : MethodName := ⟨RX12, "lost", "()J"⟩
abbrev cX12_isIn : ByteArray := prog_14_method_4_code
def yX12_isIn : MethodName := ⟨RX12, "isIn", "(II)Z"⟩
abbrev cX12_told : ByteArray := prog_14_method_5_code
def yX12_told : MethodName := ⟨RX12, "told", "(JJI)J"⟩
abbrev cX12_refused : ByteArray := prog_14_method_6_code
def yX12_refused : MethodName := ⟨RX12, "refused", "(I)I"⟩
abbrev cX12_failed : ByteArray := prog_14_method_7_code
def yX12_failed : MethodName := ⟨RX12, "failed", "(I)I"⟩
abbrev cX12_failedLong : ByteArray := prog_14_method_8_code
def yX12_failedLong : MethodName := ⟨RX12, "failedLong", "(I)J"⟩
abbrev cX12_refusedLong : ByteArray := prog_14_method_9_code
def yX12_refusedLong : MethodName := ⟨RX12, "refusedLong", "()J"⟩
abbrev cX12_noPlace : ByteArray := prog_14_method_10_code
def yX12_noPlace : MethodName := ⟨RX12, "noPlace", "(I)Z"⟩
abbrev cX12_noStretch : ByteArray := prog_14_method_11_code
def yX12_noStretch : MethodName := ⟨RX12, "noStretch", "(I)Z"⟩
abbrev cX12_codeAt : ByteArray := prog_14_method_12_code
def yX12_codeAt : MethodName := ⟨RX12, "codeAt", "(II)I"⟩
abbrev cX12_figure : ByteArray := prog_14_method_13_code
def yX12_figure : MethodName := ⟨RX12, "figure", "(IIIII)I"⟩
abbrev cX12_readsStretch : ByteArray := prog_14_method_14_code
def yX12_readsStretch : MethodName := ⟨RX12, "readsStretch", "(II)Z"⟩
abbrev cX12_readsNet : ByteArray := prog_14_method_15_code
def yX12_readsNet : MethodName := ⟨RX12, "readsNet", "(II)Z"⟩
abbrev cX12_cellsBarred : ByteArray := prog_14_method_16_code
def yX12_cellsBarred : MethodName := ⟨RX12, "cellsBarred", "(IIIJ)I"⟩
abbrev cX12_net : ByteArray := prog_14_method_17_code
def yX12_net : MethodName := ⟨RX12, "net", "(IIII)I"⟩
abbrev cX12_isShared : ByteArray := prog_14_method_18_code
def yX12_isShared : MethodName := ⟨RX12, "isShared", "(I)Z"⟩
abbrev cX12_takesOf : ByteArray := prog_14_method_19_code
def yX12_takesOf : MethodName := ⟨RX12, "takesOf", "(I)I"⟩
abbrev cX12_safeOf : ByteArray := prog_14_method_20_code
def yX12_safeOf : MethodName := ⟨RX12, "safeOf", "(I)I"⟩
abbrev cX12_ofStretch : ByteArray := prog_14_method_21_code
def yX12_ofStretch : MethodName := ⟨RX12, "ofStretch", "(II)I"⟩
abbrev cX12_due : ByteArray := prog_14_method_22_code
def yX12_due : MethodName := ⟨RX12, "due", "(I)I"⟩
abbrev cX12_law : ByteArray := prog_14_method_23_code
def yX12_law : MethodName := ⟨RX12, "law", "(I)I"⟩
abbrev cX12_friend : ByteArray := prog_14_method_24_code
def yX12_friend : MethodName := ⟨RX12, "friend", "(I)I"⟩
abbrev cX12_close : ByteArray := prog_14_method_25_code
def yX12_close : MethodName := ⟨RX12, "close", "(IZ)I"⟩
abbrev cX12_goesTo : ByteArray := prog_14_method_26_code
def yX12_goesTo : MethodName := ⟨RX12, "goesTo", "(II)I"⟩
abbrev cX12_minutesOf : ByteArray := prog_14_method_27_code
def yX12_minutesOf : MethodName := ⟨RX12, "minutesOf", "(I)I"⟩
abbrev cX12_goneBy : ByteArray := prog_14_method_28_code
def yX12_goneBy : MethodName := ⟨RX12, "goneBy", "(I)I"⟩
abbrev cX12_sightsBy : ByteArray := prog_14_method_29_code
def yX12_sightsBy : MethodName := ⟨RX12, "sightsBy", "(I)I"⟩
abbrev cX12_costOf : ByteArray := prog_14_method_30_code
def yX12_costOf : MethodName := ⟨RX12, "costOf", "(I)I"⟩
abbrev cX12_joyOf : ByteArray := prog_14_method_31_code
def yX12_joyOf : MethodName := ⟨RX12, "joyOf", "(I)I"⟩
abbrev cX12_safeBy : ByteArray := prog_14_method_32_code
def yX12_safeBy : MethodName := ⟨RX12, "safeBy", "(I)J"⟩
abbrev cX12_readsWalk : ByteArray := prog_14_method_33_code
def yX12_readsWalk : MethodName := ⟨RX12, "readsWalk", "(II)I"⟩
abbrev cX12_walk : ByteArray := prog_14_method_34_code
def yX12_walk : MethodName := ⟨RX12, "walk", "(IIIII)I"⟩
abbrev cX12_safe : ByteArray := prog_14_method_35_code
def yX12_safe : MethodName := ⟨RX12, "safe", "(IIIII)J"⟩
abbrev cX12_laySoon : ByteArray := prog_14_method_36_code
def yX12_laySoon : MethodName := ⟨RX12, "laySoon", "(I)V"⟩
abbrev cX12_quickest : ByteArray := prog_14_method_37_code
def yX12_quickest : MethodName := ⟨RX12, "quickest", "(I)I"⟩
abbrev cX12_via : ByteArray := prog_14_method_38_code
def yX12_via : MethodName := ⟨RX12, "via", "(I)I"⟩
abbrev cX12_beginRows : ByteArray := prog_14_method_39_code
def yX12_beginRows : MethodName := ⟨RX12, "beginRows", "()V"⟩
abbrev cX12_nextRow : ByteArray := prog_14_method_40_code
def yX12_nextRow : MethodName := ⟨RX12, "nextRow", "(I)Z"⟩
abbrev cX12_keepRow : ByteArray := prog_14_method_41_code
def yX12_keepRow : MethodName := ⟨RX12, "keepRow", "(IJ)V"⟩
abbrev cX12_partsOf : ByteArray := prog_14_method_42_code
def yX12_partsOf : MethodName := ⟨RX12, "partsOf", "(I)J"⟩
abbrev cX12_seek : ByteArray := prog_14_method_43_code
def yX12_seek : MethodName := ⟨RX12, "seek", "(IZ)V"⟩
abbrev cX12_toldBest : ByteArray := prog_14_method_44_code
def yX12_toldBest : MethodName := ⟨RX12, "toldBest", "(I)I"⟩
abbrev cX12_refusedFor : ByteArray := prog_14_method_45_code
def yX12_refusedFor : MethodName := ⟨RX12, "refusedFor", "(II)I"⟩
abbrev cX12_best : ByteArray := prog_14_method_46_code
def yX12_best : MethodName := ⟨RX12, "best", "(II)I"⟩
abbrev cX12_safest : ByteArray := prog_14_method_47_code
def yX12_safest : MethodName := ⟨RX12, "safest", "(II)I"⟩
abbrev cX12_worth : ByteArray := prog_14_method_48_code
def yX12_worth : MethodName := ⟨RX12, "worth", "(I)I"⟩
abbrev cX12_reading : ByteArray := prog_14_method_49_code
def yX12_reading : MethodName := ⟨RX12, "reading", "(IZ)I"⟩
abbrev cX12_back : ByteArray := prog_14_method_50_code
def yX12_back : MethodName := ⟨RX12, "back", "(I)I"⟩
abbrev cX12_areSo : ByteArray := prog_14_method_51_code
def yX12_areSo : MethodName := ⟨RX12, "areSo", "(I)Z"⟩
abbrev cX12_trails : ByteArray := prog_14_method_52_code
def yX12_trails : MethodName := ⟨RX12, "trails", "(III)I"⟩
abbrev cX12_openAt : ByteArray := prog_14_method_53_code
def yX12_openAt : MethodName := ⟨RX12, "openAt", "(I)I"⟩
abbrev cX12_goDawdling : ByteArray := prog_14_method_54_code
def yX12_goDawdling : MethodName := ⟨RX12, "goDawdling", "()V"⟩
abbrev cX12_dawdle : ByteArray := prog_14_method_55_code
def yX12_dawdle : MethodName := ⟨RX12, "dawdle", "(III)J"⟩
abbrev cX12_noSheet : ByteArray := prog_14_method_56_code
def yX12_noSheet : MethodName := ⟨RX12, "noSheet", "(I)Z"⟩
abbrev cX12_sheet : ByteArray := prog_14_method_57_code
def yX12_sheet : MethodName := ⟨RX12, "sheet", "(III)I"⟩
abbrev cX12_lose : ByteArray := prog_14_method_58_code
def yX12_lose : MethodName := ⟨RX12, "lose", "(I)I"⟩
abbrev cX12_noCell : ByteArray := prog_14_method_59_code
def yX12_noCell : MethodName := ⟨RX12, "noCell", "(II)I"⟩
abbrev cX12_put : ByteArray := prog_14_method_60_code
def yX12_put : MethodName := ⟨RX12, "put", "(III)I"⟩
abbrev cX12_cell : ByteArray := prog_14_method_61_code
def yX12_cell : MethodName := ⟨RX12, "cell", "(III)J"⟩
abbrev cX12_isBeyond : ByteArray := prog_14_method_62_code
def yX12_isBeyond : MethodName := ⟨RX12, "isBeyond", "(IJI)Z"⟩
abbrev cX12_copy : ByteArray := prog_14_method_63_code
def yX12_copy : MethodName := ⟨RX12, "copy", "(IIIII)I"⟩
abbrev cX12_traced : ByteArray := prog_14_method_64_code
def yX12_traced : MethodName := ⟨RX12, "traced", "(I)V"⟩
abbrev cX12_tell : ByteArray := prog_14_method_65_code
def yX12_tell : MethodName := ⟨RX12, "tell", "(I)I"⟩
abbrev cX12_sing : ByteArray := prog_14_method_66_code
def yX12_sing : MethodName := ⟨RX12, "sing", "(I)I"⟩
abbrev cX12_as : ByteArray := prog_14_method_67_code
def yX12_as : MethodName := ⟨RX12, "as", "(II)I"⟩
abbrev cX12_trace : ByteArray := prog_14_method_68_code
def yX12_trace : MethodName := ⟨RX12, "trace", "()I"⟩
abbrev cX12_fault : ByteArray := prog_14_method_69_code
def yX12_fault : MethodName := ⟨RX12, "fault", "()I"⟩
abbrev cX12_many : ByteArray := prog_14_method_70_code
def yX12_many : MethodName := ⟨RX12, "many", "(I)I"⟩
def RJ9 : String := "java/lang/Math"
def TJ9 : u_T := fun k => match k with
  | _ => ("", "", "", false)
def tyJ9 : Nat → FieldType := fun k => match k with
  | _ => .int
abbrev wsJ90 : List Cond := u_ws RJ9 TJ9 0
theorem nmJ9 : ∀ a, a < 0 → ∀ b, b < 0 → a ≠ b → (TJ9 a).2.1 ≠ (TJ9 b).2.1 := by decide +kernel
theorem tyJ9_ok : ∀ k, k < 0 → parseFieldDescriptor (TJ9 k).2.2.1 = some (tyJ9 k) := by decide +kernel
abbrev cJ9_min_7cf53 : ByteArray := prog_15_method_69_code
def yJ9_min_7cf53 : MethodName := ⟨RJ9, "min", "(II)I"⟩
def RJ10 : String := "java/lang/System"
def TJ10 : u_T := fun k => match k with
  | _ => ("", "", "", false)
def tyJ10 : Nat → FieldType := fun k => match k with
  | _ => .int
abbrev wsJ100 : List Cond := u_ws RJ10 TJ10 0
theorem nmJ10 : ∀ a, a < 0 → ∀ b, b < 0 → a ≠ b → (TJ10 a).2.1 ≠ (TJ10 b).2.1 := by decide +kernel
theorem tyJ10_ok : ∀ k, k < 0 → parseFieldDescriptor (TJ10 k).2.2.1 = some (tyJ10 k) := by decide +kernel
def RJ7 : String := "java/util/Arrays"
def TJ7 : u_T := fun k => match k with
  | _ => ("", "", "", false)
def tyJ7 : Nat → FieldType := fun k => match k with
  | _ => .int
abbrev wsJ70 : List Cond := u_ws RJ7 TJ7 0
theorem nmJ7 : ∀ a, a < 0 → ∀ b, b < 0 → a ≠ b → (TJ7 a).2.1 ≠ (TJ7 b).2.1 := by decide +kernel
theorem tyJ7_ok : ∀ k, k < 0 → parseFieldDescriptor (TJ7 k).2.2.1 = some (tyJ7 k) := by decide +kernel
abbrev cJ7_fill_d0a16 : ByteArray := prog_17_method_101_code
def yJ7_fill_d0a16 : MethodName := ⟨RJ7, "fill", "([JJ)V"⟩
abbrev cJ7_fill_53178 : ByteArray := prog_17_method_103_code
def yJ7_fill_53178 : MethodName := ⟨RJ7, "fill", "([II)V"⟩
def RL : String := "HomeByFourLaw"
abbrev cL_law : ByteArray := code
def yL_law : MethodName := ⟨RL, "law", "([I)Z"⟩
abbrev vwCl : List vw_C := [(RX0, TX0, 2), (RX1, TX1, 9), (RX2, TX2, 9), (RX3, TX3, 1), (RX4, TX4, 13), (RX5, TX5, 3), (RX6, TX6, 9), (RX7, TX7, 9), (RX8, TX8, 3), (RX9, TX9, 1), (RX10, TX10, 6), (RX11, TX11, 8), (RX12, TX12, 40)]
abbrev mJ7_fill_53178 : MI := (yJ7_fill_53178, cJ7_fill_53178, 4, none)
abbrev mJ7_fill_d0a16 : MI := (yJ7_fill_d0a16, cJ7_fill_d0a16, 5, none)
abbrev mJ9_min_7cf53 : MI := (yJ9_min_7cf53, cJ9_min_7cf53, 2, (some .int))
abbrev mL_law : MI := (yL_law, cL_law, 4, (some .boolean))
abbrev mX0_add : MI := (yX0_add, cX0_add, 4, none)
abbrev mX0_init : MI := (yX0_init, cX0_init, 1, none)
abbrev mX0_partsAt : MI := (yX0_partsAt, cX0_partsAt, 6, (some .long))
abbrev mX0_share : MI := (yX0_share, cX0_share, 8, none)
abbrev mX0_waysFrom : MI := (yX0_waysFrom, cX0_waysFrom, 6, (some .int))
abbrev mX10_begin : MI := (yX10_begin, cX10_begin, 1, none)
abbrev mX10_follow : MI := (yX10_follow, cX10_follow, 5, none)
abbrev mX10_init : MI := (yX10_init, cX10_init, 1, none)
abbrev mX11_areStretches : MI := (yX11_areStretches, cX11_areStretches, 5, (some .boolean))
abbrev mX11_as : MI := (yX11_as, cX11_as, 4, (some .int))
abbrev mX11_back : MI := (yX11_back, cX11_back, 2, (some .int))
abbrev mX11_best : MI := (yX11_best, cX11_best, 4, (some .int))
abbrev mX11_cell : MI := (yX11_cell, cX11_cell, 5, (some .long))
abbrev mX11_close : MI := (yX11_close, cX11_close, 4, (some .int))
abbrev mX11_commonDivisor : MI := (yX11_commonDivisor, cX11_commonDivisor, 11, (some .long))
abbrev mX11_copy : MI := (yX11_copy, cX11_copy, 8, (some .int))
abbrev mX11_dawdle : MI := (yX11_dawdle, cX11_dawdle, 6, (some .long))
abbrev mX11_due : MI := (yX11_due, cX11_due, 3, (some .int))
abbrev mX11_failed : MI := (yX11_failed, cX11_failed, 2, (some .int))
abbrev mX11_fault : MI := (yX11_fault, cX11_fault, 1, (some .int))
abbrev mX11_followCells : MI := (yX11_followCells, cX11_followCells, 6, (some .int))
abbrev mX11_followTold : MI := (yX11_followTold, cX11_followTold, 8, (some .int))
abbrev mX11_friend : MI := (yX11_friend, cX11_friend, 3, (some .int))
abbrev mX11_inLeastTerms : MI := (yX11_inLeastTerms, cX11_inLeastTerms, 7, (some .long))
abbrev mX11_init : MI := (yX11_init, cX11_init, 2, none)
abbrev mX11_isWithin : MI := (yX11_isWithin, cX11_isWithin, 3, (some .boolean))
abbrev mX11_joyFound : MI := (yX11_joyFound, cX11_joyFound, 1, (some .int))
abbrev mX11_law : MI := (yX11_law, cX11_law, 3, (some .int))
abbrev mX11_lose : MI := (yX11_lose, cX11_lose, 3, (some .int))
abbrev mX11_many : MI := (yX11_many, cX11_many, 2, (some .int))
abbrev mX11_net : MI := (yX11_net, cX11_net, 9, (some .int))
abbrev mX11_ofStretch : MI := (yX11_ofStretch, cX11_ofStretch, 4, (some .int))
abbrev mX11_powerOf : MI := (yX11_powerOf, cX11_powerOf, 6, (some .long))
abbrev mX11_put : MI := (yX11_put, cX11_put, 5, (some .int))
abbrev mX11_quickest : MI := (yX11_quickest, cX11_quickest, 2, (some .int))
abbrev mX11_reading : MI := (yX11_reading, cX11_reading, 3, (some .int))
abbrev mX11_refusalOfSearch : MI := (yX11_refusalOfSearch, cX11_refusalOfSearch, 3, (some .int))
abbrev mX11_refused : MI := (yX11_refused, cX11_refused, 2, (some .int))
abbrev mX11_safe : MI := (yX11_safe, cX11_safe, 7, (some .long))
abbrev mX11_safest : MI := (yX11_safest, cX11_safest, 4, (some .int))
abbrev mX11_sheet : MI := (yX11_sheet, cX11_sheet, 5, (some .int))
abbrev mX11_sheetAt : MI := (yX11_sheetAt, cX11_sheetAt, 2, (some (.object "HomeByFour$Sheet")))
abbrev mX11_sing : MI := (yX11_sing, cX11_sing, 3, (some .int))
abbrev mX11_tell : MI := (yX11_tell, cX11_tell, 3, (some .int))
abbrev mX11_trace : MI := (yX11_trace, cX11_trace, 1, (some .int))
abbrev mX11_trails : MI := (yX11_trails, cX11_trails, 5, (some .int))
abbrev mX11_via : MI := (yX11_via, cX11_via, 4, (some .int))
abbrev mX11_walk : MI := (yX11_walk, cX11_walk, 7, (some .int))
abbrev mX11_worth : MI := (yX11_worth, cX11_worth, 6, (some .int))
abbrev mX12_areSo : MI := (yX12_areSo, cX12_areSo, 6, (some .boolean))
abbrev mX12_as : MI := (yX12_as, cX12_as, 3, (some .int))
abbrev mX12_back : MI := (yX12_back, cX12_back, 2, (some .int))
abbrev mX12_beginRows : MI := (yX12_beginRows, cX12_beginRows, 1, none)
abbrev mX12_best : MI := (yX12_best, cX12_best, 4, (some .int))
abbrev mX12_cell : MI := (yX12_cell, cX12_cell, 4, (some .long))
abbrev mX12_cellsBarred : MI := (yX12_cellsBarred, cX12_cellsBarred, 6, (some .int))
abbrev mX12_close : MI := (yX12_close, cX12_close, 4, (some .int))
abbrev mX12_codeAt : MI := (yX12_codeAt, cX12_codeAt, 3, (some .int))
abbrev mX12_copy : MI := (yX12_copy, cX12_copy, 7, (some .int))
abbrev mX12_costOf : MI := (yX12_costOf, cX12_costOf, 2, (some .int))
abbrev mX12_dawdle : MI := (yX12_dawdle, cX12_dawdle, 7, (some .long))
abbrev mX12_due : MI := (yX12_due, cX12_due, 3, (some .int))
abbrev mX12_failed : MI := (yX12_failed, cX12_failed, 2, (some .int))
abbrev mX12_failedLong : MI := (yX12_failedLong, cX12_failedLong, 2, (some .long))
abbrev mX12_fault : MI := (yX12_fault, cX12_fault, 1, (some .int))
abbrev mX12_figure : MI := (yX12_figure, cX12_figure, 8, (some .int))
abbrev mX12_friend : MI := (yX12_friend, cX12_friend, 3, (some .int))
abbrev mX12_goDawdling : MI := (yX12_goDawdling, cX12_goDawdling, 5, none)
abbrev mX12_goesTo : MI := (yX12_goesTo, cX12_goesTo, 3, (some .int))
abbrev mX12_goneBy : MI := (yX12_goneBy, cX12_goneBy, 4, (some .int))
abbrev mX12_in : MI := (yX12_in, cX12_in, 6, (some .boolean))
abbrev mX12_init : MI := (yX12_init, cX12_init, 2, none)
abbrev mX12_isBeyond : MI := (yX12_isBeyond, cX12_isBeyond, 4, (some .boolean))
abbrev mX12_isIn : MI := (yX12_isIn, cX12_isIn, 2, (some .boolean))
abbrev mX12_isShared : MI := (yX12_isShared, cX12_isShared, 2, (some .boolean))
abbrev mX12_joyOf : MI := (yX12_joyOf, cX12_joyOf, 2, (some .int))
abbrev mX12_keepRow : MI := (yX12_keepRow, cX12_keepRow, 5, none)
abbrev mX12_law : MI := (yX12_law, cX12_law, 3, (some .int))
abbrev mX12_laySoon : MI := (yX12_laySoon, cX12_laySoon, 6, none)
abbrev mX12_lose : MI := (yX12_lose, cX12_lose, 3, (some .int))
abbrev mX12_lost : MI := (yX12_lost, cX12_lost, 0, (some .long))
abbrev mX12_many : MI := (yX12_many, cX12_many, 2, (some .int))
abbrev mX12_minutesOf : MI := (yX12_minutesOf, cX12_minutesOf, 4, (some .int))
abbrev mX12_net : MI := (yX12_net, cX12_net, 7, (some .int))
abbrev mX12_nextRow : MI := (yX12_nextRow, cX12_nextRow, 3, (some .boolean))
abbrev mX12_noCell : MI := (yX12_noCell, cX12_noCell, 3, (some .int))
abbrev mX12_noPlace : MI := (yX12_noPlace, cX12_noPlace, 2, (some .boolean))
abbrev mX12_noSheet : MI := (yX12_noSheet, cX12_noSheet, 1, (some .boolean))
abbrev mX12_noStretch : MI := (yX12_noStretch, cX12_noStretch, 2, (some .boolean))
abbrev mX12_ofStretch : MI := (yX12_ofStretch, cX12_ofStretch, 3, (some .int))
abbrev mX12_openAt : MI := (yX12_openAt, cX12_openAt, 4, (some .int))
abbrev mX12_partsOf : MI := (yX12_partsOf, cX12_partsOf, 5, (some .long))
abbrev mX12_put : MI := (yX12_put, cX12_put, 4, (some .int))
abbrev mX12_quickest : MI := (yX12_quickest, cX12_quickest, 2, (some .int))
abbrev mX12_reading : MI := (yX12_reading, cX12_reading, 3, (some .int))
abbrev mX12_readsNet : MI := (yX12_readsNet, cX12_readsNet, 4, (some .boolean))
abbrev mX12_readsStretch : MI := (yX12_readsStretch, cX12_readsStretch, 9, (some .boolean))
abbrev mX12_readsWalk : MI := (yX12_readsWalk, cX12_readsWalk, 5, (some .int))
abbrev mX12_refused : MI := (yX12_refused, cX12_refused, 2, (some .int))
abbrev mX12_refusedFor : MI := (yX12_refusedFor, cX12_refusedFor, 3, (some .int))
abbrev mX12_refusedLong : MI := (yX12_refusedLong, cX12_refusedLong, 1, (some .long))
abbrev mX12_safe : MI := (yX12_safe, cX12_safe, 10, (some .long))
abbrev mX12_safeBy : MI := (yX12_safeBy, cX12_safeBy, 5, (some .long))
abbrev mX12_safeOf : MI := (yX12_safeOf, cX12_safeOf, 2, (some .int))
abbrev mX12_safest : MI := (yX12_safest, cX12_safest, 4, (some .int))
abbrev mX12_seek : MI := (yX12_seek, cX12_seek, 6, none)
abbrev mX12_sheet : MI := (yX12_sheet, cX12_sheet, 5, (some .int))
abbrev mX12_sightsBy : MI := (yX12_sightsBy, cX12_sightsBy, 5, (some .int))
abbrev mX12_sing : MI := (yX12_sing, cX12_sing, 2, (some .int))
abbrev mX12_takesOf : MI := (yX12_takesOf, cX12_takesOf, 3, (some .int))
abbrev mX12_tell : MI := (yX12_tell, cX12_tell, 4, (some .int))
abbrev mX12_told : MI := (yX12_told, cX12_told, 11, (some .long))
abbrev mX12_toldBest : MI := (yX12_toldBest, cX12_toldBest, 2, (some .int))
abbrev mX12_trace : MI := (yX12_trace, cX12_trace, 1, (some .int))
abbrev mX12_traced : MI := (yX12_traced, cX12_traced, 2, none)
abbrev mX12_trails : MI := (yX12_trails, cX12_trails, 6, (some .int))
abbrev mX12_via : MI := (yX12_via, cX12_via, 2, (some .int))
abbrev mX12_walk : MI := (yX12_walk, cX12_walk, 7, (some .int))
abbrev mX12_worth : MI := (yX12_worth, cX12_worth, 5, (some .int))
abbrev mX1_init : MI := (yX1_init, cX1_init, 7, none)
abbrev mX1_kind : MI := (yX1_kind, cX1_kind, 1, (some .int))
abbrev mX1_minutesAlone : MI := (yX1_minutesAlone, cX1_minutesAlone, 1, (some .int))
abbrev mX1_toldWith : MI := (yX1_toldWith, cX1_toldWith, 2, (some .int))
abbrev mX2_addReading : MI := (yX2_addReading, cX2_addReading, 3, (some .int))
abbrev mX2_befriend : MI := (yX2_befriend, cX2_befriend, 4, none)
abbrev mX2_costOf : MI := (yX2_costOf, cX2_costOf, 2, (some .int))
abbrev mX2_hasPlace : MI := (yX2_hasPlace, cX2_hasPlace, 2, (some .boolean))
abbrev mX2_home : MI := (yX2_home, cX2_home, 1, (some .int))
abbrev mX2_init : MI := (yX2_init, cX2_init, 1, none)
abbrev mX2_isNone : MI := (yX2_isNone, cX2_isNone, 1, (some .boolean))
abbrev mX2_joyOf : MI := (yX2_joyOf, cX2_joyOf, 3, (some .int))
abbrev mX2_muddySet : MI := (yX2_muddySet, cX2_muddySet, 3, (some .int))
abbrev mX2_readSet : MI := (yX2_readSet, cX2_readSet, 4, (some .int))
abbrev mX2_stretchAt : MI := (yX2_stretchAt, cX2_stretchAt, 2, (some (.object "HomeByFour$Stretch")))
abbrev mX2_takeOver : MI := (yX2_takeOver, cX2_takeOver, 3, none)
abbrev mX3_init : MI := (yX3_init, cX3_init, 1, none)
abbrev mX3_leastMinutes : MI := (yX3_leastMinutes, cX3_leastMinutes, 5, (some .int))
abbrev mX3_shorten : MI := (yX3_shorten, cX3_shorten, 4, none)
abbrev mX3_shortenTo : MI := (yX3_shortenTo, cX3_shortenTo, 4, none)
abbrev mX4_goOn : MI := (yX4_goOn, cX4_goOn, 6, none)
abbrev mX4_init : MI := (yX4_init, cX4_init, 2, none)
abbrev mX4_isTrail : MI := (yX4_isTrail, cX4_isTrail, 3, (some .boolean))
abbrev mX4_look : MI := (yX4_look, cX4_look, 5, none)
abbrev mX4_scoreOf : MI := (yX4_scoreOf, cX4_scoreOf, 2, (some .int))
abbrev mX4_stretchFound : MI := (yX4_stretchFound, cX4_stretchFound, 2, (some .int))
abbrev mX4_weigh : MI := (yX4_weigh, cX4_weigh, 3, none)
abbrev mX5_begin : MI := (yX5_begin, cX5_begin, 3, none)
abbrev mX5_drop : MI := (yX5_drop, cX5_drop, 1, none)
abbrev mX5_faultOfCells : MI := (yX5_faultOfCells, cX5_faultOfCells, 5, (some .int))
abbrev mX5_faultOfRow : MI := (yX5_faultOfRow, cX5_faultOfRow, 2, (some .int))
abbrev mX5_hasCell : MI := (yX5_hasCell, cX5_hasCell, 2, (some .boolean))
abbrev mX5_hasCells : MI := (yX5_hasCells, cX5_hasCells, 3, (some .boolean))
abbrev mX5_hasNothing : MI := (yX5_hasNothing, cX5_hasNothing, 1, (some .boolean))
abbrev mX5_init : MI := (yX5_init, cX5_init, 1, none)
abbrev mX5_read : MI := (yX5_read, cX5_read, 2, (some .int))
abbrev mX5_write : MI := (yX5_write, cX5_write, 3, none)
abbrev mX6_init : MI := (yX6_init, cX6_init, 7, none)
abbrev mX6_kind : MI := (yX6_kind, cX6_kind, 1, (some .int))
abbrev mX6_minutesAlone : MI := (yX6_minutesAlone, cX6_minutesAlone, 1, (some .int))
abbrev mX6_sungWith : MI := (yX6_sungWith, cX6_sungWith, 2, (some .int))
abbrev mX6_toldWith : MI := (yX6_toldWith, cX6_toldWith, 3, (some .int))
abbrev mX7_init : MI := (yX7_init, cX7_init, 7, none)
abbrev mX7_kind : MI := (yX7_kind, cX7_kind, 1, (some .int))
abbrev mX7_leadsFrom : MI := (yX7_leadsFrom, cX7_leadsFrom, 2, (some .boolean))
abbrev mX7_minutesAlone : MI := (yX7_minutesAlone, cX7_minutesAlone, 1, (some .int))
abbrev mX7_otherEnd : MI := (yX7_otherEnd, cX7_otherEnd, 2, (some .int))
abbrev mX7_shareWith : MI := (yX7_shareWith, cX7_shareWith, 3, none)
abbrev mX7_sungWith : MI := (yX7_sungWith, cX7_sungWith, 2, (some .int))
abbrev mX7_toldAsStretch : MI := (yX7_toldAsStretch, cX7_toldAsStretch, 2, (some .int))
abbrev mX7_toldWith : MI := (yX7_toldWith, cX7_toldWith, 2, (some .int))
abbrev mX8_codeAt : MI := (yX8_codeAt, cX8_codeAt, 2, (some .int))
abbrev mX8_digitAt : MI := (yX8_digitAt, cX8_digitAt, 2, (some .int))
abbrev mX8_firstFault : MI := (yX8_firstFault, cX8_firstFault, 2, (some .int))
abbrev mX8_goesOnAt : MI := (yX8_goesOnAt, cX8_goesOnAt, 2, (some .boolean))
abbrev mX8_init : MI := (yX8_init, cX8_init, 4, none)
abbrev mX8_isDigitAt : MI := (yX8_isDigitAt, cX8_isDigitAt, 4, (some .boolean))
abbrev mX8_isKindAt : MI := (yX8_isKindAt, cX8_isKindAt, 3, (some .boolean))
abbrev mX8_makeStretch : MI := (yX8_makeStretch, cX8_makeStretch, 8, (some (.object "HomeByFour$Stretch")))
abbrev mX8_places : MI := (yX8_places, cX8_places, 1, (some .int))
abbrev mX8_stretches : MI := (yX8_stretches, cX8_stretches, 1, (some .int))
abbrev mX9_init : MI := (yX9_init, cX9_init, 1, none)
abbrev mX9_leave : MI := (yX9_leave, cX9_leave, 2, none)
end
section
theorem dX0_init_0 : nx cX0_init 0 (.aload_n 0) 1 1 := ⟨by decide +kernel, rfl⟩
theorem dX0_init_1 : nx cX0_init 1 (.invokespecial 3) 3 4 := ⟨by decide +kernel, rfl⟩
theorem dX0_init_4 : nx cX0_init 4 (.aload_n 0) 1 5 := ⟨by decide +kernel, rfl⟩
theorem dX0_init_5 : nx cX0_init 5 (.bipush 7) 2 7 := ⟨by decide +kernel, rfl⟩
theorem dX0_init_7 : nx cX0_init 7 (.newarray .long) 2 9 := ⟨by decide +kernel, rfl⟩
theorem dX0_init_9 : nx cX0_init 9 (.putfield 9) 3 12 := ⟨by decide +kernel, rfl⟩
theorem dX0_init_12 : nx cX0_init 12 (.aload_n 0) 1 13 := ⟨by decide +kernel, rfl⟩
theorem dX0_init_13 : nx cX0_init 13 (.bipush 7) 2 15 := ⟨by decide +kernel, rfl⟩
theorem dX0_init_15 : nx cX0_init 15 (.newarray .long) 2 17 := ⟨by decide +kernel, rfl⟩
theorem dX0_init_17 : nx cX0_init 17 (.putfield 15) 3 20 := ⟨by decide +kernel, rfl⟩
theorem dX0_init_20 : nx cX0_init 20 (.return_) 1 21 := ⟨by decide +kernel, rfl⟩
theorem dX0_partsAt_0 : nx cX0_partsAt 0 (.aload_n 0) 1 1 := ⟨by decide +kernel, rfl⟩
theorem dX0_partsAt_1 : nx cX0_partsAt 1 (.getfield 9) 3 4 := ⟨by decide +kernel, rfl⟩
theorem dX0_partsAt_4 : nx cX0_partsAt 4 (.lconst 0) 1 5 := ⟨by decide +kernel, rfl⟩
theorem dX0_partsAt_5 : nx cX0_partsAt 5 (.invokestatic 18) 3 8 := ⟨by decide +kernel, rfl⟩
theorem dX0_partsAt_8 : nx cX0_partsAt 8 (.aload_n 0) 1 9 := ⟨by decide +kernel, rfl⟩
theorem dX0_partsAt_9 : nx cX0_partsAt 9 (.getfield 9) 3 12 := ⟨by decide +kernel, rfl⟩
theorem dX0_partsAt_12 : nx cX0_partsAt 12 (.iconst 0) 1 13 := ⟨by decide +kernel, rfl⟩
theorem dX0_partsAt_13 : nx cX0_partsAt 13 (.lconst 1) 1 14 := ⟨by decide +kernel, rfl⟩
theorem dX0_partsAt_14 : nx cX0_partsAt 14 (.lastore) 1 15 := ⟨by decide +kernel, rfl⟩
theorem dX0_partsAt_15 : nx cX0_partsAt 15 (.iconst 0) 1 16 := ⟨by decide +kernel, rfl⟩
theorem dX0_partsAt_16 : nx cX0_partsAt 16 (.istore 4) 2 18 := ⟨by decide +kernel, rfl⟩
theorem dX0_partsAt_18 : nx cX0_partsAt 18 (.iload 4) 2 20 := ⟨by decide +kernel, rfl⟩
theorem dX0_partsAt_20 : nx cX0_partsAt 20 (.iload_n 2) 1 21 := ⟨by decide +kernel, rfl⟩
theorem dX0_partsAt_21 : bx cX0_partsAt 21 (.if_icmp .ge 64) 64 85 24 := ⟨by decide +kernel, by decide, rfl⟩
theorem dX0_partsAt_24 : nx cX0_partsAt 24 (.aload_n 0) 1 25 := ⟨by decide +kernel, rfl⟩
theorem dX0_partsAt_25 : nx cX0_partsAt 25 (.getfield 15) 3 28 := ⟨by decide +kernel, rfl⟩
theorem dX0_partsAt_28 : nx cX0_partsAt 28 (.lconst 0) 1 29 := ⟨by decide +kernel, rfl⟩
theorem dX0_partsAt_29 : nx cX0_partsAt 29 (.invokestatic 18) 3 32 := ⟨by decide +kernel, rfl⟩
theorem dX0_partsAt_32 : nx cX0_partsAt 32 (.iconst 0) 1 33 := ⟨by decide +kernel, rfl⟩
theorem dX0_partsAt_33 : nx cX0_partsAt 33 (.istore 5) 2 35 := ⟨by decide +kernel, rfl⟩
theorem dX0_partsAt_35 : nx cX0_partsAt 35 (.iload 5) 2 37 := ⟨by decide +kernel, rfl⟩
theorem dX0_partsAt_37 : nx cX0_partsAt 37 (.aload_n 1) 1 38 := ⟨by decide +kernel, rfl⟩
theorem dX0_partsAt_38 : nx cX0_partsAt 38 (.getfield 24) 3 41 := ⟨by decide +kernel, rfl⟩
theorem dX0_partsAt_41 : bx cX0_partsAt 41 (.if_icmp .ge 23) 23 64 44 := ⟨by decide +kernel, by decide, rfl⟩
theorem dX0_partsAt_44 : nx cX0_partsAt 44 (.iload 5) 2 46 := ⟨by decide +kernel, rfl⟩
theorem dX0_partsAt_46 : nx cX0_partsAt 46 (.bipush 7) 2 48 := ⟨by decide +kernel, rfl⟩
theorem dX0_partsAt_48 : bx cX0_partsAt 48 (.if_icmp .ge 16) 16 64 51 := ⟨by decide +kernel, by decide, rfl⟩
theorem dX0_partsAt_51 : nx cX0_partsAt 51 (.aload_n 0) 1 52 := ⟨by decide +kernel, rfl⟩
theorem dX0_partsAt_52 : nx cX0_partsAt 52 (.aload_n 1) 1 53 := ⟨by decide +kernel, rfl⟩
theorem dX0_partsAt_53 : nx cX0_partsAt 53 (.iload 5) 2 55 := ⟨by decide +kernel, rfl⟩
theorem dX0_partsAt_55 : nx cX0_partsAt 55 (.invokevirtual 30) 3 58 := ⟨by decide +kernel, rfl⟩
theorem dX0_partsAt_58 : nx cX0_partsAt 58 (.iinc 5 1) 3 61 := ⟨by decide +kernel, rfl⟩
theorem dX0_partsAt_61 : bx cX0_partsAt 61 (.goto (-26)) (-26) 35 64 := ⟨by decide +kernel, by decide, rfl⟩
theorem dX0_partsAt_64 : nx cX0_partsAt 64 (.aload_n 0) 1 65 := ⟨by decide +kernel, rfl⟩
theorem dX0_partsAt_65 : nx cX0_partsAt 65 (.getfield 15) 3 68 := ⟨by decide +kernel, rfl⟩
theorem dX0_partsAt_68 : nx cX0_partsAt 68 (.iconst 0) 1 69 := ⟨by decide +kernel, rfl⟩
theorem dX0_partsAt_69 : nx cX0_partsAt 69 (.aload_n 0) 1 70 := ⟨by decide +kernel, rfl⟩
theorem dX0_partsAt_70 : nx cX0_partsAt 70 (.getfield 9) 3 73 := ⟨by decide +kernel, rfl⟩
theorem dX0_partsAt_73 : nx cX0_partsAt 73 (.iconst 0) 1 74 := ⟨by decide +kernel, rfl⟩
theorem dX0_partsAt_74 : nx cX0_partsAt 74 (.bipush 7) 2 76 := ⟨by decide +kernel, rfl⟩
theorem dX0_partsAt_76 : nx cX0_partsAt 76 (.invokestatic 34) 3 79 := ⟨by decide +kernel, rfl⟩
theorem dX0_partsAt_79 : nx cX0_partsAt 79 (.iinc 4 1) 3 82 := ⟨by decide +kernel, rfl⟩
theorem dX0_partsAt_82 : bx cX0_partsAt 82 (.goto (-64)) (-64) 18 85 := ⟨by decide +kernel, by decide, rfl⟩
theorem dX0_partsAt_85 : nx cX0_partsAt 85 (.iload_n 3) 1 86 := ⟨by decide +kernel, rfl⟩
theorem dX0_partsAt_86 : nx cX0_partsAt 86 (.iconst 0) 1 87 := ⟨by decide +kernel, rfl⟩
theorem dX0_partsAt_87 : nx cX0_partsAt 87 (.bipush 6) 2 89 := ⟨by decide +kernel, rfl⟩
theorem dX0_partsAt_89 : nx cX0_partsAt 89 (.invokestatic 40) 3 92 := ⟨by decide +kernel, rfl⟩
theorem dX0_partsAt_92 : bx cX0_partsAt 92 (.ifCond .eq 12) 12 104 95 := ⟨by decide +kernel, by decide, rfl⟩
theorem dX0_partsAt_95 : nx cX0_partsAt 95 (.aload_n 0) 1 96 := ⟨by decide +kernel, rfl⟩
theorem dX0_partsAt_96 : nx cX0_partsAt 96 (.getfield 9) 3 99 := ⟨by decide +kernel, rfl⟩
theorem dX0_partsAt_99 : nx cX0_partsAt 99 (.iload_n 3) 1 100 := ⟨by decide +kernel, rfl⟩
theorem dX0_partsAt_100 : nx cX0_partsAt 100 (.laload) 1 101 := ⟨by decide +kernel, rfl⟩
theorem dX0_partsAt_101 : bx cX0_partsAt 101 (.goto 4) 4 105 104 := ⟨by decide +kernel, by decide, rfl⟩
theorem dX0_partsAt_104 : nx cX0_partsAt 104 (.lconst 0) 1 105 := ⟨by decide +kernel, rfl⟩
theorem dX0_partsAt_105 : nx cX0_partsAt 105 (.lreturn) 1 106 := ⟨by decide +kernel, rfl⟩
theorem dX0_share_0 : nx cX0_share 0 (.aload_n 0) 1 1 := ⟨by decide +kernel, rfl⟩
theorem dX0_share_1 : nx cX0_share 1 (.aload_n 1) 1 2 := ⟨by decide +kernel, rfl⟩
theorem dX0_share_2 : nx cX0_share 2 (.iload_n 2) 1 3 := ⟨by decide +kernel, rfl⟩
theorem dX0_share_3 : nx cX0_share 3 (.invokevirtual 44) 3 6 := ⟨by decide +kernel, rfl⟩
theorem dX0_share_6 : nx cX0_share 6 (.istore_n 3) 1 7 := ⟨by decide +kernel, rfl⟩
theorem dX0_share_7 : nx cX0_share 7 (.iload_n 3) 1 8 := ⟨by decide +kernel, rfl⟩
theorem dX0_share_8 : bx cX0_share 8 (.ifCond .ne 19) 19 27 11 := ⟨by decide +kernel, by decide, rfl⟩
theorem dX0_share_11 : nx cX0_share 11 (.aload_n 0) 1 12 := ⟨by decide +kernel, rfl⟩
theorem dX0_share_12 : nx cX0_share 12 (.iload_n 2) 1 13 := ⟨by decide +kernel, rfl⟩
theorem dX0_share_13 : nx cX0_share 13 (.aload_n 0) 1 14 := ⟨by decide +kernel, rfl⟩
theorem dX0_share_14 : nx cX0_share 14 (.getfield 9) 3 17 := ⟨by decide +kernel, rfl⟩
theorem dX0_share_17 : nx cX0_share 17 (.iload_n 2) 1 18 := ⟨by decide +kernel, rfl⟩
theorem dX0_share_18 : nx cX0_share 18 (.laload) 1 19 := ⟨by decide +kernel, rfl⟩
theorem dX0_share_19 : nx cX0_share 19 (.ldc2_w 48) 3 22 := ⟨by decide +kernel, rfl⟩
theorem dX0_share_22 : nx cX0_share 22 (.lmul) 1 23 := ⟨by decide +kernel, rfl⟩
theorem dX0_share_23 : nx cX0_share 23 (.invokevirtual 50) 3 26 := ⟨by decide +kernel, rfl⟩
theorem dX0_share_26 : nx cX0_share 26 (.return_) 1 27 := ⟨by decide +kernel, rfl⟩
theorem dX0_share_27 : nx cX0_share 27 (.aload_n 0) 1 28 := ⟨by decide +kernel, rfl⟩
theorem dX0_share_28 : nx cX0_share 28 (.getfield 9) 3 31 := ⟨by decide +kernel, rfl⟩
theorem dX0_share_31 : nx cX0_share 31 (.iload_n 2) 1 32 := ⟨by decide +kernel, rfl⟩
theorem dX0_share_32 : nx cX0_share 32 (.laload) 1 33 := ⟨by decide +kernel, rfl⟩
theorem dX0_share_33 : nx cX0_share 33 (.sipush 2520) 3 36 := ⟨by decide +kernel, rfl⟩
theorem dX0_share_36 : nx cX0_share 36 (.iload_n 3) 1 37 := ⟨by decide +kernel, rfl⟩
theorem dX0_share_37 : nx cX0_share 37 (.idiv) 1 38 := ⟨by decide +kernel, rfl⟩
theorem dX0_share_38 : nx cX0_share 38 (.i2l) 1 39 := ⟨by decide +kernel, rfl⟩
theorem dX0_share_39 : nx cX0_share 39 (.lmul) 1 40 := ⟨by decide +kernel, rfl⟩
theorem dX0_share_40 : nx cX0_share 40 (.lstore 4) 2 42 := ⟨by decide +kernel, rfl⟩
theorem dX0_share_42 : nx cX0_share 42 (.iconst 0) 1 43 := ⟨by decide +kernel, rfl⟩
theorem dX0_share_43 : nx cX0_share 43 (.istore 6) 2 45 := ⟨by decide +kernel, rfl⟩
theorem dX0_share_45 : nx cX0_share 45 (.iload 6) 2 47 := ⟨by decide +kernel, rfl⟩
theorem dX0_share_47 : nx cX0_share 47 (.aload_n 1) 1 48 := ⟨by decide +kernel, rfl⟩
theorem dX0_share_48 : nx cX0_share 48 (.getfield 54) 3 51 := ⟨by decide +kernel, rfl⟩
theorem dX0_share_51 : bx cX0_share 51 (.if_icmp .ge 43) 43 94 54 := ⟨by decide +kernel, by decide, rfl⟩
theorem dX0_share_54 : nx cX0_share 54 (.aload_n 1) 1 55 := ⟨by decide +kernel, rfl⟩
theorem dX0_share_55 : nx cX0_share 55 (.iload 6) 2 57 := ⟨by decide +kernel, rfl⟩
theorem dX0_share_57 : nx cX0_share 57 (.invokevirtual 57) 3 60 := ⟨by decide +kernel, rfl⟩
theorem dX0_share_60 : nx cX0_share 60 (.astore 7) 2 62 := ⟨by decide +kernel, rfl⟩
theorem dX0_share_62 : nx cX0_share 62 (.aload 7) 2 64 := ⟨by decide +kernel, rfl⟩
theorem dX0_share_64 : bx cX0_share 64 (.ifnull 24) 24 88 67 := ⟨by decide +kernel, by decide, rfl⟩
theorem dX0_share_67 : nx cX0_share 67 (.aload 7) 2 69 := ⟨by decide +kernel, rfl⟩
theorem dX0_share_69 : nx cX0_share 69 (.iload_n 2) 1 70 := ⟨by decide +kernel, rfl⟩
theorem dX0_share_70 : nx cX0_share 70 (.invokevirtual 61) 3 73 := ⟨by decide +kernel, rfl⟩
theorem dX0_share_73 : bx cX0_share 73 (.ifCond .eq 15) 15 88 76 := ⟨by decide +kernel, by decide, rfl⟩
theorem dX0_share_76 : nx cX0_share 76 (.aload_n 0) 1 77 := ⟨by decide +kernel, rfl⟩
theorem dX0_share_77 : nx cX0_share 77 (.aload 7) 2 79 := ⟨by decide +kernel, rfl⟩
theorem dX0_share_79 : nx cX0_share 79 (.iload_n 2) 1 80 := ⟨by decide +kernel, rfl⟩
theorem dX0_share_80 : nx cX0_share 80 (.invokevirtual 67) 3 83 := ⟨by decide +kernel, rfl⟩
theorem dX0_share_83 : nx cX0_share 83 (.lload 4) 2 85 := ⟨by decide +kernel, rfl⟩
theorem dX0_share_85 : nx cX0_share 85 (.invokevirtual 50) 3 88 := ⟨by decide +kernel, rfl⟩
theorem dX0_share_88 : nx cX0_share 88 (.iinc 6 1) 3 91 := ⟨by decide +kernel, rfl⟩
theorem dX0_share_91 : bx cX0_share 91 (.goto (-46)) (-46) 45 94 := ⟨by decide +kernel, by decide, rfl⟩
theorem dX0_share_94 : nx cX0_share 94 (.return_) 1 95 := ⟨by decide +kernel, rfl⟩
theorem dX0_add_0 : nx cX0_add 0 (.iload_n 1) 1 1 := ⟨by decide +kernel, rfl⟩
theorem dX0_add_1 : nx cX0_add 1 (.iconst 0) 1 2 := ⟨by decide +kernel, rfl⟩
theorem dX0_add_2 : nx cX0_add 2 (.bipush 6) 2 4 := ⟨by decide +kernel, rfl⟩
theorem dX0_add_4 : nx cX0_add 4 (.invokestatic 40) 3 7 := ⟨by decide +kernel, rfl⟩
theorem dX0_add_7 : bx cX0_add 7 (.ifCond .eq 13) 13 20 10 := ⟨by decide +kernel, by decide, rfl⟩
theorem dX0_add_10 : nx cX0_add 10 (.aload_n 0) 1 11 := ⟨by decide +kernel, rfl⟩
theorem dX0_add_11 : nx cX0_add 11 (.getfield 15) 3 14 := ⟨by decide +kernel, rfl⟩
theorem dX0_add_14 : nx cX0_add 14 (.iload_n 1) 1 15 := ⟨by decide +kernel, rfl⟩
theorem dX0_add_15 : nx cX0_add 15 (.dup2) 1 16 := ⟨by decide +kernel, rfl⟩
theorem dX0_add_16 : nx cX0_add 16 (.laload) 1 17 := ⟨by decide +kernel, rfl⟩
theorem dX0_add_17 : nx cX0_add 17 (.lload_n 2) 1 18 := ⟨by decide +kernel, rfl⟩
theorem dX0_add_18 : nx cX0_add 18 (.ladd) 1 19 := ⟨by decide +kernel, rfl⟩
theorem dX0_add_19 : nx cX0_add 19 (.lastore) 1 20 := ⟨by decide +kernel, rfl⟩
theorem dX0_add_20 : nx cX0_add 20 (.return_) 1 21 := ⟨by decide +kernel, rfl⟩
theorem dX0_waysFrom_0 : nx cX0_waysFrom 0 (.iconst 0) 1 1 := ⟨by decide +kernel, rfl⟩
theorem dX0_waysFrom_1 : nx cX0_waysFrom 1 (.istore_n 3) 1 2 := ⟨by decide +kernel, rfl⟩
theorem dX0_waysFrom_2 : nx cX0_waysFrom 2 (.iconst 0) 1 3 := ⟨by decide +kernel, rfl⟩
theorem dX0_waysFrom_3 : nx cX0_waysFrom 3 (.istore 4) 2 5 := ⟨by decide +kernel, rfl⟩
theorem dX0_waysFrom_5 : nx cX0_waysFrom 5 (.iload 4) 2 7 := ⟨by decide +kernel, rfl⟩
theorem dX0_waysFrom_7 : nx cX0_waysFrom 7 (.aload_n 1) 1 8 := ⟨by decide +kernel, rfl⟩
theorem dX0_waysFrom_8 : nx cX0_waysFrom 8 (.getfield 54) 3 11 := ⟨by decide +kernel, rfl⟩
theorem dX0_waysFrom_11 : bx cX0_waysFrom 11 (.if_icmp .ge 34) 34 45 14 := ⟨by decide +kernel, by decide, rfl⟩
theorem dX0_waysFrom_14 : nx cX0_waysFrom 14 (.aload_n 1) 1 15 := ⟨by decide +kernel, rfl⟩
theorem dX0_waysFrom_15 : nx cX0_waysFrom 15 (.iload 4) 2 17 := ⟨by decide +kernel, rfl⟩
theorem dX0_waysFrom_17 : nx cX0_waysFrom 17 (.invokevirtual 57) 3 20 := ⟨by decide +kernel, rfl⟩
theorem dX0_waysFrom_20 : nx cX0_waysFrom 20 (.astore 5) 2 22 := ⟨by decide +kernel, rfl⟩
theorem dX0_waysFrom_22 : nx cX0_waysFrom 22 (.aload 5) 2 24 := ⟨by decide +kernel, rfl⟩
theorem dX0_waysFrom_24 : bx cX0_waysFrom 24 (.ifnull 15) 15 39 27 := ⟨by decide +kernel, by decide, rfl⟩
theorem dX0_waysFrom_27 : nx cX0_waysFrom 27 (.aload 5) 2 29 := ⟨by decide +kernel, rfl⟩
theorem dX0_waysFrom_29 : nx cX0_waysFrom 29 (.iload_n 2) 1 30 := ⟨by decide +kernel, rfl⟩
theorem dX0_waysFrom_30 : nx cX0_waysFrom 30 (.invokevirtual 61) 3 33 := ⟨by decide +kernel, rfl⟩
theorem dX0_waysFrom_33 : bx cX0_waysFrom 33 (.ifCond .eq 6) 6 39 36 := ⟨by decide +kernel, by decide, rfl⟩
theorem dX0_waysFrom_36 : nx cX0_waysFrom 36 (.iinc 3 1) 3 39 := ⟨by decide +kernel, rfl⟩
theorem dX0_waysFrom_39 : nx cX0_waysFrom 39 (.iinc 4 1) 3 42 := ⟨by decide +kernel, rfl⟩
theorem dX0_waysFrom_42 : bx cX0_waysFrom 42 (.goto (-37)) (-37) 5 45 := ⟨by decide +kernel, by decide, rfl⟩
theorem dX0_waysFrom_45 : nx cX0_waysFrom 45 (.iload_n 3) 1 46 := ⟨by decide +kernel, rfl⟩
theorem dX0_waysFrom_46 : nx cX0_waysFrom 46 (.ireturn) 1 47 := ⟨by decide +kernel, rfl⟩
theorem dX1_init_0 : nx cX1_init 0 (.aload_n 0) 1 1 := ⟨by decide +kernel, rfl⟩
theorem dX1_init_1 : nx cX1_init 1 (.iload_n 1) 1 2 := ⟨by decide +kernel, rfl⟩
theorem dX1_init_2 : nx cX1_init 2 (.iload_n 2) 1 3 := ⟨by decide +kernel, rfl⟩
theorem dX1_init_3 : nx cX1_init 3 (.iload_n 3) 1 4 := ⟨by decide +kernel, rfl⟩
theorem dX1_init_4 : nx cX1_init 4 (.iload 4) 2 6 := ⟨by decide +kernel, rfl⟩
theorem dX1_init_6 : nx cX1_init 6 (.iload 5) 2 8 := ⟨by decide +kernel, rfl⟩
theorem dX1_init_8 : nx cX1_init 8 (.iload 6) 2 10 := ⟨by decide +kernel, rfl⟩
theorem dX1_init_10 : nx cX1_init 10 (.invokespecial 1) 3 13 := ⟨by decide +kernel, rfl⟩
theorem dX1_init_13 : nx cX1_init 13 (.return_) 1 14 := ⟨by decide +kernel, rfl⟩
theorem dX1_kind_0 : nx cX1_kind 0 (.iconst 1) 1 1 := ⟨by decide +kernel, rfl⟩
theorem dX1_kind_1 : nx cX1_kind 1 (.ireturn) 1 2 := ⟨by decide +kernel, rfl⟩
theorem dX1_minutesAlone_0 : nx cX1_minutesAlone 0 (.aload_n 0) 1 1 := ⟨by decide +kernel, rfl⟩
theorem dX1_minutesAlone_1 : nx cX1_minutesAlone 1 (.getfield 7) 3 4 := ⟨by decide +kernel, rfl⟩
theorem dX1_minutesAlone_4 : nx cX1_minutesAlone 4 (.iconst 1) 1 5 := ⟨by decide +kernel, rfl⟩
theorem dX1_minutesAlone_5 : nx cX1_minutesAlone 5 (.iadd) 1 6 := ⟨by decide +kernel, rfl⟩
theorem dX1_minutesAlone_6 : nx cX1_minutesAlone 6 (.ireturn) 1 7 := ⟨by decide +kernel, rfl⟩
theorem dX1_toldWith_0 : nx cX1_toldWith 0 (.aload_n 1) 1 1 := ⟨by decide +kernel, rfl⟩
theorem dX1_toldWith_1 : nx cX1_toldWith 1 (.iconst 2) 1 2 := ⟨by decide +kernel, rfl⟩
theorem dX1_toldWith_2 : nx cX1_toldWith 2 (.invokevirtual 13) 3 5 := ⟨by decide +kernel, rfl⟩
theorem dX1_toldWith_5 : nx cX1_toldWith 5 (.aload_n 0) 1 6 := ⟨by decide +kernel, rfl⟩
theorem dX1_toldWith_6 : nx cX1_toldWith 6 (.aload_n 1) 1 7 := ⟨by decide +kernel, rfl⟩
theorem dX1_toldWith_7 : nx cX1_toldWith 7 (.invokespecial 19) 3 10 := ⟨by decide +kernel, rfl⟩
theorem dX1_toldWith_10 : nx cX1_toldWith 10 (.bipush 100) 2 12 := ⟨by decide +kernel, rfl⟩
theorem dX1_toldWith_12 : nx cX1_toldWith 12 (.iadd) 1 13 := ⟨by decide +kernel, rfl⟩
theorem dX1_toldWith_13 : nx cX1_toldWith 13 (.ireturn) 1 14 := ⟨by decide +kernel, rfl⟩
theorem dX2_init_0 : nx cX2_init 0 (.aload_n 0) 1 1 := ⟨by decide +kernel, rfl⟩
theorem dX2_init_1 : nx cX2_init 1 (.invokespecial 3) 3 4 := ⟨by decide +kernel, rfl⟩
theorem dX2_init_4 : nx cX2_init 4 (.aload_n 0) 1 5 := ⟨by decide +kernel, rfl⟩
theorem dX2_init_5 : nx cX2_init 5 (.bipush 9) 2 7 := ⟨by decide +kernel, rfl⟩
theorem dX2_init_7 : nx cX2_init 7 (.anewarray 9) 3 10 := ⟨by decide +kernel, rfl⟩
theorem dX2_init_10 : nx cX2_init 10 (.putfield 11) 3 13 := ⟨by decide +kernel, rfl⟩
theorem dX2_init_13 : nx cX2_init 13 (.aload_n 0) 1 14 := ⟨by decide +kernel, rfl⟩
theorem dX2_init_14 : nx cX2_init 14 (.bipush 8) 2 16 := ⟨by decide +kernel, rfl⟩
theorem dX2_init_16 : nx cX2_init 16 (.newarray .int) 2 18 := ⟨by decide +kernel, rfl⟩
theorem dX2_init_18 : nx cX2_init 18 (.putfield 17) 3 21 := ⟨by decide +kernel, rfl⟩
theorem dX2_init_21 : nx cX2_init 21 (.aload_n 0) 1 22 := ⟨by decide +kernel, rfl⟩
theorem dX2_init_22 : nx cX2_init 22 (.bipush 8) 2 24 := ⟨by decide +kernel, rfl⟩
theorem dX2_init_24 : nx cX2_init 24 (.newarray .boolean) 2 26 := ⟨by decide +kernel, rfl⟩
theorem dX2_init_26 : nx cX2_init 26 (.putfield 21) 3 29 := ⟨by decide +kernel, rfl⟩
theorem dX2_init_29 : nx cX2_init 29 (.aload_n 0) 1 30 := ⟨by decide +kernel, rfl⟩
theorem dX2_init_30 : nx cX2_init 30 (.bipush (-9)) 2 32 := ⟨by decide +kernel, rfl⟩
theorem dX2_init_32 : nx cX2_init 32 (.putfield 25) 3 35 := ⟨by decide +kernel, rfl⟩
theorem dX2_init_35 : nx cX2_init 35 (.return_) 1 36 := ⟨by decide +kernel, rfl⟩
theorem dX2_takeOver_0 : nx cX2_takeOver 0 (.aload_n 0) 1 1 := ⟨by decide +kernel, rfl⟩
theorem dX2_takeOver_1 : nx cX2_takeOver 1 (.aload_n 1) 1 2 := ⟨by decide +kernel, rfl⟩
theorem dX2_takeOver_2 : nx cX2_takeOver 2 (.invokevirtual 29) 3 5 := ⟨by decide +kernel, rfl⟩
theorem dX2_takeOver_5 : nx cX2_takeOver 5 (.putfield 35) 3 8 := ⟨by decide +kernel, rfl⟩
theorem dX2_takeOver_8 : nx cX2_takeOver 8 (.aload_n 0) 1 9 := ⟨by decide +kernel, rfl⟩
theorem dX2_takeOver_9 : nx cX2_takeOver 9 (.aload_n 1) 1 10 := ⟨by decide +kernel, rfl⟩
theorem dX2_takeOver_10 : nx cX2_takeOver 10 (.invokevirtual 37) 3 13 := ⟨by decide +kernel, rfl⟩
theorem dX2_takeOver_13 : nx cX2_takeOver 13 (.bipush 9) 2 15 := ⟨by decide +kernel, rfl⟩
theorem dX2_takeOver_15 : nx cX2_takeOver 15 (.invokestatic 39) 3 18 := ⟨by decide +kernel, rfl⟩
theorem dX2_takeOver_18 : nx cX2_takeOver 18 (.putfield 45) 3 21 := ⟨by decide +kernel, rfl⟩
theorem dX2_takeOver_21 : nx cX2_takeOver 21 (.iconst 0) 1 22 := ⟨by decide +kernel, rfl⟩
theorem dX2_takeOver_22 : nx cX2_takeOver 22 (.istore_n 2) 1 23 := ⟨by decide +kernel, rfl⟩
theorem dX2_takeOver_23 : nx cX2_takeOver 23 (.iload_n 2) 1 24 := ⟨by decide +kernel, rfl⟩
theorem dX2_takeOver_24 : nx cX2_takeOver 24 (.aload_n 0) 1 25 := ⟨by decide +kernel, rfl⟩
theorem dX2_takeOver_25 : nx cX2_takeOver 25 (.getfield 45) 3 28 := ⟨by decide +kernel, rfl⟩
theorem dX2_takeOver_28 : bx cX2_takeOver 28 (.if_icmp .ge 20) 20 48 31 := ⟨by decide +kernel, by decide, rfl⟩
theorem dX2_takeOver_31 : nx cX2_takeOver 31 (.aload_n 0) 1 32 := ⟨by decide +kernel, rfl⟩
theorem dX2_takeOver_32 : nx cX2_takeOver 32 (.getfield 11) 3 35 := ⟨by decide +kernel, rfl⟩
theorem dX2_takeOver_35 : nx cX2_takeOver 35 (.iload_n 2) 1 36 := ⟨by decide +kernel, rfl⟩
theorem dX2_takeOver_36 : nx cX2_takeOver 36 (.aload_n 1) 1 37 := ⟨by decide +kernel, rfl⟩
theorem dX2_takeOver_37 : nx cX2_takeOver 37 (.iload_n 2) 1 38 := ⟨by decide +kernel, rfl⟩
theorem dX2_takeOver_38 : nx cX2_takeOver 38 (.invokevirtual 48) 3 41 := ⟨by decide +kernel, rfl⟩
theorem dX2_takeOver_41 : nx cX2_takeOver 41 (.aastore) 1 42 := ⟨by decide +kernel, rfl⟩
theorem dX2_takeOver_42 : nx cX2_takeOver 42 (.iinc 2 1) 3 45 := ⟨by decide +kernel, rfl⟩
theorem dX2_takeOver_45 : bx cX2_takeOver 45 (.goto (-22)) (-22) 23 48 := ⟨by decide +kernel, by decide, rfl⟩
theorem dX2_takeOver_48 : nx cX2_takeOver 48 (.aload_n 0) 1 49 := ⟨by decide +kernel, rfl⟩
theorem dX2_takeOver_49 : nx cX2_takeOver 49 (.bipush 45) 2 51 := ⟨by decide +kernel, rfl⟩
theorem dX2_takeOver_51 : nx cX2_takeOver 51 (.putfield 52) 3 54 := ⟨by decide +kernel, rfl⟩
theorem dX2_takeOver_54 : nx cX2_takeOver 54 (.aload_n 0) 1 55 := ⟨by decide +kernel, rfl⟩
theorem dX2_takeOver_55 : nx cX2_takeOver 55 (.iconst 0) 1 56 := ⟨by decide +kernel, rfl⟩
theorem dX2_takeOver_56 : nx cX2_takeOver 56 (.putfield 55) 3 59 := ⟨by decide +kernel, rfl⟩
theorem dX2_takeOver_59 : nx cX2_takeOver 59 (.aload_n 0) 1 60 := ⟨by decide +kernel, rfl⟩
theorem dX2_takeOver_60 : nx cX2_takeOver 60 (.iconst 0) 1 61 := ⟨by decide +kernel, rfl⟩
theorem dX2_takeOver_61 : nx cX2_takeOver 61 (.putfield 58) 3 64 := ⟨by decide +kernel, rfl⟩
theorem dX2_takeOver_64 : nx cX2_takeOver 64 (.aload_n 0) 1 65 := ⟨by decide +kernel, rfl⟩
theorem dX2_takeOver_65 : nx cX2_takeOver 65 (.bipush (-9)) 2 67 := ⟨by decide +kernel, rfl⟩
theorem dX2_takeOver_67 : nx cX2_takeOver 67 (.invokevirtual 61) 3 70 := ⟨by decide +kernel, rfl⟩
theorem dX2_takeOver_70 : nx cX2_takeOver 70 (.return_) 1 71 := ⟨by decide +kernel, rfl⟩
theorem dX2_befriend_0 : nx cX2_befriend 0 (.aload_n 0) 1 1 := ⟨by decide +kernel, rfl⟩
theorem dX2_befriend_1 : nx cX2_befriend 1 (.iload_n 1) 1 2 := ⟨by decide +kernel, rfl⟩
theorem dX2_befriend_2 : nx cX2_befriend 2 (.putfield 25) 3 5 := ⟨by decide +kernel, rfl⟩
theorem dX2_befriend_5 : nx cX2_befriend 5 (.iconst 0) 1 6 := ⟨by decide +kernel, rfl⟩
theorem dX2_befriend_6 : nx cX2_befriend 6 (.istore_n 2) 1 7 := ⟨by decide +kernel, rfl⟩
theorem dX2_befriend_7 : nx cX2_befriend 7 (.iload_n 2) 1 8 := ⟨by decide +kernel, rfl⟩
theorem dX2_befriend_8 : nx cX2_befriend 8 (.aload_n 0) 1 9 := ⟨by decide +kernel, rfl⟩
theorem dX2_befriend_9 : nx cX2_befriend 9 (.getfield 45) 3 12 := ⟨by decide +kernel, rfl⟩
theorem dX2_befriend_12 : bx cX2_befriend 12 (.if_icmp .ge 27) 27 39 15 := ⟨by decide +kernel, by decide, rfl⟩
theorem dX2_befriend_15 : nx cX2_befriend 15 (.aload_n 0) 1 16 := ⟨by decide +kernel, rfl⟩
theorem dX2_befriend_16 : nx cX2_befriend 16 (.iload_n 2) 1 17 := ⟨by decide +kernel, rfl⟩
theorem dX2_befriend_17 : nx cX2_befriend 17 (.invokevirtual 65) 3 20 := ⟨by decide +kernel, rfl⟩
theorem dX2_befriend_20 : nx cX2_befriend 20 (.astore_n 3) 1 21 := ⟨by decide +kernel, rfl⟩
theorem dX2_befriend_21 : nx cX2_befriend 21 (.aload_n 3) 1 22 := ⟨by decide +kernel, rfl⟩
theorem dX2_befriend_22 : bx cX2_befriend 22 (.ifnull 11) 11 33 25 := ⟨by decide +kernel, by decide, rfl⟩
theorem dX2_befriend_25 : nx cX2_befriend 25 (.aload_n 3) 1 26 := ⟨by decide +kernel, rfl⟩
theorem dX2_befriend_26 : nx cX2_befriend 26 (.aload_n 0) 1 27 := ⟨by decide +kernel, rfl⟩
theorem dX2_befriend_27 : nx cX2_befriend 27 (.getfield 25) 3 30 := ⟨by decide +kernel, rfl⟩
theorem dX2_befriend_30 : nx cX2_befriend 30 (.invokevirtual 68) 3 33 := ⟨by decide +kernel, rfl⟩
theorem dX2_befriend_33 : nx cX2_befriend 33 (.iinc 2 1) 3 36 := ⟨by decide +kernel, rfl⟩
theorem dX2_befriend_36 : bx cX2_befriend 36 (.goto (-29)) (-29) 7 39 := ⟨by decide +kernel, by decide, rfl⟩
theorem dX2_befriend_39 : nx cX2_befriend 39 (.return_) 1 40 := ⟨by decide +kernel, rfl⟩
theorem dX2_isNone_0 : nx cX2_isNone 0 (.aload_n 0) 1 1 := ⟨by decide +kernel, rfl⟩
theorem dX2_isNone_1 : nx cX2_isNone 1 (.getfield 35) 3 4 := ⟨by decide +kernel, rfl⟩
theorem dX2_isNone_4 : bx cX2_isNone 4 (.ifCond .ne 7) 7 11 7 := ⟨by decide +kernel, by decide, rfl⟩
theorem dX2_isNone_7 : nx cX2_isNone 7 (.iconst 1) 1 8 := ⟨by decide +kernel, rfl⟩
theorem dX2_isNone_8 : bx cX2_isNone 8 (.goto 4) 4 12 11 := ⟨by decide +kernel, by decide, rfl⟩
theorem dX2_isNone_11 : nx cX2_isNone 11 (.iconst 0) 1 12 := ⟨by decide +kernel, rfl⟩
theorem dX2_isNone_12 : nx cX2_isNone 12 (.ireturn) 1 13 := ⟨by decide +kernel, rfl⟩
theorem dX2_hasPlace_0 : nx cX2_hasPlace 0 (.iload_n 1) 1 1 := ⟨by decide +kernel, rfl⟩
theorem dX2_hasPlace_1 : bx cX2_hasPlace 1 (.ifCond .lt 15) 15 16 4 := ⟨by decide +kernel, by decide, rfl⟩
theorem dX2_hasPlace_4 : nx cX2_hasPlace 4 (.iload_n 1) 1 5 := ⟨by decide +kernel, rfl⟩
theorem dX2_hasPlace_5 : nx cX2_hasPlace 5 (.aload_n 0) 1 6 := ⟨by decide +kernel, rfl⟩
theorem dX2_hasPlace_6 : nx cX2_hasPlace 6 (.getfield 35) 3 9 := ⟨by decide +kernel, rfl⟩
theorem dX2_hasPlace_9 : bx cX2_hasPlace 9 (.if_icmp .ge 7) 7 16 12 := ⟨by decide +kernel, by decide, rfl⟩
theorem dX2_hasPlace_12 : nx cX2_hasPlace 12 (.iconst 1) 1 13 := ⟨by decide +kernel, rfl⟩
theorem dX2_hasPlace_13 : bx cX2_hasPlace 13 (.goto 4) 4 17 16 := ⟨by decide +kernel, by decide, rfl⟩
theorem dX2_hasPlace_16 : nx cX2_hasPlace 16 (.iconst 0) 1 17 := ⟨by decide +kernel, rfl⟩
theorem dX2_hasPlace_17 : nx cX2_hasPlace 17 (.ireturn) 1 18 := ⟨by decide +kernel, rfl⟩
theorem dX2_home_0 : nx cX2_home 0 (.aload_n 0) 1 1 := ⟨by decide +kernel, rfl⟩
theorem dX2_home_1 : nx cX2_home 1 (.getfield 35) 3 4 := ⟨by decide +kernel, rfl⟩
theorem dX2_home_4 : nx cX2_home 4 (.iconst 1) 1 5 := ⟨by decide +kernel, rfl⟩
theorem dX2_home_5 : nx cX2_home 5 (.isub) 1 6 := ⟨by decide +kernel, rfl⟩
theorem dX2_home_6 : nx cX2_home 6 (.ireturn) 1 7 := ⟨by decide +kernel, rfl⟩
theorem dX2_stretchAt_0 : nx cX2_stretchAt 0 (.iload_n 1) 1 1 := ⟨by decide +kernel, rfl⟩
theorem dX2_stretchAt_1 : bx cX2_stretchAt 1 (.ifCond .lt 29) 29 30 4 := ⟨by decide +kernel, by decide, rfl⟩
theorem dX2_stretchAt_4 : nx cX2_stretchAt 4 (.iload_n 1) 1 5 := ⟨by decide +kernel, rfl⟩
theorem dX2_stretchAt_5 : nx cX2_stretchAt 5 (.aload_n 0) 1 6 := ⟨by decide +kernel, rfl⟩
theorem dX2_stretchAt_6 : nx cX2_stretchAt 6 (.getfield 45) 3 9 := ⟨by decide +kernel, rfl⟩
theorem dX2_stretchAt_9 : bx cX2_stretchAt 9 (.if_icmp .ge 21) 21 30 12 := ⟨by decide +kernel, by decide, rfl⟩
theorem dX2_stretchAt_12 : nx cX2_stretchAt 12 (.iload_n 1) 1 13 := ⟨by decide +kernel, rfl⟩
theorem dX2_stretchAt_13 : nx cX2_stretchAt 13 (.aload_n 0) 1 14 := ⟨by decide +kernel, rfl⟩
theorem dX2_stretchAt_14 : nx cX2_stretchAt 14 (.getfield 11) 3 17 := ⟨by decide +kernel, rfl⟩
theorem dX2_stretchAt_17 : nx cX2_stretchAt 17 (.arraylength) 1 18 := ⟨by decide +kernel, rfl⟩
theorem dX2_stretchAt_18 : bx cX2_stretchAt 18 (.if_icmp .ge 12) 12 30 21 := ⟨by decide +kernel, by decide, rfl⟩
theorem dX2_stretchAt_21 : nx cX2_stretchAt 21 (.aload_n 0) 1 22 := ⟨by decide +kernel, rfl⟩
theorem dX2_stretchAt_22 : nx cX2_stretchAt 22 (.getfield 11) 3 25 := ⟨by decide +kernel, rfl⟩
theorem dX2_stretchAt_25 : nx cX2_stretchAt 25 (.iload_n 1) 1 26 := ⟨by decide +kernel, rfl⟩
theorem dX2_stretchAt_26 : nx cX2_stretchAt 26 (.aaload) 1 27 := ⟨by decide +kernel, rfl⟩
theorem dX2_stretchAt_27 : bx cX2_stretchAt 27 (.goto 4) 4 31 30 := ⟨by decide +kernel, by decide, rfl⟩
theorem dX2_stretchAt_30 : nx cX2_stretchAt 30 (.aconst_null) 1 31 := ⟨by decide +kernel, rfl⟩
theorem dX2_stretchAt_31 : nx cX2_stretchAt 31 (.areturn) 1 32 := ⟨by decide +kernel, rfl⟩
theorem dX2_addReading_0 : nx cX2_addReading 0 (.aload_n 0) 1 1 := ⟨by decide +kernel, rfl⟩
theorem dX2_addReading_1 : nx cX2_addReading 1 (.getfield 58) 3 4 := ⟨by decide +kernel, rfl⟩
theorem dX2_addReading_4 : nx cX2_addReading 4 (.bipush 8) 2 6 := ⟨by decide +kernel, rfl⟩
theorem dX2_addReading_6 : bx cX2_addReading 6 (.if_icmp .lt 6) 6 12 9 := ⟨by decide +kernel, by decide, rfl⟩
theorem dX2_addReading_9 : nx cX2_addReading 9 (.bipush (-4)) 2 11 := ⟨by decide +kernel, rfl⟩
theorem dX2_addReading_11 : nx cX2_addReading 11 (.ireturn) 1 12 := ⟨by decide +kernel, rfl⟩
theorem dX2_addReading_12 : nx cX2_addReading 12 (.aload_n 0) 1 13 := ⟨by decide +kernel, rfl⟩
theorem dX2_addReading_13 : nx cX2_addReading 13 (.getfield 17) 3 16 := ⟨by decide +kernel, rfl⟩
theorem dX2_addReading_16 : nx cX2_addReading 16 (.aload_n 0) 1 17 := ⟨by decide +kernel, rfl⟩
theorem dX2_addReading_17 : nx cX2_addReading 17 (.getfield 58) 3 20 := ⟨by decide +kernel, rfl⟩
theorem dX2_addReading_20 : nx cX2_addReading 20 (.iload_n 1) 1 21 := ⟨by decide +kernel, rfl⟩
theorem dX2_addReading_21 : nx cX2_addReading 21 (.iastore) 1 22 := ⟨by decide +kernel, rfl⟩
theorem dX2_addReading_22 : nx cX2_addReading 22 (.aload_n 0) 1 23 := ⟨by decide +kernel, rfl⟩
theorem dX2_addReading_23 : nx cX2_addReading 23 (.getfield 21) 3 26 := ⟨by decide +kernel, rfl⟩
theorem dX2_addReading_26 : nx cX2_addReading 26 (.aload_n 0) 1 27 := ⟨by decide +kernel, rfl⟩
theorem dX2_addReading_27 : nx cX2_addReading 27 (.getfield 58) 3 30 := ⟨by decide +kernel, rfl⟩
theorem dX2_addReading_30 : nx cX2_addReading 30 (.iload_n 2) 1 31 := ⟨by decide +kernel, rfl⟩
theorem dX2_addReading_31 : nx cX2_addReading 31 (.bastore) 1 32 := ⟨by decide +kernel, rfl⟩
theorem dX2_addReading_32 : nx cX2_addReading 32 (.aload_n 0) 1 33 := ⟨by decide +kernel, rfl⟩
theorem dX2_addReading_33 : nx cX2_addReading 33 (.dup) 1 34 := ⟨by decide +kernel, rfl⟩
theorem dX2_addReading_34 : nx cX2_addReading 34 (.getfield 58) 3 37 := ⟨by decide +kernel, rfl⟩
theorem dX2_addReading_37 : nx cX2_addReading 37 (.iconst 1) 1 38 := ⟨by decide +kernel, rfl⟩
theorem dX2_addReading_38 : nx cX2_addReading 38 (.iadd) 1 39 := ⟨by decide +kernel, rfl⟩
theorem dX2_addReading_39 : nx cX2_addReading 39 (.putfield 58) 3 42 := ⟨by decide +kernel, rfl⟩
theorem dX2_addReading_42 : nx cX2_addReading 42 (.aload_n 0) 1 43 := ⟨by decide +kernel, rfl⟩
theorem dX2_addReading_43 : nx cX2_addReading 43 (.getfield 58) 3 46 := ⟨by decide +kernel, rfl⟩
theorem dX2_addReading_46 : nx cX2_addReading 46 (.iconst 1) 1 47 := ⟨by decide +kernel, rfl⟩
theorem dX2_addReading_47 : nx cX2_addReading 47 (.isub) 1 48 := ⟨by decide +kernel, rfl⟩
theorem dX2_addReading_48 : nx cX2_addReading 48 (.ireturn) 1 49 := ⟨by decide +kernel, rfl⟩
theorem dX2_readSet_0 : nx cX2_readSet 0 (.iconst 0) 1 1 := ⟨by decide +kernel, rfl⟩
theorem dX2_readSet_1 : nx cX2_readSet 1 (.istore_n 2) 1 2 := ⟨by decide +kernel, rfl⟩
theorem dX2_readSet_2 : nx cX2_readSet 2 (.iconst 0) 1 3 := ⟨by decide +kernel, rfl⟩
theorem dX2_readSet_3 : nx cX2_readSet 3 (.istore_n 3) 1 4 := ⟨by decide +kernel, rfl⟩
theorem dX2_readSet_4 : nx cX2_readSet 4 (.iload_n 3) 1 5 := ⟨by decide +kernel, rfl⟩
theorem dX2_readSet_5 : nx cX2_readSet 5 (.aload_n 0) 1 6 := ⟨by decide +kernel, rfl⟩
theorem dX2_readSet_6 : nx cX2_readSet 6 (.getfield 58) 3 9 := ⟨by decide +kernel, rfl⟩
theorem dX2_readSet_9 : bx cX2_readSet 9 (.if_icmp .ge 36) 36 45 12 := ⟨by decide +kernel, by decide, rfl⟩
theorem dX2_readSet_12 : nx cX2_readSet 12 (.iload_n 3) 1 13 := ⟨by decide +kernel, rfl⟩
theorem dX2_readSet_13 : nx cX2_readSet 13 (.bipush 8) 2 15 := ⟨by decide +kernel, rfl⟩
theorem dX2_readSet_15 : bx cX2_readSet 15 (.if_icmp .ge 30) 30 45 18 := ⟨by decide +kernel, by decide, rfl⟩
theorem dX2_readSet_18 : nx cX2_readSet 18 (.aload_n 0) 1 19 := ⟨by decide +kernel, rfl⟩
theorem dX2_readSet_19 : nx cX2_readSet 19 (.getfield 21) 3 22 := ⟨by decide +kernel, rfl⟩
theorem dX2_readSet_22 : nx cX2_readSet 22 (.iload_n 3) 1 23 := ⟨by decide +kernel, rfl⟩
theorem dX2_readSet_23 : nx cX2_readSet 23 (.baload) 1 24 := ⟨by decide +kernel, rfl⟩
theorem dX2_readSet_24 : nx cX2_readSet 24 (.iload_n 1) 1 25 := ⟨by decide +kernel, rfl⟩
theorem dX2_readSet_25 : bx cX2_readSet 25 (.if_icmp .ne 14) 14 39 28 := ⟨by decide +kernel, by decide, rfl⟩
theorem dX2_readSet_28 : nx cX2_readSet 28 (.iload_n 2) 1 29 := ⟨by decide +kernel, rfl⟩
theorem dX2_readSet_29 : nx cX2_readSet 29 (.iconst 1) 1 30 := ⟨by decide +kernel, rfl⟩
theorem dX2_readSet_30 : nx cX2_readSet 30 (.aload_n 0) 1 31 := ⟨by decide +kernel, rfl⟩
theorem dX2_readSet_31 : nx cX2_readSet 31 (.getfield 17) 3 34 := ⟨by decide +kernel, rfl⟩
theorem dX2_readSet_34 : nx cX2_readSet 34 (.iload_n 3) 1 35 := ⟨by decide +kernel, rfl⟩
theorem dX2_readSet_35 : nx cX2_readSet 35 (.iaload) 1 36 := ⟨by decide +kernel, rfl⟩
theorem dX2_readSet_36 : nx cX2_readSet 36 (.ishl) 1 37 := ⟨by decide +kernel, rfl⟩
theorem dX2_readSet_37 : nx cX2_readSet 37 (.ior) 1 38 := ⟨by decide +kernel, rfl⟩
theorem dX2_readSet_38 : nx cX2_readSet 38 (.istore_n 2) 1 39 := ⟨by decide +kernel, rfl⟩
theorem dX2_readSet_39 : nx cX2_readSet 39 (.iinc 3 1) 3 42 := ⟨by decide +kernel, rfl⟩
theorem dX2_readSet_42 : bx cX2_readSet 42 (.goto (-38)) (-38) 4 45 := ⟨by decide +kernel, by decide, rfl⟩
theorem dX2_readSet_45 : nx cX2_readSet 45 (.iload_n 2) 1 46 := ⟨by decide +kernel, rfl⟩
theorem dX2_readSet_46 : nx cX2_readSet 46 (.ireturn) 1 47 := ⟨by decide +kernel, rfl⟩
theorem dX2_muddySet_0 : nx cX2_muddySet 0 (.iconst 0) 1 1 := ⟨by decide +kernel, rfl⟩
theorem dX2_muddySet_1 : nx cX2_muddySet 1 (.istore_n 1) 1 2 := ⟨by decide +kernel, rfl⟩
theorem dX2_muddySet_2 : nx cX2_muddySet 2 (.iconst 0) 1 3 := ⟨by decide +kernel, rfl⟩
theorem dX2_muddySet_3 : nx cX2_muddySet 3 (.istore_n 2) 1 4 := ⟨by decide +kernel, rfl⟩
theorem dX2_muddySet_4 : nx cX2_muddySet 4 (.iload_n 2) 1 5 := ⟨by decide +kernel, rfl⟩
theorem dX2_muddySet_5 : nx cX2_muddySet 5 (.aload_n 0) 1 6 := ⟨by decide +kernel, rfl⟩
theorem dX2_muddySet_6 : nx cX2_muddySet 6 (.getfield 45) 3 9 := ⟨by decide +kernel, rfl⟩
theorem dX2_muddySet_9 : bx cX2_muddySet 9 (.if_icmp .ge 26) 26 35 12 := ⟨by decide +kernel, by decide, rfl⟩
theorem dX2_muddySet_12 : nx cX2_muddySet 12 (.aload_n 0) 1 13 := ⟨by decide +kernel, rfl⟩
theorem dX2_muddySet_13 : nx cX2_muddySet 13 (.iload_n 2) 1 14 := ⟨by decide +kernel, rfl⟩
theorem dX2_muddySet_14 : nx cX2_muddySet 14 (.invokevirtual 65) 3 17 := ⟨by decide +kernel, rfl⟩
theorem dX2_muddySet_17 : nx cX2_muddySet 17 (.instanceof 71) 3 20 := ⟨by decide +kernel, rfl⟩
theorem dX2_muddySet_20 : bx cX2_muddySet 20 (.ifCond .eq 9) 9 29 23 := ⟨by decide +kernel, by decide, rfl⟩
theorem dX2_muddySet_23 : nx cX2_muddySet 23 (.iload_n 1) 1 24 := ⟨by decide +kernel, rfl⟩
theorem dX2_muddySet_24 : nx cX2_muddySet 24 (.iconst 1) 1 25 := ⟨by decide +kernel, rfl⟩
theorem dX2_muddySet_25 : nx cX2_muddySet 25 (.iload_n 2) 1 26 := ⟨by decide +kernel, rfl⟩
theorem dX2_muddySet_26 : nx cX2_muddySet 26 (.ishl) 1 27 := ⟨by decide +kernel, rfl⟩
theorem dX2_muddySet_27 : nx cX2_muddySet 27 (.ior) 1 28 := ⟨by decide +kernel, rfl⟩
theorem dX2_muddySet_28 : nx cX2_muddySet 28 (.istore_n 1) 1 29 := ⟨by decide +kernel, rfl⟩
theorem dX2_muddySet_29 : nx cX2_muddySet 29 (.iinc 2 1) 3 32 := ⟨by decide +kernel, rfl⟩
theorem dX2_muddySet_32 : bx cX2_muddySet 32 (.goto (-28)) (-28) 4 35 := ⟨by decide +kernel, by decide, rfl⟩
theorem dX2_muddySet_35 : nx cX2_muddySet 35 (.iload_n 1) 1 36 := ⟨by decide +kernel, rfl⟩
theorem dX2_muddySet_36 : nx cX2_muddySet 36 (.ireturn) 1 37 := ⟨by decide +kernel, rfl⟩
theorem dX2_joyOf_0 : nx cX2_joyOf 0 (.aload_n 1) 1 1 := ⟨by decide +kernel, rfl⟩
theorem dX2_joyOf_1 : nx cX2_joyOf 1 (.getfield 73) 3 4 := ⟨by decide +kernel, rfl⟩
theorem dX2_joyOf_4 : nx cX2_joyOf 4 (.aload_n 0) 1 5 := ⟨by decide +kernel, rfl⟩
theorem dX2_joyOf_5 : nx cX2_joyOf 5 (.getfield 52) 3 8 := ⟨by decide +kernel, rfl⟩
theorem dX2_joyOf_8 : nx cX2_joyOf 8 (.isub) 1 9 := ⟨by decide +kernel, rfl⟩
theorem dX2_joyOf_9 : nx cX2_joyOf 9 (.istore_n 2) 1 10 := ⟨by decide +kernel, rfl⟩
theorem dX2_joyOf_10 : nx cX2_joyOf 10 (.iload_n 2) 1 11 := ⟨by decide +kernel, rfl⟩
theorem dX2_joyOf_11 : bx cX2_joyOf 11 (.ifCond .gt 10) 10 21 14 := ⟨by decide +kernel, by decide, rfl⟩
theorem dX2_joyOf_14 : nx cX2_joyOf 14 (.aload_n 1) 1 15 := ⟨by decide +kernel, rfl⟩
theorem dX2_joyOf_15 : nx cX2_joyOf 15 (.getfield 78) 3 18 := ⟨by decide +kernel, rfl⟩
theorem dX2_joyOf_18 : bx cX2_joyOf 18 (.goto 13) 13 31 21 := ⟨by decide +kernel, by decide, rfl⟩
theorem dX2_joyOf_21 : nx cX2_joyOf 21 (.aload_n 1) 1 22 := ⟨by decide +kernel, rfl⟩
theorem dX2_joyOf_22 : nx cX2_joyOf 22 (.getfield 78) 3 25 := ⟨by decide +kernel, rfl⟩
theorem dX2_joyOf_25 : nx cX2_joyOf 25 (.aload_n 0) 1 26 := ⟨by decide +kernel, rfl⟩
theorem dX2_joyOf_26 : nx cX2_joyOf 26 (.iload_n 2) 1 27 := ⟨by decide +kernel, rfl⟩
theorem dX2_joyOf_27 : nx cX2_joyOf 27 (.invokevirtual 81) 3 30 := ⟨by decide +kernel, rfl⟩
theorem dX2_joyOf_30 : nx cX2_joyOf 30 (.isub) 1 31 := ⟨by decide +kernel, rfl⟩
theorem dX2_joyOf_31 : nx cX2_joyOf 31 (.ireturn) 1 32 := ⟨by decide +kernel, rfl⟩
theorem dX2_costOf_0 : nx cX2_costOf 0 (.aload_n 0) 1 1 := ⟨by decide +kernel, rfl⟩
theorem dX2_costOf_1 : nx cX2_costOf 1 (.getfield 55) 3 4 := ⟨by decide +kernel, rfl⟩
theorem dX2_costOf_4 : nx cX2_costOf 4 (.lookupswitch 47 #[(1, 28), (2, 43)]) 28 32 := ⟨by decide +kernel, rfl⟩
theorem dX2_costOf_32 : nx cX2_costOf 32 (.iload_n 1) 1 33 := ⟨by decide +kernel, rfl⟩
theorem dX2_costOf_33 : nx cX2_costOf 33 (.iconst 5) 1 34 := ⟨by decide +kernel, rfl⟩
theorem dX2_costOf_34 : bx cX2_costOf 34 (.if_icmp .gt 7) 7 41 37 := ⟨by decide +kernel, by decide, rfl⟩
theorem dX2_costOf_37 : nx cX2_costOf 37 (.iconst 0) 1 38 := ⟨by decide +kernel, rfl⟩
theorem dX2_costOf_38 : bx cX2_costOf 38 (.goto 8) 8 46 41 := ⟨by decide +kernel, by decide, rfl⟩
theorem dX2_costOf_41 : nx cX2_costOf 41 (.iconst 3) 1 42 := ⟨by decide +kernel, rfl⟩
theorem dX2_costOf_42 : nx cX2_costOf 42 (.iload_n 1) 1 43 := ⟨by decide +kernel, rfl⟩
theorem dX2_costOf_43 : nx cX2_costOf 43 (.iconst 5) 1 44 := ⟨by decide +kernel, rfl⟩
theorem dX2_costOf_44 : nx cX2_costOf 44 (.isub) 1 45 := ⟨by decide +kernel, rfl⟩
theorem dX2_costOf_45 : nx cX2_costOf 45 (.imul) 1 46 := ⟨by decide +kernel, rfl⟩
theorem dX2_costOf_46 : nx cX2_costOf 46 (.ireturn) 1 47 := ⟨by decide +kernel, rfl⟩
theorem dX2_costOf_47 : nx cX2_costOf 47 (.iload_n 1) 1 48 := ⟨by decide +kernel, rfl⟩
theorem dX2_costOf_48 : nx cX2_costOf 48 (.iload_n 1) 1 49 := ⟨by decide +kernel, rfl⟩
theorem dX2_costOf_49 : nx cX2_costOf 49 (.imul) 1 50 := ⟨by decide +kernel, rfl⟩
theorem dX2_costOf_50 : nx cX2_costOf 50 (.ireturn) 1 51 := ⟨by decide +kernel, rfl⟩
theorem dX2_costOf_51 : nx cX2_costOf 51 (.iload_n 1) 1 52 := ⟨by decide +kernel, rfl⟩
theorem dX2_costOf_52 : nx cX2_costOf 52 (.ireturn) 1 53 := ⟨by decide +kernel, rfl⟩
theorem dX3_init_0 : nx cX3_init 0 (.aload_n 0) 1 1 := ⟨by decide +kernel, rfl⟩
theorem dX3_init_1 : nx cX3_init 1 (.invokespecial 3) 3 4 := ⟨by decide +kernel, rfl⟩
theorem dX3_init_4 : nx cX3_init 4 (.aload_n 0) 1 5 := ⟨by decide +kernel, rfl⟩
theorem dX3_init_5 : nx cX3_init 5 (.bipush 7) 2 7 := ⟨by decide +kernel, rfl⟩
theorem dX3_init_7 : nx cX3_init 7 (.newarray .int) 2 9 := ⟨by decide +kernel, rfl⟩
theorem dX3_init_9 : nx cX3_init 9 (.putfield 9) 3 12 := ⟨by decide +kernel, rfl⟩
theorem dX3_init_12 : nx cX3_init 12 (.return_) 1 13 := ⟨by decide +kernel, rfl⟩
theorem dX3_leastMinutes_0 : nx cX3_leastMinutes 0 (.aload_n 1) 1 1 := ⟨by decide +kernel, rfl⟩
theorem dX3_leastMinutes_1 : nx cX3_leastMinutes 1 (.iload_n 2) 1 2 := ⟨by decide +kernel, rfl⟩
theorem dX3_leastMinutes_2 : nx cX3_leastMinutes 2 (.invokevirtual 15) 3 5 := ⟨by decide +kernel, rfl⟩
theorem dX3_leastMinutes_5 : bx cX3_leastMinutes 5 (.ifCond .eq 11) 11 16 8 := ⟨by decide +kernel, by decide, rfl⟩
theorem dX3_leastMinutes_8 : nx cX3_leastMinutes 8 (.aload_n 1) 1 9 := ⟨by decide +kernel, rfl⟩
theorem dX3_leastMinutes_9 : nx cX3_leastMinutes 9 (.iload_n 3) 1 10 := ⟨by decide +kernel, rfl⟩
theorem dX3_leastMinutes_10 : nx cX3_leastMinutes 10 (.invokevirtual 15) 3 13 := ⟨by decide +kernel, rfl⟩
theorem dX3_leastMinutes_13 : bx cX3_leastMinutes 13 (.ifCond .ne 6) 6 19 16 := ⟨by decide +kernel, by decide, rfl⟩
theorem dX3_leastMinutes_16 : nx cX3_leastMinutes 16 (.bipush (-9)) 2 18 := ⟨by decide +kernel, rfl⟩
theorem dX3_leastMinutes_18 : nx cX3_leastMinutes 18 (.ireturn) 1 19 := ⟨by decide +kernel, rfl⟩
theorem dX3_leastMinutes_19 : nx cX3_leastMinutes 19 (.aload_n 0) 1 20 := ⟨by decide +kernel, rfl⟩
theorem dX3_leastMinutes_20 : nx cX3_leastMinutes 20 (.getfield 9) 3 23 := ⟨by decide +kernel, rfl⟩
theorem dX3_leastMinutes_23 : nx cX3_leastMinutes 23 (.ldc 21) 2 25 := ⟨by decide +kernel, rfl⟩
theorem dX3_leastMinutes_25 : nx cX3_leastMinutes 25 (.invokestatic 22) 3 28 := ⟨by decide +kernel, rfl⟩
theorem dX3_leastMinutes_28 : nx cX3_leastMinutes 28 (.aload_n 0) 1 29 := ⟨by decide +kernel, rfl⟩
theorem dX3_leastMinutes_29 : nx cX3_leastMinutes 29 (.getfield 9) 3 32 := ⟨by decide +kernel, rfl⟩
theorem dX3_leastMinutes_32 : nx cX3_leastMinutes 32 (.iload_n 2) 1 33 := ⟨by decide +kernel, rfl⟩
theorem dX3_leastMinutes_33 : nx cX3_leastMinutes 33 (.iconst 0) 1 34 := ⟨by decide +kernel, rfl⟩
theorem dX3_leastMinutes_34 : nx cX3_leastMinutes 34 (.iastore) 1 35 := ⟨by decide +kernel, rfl⟩
theorem dX3_leastMinutes_35 : nx cX3_leastMinutes 35 (.iconst 1) 1 36 := ⟨by decide +kernel, rfl⟩
theorem dX3_leastMinutes_36 : nx cX3_leastMinutes 36 (.istore 4) 2 38 := ⟨by decide +kernel, rfl⟩
theorem dX3_leastMinutes_38 : nx cX3_leastMinutes 38 (.iload 4) 2 40 := ⟨by decide +kernel, rfl⟩
theorem dX3_leastMinutes_40 : nx cX3_leastMinutes 40 (.aload_n 1) 1 41 := ⟨by decide +kernel, rfl⟩
theorem dX3_leastMinutes_41 : nx cX3_leastMinutes 41 (.getfield 28) 3 44 := ⟨by decide +kernel, rfl⟩
theorem dX3_leastMinutes_44 : bx cX3_leastMinutes 44 (.if_icmp .ge 14) 14 58 47 := ⟨by decide +kernel, by decide, rfl⟩
theorem dX3_leastMinutes_47 : nx cX3_leastMinutes 47 (.aload_n 0) 1 48 := ⟨by decide +kernel, rfl⟩
theorem dX3_leastMinutes_48 : nx cX3_leastMinutes 48 (.aload_n 1) 1 49 := ⟨by decide +kernel, rfl⟩
theorem dX3_leastMinutes_49 : nx cX3_leastMinutes 49 (.invokevirtual 32) 3 52 := ⟨by decide +kernel, rfl⟩
theorem dX3_leastMinutes_52 : nx cX3_leastMinutes 52 (.iinc 4 1) 3 55 := ⟨by decide +kernel, rfl⟩
theorem dX3_leastMinutes_55 : bx cX3_leastMinutes 55 (.goto (-17)) (-17) 38 58 := ⟨by decide +kernel, by decide, rfl⟩
theorem dX3_leastMinutes_58 : nx cX3_leastMinutes 58 (.aload_n 0) 1 59 := ⟨by decide +kernel, rfl⟩
theorem dX3_leastMinutes_59 : nx cX3_leastMinutes 59 (.getfield 9) 3 62 := ⟨by decide +kernel, rfl⟩
theorem dX3_leastMinutes_62 : nx cX3_leastMinutes 62 (.iload_n 3) 1 63 := ⟨by decide +kernel, rfl⟩
theorem dX3_leastMinutes_63 : nx cX3_leastMinutes 63 (.iaload) 1 64 := ⟨by decide +kernel, rfl⟩
theorem dX3_leastMinutes_64 : nx cX3_leastMinutes 64 (.ldc 21) 2 66 := ⟨by decide +kernel, rfl⟩
theorem dX3_leastMinutes_66 : bx cX3_leastMinutes 66 (.if_icmp .lt 8) 8 74 69 := ⟨by decide +kernel, by decide, rfl⟩
theorem dX3_leastMinutes_69 : nx cX3_leastMinutes 69 (.bipush (-9)) 2 71 := ⟨by decide +kernel, rfl⟩
theorem dX3_leastMinutes_71 : bx cX3_leastMinutes 71 (.goto 9) 9 80 74 := ⟨by decide +kernel, by decide, rfl⟩
theorem dX3_leastMinutes_74 : nx cX3_leastMinutes 74 (.aload_n 0) 1 75 := ⟨by decide +kernel, rfl⟩
theorem dX3_leastMinutes_75 : nx cX3_leastMinutes 75 (.getfield 9) 3 78 := ⟨by decide +kernel, rfl⟩
theorem dX3_leastMinutes_78 : nx cX3_leastMinutes 78 (.iload_n 3) 1 79 := ⟨by decide +kernel, rfl⟩
theorem dX3_leastMinutes_79 : nx cX3_leastMinutes 79 (.iaload) 1 80 := ⟨by decide +kernel, rfl⟩
theorem dX3_leastMinutes_80 : nx cX3_leastMinutes 80 (.ireturn) 1 81 := ⟨by decide +kernel, rfl⟩
theorem dX3_shorten_0 : nx cX3_shorten 0 (.iconst 0) 1 1 := ⟨by decide +kernel, rfl⟩
theorem dX3_shorten_1 : nx cX3_shorten 1 (.istore_n 2) 1 2 := ⟨by decide +kernel, rfl⟩
theorem dX3_shorten_2 : nx cX3_shorten 2 (.iload_n 2) 1 3 := ⟨by decide +kernel, rfl⟩
theorem dX3_shorten_3 : nx cX3_shorten 3 (.aload_n 1) 1 4 := ⟨by decide +kernel, rfl⟩
theorem dX3_shorten_4 : nx cX3_shorten 4 (.getfield 36) 3 7 := ⟨by decide +kernel, rfl⟩
theorem dX3_shorten_7 : bx cX3_shorten 7 (.if_icmp .ge 58) 58 65 10 := ⟨by decide +kernel, by decide, rfl⟩
theorem dX3_shorten_10 : nx cX3_shorten 10 (.aload_n 1) 1 11 := ⟨by decide +kernel, rfl⟩
theorem dX3_shorten_11 : nx cX3_shorten 11 (.iload_n 2) 1 12 := ⟨by decide +kernel, rfl⟩
theorem dX3_shorten_12 : nx cX3_shorten 12 (.invokevirtual 39) 3 15 := ⟨by decide +kernel, rfl⟩
theorem dX3_shorten_15 : nx cX3_shorten 15 (.astore_n 3) 1 16 := ⟨by decide +kernel, rfl⟩
theorem dX3_shorten_16 : nx cX3_shorten 16 (.aload_n 3) 1 17 := ⟨by decide +kernel, rfl⟩
theorem dX3_shorten_17 : bx cX3_shorten 17 (.ifnull 42) 42 59 20 := ⟨by decide +kernel, by decide, rfl⟩
theorem dX3_shorten_20 : nx cX3_shorten 20 (.aload_n 3) 1 21 := ⟨by decide +kernel, rfl⟩
theorem dX3_shorten_21 : nx cX3_shorten 21 (.getfield 43) 3 24 := ⟨by decide +kernel, rfl⟩
theorem dX3_shorten_24 : bx cX3_shorten 24 (.ifCond .ne 35) 35 59 27 := ⟨by decide +kernel, by decide, rfl⟩
theorem dX3_shorten_27 : nx cX3_shorten 27 (.aload_n 0) 1 28 := ⟨by decide +kernel, rfl⟩
theorem dX3_shorten_28 : nx cX3_shorten 28 (.aload_n 3) 1 29 := ⟨by decide +kernel, rfl⟩
theorem dX3_shorten_29 : nx cX3_shorten 29 (.getfield 49) 3 32 := ⟨by decide +kernel, rfl⟩
theorem dX3_shorten_32 : nx cX3_shorten 32 (.aload_n 3) 1 33 := ⟨by decide +kernel, rfl⟩
theorem dX3_shorten_33 : nx cX3_shorten 33 (.getfield 52) 3 36 := ⟨by decide +kernel, rfl⟩
theorem dX3_shorten_36 : nx cX3_shorten 36 (.aload_n 3) 1 37 := ⟨by decide +kernel, rfl⟩
theorem dX3_shorten_37 : nx cX3_shorten 37 (.getfield 55) 3 40 := ⟨by decide +kernel, rfl⟩
theorem dX3_shorten_40 : nx cX3_shorten 40 (.invokevirtual 58) 3 43 := ⟨by decide +kernel, rfl⟩
theorem dX3_shorten_43 : nx cX3_shorten 43 (.aload_n 0) 1 44 := ⟨by decide +kernel, rfl⟩
theorem dX3_shorten_44 : nx cX3_shorten 44 (.aload_n 3) 1 45 := ⟨by decide +kernel, rfl⟩
theorem dX3_shorten_45 : nx cX3_shorten 45 (.getfield 52) 3 48 := ⟨by decide +kernel, rfl⟩
theorem dX3_shorten_48 : nx cX3_shorten 48 (.aload_n 3) 1 49 := ⟨by decide +kernel, rfl⟩
theorem dX3_shorten_49 : nx cX3_shorten 49 (.getfield 49) 3 52 := ⟨by decide +kernel, rfl⟩
theorem dX3_shorten_52 : nx cX3_shorten 52 (.aload_n 3) 1 53 := ⟨by decide +kernel, rfl⟩
theorem dX3_shorten_53 : nx cX3_shorten 53 (.getfield 55) 3 56 := ⟨by decide +kernel, rfl⟩
theorem dX3_shorten_56 : nx cX3_shorten 56 (.invokevirtual 58) 3 59 := ⟨by decide +kernel, rfl⟩
theorem dX3_shorten_59 : nx cX3_shorten 59 (.iinc 2 1) 3 62 := ⟨by decide +kernel, rfl⟩
theorem dX3_shorten_62 : bx cX3_shorten 62 (.goto (-60)) (-60) 2 65 := ⟨by decide +kernel, by decide, rfl⟩
theorem dX3_shorten_65 : nx cX3_shorten 65 (.return_) 1 66 := ⟨by decide +kernel, rfl⟩
theorem dX3_shortenTo_0 : nx cX3_shortenTo 0 (.iload_n 1) 1 1 := ⟨by decide +kernel, rfl⟩
theorem dX3_shortenTo_1 : nx cX3_shortenTo 1 (.iconst 0) 1 2 := ⟨by decide +kernel, rfl⟩
theorem dX3_shortenTo_2 : nx cX3_shortenTo 2 (.bipush 6) 2 4 := ⟨by decide +kernel, rfl⟩
theorem dX3_shortenTo_4 : nx cX3_shortenTo 4 (.invokestatic 62) 3 7 := ⟨by decide +kernel, rfl⟩
theorem dX3_shortenTo_7 : bx cX3_shortenTo 7 (.ifCond .eq 36) 36 43 10 := ⟨by decide +kernel, by decide, rfl⟩
theorem dX3_shortenTo_10 : nx cX3_shortenTo 10 (.iload_n 2) 1 11 := ⟨by decide +kernel, rfl⟩
theorem dX3_shortenTo_11 : nx cX3_shortenTo 11 (.iconst 0) 1 12 := ⟨by decide +kernel, rfl⟩
theorem dX3_shortenTo_12 : nx cX3_shortenTo 12 (.bipush 6) 2 14 := ⟨by decide +kernel, rfl⟩
theorem dX3_shortenTo_14 : nx cX3_shortenTo 14 (.invokestatic 62) 3 17 := ⟨by decide +kernel, rfl⟩
theorem dX3_shortenTo_17 : bx cX3_shortenTo 17 (.ifCond .eq 26) 26 43 20 := ⟨by decide +kernel, by decide, rfl⟩
theorem dX3_shortenTo_20 : nx cX3_shortenTo 20 (.aload_n 0) 1 21 := ⟨by decide +kernel, rfl⟩
theorem dX3_shortenTo_21 : nx cX3_shortenTo 21 (.getfield 9) 3 24 := ⟨by decide +kernel, rfl⟩
theorem dX3_shortenTo_24 : nx cX3_shortenTo 24 (.iload_n 1) 1 25 := ⟨by decide +kernel, rfl⟩
theorem dX3_shortenTo_25 : nx cX3_shortenTo 25 (.aload_n 0) 1 26 := ⟨by decide +kernel, rfl⟩
theorem dX3_shortenTo_26 : nx cX3_shortenTo 26 (.getfield 9) 3 29 := ⟨by decide +kernel, rfl⟩
theorem dX3_shortenTo_29 : nx cX3_shortenTo 29 (.iload_n 1) 1 30 := ⟨by decide +kernel, rfl⟩
theorem dX3_shortenTo_30 : nx cX3_shortenTo 30 (.iaload) 1 31 := ⟨by decide +kernel, rfl⟩
theorem dX3_shortenTo_31 : nx cX3_shortenTo 31 (.aload_n 0) 1 32 := ⟨by decide +kernel, rfl⟩
theorem dX3_shortenTo_32 : nx cX3_shortenTo 32 (.getfield 9) 3 35 := ⟨by decide +kernel, rfl⟩
theorem dX3_shortenTo_35 : nx cX3_shortenTo 35 (.iload_n 2) 1 36 := ⟨by decide +kernel, rfl⟩
theorem dX3_shortenTo_36 : nx cX3_shortenTo 36 (.iaload) 1 37 := ⟨by decide +kernel, rfl⟩
theorem dX3_shortenTo_37 : nx cX3_shortenTo 37 (.iload_n 3) 1 38 := ⟨by decide +kernel, rfl⟩
theorem dX3_shortenTo_38 : nx cX3_shortenTo 38 (.iadd) 1 39 := ⟨by decide +kernel, rfl⟩
theorem dX3_shortenTo_39 : nx cX3_shortenTo 39 (.invokestatic 66) 3 42 := ⟨by decide +kernel, rfl⟩
theorem dX3_shortenTo_42 : nx cX3_shortenTo 42 (.iastore) 1 43 := ⟨by decide +kernel, rfl⟩
theorem dX3_shortenTo_43 : nx cX3_shortenTo 43 (.return_) 1 44 := ⟨by decide +kernel, rfl⟩
theorem dX4_init_0 : nx cX4_init 0 (.aload_n 0) 1 1 := ⟨by decide +kernel, rfl⟩
theorem dX4_init_1 : nx cX4_init 1 (.invokespecial 3) 3 4 := ⟨by decide +kernel, rfl⟩
theorem dX4_init_4 : nx cX4_init 4 (.aload_n 0) 1 5 := ⟨by decide +kernel, rfl⟩
theorem dX4_init_5 : nx cX4_init 5 (.bipush 6) 2 7 := ⟨by decide +kernel, rfl⟩
theorem dX4_init_7 : nx cX4_init 7 (.anewarray 9) 3 10 := ⟨by decide +kernel, rfl⟩
theorem dX4_init_10 : nx cX4_init 10 (.putfield 11) 3 13 := ⟨by decide +kernel, rfl⟩
theorem dX4_init_13 : nx cX4_init 13 (.iconst 0) 1 14 := ⟨by decide +kernel, rfl⟩
theorem dX4_init_14 : nx cX4_init 14 (.istore_n 1) 1 15 := ⟨by decide +kernel, rfl⟩
theorem dX4_init_15 : nx cX4_init 15 (.iload_n 1) 1 16 := ⟨by decide +kernel, rfl⟩
theorem dX4_init_16 : nx cX4_init 16 (.iconst 5) 1 17 := ⟨by decide +kernel, rfl⟩
theorem dX4_init_17 : bx cX4_init 17 (.if_icmp .gt 22) 22 39 20 := ⟨by decide +kernel, by decide, rfl⟩
theorem dX4_init_20 : nx cX4_init 20 (.aload_n 0) 1 21 := ⟨by decide +kernel, rfl⟩
theorem dX4_init_21 : nx cX4_init 21 (.getfield 11) 3 24 := ⟨by decide +kernel, rfl⟩
theorem dX4_init_24 : nx cX4_init 24 (.iload_n 1) 1 25 := ⟨by decide +kernel, rfl⟩
theorem dX4_init_25 : nx cX4_init 25 (.new 9) 3 28 := ⟨by decide +kernel, rfl⟩
theorem dX4_init_28 : nx cX4_init 28 (.dup) 1 29 := ⟨by decide +kernel, rfl⟩
theorem dX4_init_29 : nx cX4_init 29 (.invokespecial 17) 3 32 := ⟨by decide +kernel, rfl⟩
theorem dX4_init_32 : nx cX4_init 32 (.aastore) 1 33 := ⟨by decide +kernel, rfl⟩
theorem dX4_init_33 : nx cX4_init 33 (.iinc 1 1) 3 36 := ⟨by decide +kernel, rfl⟩
theorem dX4_init_36 : bx cX4_init 36 (.goto (-21)) (-21) 15 39 := ⟨by decide +kernel, by decide, rfl⟩
theorem dX4_init_39 : nx cX4_init 39 (.aload_n 0) 1 40 := ⟨by decide +kernel, rfl⟩
theorem dX4_init_40 : nx cX4_init 40 (.iconst 5) 1 41 := ⟨by decide +kernel, rfl⟩
theorem dX4_init_41 : nx cX4_init 41 (.newarray .int) 2 43 := ⟨by decide +kernel, rfl⟩
theorem dX4_init_43 : nx cX4_init 43 (.putfield 18) 3 46 := ⟨by decide +kernel, rfl⟩
theorem dX4_init_46 : nx cX4_init 46 (.aload_n 0) 1 47 := ⟨by decide +kernel, rfl⟩
theorem dX4_init_47 : nx cX4_init 47 (.iconst 5) 1 48 := ⟨by decide +kernel, rfl⟩
theorem dX4_init_48 : nx cX4_init 48 (.newarray .int) 2 50 := ⟨by decide +kernel, rfl⟩
theorem dX4_init_50 : nx cX4_init 50 (.putfield 22) 3 53 := ⟨by decide +kernel, rfl⟩
theorem dX4_init_53 : nx cX4_init 53 (.return_) 1 54 := ⟨by decide +kernel, rfl⟩
theorem dX4_look_0 : nx cX4_look 0 (.aload_n 0) 1 1 := ⟨by decide +kernel, rfl⟩
theorem dX4_look_1 : nx cX4_look 1 (.aload_n 1) 1 2 := ⟨by decide +kernel, rfl⟩
theorem dX4_look_2 : nx cX4_look 2 (.putfield 25) 3 5 := ⟨by decide +kernel, rfl⟩
theorem dX4_look_5 : nx cX4_look 5 (.aload_n 0) 1 6 := ⟨by decide +kernel, rfl⟩
theorem dX4_look_6 : nx cX4_look 6 (.iload_n 2) 1 7 := ⟨by decide +kernel, rfl⟩
theorem dX4_look_7 : nx cX4_look 7 (.putfield 29) 3 10 := ⟨by decide +kernel, rfl⟩
theorem dX4_look_10 : nx cX4_look 10 (.aload_n 0) 1 11 := ⟨by decide +kernel, rfl⟩
theorem dX4_look_11 : nx cX4_look 11 (.iload_n 3) 1 12 := ⟨by decide +kernel, rfl⟩
theorem dX4_look_12 : nx cX4_look 12 (.iconst 5) 1 13 := ⟨by decide +kernel, rfl⟩
theorem dX4_look_13 : nx cX4_look 13 (.invokestatic 33) 3 16 := ⟨by decide +kernel, rfl⟩
theorem dX4_look_16 : nx cX4_look 16 (.putfield 39) 3 19 := ⟨by decide +kernel, rfl⟩
theorem dX4_look_19 : nx cX4_look 19 (.aload_n 0) 1 20 := ⟨by decide +kernel, rfl⟩
theorem dX4_look_20 : nx cX4_look 20 (.iload 4) 2 22 := ⟨by decide +kernel, rfl⟩
theorem dX4_look_22 : nx cX4_look 22 (.putfield 42) 3 25 := ⟨by decide +kernel, rfl⟩
theorem dX4_look_25 : nx cX4_look 25 (.aload_n 0) 1 26 := ⟨by decide +kernel, rfl⟩
theorem dX4_look_26 : nx cX4_look 26 (.aload_n 0) 1 27 := ⟨by decide +kernel, rfl⟩
theorem dX4_look_27 : nx cX4_look 27 (.getfield 25) 3 30 := ⟨by decide +kernel, rfl⟩
theorem dX4_look_30 : nx cX4_look 30 (.iconst 1) 1 31 := ⟨by decide +kernel, rfl⟩
theorem dX4_look_31 : nx cX4_look 31 (.invokevirtual 45) 3 34 := ⟨by decide +kernel, rfl⟩
theorem dX4_look_34 : nx cX4_look 34 (.putfield 51) 3 37 := ⟨by decide +kernel, rfl⟩
theorem dX4_look_37 : nx cX4_look 37 (.aload_n 0) 1 38 := ⟨by decide +kernel, rfl⟩
theorem dX4_look_38 : nx cX4_look 38 (.aload_n 0) 1 39 := ⟨by decide +kernel, rfl⟩
theorem dX4_look_39 : nx cX4_look 39 (.getfield 25) 3 42 := ⟨by decide +kernel, rfl⟩
theorem dX4_look_42 : nx cX4_look 42 (.iconst 0) 1 43 := ⟨by decide +kernel, rfl⟩
theorem dX4_look_43 : nx cX4_look 43 (.invokevirtual 45) 3 46 := ⟨by decide +kernel, rfl⟩
theorem dX4_look_46 : nx cX4_look 46 (.putfield 54) 3 49 := ⟨by decide +kernel, rfl⟩
theorem dX4_look_49 : nx cX4_look 49 (.aload_n 0) 1 50 := ⟨by decide +kernel, rfl⟩
theorem dX4_look_50 : nx cX4_look 50 (.aload_n 0) 1 51 := ⟨by decide +kernel, rfl⟩
theorem dX4_look_51 : nx cX4_look 51 (.getfield 25) 3 54 := ⟨by decide +kernel, rfl⟩
theorem dX4_look_54 : nx cX4_look 54 (.invokevirtual 57) 3 57 := ⟨by decide +kernel, rfl⟩
theorem dX4_look_57 : nx cX4_look 57 (.putfield 61) 3 60 := ⟨by decide +kernel, rfl⟩
theorem dX4_look_60 : nx cX4_look 60 (.aload_n 0) 1 61 := ⟨by decide +kernel, rfl⟩
theorem dX4_look_61 : nx cX4_look 61 (.iconst 0) 1 62 := ⟨by decide +kernel, rfl⟩
theorem dX4_look_62 : nx cX4_look 62 (.putfield 64) 3 65 := ⟨by decide +kernel, rfl⟩
theorem dX4_look_65 : nx cX4_look 65 (.aload_n 0) 1 66 := ⟨by decide +kernel, rfl⟩
theorem dX4_look_66 : nx cX4_look 66 (.iconst 0) 1 67 := ⟨by decide +kernel, rfl⟩
theorem dX4_look_67 : nx cX4_look 67 (.putfield 67) 3 70 := ⟨by decide +kernel, rfl⟩
theorem dX4_look_70 : nx cX4_look 70 (.aload_n 0) 1 71 := ⟨by decide +kernel, rfl⟩
theorem dX4_look_71 : nx cX4_look 71 (.iconst 0) 1 72 := ⟨by decide +kernel, rfl⟩
theorem dX4_look_72 : nx cX4_look 72 (.putfield 70) 3 75 := ⟨by decide +kernel, rfl⟩
theorem dX4_look_75 : nx cX4_look 75 (.aload_n 0) 1 76 := ⟨by decide +kernel, rfl⟩
theorem dX4_look_76 : nx cX4_look 76 (.getfield 11) 3 79 := ⟨by decide +kernel, rfl⟩
theorem dX4_look_79 : nx cX4_look 79 (.iconst 0) 1 80 := ⟨by decide +kernel, rfl⟩
theorem dX4_look_80 : nx cX4_look 80 (.aaload) 1 81 := ⟨by decide +kernel, rfl⟩
theorem dX4_look_81 : nx cX4_look 81 (.invokevirtual 73) 3 84 := ⟨by decide +kernel, rfl⟩
theorem dX4_look_84 : nx cX4_look 84 (.aload_n 0) 1 85 := ⟨by decide +kernel, rfl⟩
theorem dX4_look_85 : nx cX4_look 85 (.iconst 0) 1 86 := ⟨by decide +kernel, rfl⟩
theorem dX4_look_86 : nx cX4_look 86 (.invokevirtual 76) 3 89 := ⟨by decide +kernel, rfl⟩
theorem dX4_look_89 : nx cX4_look 89 (.return_) 1 90 := ⟨by decide +kernel, rfl⟩
theorem dX4_stretchFound_0 : nx cX4_stretchFound 0 (.iload_n 1) 1 1 := ⟨by decide +kernel, rfl⟩
theorem dX4_stretchFound_1 : bx cX4_stretchFound 1 (.ifCond .lt 29) 29 30 4 := ⟨by decide +kernel, by decide, rfl⟩
theorem dX4_stretchFound_4 : nx cX4_stretchFound 4 (.iload_n 1) 1 5 := ⟨by decide +kernel, rfl⟩
theorem dX4_stretchFound_5 : nx cX4_stretchFound 5 (.aload_n 0) 1 6 := ⟨by decide +kernel, rfl⟩
theorem dX4_stretchFound_6 : nx cX4_stretchFound 6 (.getfield 70) 3 9 := ⟨by decide +kernel, rfl⟩
theorem dX4_stretchFound_9 : bx cX4_stretchFound 9 (.if_icmp .ge 21) 21 30 12 := ⟨by decide +kernel, by decide, rfl⟩
theorem dX4_stretchFound_12 : nx cX4_stretchFound 12 (.iload_n 1) 1 13 := ⟨by decide +kernel, rfl⟩
theorem dX4_stretchFound_13 : nx cX4_stretchFound 13 (.aload_n 0) 1 14 := ⟨by decide +kernel, rfl⟩
theorem dX4_stretchFound_14 : nx cX4_stretchFound 14 (.getfield 22) 3 17 := ⟨by decide +kernel, rfl⟩
theorem dX4_stretchFound_17 : nx cX4_stretchFound 17 (.arraylength) 1 18 := ⟨by decide +kernel, rfl⟩
theorem dX4_stretchFound_18 : bx cX4_stretchFound 18 (.if_icmp .ge 12) 12 30 21 := ⟨by decide +kernel, by decide, rfl⟩
theorem dX4_stretchFound_21 : nx cX4_stretchFound 21 (.aload_n 0) 1 22 := ⟨by decide +kernel, rfl⟩
theorem dX4_stretchFound_22 : nx cX4_stretchFound 22 (.getfield 22) 3 25 := ⟨by decide +kernel, rfl⟩
theorem dX4_stretchFound_25 : nx cX4_stretchFound 25 (.iload_n 1) 1 26 := ⟨by decide +kernel, rfl⟩
theorem dX4_stretchFound_26 : nx cX4_stretchFound 26 (.iaload) 1 27 := ⟨by decide +kernel, rfl⟩
theorem dX4_stretchFound_27 : bx cX4_stretchFound 27 (.goto 5) 5 32 30 := ⟨by decide +kernel, by decide, rfl⟩
theorem dX4_stretchFound_30 : nx cX4_stretchFound 30 (.bipush (-9)) 2 32 := ⟨by decide +kernel, rfl⟩
theorem dX4_stretchFound_32 : nx cX4_stretchFound 32 (.ireturn) 1 33 := ⟨by decide +kernel, rfl⟩
theorem dX4_goOn_0 : nx cX4_goOn 0 (.iload_n 1) 1 1 := ⟨by decide +kernel, rfl⟩
theorem dX4_goOn_1 : bx cX4_goOn 1 (.ifCond .lt 16) 16 17 4 := ⟨by decide +kernel, by decide, rfl⟩
theorem dX4_goOn_4 : nx cX4_goOn 4 (.iload_n 1) 1 5 := ⟨by decide +kernel, rfl⟩
theorem dX4_goOn_5 : nx cX4_goOn 5 (.aload_n 0) 1 6 := ⟨by decide +kernel, rfl⟩
theorem dX4_goOn_6 : nx cX4_goOn 6 (.getfield 39) 3 9 := ⟨by decide +kernel, rfl⟩
theorem dX4_goOn_9 : bx cX4_goOn 9 (.if_icmp .ge 8) 8 17 12 := ⟨by decide +kernel, by decide, rfl⟩
theorem dX4_goOn_12 : nx cX4_goOn 12 (.iload_n 1) 1 13 := ⟨by decide +kernel, rfl⟩
theorem dX4_goOn_13 : nx cX4_goOn 13 (.iconst 5) 1 14 := ⟨by decide +kernel, rfl⟩
theorem dX4_goOn_14 : bx cX4_goOn 14 (.if_icmp .lt 4) 4 18 17 := ⟨by decide +kernel, by decide, rfl⟩
theorem dX4_goOn_17 : nx cX4_goOn 17 (.return_) 1 18 := ⟨by decide +kernel, rfl⟩
theorem dX4_goOn_18 : nx cX4_goOn 18 (.aload_n 0) 1 19 := ⟨by decide +kernel, rfl⟩
theorem dX4_goOn_19 : nx cX4_goOn 19 (.getfield 11) 3 22 := ⟨by decide +kernel, rfl⟩
theorem dX4_goOn_22 : nx cX4_goOn 22 (.iload_n 1) 1 23 := ⟨by decide +kernel, rfl⟩
theorem dX4_goOn_23 : nx cX4_goOn 23 (.aaload) 1 24 := ⟨by decide +kernel, rfl⟩
theorem dX4_goOn_24 : nx cX4_goOn 24 (.astore_n 2) 1 25 := ⟨by decide +kernel, rfl⟩
theorem dX4_goOn_25 : nx cX4_goOn 25 (.aload_n 0) 1 26 := ⟨by decide +kernel, rfl⟩
theorem dX4_goOn_26 : nx cX4_goOn 26 (.getfield 11) 3 29 := ⟨by decide +kernel, rfl⟩
theorem dX4_goOn_29 : nx cX4_goOn 29 (.iload_n 1) 1 30 := ⟨by decide +kernel, rfl⟩
theorem dX4_goOn_30 : nx cX4_goOn 30 (.iconst 1) 1 31 := ⟨by decide +kernel, rfl⟩
theorem dX4_goOn_31 : nx cX4_goOn 31 (.iadd) 1 32 := ⟨by decide +kernel, rfl⟩
theorem dX4_goOn_32 : nx cX4_goOn 32 (.aaload) 1 33 := ⟨by decide +kernel, rfl⟩
theorem dX4_goOn_33 : nx cX4_goOn 33 (.astore_n 3) 1 34 := ⟨by decide +kernel, rfl⟩
theorem dX4_goOn_34 : nx cX4_goOn 34 (.iconst 0) 1 35 := ⟨by decide +kernel, rfl⟩
theorem dX4_goOn_35 : nx cX4_goOn 35 (.istore 4) 2 37 := ⟨by decide +kernel, rfl⟩
theorem dX4_goOn_37 : nx cX4_goOn 37 (.iload 4) 2 39 := ⟨by decide +kernel, rfl⟩
theorem dX4_goOn_39 : nx cX4_goOn 39 (.aload_n 0) 1 40 := ⟨by decide +kernel, rfl⟩
theorem dX4_goOn_40 : nx cX4_goOn 40 (.getfield 25) 3 43 := ⟨by decide +kernel, rfl⟩
theorem dX4_goOn_43 : nx cX4_goOn 43 (.getfield 80) 3 46 := ⟨by decide +kernel, rfl⟩
theorem dX4_goOn_46 : bx cX4_goOn 46 (.if_icmp .ge 78) 78 124 49 := ⟨by decide +kernel, by decide, rfl⟩
theorem dX4_goOn_49 : nx cX4_goOn 49 (.aload_n 0) 1 50 := ⟨by decide +kernel, rfl⟩
theorem dX4_goOn_50 : nx cX4_goOn 50 (.getfield 25) 3 53 := ⟨by decide +kernel, rfl⟩
theorem dX4_goOn_53 : nx cX4_goOn 53 (.iload 4) 2 55 := ⟨by decide +kernel, rfl⟩
theorem dX4_goOn_55 : nx cX4_goOn 55 (.invokevirtual 83) 3 58 := ⟨by decide +kernel, rfl⟩
theorem dX4_goOn_58 : nx cX4_goOn 58 (.astore 5) 2 60 := ⟨by decide +kernel, rfl⟩
theorem dX4_goOn_60 : nx cX4_goOn 60 (.aload 5) 2 62 := ⟨by decide +kernel, rfl⟩
theorem dX4_goOn_62 : bx cX4_goOn 62 (.ifnull 56) 56 118 65 := ⟨by decide +kernel, by decide, rfl⟩
theorem dX4_goOn_65 : nx cX4_goOn 65 (.aload 5) 2 67 := ⟨by decide +kernel, rfl⟩
theorem dX4_goOn_67 : nx cX4_goOn 67 (.aload_n 2) 1 68 := ⟨by decide +kernel, rfl⟩
theorem dX4_goOn_68 : nx cX4_goOn 68 (.getfield 87) 3 71 := ⟨by decide +kernel, rfl⟩
theorem dX4_goOn_71 : nx cX4_goOn 71 (.invokevirtual 90) 3 74 := ⟨by decide +kernel, rfl⟩
theorem dX4_goOn_74 : bx cX4_goOn 74 (.ifCond .eq 44) 44 118 77 := ⟨by decide +kernel, by decide, rfl⟩
theorem dX4_goOn_77 : nx cX4_goOn 77 (.aload_n 0) 1 78 := ⟨by decide +kernel, rfl⟩
theorem dX4_goOn_78 : nx cX4_goOn 78 (.getfield 18) 3 81 := ⟨by decide +kernel, rfl⟩
theorem dX4_goOn_81 : nx cX4_goOn 81 (.iload_n 1) 1 82 := ⟨by decide +kernel, rfl⟩
theorem dX4_goOn_82 : nx cX4_goOn 82 (.iload 4) 2 84 := ⟨by decide +kernel, rfl⟩
theorem dX4_goOn_84 : nx cX4_goOn 84 (.iastore) 1 85 := ⟨by decide +kernel, rfl⟩
theorem dX4_goOn_85 : nx cX4_goOn 85 (.aload_n 3) 1 86 := ⟨by decide +kernel, rfl⟩
theorem dX4_goOn_86 : nx cX4_goOn 86 (.aload_n 2) 1 87 := ⟨by decide +kernel, rfl⟩
theorem dX4_goOn_87 : nx cX4_goOn 87 (.aload 5) 2 89 := ⟨by decide +kernel, rfl⟩
theorem dX4_goOn_89 : nx cX4_goOn 89 (.invokevirtual 96) 3 92 := ⟨by decide +kernel, rfl⟩
theorem dX4_goOn_92 : nx cX4_goOn 92 (.aload_n 3) 1 93 := ⟨by decide +kernel, rfl⟩
theorem dX4_goOn_93 : nx cX4_goOn 93 (.getfield 87) 3 96 := ⟨by decide +kernel, rfl⟩
theorem dX4_goOn_96 : nx cX4_goOn 96 (.aload_n 0) 1 97 := ⟨by decide +kernel, rfl⟩
theorem dX4_goOn_97 : nx cX4_goOn 97 (.getfield 25) 3 100 := ⟨by decide +kernel, rfl⟩
theorem dX4_goOn_100 : nx cX4_goOn 100 (.invokevirtual 100) 3 103 := ⟨by decide +kernel, rfl⟩
theorem dX4_goOn_103 : bx cX4_goOn 103 (.if_icmp .ne 8) 8 111 106 := ⟨by decide +kernel, by decide, rfl⟩
theorem dX4_goOn_106 : nx cX4_goOn 106 (.aload_n 0) 1 107 := ⟨by decide +kernel, rfl⟩
theorem dX4_goOn_107 : nx cX4_goOn 107 (.aload_n 3) 1 108 := ⟨by decide +kernel, rfl⟩
theorem dX4_goOn_108 : nx cX4_goOn 108 (.invokevirtual 103) 3 111 := ⟨by decide +kernel, rfl⟩
theorem dX4_goOn_111 : nx cX4_goOn 111 (.aload_n 0) 1 112 := ⟨by decide +kernel, rfl⟩
theorem dX4_goOn_112 : nx cX4_goOn 112 (.iload_n 1) 1 113 := ⟨by decide +kernel, rfl⟩
theorem dX4_goOn_113 : nx cX4_goOn 113 (.iconst 1) 1 114 := ⟨by decide +kernel, rfl⟩
theorem dX4_goOn_114 : nx cX4_goOn 114 (.iadd) 1 115 := ⟨by decide +kernel, rfl⟩
theorem dX4_goOn_115 : nx cX4_goOn 115 (.invokevirtual 76) 3 118 := ⟨by decide +kernel, rfl⟩
theorem dX4_goOn_118 : nx cX4_goOn 118 (.iinc 4 1) 3 121 := ⟨by decide +kernel, rfl⟩
theorem dX4_goOn_121 : bx cX4_goOn 121 (.goto (-84)) (-84) 37 124 := ⟨by decide +kernel, by decide, rfl⟩
theorem dX4_goOn_124 : nx cX4_goOn 124 (.return_) 1 125 := ⟨by decide +kernel, rfl⟩
theorem dX4_weigh_0 : nx cX4_weigh 0 (.aload_n 0) 1 1 := ⟨by decide +kernel, rfl⟩
theorem dX4_weigh_1 : nx cX4_weigh 1 (.getfield 29) 3 4 := ⟨by decide +kernel, rfl⟩
theorem dX4_weigh_4 : nx cX4_weigh 4 (.iconst 2) 1 5 := ⟨by decide +kernel, rfl⟩
theorem dX4_weigh_5 : bx cX4_weigh 5 (.if_icmp .ne 12) 12 17 8 := ⟨by decide +kernel, by decide, rfl⟩
theorem dX4_weigh_8 : nx cX4_weigh 8 (.aload_n 0) 1 9 := ⟨by decide +kernel, rfl⟩
theorem dX4_weigh_9 : nx cX4_weigh 9 (.aload_n 1) 1 10 := ⟨by decide +kernel, rfl⟩
theorem dX4_weigh_10 : nx cX4_weigh 10 (.invokevirtual 107) 3 13 := ⟨by decide +kernel, rfl⟩
theorem dX4_weigh_13 : bx cX4_weigh 13 (.ifCond .ne 4) 4 17 16 := ⟨by decide +kernel, by decide, rfl⟩
theorem dX4_weigh_16 : nx cX4_weigh 16 (.return_) 1 17 := ⟨by decide +kernel, rfl⟩
theorem dX4_weigh_17 : nx cX4_weigh 17 (.aload_n 0) 1 18 := ⟨by decide +kernel, rfl⟩
theorem dX4_weigh_18 : nx cX4_weigh 18 (.aload_n 1) 1 19 := ⟨by decide +kernel, rfl⟩
theorem dX4_weigh_19 : nx cX4_weigh 19 (.invokevirtual 111) 3 22 := ⟨by decide +kernel, rfl⟩
theorem dX4_weigh_22 : nx cX4_weigh 22 (.istore_n 2) 1 23 := ⟨by decide +kernel, rfl⟩
theorem dX4_weigh_23 : nx cX4_weigh 23 (.aload_n 0) 1 24 := ⟨by decide +kernel, rfl⟩
theorem dX4_weigh_24 : nx cX4_weigh 24 (.getfield 64) 3 27 := ⟨by decide +kernel, rfl⟩
theorem dX4_weigh_27 : bx cX4_weigh 27 (.ifCond .eq 30) 30 57 30 := ⟨by decide +kernel, by decide, rfl⟩
theorem dX4_weigh_30 : nx cX4_weigh 30 (.iload_n 2) 1 31 := ⟨by decide +kernel, rfl⟩
theorem dX4_weigh_31 : nx cX4_weigh 31 (.aload_n 0) 1 32 := ⟨by decide +kernel, rfl⟩
theorem dX4_weigh_32 : nx cX4_weigh 32 (.getfield 67) 3 35 := ⟨by decide +kernel, rfl⟩
theorem dX4_weigh_35 : bx cX4_weigh 35 (.if_icmp .gt 22) 22 57 38 := ⟨by decide +kernel, by decide, rfl⟩
theorem dX4_weigh_38 : nx cX4_weigh 38 (.iload_n 2) 1 39 := ⟨by decide +kernel, rfl⟩
theorem dX4_weigh_39 : nx cX4_weigh 39 (.aload_n 0) 1 40 := ⟨by decide +kernel, rfl⟩
theorem dX4_weigh_40 : nx cX4_weigh 40 (.getfield 67) 3 43 := ⟨by decide +kernel, rfl⟩
theorem dX4_weigh_43 : bx cX4_weigh 43 (.if_icmp .ne 48) 48 91 46 := ⟨by decide +kernel, by decide, rfl⟩
theorem dX4_weigh_46 : nx cX4_weigh 46 (.aload_n 1) 1 47 := ⟨by decide +kernel, rfl⟩
theorem dX4_weigh_47 : nx cX4_weigh 47 (.getfield 115) 3 50 := ⟨by decide +kernel, rfl⟩
theorem dX4_weigh_50 : nx cX4_weigh 50 (.aload_n 0) 1 51 := ⟨by decide +kernel, rfl⟩
theorem dX4_weigh_51 : nx cX4_weigh 51 (.getfield 70) 3 54 := ⟨by decide +kernel, rfl⟩
theorem dX4_weigh_54 : bx cX4_weigh 54 (.if_icmp .ge 37) 37 91 57 := ⟨by decide +kernel, by decide, rfl⟩
theorem dX4_weigh_57 : nx cX4_weigh 57 (.aload_n 0) 1 58 := ⟨by decide +kernel, rfl⟩
theorem dX4_weigh_58 : nx cX4_weigh 58 (.iload_n 2) 1 59 := ⟨by decide +kernel, rfl⟩
theorem dX4_weigh_59 : nx cX4_weigh 59 (.putfield 67) 3 62 := ⟨by decide +kernel, rfl⟩
theorem dX4_weigh_62 : nx cX4_weigh 62 (.aload_n 0) 1 63 := ⟨by decide +kernel, rfl⟩
theorem dX4_weigh_63 : nx cX4_weigh 63 (.aload_n 1) 1 64 := ⟨by decide +kernel, rfl⟩
theorem dX4_weigh_64 : nx cX4_weigh 64 (.getfield 115) 3 67 := ⟨by decide +kernel, rfl⟩
theorem dX4_weigh_67 : nx cX4_weigh 67 (.iconst 5) 1 68 := ⟨by decide +kernel, rfl⟩
theorem dX4_weigh_68 : nx cX4_weigh 68 (.invokestatic 33) 3 71 := ⟨by decide +kernel, rfl⟩
theorem dX4_weigh_71 : nx cX4_weigh 71 (.putfield 70) 3 74 := ⟨by decide +kernel, rfl⟩
theorem dX4_weigh_74 : nx cX4_weigh 74 (.aload_n 0) 1 75 := ⟨by decide +kernel, rfl⟩
theorem dX4_weigh_75 : nx cX4_weigh 75 (.getfield 18) 3 78 := ⟨by decide +kernel, rfl⟩
theorem dX4_weigh_78 : nx cX4_weigh 78 (.iconst 0) 1 79 := ⟨by decide +kernel, rfl⟩
theorem dX4_weigh_79 : nx cX4_weigh 79 (.aload_n 0) 1 80 := ⟨by decide +kernel, rfl⟩
theorem dX4_weigh_80 : nx cX4_weigh 80 (.getfield 22) 3 83 := ⟨by decide +kernel, rfl⟩
theorem dX4_weigh_83 : nx cX4_weigh 83 (.iconst 0) 1 84 := ⟨by decide +kernel, rfl⟩
theorem dX4_weigh_84 : nx cX4_weigh 84 (.aload_n 0) 1 85 := ⟨by decide +kernel, rfl⟩
theorem dX4_weigh_85 : nx cX4_weigh 85 (.getfield 70) 3 88 := ⟨by decide +kernel, rfl⟩
theorem dX4_weigh_88 : nx cX4_weigh 88 (.invokestatic 118) 3 91 := ⟨by decide +kernel, rfl⟩
theorem dX4_weigh_91 : nx cX4_weigh 91 (.aload_n 0) 1 92 := ⟨by decide +kernel, rfl⟩
theorem dX4_weigh_92 : nx cX4_weigh 92 (.dup) 1 93 := ⟨by decide +kernel, rfl⟩
theorem dX4_weigh_93 : nx cX4_weigh 93 (.getfield 64) 3 96 := ⟨by decide +kernel, rfl⟩
theorem dX4_weigh_96 : nx cX4_weigh 96 (.iconst 1) 1 97 := ⟨by decide +kernel, rfl⟩
theorem dX4_weigh_97 : nx cX4_weigh 97 (.iadd) 1 98 := ⟨by decide +kernel, rfl⟩
theorem dX4_weigh_98 : nx cX4_weigh 98 (.putfield 64) 3 101 := ⟨by decide +kernel, rfl⟩
theorem dX4_weigh_101 : nx cX4_weigh 101 (.return_) 1 102 := ⟨by decide +kernel, rfl⟩
theorem dX4_isTrail_0 : nx cX4_isTrail 0 (.aload_n 1) 1 1 := ⟨by decide +kernel, rfl⟩
theorem dX4_isTrail_1 : nx cX4_isTrail 1 (.getfield 124) 3 4 := ⟨by decide +kernel, rfl⟩
theorem dX4_isTrail_4 : nx cX4_isTrail 4 (.aload_n 0) 1 5 := ⟨by decide +kernel, rfl⟩
theorem dX4_isTrail_5 : nx cX4_isTrail 5 (.getfield 61) 3 8 := ⟨by decide +kernel, rfl⟩
theorem dX4_isTrail_8 : nx cX4_isTrail 8 (.iand) 1 9 := ⟨by decide +kernel, rfl⟩
theorem dX4_isTrail_9 : nx cX4_isTrail 9 (.istore_n 2) 1 10 := ⟨by decide +kernel, rfl⟩
theorem dX4_isTrail_10 : nx cX4_isTrail 10 (.aload_n 1) 1 11 := ⟨by decide +kernel, rfl⟩
theorem dX4_isTrail_11 : nx cX4_isTrail 11 (.getfield 127) 3 14 := ⟨by decide +kernel, rfl⟩
theorem dX4_isTrail_14 : nx cX4_isTrail 14 (.aload_n 0) 1 15 := ⟨by decide +kernel, rfl⟩
theorem dX4_isTrail_15 : nx cX4_isTrail 15 (.getfield 42) 3 18 := ⟨by decide +kernel, rfl⟩
theorem dX4_isTrail_18 : bx cX4_isTrail 18 (.if_icmp .gt 29) 29 47 21 := ⟨by decide +kernel, by decide, rfl⟩
theorem dX4_isTrail_21 : nx cX4_isTrail 21 (.iload_n 2) 1 22 := ⟨by decide +kernel, rfl⟩
theorem dX4_isTrail_22 : nx cX4_isTrail 22 (.aload_n 0) 1 23 := ⟨by decide +kernel, rfl⟩
theorem dX4_isTrail_23 : nx cX4_isTrail 23 (.getfield 51) 3 26 := ⟨by decide +kernel, rfl⟩
theorem dX4_isTrail_26 : nx cX4_isTrail 26 (.iand) 1 27 := ⟨by decide +kernel, rfl⟩
theorem dX4_isTrail_27 : nx cX4_isTrail 27 (.aload_n 0) 1 28 := ⟨by decide +kernel, rfl⟩
theorem dX4_isTrail_28 : nx cX4_isTrail 28 (.getfield 51) 3 31 := ⟨by decide +kernel, rfl⟩
theorem dX4_isTrail_31 : bx cX4_isTrail 31 (.if_icmp .ne 16) 16 47 34 := ⟨by decide +kernel, by decide, rfl⟩
theorem dX4_isTrail_34 : nx cX4_isTrail 34 (.iload_n 2) 1 35 := ⟨by decide +kernel, rfl⟩
theorem dX4_isTrail_35 : nx cX4_isTrail 35 (.aload_n 0) 1 36 := ⟨by decide +kernel, rfl⟩
theorem dX4_isTrail_36 : nx cX4_isTrail 36 (.getfield 54) 3 39 := ⟨by decide +kernel, rfl⟩
theorem dX4_isTrail_39 : nx cX4_isTrail 39 (.iand) 1 40 := ⟨by decide +kernel, rfl⟩
theorem dX4_isTrail_40 : bx cX4_isTrail 40 (.ifCond .ne 7) 7 47 43 := ⟨by decide +kernel, by decide, rfl⟩
theorem dX4_isTrail_43 : nx cX4_isTrail 43 (.iconst 1) 1 44 := ⟨by decide +kernel, rfl⟩
theorem dX4_isTrail_44 : bx cX4_isTrail 44 (.goto 4) 4 48 47 := ⟨by decide +kernel, by decide, rfl⟩
theorem dX4_isTrail_47 : nx cX4_isTrail 47 (.iconst 0) 1 48 := ⟨by decide +kernel, rfl⟩
theorem dX4_isTrail_48 : nx cX4_isTrail 48 (.ireturn) 1 49 := ⟨by decide +kernel, rfl⟩
theorem dX4_scoreOf_0 : nx cX4_scoreOf 0 (.aload_n 0) 1 1 := ⟨by decide +kernel, rfl⟩
theorem dX4_scoreOf_1 : nx cX4_scoreOf 1 (.getfield 29) 3 4 := ⟨by decide +kernel, rfl⟩
theorem dX4_scoreOf_4 : nx cX4_scoreOf 4 (.lookupswitch 56 #[(0, 28), (1, 37)]) 28 32 := ⟨by decide +kernel, rfl⟩
theorem dX4_scoreOf_32 : nx cX4_scoreOf 32 (.aload_n 0) 1 33 := ⟨by decide +kernel, rfl⟩
theorem dX4_scoreOf_33 : nx cX4_scoreOf 33 (.getfield 25) 3 36 := ⟨by decide +kernel, rfl⟩
theorem dX4_scoreOf_36 : nx cX4_scoreOf 36 (.aload_n 1) 1 37 := ⟨by decide +kernel, rfl⟩
theorem dX4_scoreOf_37 : nx cX4_scoreOf 37 (.invokevirtual 128) 3 40 := ⟨by decide +kernel, rfl⟩
theorem dX4_scoreOf_40 : nx cX4_scoreOf 40 (.ireturn) 1 41 := ⟨by decide +kernel, rfl⟩
theorem dX4_scoreOf_41 : nx cX4_scoreOf 41 (.aload_n 1) 1 42 := ⟨by decide +kernel, rfl⟩
theorem dX4_scoreOf_42 : nx cX4_scoreOf 42 (.getfield 131) 3 45 := ⟨by decide +kernel, rfl⟩
theorem dX4_scoreOf_45 : nx cX4_scoreOf 45 (.ldc2_w 135) 3 48 := ⟨by decide +kernel, rfl⟩
theorem dX4_scoreOf_48 : nx cX4_scoreOf 48 (.iconst 5) 1 49 := ⟨by decide +kernel, rfl⟩
theorem dX4_scoreOf_49 : nx cX4_scoreOf 49 (.aload_n 1) 1 50 := ⟨by decide +kernel, rfl⟩
theorem dX4_scoreOf_50 : nx cX4_scoreOf 50 (.getfield 115) 3 53 := ⟨by decide +kernel, rfl⟩
theorem dX4_scoreOf_53 : nx cX4_scoreOf 53 (.isub) 1 54 := ⟨by decide +kernel, rfl⟩
theorem dX4_scoreOf_54 : nx cX4_scoreOf 54 (.invokestatic 137) 3 57 := ⟨by decide +kernel, rfl⟩
theorem dX4_scoreOf_57 : nx cX4_scoreOf 57 (.lmul) 1 58 := ⟨by decide +kernel, rfl⟩
theorem dX4_scoreOf_58 : nx cX4_scoreOf 58 (.l2i) 1 59 := ⟨by decide +kernel, rfl⟩
theorem dX4_scoreOf_59 : nx cX4_scoreOf 59 (.ireturn) 1 60 := ⟨by decide +kernel, rfl⟩
theorem dX4_scoreOf_60 : nx cX4_scoreOf 60 (.iconst 0) 1 61 := ⟨by decide +kernel, rfl⟩
theorem dX4_scoreOf_61 : nx cX4_scoreOf 61 (.ireturn) 1 62 := ⟨by decide +kernel, rfl⟩
theorem dX5_init_0 : nx cX5_init 0 (.aload_n 0) 1 1 := ⟨by decide +kernel, rfl⟩
theorem dX5_init_1 : nx cX5_init 1 (.invokespecial 3) 3 4 := ⟨by decide +kernel, rfl⟩
theorem dX5_init_4 : nx cX5_init 4 (.aload_n 0) 1 5 := ⟨by decide +kernel, rfl⟩
theorem dX5_init_5 : nx cX5_init 5 (.bipush 60) 2 7 := ⟨by decide +kernel, rfl⟩
theorem dX5_init_7 : nx cX5_init 7 (.newarray .int) 2 9 := ⟨by decide +kernel, rfl⟩
theorem dX5_init_9 : nx cX5_init 9 (.putfield 9) 3 12 := ⟨by decide +kernel, rfl⟩
theorem dX5_init_12 : nx cX5_init 12 (.aload_n 0) 1 13 := ⟨by decide +kernel, rfl⟩
theorem dX5_init_13 : nx cX5_init 13 (.iconst (-1)) 1 14 := ⟨by decide +kernel, rfl⟩
theorem dX5_init_14 : nx cX5_init 14 (.putfield 15) 3 17 := ⟨by decide +kernel, rfl⟩
theorem dX5_init_17 : nx cX5_init 17 (.aload_n 0) 1 18 := ⟨by decide +kernel, rfl⟩
theorem dX5_init_18 : nx cX5_init 18 (.iconst 0) 1 19 := ⟨by decide +kernel, rfl⟩
theorem dX5_init_19 : nx cX5_init 19 (.putfield 19) 3 22 := ⟨by decide +kernel, rfl⟩
theorem dX5_init_22 : nx cX5_init 22 (.return_) 1 23 := ⟨by decide +kernel, rfl⟩
theorem dX5_begin_0 : nx cX5_begin 0 (.aload_n 0) 1 1 := ⟨by decide +kernel, rfl⟩
theorem dX5_begin_1 : nx cX5_begin 1 (.getfield 9) 3 4 := ⟨by decide +kernel, rfl⟩
theorem dX5_begin_4 : nx cX5_begin 4 (.iconst 0) 1 5 := ⟨by decide +kernel, rfl⟩
theorem dX5_begin_5 : nx cX5_begin 5 (.invokestatic 22) 3 8 := ⟨by decide +kernel, rfl⟩
theorem dX5_begin_8 : nx cX5_begin 8 (.aload_n 0) 1 9 := ⟨by decide +kernel, rfl⟩
theorem dX5_begin_9 : nx cX5_begin 9 (.iload_n 1) 1 10 := ⟨by decide +kernel, rfl⟩
theorem dX5_begin_10 : nx cX5_begin 10 (.putfield 15) 3 13 := ⟨by decide +kernel, rfl⟩
theorem dX5_begin_13 : nx cX5_begin 13 (.aload_n 0) 1 14 := ⟨by decide +kernel, rfl⟩
theorem dX5_begin_14 : nx cX5_begin 14 (.iload_n 2) 1 15 := ⟨by decide +kernel, rfl⟩
theorem dX5_begin_15 : nx cX5_begin 15 (.putfield 19) 3 18 := ⟨by decide +kernel, rfl⟩
theorem dX5_begin_18 : nx cX5_begin 18 (.return_) 1 19 := ⟨by decide +kernel, rfl⟩
theorem dX5_drop_0 : nx cX5_drop 0 (.aload_n 0) 1 1 := ⟨by decide +kernel, rfl⟩
theorem dX5_drop_1 : nx cX5_drop 1 (.iconst (-1)) 1 2 := ⟨by decide +kernel, rfl⟩
theorem dX5_drop_2 : nx cX5_drop 2 (.putfield 15) 3 5 := ⟨by decide +kernel, rfl⟩
theorem dX5_drop_5 : nx cX5_drop 5 (.aload_n 0) 1 6 := ⟨by decide +kernel, rfl⟩
theorem dX5_drop_6 : nx cX5_drop 6 (.iconst 0) 1 7 := ⟨by decide +kernel, rfl⟩
theorem dX5_drop_7 : nx cX5_drop 7 (.putfield 19) 3 10 := ⟨by decide +kernel, rfl⟩
theorem dX5_drop_10 : nx cX5_drop 10 (.return_) 1 11 := ⟨by decide +kernel, rfl⟩
theorem dX5_hasNothing_0 : nx cX5_hasNothing 0 (.aload_n 0) 1 1 := ⟨by decide +kernel, rfl⟩
theorem dX5_hasNothing_1 : nx cX5_hasNothing 1 (.getfield 15) 3 4 := ⟨by decide +kernel, rfl⟩
theorem dX5_hasNothing_4 : nx cX5_hasNothing 4 (.iconst (-1)) 1 5 := ⟨by decide +kernel, rfl⟩
theorem dX5_hasNothing_5 : bx cX5_hasNothing 5 (.if_icmp .ne 7) 7 12 8 := ⟨by decide +kernel, by decide, rfl⟩
theorem dX5_hasNothing_8 : nx cX5_hasNothing 8 (.iconst 1) 1 9 := ⟨by decide +kernel, rfl⟩
theorem dX5_hasNothing_9 : bx cX5_hasNothing 9 (.goto 4) 4 13 12 := ⟨by decide +kernel, by decide, rfl⟩
theorem dX5_hasNothing_12 : nx cX5_hasNothing 12 (.iconst 0) 1 13 := ⟨by decide +kernel, rfl⟩
theorem dX5_hasNothing_13 : nx cX5_hasNothing 13 (.ireturn) 1 14 := ⟨by decide +kernel, rfl⟩
theorem dX5_hasCell_0 : nx cX5_hasCell 0 (.iload_n 1) 1 1 := ⟨by decide +kernel, rfl⟩
theorem dX5_hasCell_1 : bx cX5_hasCell 1 (.ifCond .lt 15) 15 16 4 := ⟨by decide +kernel, by decide, rfl⟩
theorem dX5_hasCell_4 : nx cX5_hasCell 4 (.iload_n 1) 1 5 := ⟨by decide +kernel, rfl⟩
theorem dX5_hasCell_5 : nx cX5_hasCell 5 (.aload_n 0) 1 6 := ⟨by decide +kernel, rfl⟩
theorem dX5_hasCell_6 : nx cX5_hasCell 6 (.getfield 19) 3 9 := ⟨by decide +kernel, rfl⟩
theorem dX5_hasCell_9 : bx cX5_hasCell 9 (.if_icmp .ge 7) 7 16 12 := ⟨by decide +kernel, by decide, rfl⟩
theorem dX5_hasCell_12 : nx cX5_hasCell 12 (.iconst 1) 1 13 := ⟨by decide +kernel, rfl⟩
theorem dX5_hasCell_13 : bx cX5_hasCell 13 (.goto 4) 4 17 16 := ⟨by decide +kernel, by decide, rfl⟩
theorem dX5_hasCell_16 : nx cX5_hasCell 16 (.iconst 0) 1 17 := ⟨by decide +kernel, rfl⟩
theorem dX5_hasCell_17 : nx cX5_hasCell 17 (.ireturn) 1 18 := ⟨by decide +kernel, rfl⟩
theorem dX5_hasCells_0 : nx cX5_hasCells 0 (.iload_n 1) 1 1 := ⟨by decide +kernel, rfl⟩
theorem dX5_hasCells_1 : bx cX5_hasCells 1 (.ifCond .lt 29) 29 30 4 := ⟨by decide +kernel, by decide, rfl⟩
theorem dX5_hasCells_4 : nx cX5_hasCells 4 (.iload_n 1) 1 5 := ⟨by decide +kernel, rfl⟩
theorem dX5_hasCells_5 : nx cX5_hasCells 5 (.aload_n 0) 1 6 := ⟨by decide +kernel, rfl⟩
theorem dX5_hasCells_6 : nx cX5_hasCells 6 (.getfield 19) 3 9 := ⟨by decide +kernel, rfl⟩
theorem dX5_hasCells_9 : bx cX5_hasCells 9 (.if_icmp .gt 21) 21 30 12 := ⟨by decide +kernel, by decide, rfl⟩
theorem dX5_hasCells_12 : nx cX5_hasCells 12 (.iload_n 2) 1 13 := ⟨by decide +kernel, rfl⟩
theorem dX5_hasCells_13 : bx cX5_hasCells 13 (.ifCond .lt 17) 17 30 16 := ⟨by decide +kernel, by decide, rfl⟩
theorem dX5_hasCells_16 : nx cX5_hasCells 16 (.iload_n 2) 1 17 := ⟨by decide +kernel, rfl⟩
theorem dX5_hasCells_17 : nx cX5_hasCells 17 (.aload_n 0) 1 18 := ⟨by decide +kernel, rfl⟩
theorem dX5_hasCells_18 : nx cX5_hasCells 18 (.getfield 19) 3 21 := ⟨by decide +kernel, rfl⟩
theorem dX5_hasCells_21 : nx cX5_hasCells 21 (.iload_n 1) 1 22 := ⟨by decide +kernel, rfl⟩
theorem dX5_hasCells_22 : nx cX5_hasCells 22 (.isub) 1 23 := ⟨by decide +kernel, rfl⟩
theorem dX5_hasCells_23 : bx cX5_hasCells 23 (.if_icmp .gt 7) 7 30 26 := ⟨by decide +kernel, by decide, rfl⟩
theorem dX5_hasCells_26 : nx cX5_hasCells 26 (.iconst 1) 1 27 := ⟨by decide +kernel, rfl⟩
theorem dX5_hasCells_27 : bx cX5_hasCells 27 (.goto 4) 4 31 30 := ⟨by decide +kernel, by decide, rfl⟩
theorem dX5_hasCells_30 : nx cX5_hasCells 30 (.iconst 0) 1 31 := ⟨by decide +kernel, rfl⟩
theorem dX5_hasCells_31 : nx cX5_hasCells 31 (.ireturn) 1 32 := ⟨by decide +kernel, rfl⟩
theorem dX5_read_0 : nx cX5_read 0 (.aload_n 0) 1 1 := ⟨by decide +kernel, rfl⟩
theorem dX5_read_1 : nx cX5_read 1 (.iload_n 1) 1 2 := ⟨by decide +kernel, rfl⟩
theorem dX5_read_2 : nx cX5_read 2 (.invokevirtual 28) 3 5 := ⟨by decide +kernel, rfl⟩
theorem dX5_read_5 : bx cX5_read 5 (.ifCond .eq 12) 12 17 8 := ⟨by decide +kernel, by decide, rfl⟩
theorem dX5_read_8 : nx cX5_read 8 (.aload_n 0) 1 9 := ⟨by decide +kernel, rfl⟩
theorem dX5_read_9 : nx cX5_read 9 (.getfield 9) 3 12 := ⟨by decide +kernel, rfl⟩
theorem dX5_read_12 : nx cX5_read 12 (.iload_n 1) 1 13 := ⟨by decide +kernel, rfl⟩
theorem dX5_read_13 : nx cX5_read 13 (.iaload) 1 14 := ⟨by decide +kernel, rfl⟩
theorem dX5_read_14 : bx cX5_read 14 (.goto 4) 4 18 17 := ⟨by decide +kernel, by decide, rfl⟩
theorem dX5_read_17 : nx cX5_read 17 (.iconst 0) 1 18 := ⟨by decide +kernel, rfl⟩
theorem dX5_read_18 : nx cX5_read 18 (.ireturn) 1 19 := ⟨by decide +kernel, rfl⟩
theorem dX5_write_0 : nx cX5_write 0 (.aload_n 0) 1 1 := ⟨by decide +kernel, rfl⟩
theorem dX5_write_1 : nx cX5_write 1 (.iload_n 1) 1 2 := ⟨by decide +kernel, rfl⟩
theorem dX5_write_2 : nx cX5_write 2 (.invokevirtual 28) 3 5 := ⟨by decide +kernel, rfl⟩
theorem dX5_write_5 : bx cX5_write 5 (.ifCond .eq 35) 35 40 8 := ⟨by decide +kernel, by decide, rfl⟩
theorem dX5_write_8 : nx cX5_write 8 (.aload_n 0) 1 9 := ⟨by decide +kernel, rfl⟩
theorem dX5_write_9 : nx cX5_write 9 (.getfield 9) 3 12 := ⟨by decide +kernel, rfl⟩
theorem dX5_write_12 : nx cX5_write 12 (.iload_n 1) 1 13 := ⟨by decide +kernel, rfl⟩
theorem dX5_write_13 : nx cX5_write 13 (.aload_n 0) 1 14 := ⟨by decide +kernel, rfl⟩
theorem dX5_write_14 : nx cX5_write 14 (.getfield 15) 3 17 := ⟨by decide +kernel, rfl⟩
theorem dX5_write_17 : bx cX5_write 17 (.ifCond .ne 8) 8 25 20 := ⟨by decide +kernel, by decide, rfl⟩
theorem dX5_write_20 : nx cX5_write 20 (.iload_n 2) 1 21 := ⟨by decide +kernel, rfl⟩
theorem dX5_write_21 : nx cX5_write 21 (.i2b) 1 22 := ⟨by decide +kernel, rfl⟩
theorem dX5_write_22 : bx cX5_write 22 (.goto 17) 17 39 25 := ⟨by decide +kernel, by decide, rfl⟩
theorem dX5_write_25 : nx cX5_write 25 (.aload_n 0) 1 26 := ⟨by decide +kernel, rfl⟩
theorem dX5_write_26 : nx cX5_write 26 (.getfield 15) 3 29 := ⟨by decide +kernel, rfl⟩
theorem dX5_write_29 : nx cX5_write 29 (.iconst 1) 1 30 := ⟨by decide +kernel, rfl⟩
theorem dX5_write_30 : bx cX5_write 30 (.if_icmp .ne 8) 8 38 33 := ⟨by decide +kernel, by decide, rfl⟩
theorem dX5_write_33 : nx cX5_write 33 (.iload_n 2) 1 34 := ⟨by decide +kernel, rfl⟩
theorem dX5_write_34 : nx cX5_write 34 (.i2s) 1 35 := ⟨by decide +kernel, rfl⟩
theorem dX5_write_35 : bx cX5_write 35 (.goto 4) 4 39 38 := ⟨by decide +kernel, by decide, rfl⟩
theorem dX5_write_38 : nx cX5_write 38 (.iload_n 2) 1 39 := ⟨by decide +kernel, rfl⟩
theorem dX5_write_39 : nx cX5_write 39 (.iastore) 1 40 := ⟨by decide +kernel, rfl⟩
theorem dX5_write_40 : nx cX5_write 40 (.return_) 1 41 := ⟨by decide +kernel, rfl⟩
theorem dX5_faultOfRow_0 : nx cX5_faultOfRow 0 (.aload_n 0) 1 1 := ⟨by decide +kernel, rfl⟩
theorem dX5_faultOfRow_1 : nx cX5_faultOfRow 1 (.invokevirtual 32) 3 4 := ⟨by decide +kernel, rfl⟩
theorem dX5_faultOfRow_4 : bx cX5_faultOfRow 4 (.ifCond .eq 5) 5 9 7 := ⟨by decide +kernel, by decide, rfl⟩
theorem dX5_faultOfRow_7 : nx cX5_faultOfRow 7 (.iconst 1) 1 8 := ⟨by decide +kernel, rfl⟩
theorem dX5_faultOfRow_8 : nx cX5_faultOfRow 8 (.ireturn) 1 9 := ⟨by decide +kernel, rfl⟩
theorem dX5_faultOfRow_9 : nx cX5_faultOfRow 9 (.aload_n 0) 1 10 := ⟨by decide +kernel, rfl⟩
theorem dX5_faultOfRow_10 : nx cX5_faultOfRow 10 (.getfield 15) 3 13 := ⟨by decide +kernel, rfl⟩
theorem dX5_faultOfRow_13 : nx cX5_faultOfRow 13 (.iload_n 1) 1 14 := ⟨by decide +kernel, rfl⟩
theorem dX5_faultOfRow_14 : bx cX5_faultOfRow 14 (.if_icmp .ne 7) 7 21 17 := ⟨by decide +kernel, by decide, rfl⟩
theorem dX5_faultOfRow_17 : nx cX5_faultOfRow 17 (.iconst 0) 1 18 := ⟨by decide +kernel, rfl⟩
theorem dX5_faultOfRow_18 : bx cX5_faultOfRow 18 (.goto 4) 4 22 21 := ⟨by decide +kernel, by decide, rfl⟩
theorem dX5_faultOfRow_21 : nx cX5_faultOfRow 21 (.iconst 2) 1 22 := ⟨by decide +kernel, rfl⟩
theorem dX5_faultOfRow_22 : nx cX5_faultOfRow 22 (.ireturn) 1 23 := ⟨by decide +kernel, rfl⟩
theorem dX5_faultOfCells_0 : nx cX5_faultOfCells 0 (.aload_n 0) 1 1 := ⟨by decide +kernel, rfl⟩
theorem dX5_faultOfCells_1 : nx cX5_faultOfCells 1 (.iload_n 1) 1 2 := ⟨by decide +kernel, rfl⟩
theorem dX5_faultOfCells_2 : nx cX5_faultOfCells 2 (.invokevirtual 36) 3 5 := ⟨by decide +kernel, rfl⟩
theorem dX5_faultOfCells_5 : nx cX5_faultOfCells 5 (.istore 4) 2 7 := ⟨by decide +kernel, rfl⟩
theorem dX5_faultOfCells_7 : nx cX5_faultOfCells 7 (.iload 4) 2 9 := ⟨by decide +kernel, rfl⟩
theorem dX5_faultOfCells_9 : bx cX5_faultOfCells 9 (.ifCond .eq 6) 6 15 12 := ⟨by decide +kernel, by decide, rfl⟩
theorem dX5_faultOfCells_12 : nx cX5_faultOfCells 12 (.iload 4) 2 14 := ⟨by decide +kernel, rfl⟩
theorem dX5_faultOfCells_14 : nx cX5_faultOfCells 14 (.ireturn) 1 15 := ⟨by decide +kernel, rfl⟩
theorem dX5_faultOfCells_15 : nx cX5_faultOfCells 15 (.iload_n 3) 1 16 := ⟨by decide +kernel, rfl⟩
theorem dX5_faultOfCells_16 : bx cX5_faultOfCells 16 (.ifCond .ge 5) 5 21 19 := ⟨by decide +kernel, by decide, rfl⟩
theorem dX5_faultOfCells_19 : nx cX5_faultOfCells 19 (.iconst 4) 1 20 := ⟨by decide +kernel, rfl⟩
theorem dX5_faultOfCells_20 : nx cX5_faultOfCells 20 (.ireturn) 1 21 := ⟨by decide +kernel, rfl⟩
theorem dX5_faultOfCells_21 : nx cX5_faultOfCells 21 (.aload_n 0) 1 22 := ⟨by decide +kernel, rfl⟩
theorem dX5_faultOfCells_22 : nx cX5_faultOfCells 22 (.iload_n 2) 1 23 := ⟨by decide +kernel, rfl⟩
theorem dX5_faultOfCells_23 : nx cX5_faultOfCells 23 (.iload_n 3) 1 24 := ⟨by decide +kernel, rfl⟩
theorem dX5_faultOfCells_24 : nx cX5_faultOfCells 24 (.invokevirtual 40) 3 27 := ⟨by decide +kernel, rfl⟩
theorem dX5_faultOfCells_27 : bx cX5_faultOfCells 27 (.ifCond .eq 7) 7 34 30 := ⟨by decide +kernel, by decide, rfl⟩
theorem dX5_faultOfCells_30 : nx cX5_faultOfCells 30 (.iconst 0) 1 31 := ⟨by decide +kernel, rfl⟩
theorem dX5_faultOfCells_31 : bx cX5_faultOfCells 31 (.goto 4) 4 35 34 := ⟨by decide +kernel, by decide, rfl⟩
theorem dX5_faultOfCells_34 : nx cX5_faultOfCells 34 (.iconst 3) 1 35 := ⟨by decide +kernel, rfl⟩
theorem dX5_faultOfCells_35 : nx cX5_faultOfCells 35 (.ireturn) 1 36 := ⟨by decide +kernel, rfl⟩
theorem dX6_init_0 : nx cX6_init 0 (.aload_n 0) 1 1 := ⟨by decide +kernel, rfl⟩
theorem dX6_init_1 : nx cX6_init 1 (.iload_n 1) 1 2 := ⟨by decide +kernel, rfl⟩
theorem dX6_init_2 : nx cX6_init 2 (.iload_n 2) 1 3 := ⟨by decide +kernel, rfl⟩
theorem dX6_init_3 : nx cX6_init 3 (.iload_n 3) 1 4 := ⟨by decide +kernel, rfl⟩
theorem dX6_init_4 : nx cX6_init 4 (.iload 4) 2 6 := ⟨by decide +kernel, rfl⟩
theorem dX6_init_6 : nx cX6_init 6 (.iload 5) 2 8 := ⟨by decide +kernel, rfl⟩
theorem dX6_init_8 : nx cX6_init 8 (.iload 6) 2 10 := ⟨by decide +kernel, rfl⟩
theorem dX6_init_10 : nx cX6_init 10 (.invokespecial 1) 3 13 := ⟨by decide +kernel, rfl⟩
theorem dX6_init_13 : nx cX6_init 13 (.return_) 1 14 := ⟨by decide +kernel, rfl⟩
theorem dX6_kind_0 : nx cX6_kind 0 (.iconst 2) 1 1 := ⟨by decide +kernel, rfl⟩
theorem dX6_kind_1 : nx cX6_kind 1 (.ireturn) 1 2 := ⟨by decide +kernel, rfl⟩
theorem dX6_minutesAlone_0 : nx cX6_minutesAlone 0 (.iconst 2) 1 1 := ⟨by decide +kernel, rfl⟩
theorem dX6_minutesAlone_1 : nx cX6_minutesAlone 1 (.aload_n 0) 1 2 := ⟨by decide +kernel, rfl⟩
theorem dX6_minutesAlone_2 : nx cX6_minutesAlone 2 (.invokespecial 7) 3 5 := ⟨by decide +kernel, rfl⟩
theorem dX6_minutesAlone_5 : nx cX6_minutesAlone 5 (.imul) 1 6 := ⟨by decide +kernel, rfl⟩
theorem dX6_minutesAlone_6 : nx cX6_minutesAlone 6 (.ireturn) 1 7 := ⟨by decide +kernel, rfl⟩
theorem dX6_toldWith_0 : nx cX6_toldWith 0 (.aload_n 1) 1 1 := ⟨by decide +kernel, rfl⟩
theorem dX6_toldWith_1 : nx cX6_toldWith 1 (.iconst 3) 1 2 := ⟨by decide +kernel, rfl⟩
theorem dX6_toldWith_2 : nx cX6_toldWith 2 (.invokevirtual 11) 3 5 := ⟨by decide +kernel, rfl⟩
theorem dX6_toldWith_5 : nx cX6_toldWith 5 (.aload_n 0) 1 6 := ⟨by decide +kernel, rfl⟩
theorem dX6_toldWith_6 : nx cX6_toldWith 6 (.aload_n 1) 1 7 := ⟨by decide +kernel, rfl⟩
theorem dX6_toldWith_7 : nx cX6_toldWith 7 (.invokespecial 17) 3 10 := ⟨by decide +kernel, rfl⟩
theorem dX6_toldWith_10 : nx cX6_toldWith 10 (.istore_n 2) 1 11 := ⟨by decide +kernel, rfl⟩
theorem dX6_toldWith_11 : nx cX6_toldWith 11 (.iload_n 2) 1 12 := ⟨by decide +kernel, rfl⟩
theorem dX6_toldWith_12 : nx cX6_toldWith 12 (.aload_n 0) 1 13 := ⟨by decide +kernel, rfl⟩
theorem dX6_toldWith_13 : nx cX6_toldWith 13 (.aload_n 1) 1 14 := ⟨by decide +kernel, rfl⟩
theorem dX6_toldWith_14 : nx cX6_toldWith 14 (.invokevirtual 21) 3 17 := ⟨by decide +kernel, rfl⟩
theorem dX6_toldWith_17 : nx cX6_toldWith 17 (.iadd) 1 18 := ⟨by decide +kernel, rfl⟩
theorem dX6_toldWith_18 : nx cX6_toldWith 18 (.ireturn) 1 19 := ⟨by decide +kernel, rfl⟩
theorem dX6_sungWith_0 : nx cX6_sungWith 0 (.aload_n 1) 1 1 := ⟨by decide +kernel, rfl⟩
theorem dX6_sungWith_1 : nx cX6_sungWith 1 (.iconst 5) 1 2 := ⟨by decide +kernel, rfl⟩
theorem dX6_sungWith_2 : nx cX6_sungWith 2 (.invokevirtual 11) 3 5 := ⟨by decide +kernel, rfl⟩
theorem dX6_sungWith_5 : nx cX6_sungWith 5 (.bipush 40) 2 7 := ⟨by decide +kernel, rfl⟩
theorem dX6_sungWith_7 : nx cX6_sungWith 7 (.ireturn) 1 8 := ⟨by decide +kernel, rfl⟩
theorem dX7_init_0 : nx cX7_init 0 (.aload_n 0) 1 1 := ⟨by decide +kernel, rfl⟩
theorem dX7_init_1 : nx cX7_init 1 (.invokespecial 1) 3 4 := ⟨by decide +kernel, rfl⟩
theorem dX7_init_4 : nx cX7_init 4 (.aload_n 0) 1 5 := ⟨by decide +kernel, rfl⟩
theorem dX7_init_5 : nx cX7_init 5 (.iload_n 1) 1 6 := ⟨by decide +kernel, rfl⟩
theorem dX7_init_6 : nx cX7_init 6 (.putfield 7) 3 9 := ⟨by decide +kernel, rfl⟩
theorem dX7_init_9 : nx cX7_init 9 (.aload_n 0) 1 10 := ⟨by decide +kernel, rfl⟩
theorem dX7_init_10 : nx cX7_init 10 (.iload_n 2) 1 11 := ⟨by decide +kernel, rfl⟩
theorem dX7_init_11 : nx cX7_init 11 (.putfield 13) 3 14 := ⟨by decide +kernel, rfl⟩
theorem dX7_init_14 : nx cX7_init 14 (.aload_n 0) 1 15 := ⟨by decide +kernel, rfl⟩
theorem dX7_init_15 : nx cX7_init 15 (.iload_n 3) 1 16 := ⟨by decide +kernel, rfl⟩
theorem dX7_init_16 : nx cX7_init 16 (.putfield 16) 3 19 := ⟨by decide +kernel, rfl⟩
theorem dX7_init_19 : nx cX7_init 19 (.aload_n 0) 1 20 := ⟨by decide +kernel, rfl⟩
theorem dX7_init_20 : nx cX7_init 20 (.iload 4) 2 22 := ⟨by decide +kernel, rfl⟩
theorem dX7_init_22 : nx cX7_init 22 (.putfield 19) 3 25 := ⟨by decide +kernel, rfl⟩
theorem dX7_init_25 : nx cX7_init 25 (.aload_n 0) 1 26 := ⟨by decide +kernel, rfl⟩
theorem dX7_init_26 : nx cX7_init 26 (.iload 5) 2 28 := ⟨by decide +kernel, rfl⟩
theorem dX7_init_28 : nx cX7_init 28 (.putfield 22) 3 31 := ⟨by decide +kernel, rfl⟩
theorem dX7_init_31 : nx cX7_init 31 (.aload_n 0) 1 32 := ⟨by decide +kernel, rfl⟩
theorem dX7_init_32 : nx cX7_init 32 (.iload 6) 2 34 := ⟨by decide +kernel, rfl⟩
theorem dX7_init_34 : nx cX7_init 34 (.putfield 25) 3 37 := ⟨by decide +kernel, rfl⟩
theorem dX7_init_37 : nx cX7_init 37 (.aload_n 0) 1 38 := ⟨by decide +kernel, rfl⟩
theorem dX7_init_38 : nx cX7_init 38 (.iconst 0) 1 39 := ⟨by decide +kernel, rfl⟩
theorem dX7_init_39 : nx cX7_init 39 (.putfield 28) 3 42 := ⟨by decide +kernel, rfl⟩
theorem dX7_init_42 : nx cX7_init 42 (.aload_n 0) 1 43 := ⟨by decide +kernel, rfl⟩
theorem dX7_init_43 : nx cX7_init 43 (.iconst 0) 1 44 := ⟨by decide +kernel, rfl⟩
theorem dX7_init_44 : nx cX7_init 44 (.putfield 31) 3 47 := ⟨by decide +kernel, rfl⟩
theorem dX7_init_47 : nx cX7_init 47 (.aload_n 0) 1 48 := ⟨by decide +kernel, rfl⟩
theorem dX7_init_48 : nx cX7_init 48 (.iconst 0) 1 49 := ⟨by decide +kernel, rfl⟩
theorem dX7_init_49 : nx cX7_init 49 (.putfield 34) 3 52 := ⟨by decide +kernel, rfl⟩
theorem dX7_init_52 : nx cX7_init 52 (.return_) 1 53 := ⟨by decide +kernel, rfl⟩
theorem dX7_kind_0 : nx cX7_kind 0 (.iconst 0) 1 1 := ⟨by decide +kernel, rfl⟩
theorem dX7_kind_1 : nx cX7_kind 1 (.ireturn) 1 2 := ⟨by decide +kernel, rfl⟩
theorem dX7_minutesAlone_0 : nx cX7_minutesAlone 0 (.aload_n 0) 1 1 := ⟨by decide +kernel, rfl⟩
theorem dX7_minutesAlone_1 : nx cX7_minutesAlone 1 (.getfield 19) 3 4 := ⟨by decide +kernel, rfl⟩
theorem dX7_minutesAlone_4 : nx cX7_minutesAlone 4 (.ireturn) 1 5 := ⟨by decide +kernel, rfl⟩
theorem dX7_shareWith_0 : nx cX7_shareWith 0 (.aload_n 0) 1 1 := ⟨by decide +kernel, rfl⟩
theorem dX7_shareWith_1 : nx cX7_shareWith 1 (.getfield 13) 3 4 := ⟨by decide +kernel, rfl⟩
theorem dX7_shareWith_4 : nx cX7_shareWith 4 (.iload_n 1) 1 5 := ⟨by decide +kernel, rfl⟩
theorem dX7_shareWith_5 : bx cX7_shareWith 5 (.if_icmp .gt 15) 15 20 8 := ⟨by decide +kernel, by decide, rfl⟩
theorem dX7_shareWith_8 : nx cX7_shareWith 8 (.aload_n 0) 1 9 := ⟨by decide +kernel, rfl⟩
theorem dX7_shareWith_9 : nx cX7_shareWith 9 (.getfield 16) 3 12 := ⟨by decide +kernel, rfl⟩
theorem dX7_shareWith_12 : nx cX7_shareWith 12 (.iload_n 1) 1 13 := ⟨by decide +kernel, rfl⟩
theorem dX7_shareWith_13 : bx cX7_shareWith 13 (.if_icmp .gt 7) 7 20 16 := ⟨by decide +kernel, by decide, rfl⟩
theorem dX7_shareWith_16 : nx cX7_shareWith 16 (.iconst 1) 1 17 := ⟨by decide +kernel, rfl⟩
theorem dX7_shareWith_17 : bx cX7_shareWith 17 (.goto 4) 4 21 20 := ⟨by decide +kernel, by decide, rfl⟩
theorem dX7_shareWith_20 : nx cX7_shareWith 20 (.iconst 0) 1 21 := ⟨by decide +kernel, rfl⟩
theorem dX7_shareWith_21 : nx cX7_shareWith 21 (.istore_n 2) 1 22 := ⟨by decide +kernel, rfl⟩
theorem dX7_shareWith_22 : nx cX7_shareWith 22 (.aload_n 0) 1 23 := ⟨by decide +kernel, rfl⟩
theorem dX7_shareWith_23 : nx cX7_shareWith 23 (.iload_n 2) 1 24 := ⟨by decide +kernel, rfl⟩
theorem dX7_shareWith_24 : bx cX7_shareWith 24 (.ifCond .eq 12) 12 36 27 := ⟨by decide +kernel, by decide, rfl⟩
theorem dX7_shareWith_27 : nx cX7_shareWith 27 (.aload_n 0) 1 28 := ⟨by decide +kernel, rfl⟩
theorem dX7_shareWith_28 : nx cX7_shareWith 28 (.invokevirtual 38) 3 31 := ⟨by decide +kernel, rfl⟩
theorem dX7_shareWith_31 : nx cX7_shareWith 31 (.iconst 1) 1 32 := ⟨by decide +kernel, rfl⟩
theorem dX7_shareWith_32 : nx cX7_shareWith 32 (.iadd) 1 33 := ⟨by decide +kernel, rfl⟩
theorem dX7_shareWith_33 : bx cX7_shareWith 33 (.goto 7) 7 40 36 := ⟨by decide +kernel, by decide, rfl⟩
theorem dX7_shareWith_36 : nx cX7_shareWith 36 (.aload_n 0) 1 37 := ⟨by decide +kernel, rfl⟩
theorem dX7_shareWith_37 : nx cX7_shareWith 37 (.invokevirtual 38) 3 40 := ⟨by decide +kernel, rfl⟩
theorem dX7_shareWith_40 : nx cX7_shareWith 40 (.putfield 28) 3 43 := ⟨by decide +kernel, rfl⟩
theorem dX7_shareWith_43 : nx cX7_shareWith 43 (.aload_n 0) 1 44 := ⟨by decide +kernel, rfl⟩
theorem dX7_shareWith_44 : nx cX7_shareWith 44 (.iload_n 2) 1 45 := ⟨by decide +kernel, rfl⟩
theorem dX7_shareWith_45 : bx cX7_shareWith 45 (.ifCond .eq 8) 8 53 48 := ⟨by decide +kernel, by decide, rfl⟩
theorem dX7_shareWith_48 : nx cX7_shareWith 48 (.bipush 10) 2 50 := ⟨by decide +kernel, rfl⟩
theorem dX7_shareWith_50 : bx cX7_shareWith 50 (.goto 10) 10 60 53 := ⟨by decide +kernel, by decide, rfl⟩
theorem dX7_shareWith_53 : nx cX7_shareWith 53 (.bipush 10) 2 55 := ⟨by decide +kernel, rfl⟩
theorem dX7_shareWith_55 : nx cX7_shareWith 55 (.aload_n 0) 1 56 := ⟨by decide +kernel, rfl⟩
theorem dX7_shareWith_56 : nx cX7_shareWith 56 (.getfield 25) 3 59 := ⟨by decide +kernel, rfl⟩
theorem dX7_shareWith_59 : nx cX7_shareWith 59 (.isub) 1 60 := ⟨by decide +kernel, rfl⟩
theorem dX7_shareWith_60 : nx cX7_shareWith 60 (.putfield 31) 3 63 := ⟨by decide +kernel, rfl⟩
theorem dX7_shareWith_63 : nx cX7_shareWith 63 (.return_) 1 64 := ⟨by decide +kernel, rfl⟩
theorem dX7_leadsFrom_0 : nx cX7_leadsFrom 0 (.aload_n 0) 1 1 := ⟨by decide +kernel, rfl⟩
theorem dX7_leadsFrom_1 : nx cX7_leadsFrom 1 (.getfield 34) 3 4 := ⟨by decide +kernel, rfl⟩
theorem dX7_leadsFrom_4 : bx cX7_leadsFrom 4 (.ifCond .ne 23) 23 27 7 := ⟨by decide +kernel, by decide, rfl⟩
theorem dX7_leadsFrom_7 : nx cX7_leadsFrom 7 (.aload_n 0) 1 8 := ⟨by decide +kernel, rfl⟩
theorem dX7_leadsFrom_8 : nx cX7_leadsFrom 8 (.getfield 13) 3 11 := ⟨by decide +kernel, rfl⟩
theorem dX7_leadsFrom_11 : nx cX7_leadsFrom 11 (.iload_n 1) 1 12 := ⟨by decide +kernel, rfl⟩
theorem dX7_leadsFrom_12 : bx cX7_leadsFrom 12 (.if_icmp .eq 11) 11 23 15 := ⟨by decide +kernel, by decide, rfl⟩
theorem dX7_leadsFrom_15 : nx cX7_leadsFrom 15 (.aload_n 0) 1 16 := ⟨by decide +kernel, rfl⟩
theorem dX7_leadsFrom_16 : nx cX7_leadsFrom 16 (.getfield 16) 3 19 := ⟨by decide +kernel, rfl⟩
theorem dX7_leadsFrom_19 : nx cX7_leadsFrom 19 (.iload_n 1) 1 20 := ⟨by decide +kernel, rfl⟩
theorem dX7_leadsFrom_20 : bx cX7_leadsFrom 20 (.if_icmp .ne 7) 7 27 23 := ⟨by decide +kernel, by decide, rfl⟩
theorem dX7_leadsFrom_23 : nx cX7_leadsFrom 23 (.iconst 1) 1 24 := ⟨by decide +kernel, rfl⟩
theorem dX7_leadsFrom_24 : bx cX7_leadsFrom 24 (.goto 4) 4 28 27 := ⟨by decide +kernel, by decide, rfl⟩
theorem dX7_leadsFrom_27 : nx cX7_leadsFrom 27 (.iconst 0) 1 28 := ⟨by decide +kernel, rfl⟩
theorem dX7_leadsFrom_28 : nx cX7_leadsFrom 28 (.ireturn) 1 29 := ⟨by decide +kernel, rfl⟩
theorem dX7_otherEnd_0 : nx cX7_otherEnd 0 (.iload_n 1) 1 1 := ⟨by decide +kernel, rfl⟩
theorem dX7_otherEnd_1 : nx cX7_otherEnd 1 (.aload_n 0) 1 2 := ⟨by decide +kernel, rfl⟩
theorem dX7_otherEnd_2 : nx cX7_otherEnd 2 (.getfield 13) 3 5 := ⟨by decide +kernel, rfl⟩
theorem dX7_otherEnd_5 : bx cX7_otherEnd 5 (.if_icmp .ne 10) 10 15 8 := ⟨by decide +kernel, by decide, rfl⟩
theorem dX7_otherEnd_8 : nx cX7_otherEnd 8 (.aload_n 0) 1 9 := ⟨by decide +kernel, rfl⟩
theorem dX7_otherEnd_9 : nx cX7_otherEnd 9 (.getfield 16) 3 12 := ⟨by decide +kernel, rfl⟩
theorem dX7_otherEnd_12 : bx cX7_otherEnd 12 (.goto 7) 7 19 15 := ⟨by decide +kernel, by decide, rfl⟩
theorem dX7_otherEnd_15 : nx cX7_otherEnd 15 (.aload_n 0) 1 16 := ⟨by decide +kernel, rfl⟩
theorem dX7_otherEnd_16 : nx cX7_otherEnd 16 (.getfield 13) 3 19 := ⟨by decide +kernel, rfl⟩
theorem dX7_otherEnd_19 : nx cX7_otherEnd 19 (.ireturn) 1 20 := ⟨by decide +kernel, rfl⟩
theorem dX7_toldWith_0 : nx cX7_toldWith 0 (.aload_n 0) 1 1 := ⟨by decide +kernel, rfl⟩
theorem dX7_toldWith_1 : nx cX7_toldWith 1 (.aload_n 1) 1 2 := ⟨by decide +kernel, rfl⟩
theorem dX7_toldWith_2 : nx cX7_toldWith 2 (.invokevirtual 42) 3 5 := ⟨by decide +kernel, rfl⟩
theorem dX7_toldWith_5 : nx cX7_toldWith 5 (.ireturn) 1 6 := ⟨by decide +kernel, rfl⟩
theorem dX7_toldAsStretch_0 : nx cX7_toldAsStretch 0 (.aload_n 1) 1 1 := ⟨by decide +kernel, rfl⟩
theorem dX7_toldAsStretch_1 : nx cX7_toldAsStretch 1 (.iconst 1) 1 2 := ⟨by decide +kernel, rfl⟩
theorem dX7_toldAsStretch_2 : nx cX7_toldAsStretch 2 (.invokevirtual 46) 3 5 := ⟨by decide +kernel, rfl⟩
theorem dX7_toldAsStretch_5 : nx cX7_toldAsStretch 5 (.aload_n 0) 1 6 := ⟨by decide +kernel, rfl⟩
theorem dX7_toldAsStretch_6 : nx cX7_toldAsStretch 6 (.getfield 19) 3 9 := ⟨by decide +kernel, rfl⟩
theorem dX7_toldAsStretch_9 : nx cX7_toldAsStretch 9 (.ireturn) 1 10 := ⟨by decide +kernel, rfl⟩
theorem dX7_sungWith_0 : nx cX7_sungWith 0 (.aload_n 1) 1 1 := ⟨by decide +kernel, rfl⟩
theorem dX7_sungWith_1 : nx cX7_sungWith 1 (.iconst 4) 1 2 := ⟨by decide +kernel, rfl⟩
theorem dX7_sungWith_2 : nx cX7_sungWith 2 (.invokevirtual 46) 3 5 := ⟨by decide +kernel, rfl⟩
theorem dX7_sungWith_5 : nx cX7_sungWith 5 (.aload_n 0) 1 6 := ⟨by decide +kernel, rfl⟩
theorem dX7_sungWith_6 : nx cX7_sungWith 6 (.getfield 7) 3 9 := ⟨by decide +kernel, rfl⟩
theorem dX7_sungWith_9 : nx cX7_sungWith 9 (.ireturn) 1 10 := ⟨by decide +kernel, rfl⟩
theorem dX8_init_0 : nx cX8_init 0 (.aload_n 0) 1 1 := ⟨by decide +kernel, rfl⟩
theorem dX8_init_1 : nx cX8_init 1 (.invokespecial 3) 3 4 := ⟨by decide +kernel, rfl⟩
theorem dX8_init_4 : nx cX8_init 4 (.aload_n 0) 1 5 := ⟨by decide +kernel, rfl⟩
theorem dX8_init_5 : nx cX8_init 5 (.aload_n 1) 1 6 := ⟨by decide +kernel, rfl⟩
theorem dX8_init_6 : nx cX8_init 6 (.putfield 9) 3 9 := ⟨by decide +kernel, rfl⟩
theorem dX8_init_9 : nx cX8_init 9 (.aload_n 0) 1 10 := ⟨by decide +kernel, rfl⟩
theorem dX8_init_10 : nx cX8_init 10 (.iload_n 2) 1 11 := ⟨by decide +kernel, rfl⟩
theorem dX8_init_11 : nx cX8_init 11 (.putfield 15) 3 14 := ⟨by decide +kernel, rfl⟩
theorem dX8_init_14 : nx cX8_init 14 (.aload_n 0) 1 15 := ⟨by decide +kernel, rfl⟩
theorem dX8_init_15 : nx cX8_init 15 (.iload_n 3) 1 16 := ⟨by decide +kernel, rfl⟩
theorem dX8_init_16 : nx cX8_init 16 (.putfield 19) 3 19 := ⟨by decide +kernel, rfl⟩
theorem dX8_init_19 : nx cX8_init 19 (.return_) 1 20 := ⟨by decide +kernel, rfl⟩
theorem dX8_firstFault_0 : nx cX8_firstFault 0 (.iconst 0) 1 1 := ⟨by decide +kernel, rfl⟩
theorem dX8_firstFault_1 : nx cX8_firstFault 1 (.istore_n 1) 1 2 := ⟨by decide +kernel, rfl⟩
theorem dX8_firstFault_2 : nx cX8_firstFault 2 (.iload_n 1) 1 3 := ⟨by decide +kernel, rfl⟩
theorem dX8_firstFault_3 : nx cX8_firstFault 3 (.aload_n 0) 1 4 := ⟨by decide +kernel, rfl⟩
theorem dX8_firstFault_4 : nx cX8_firstFault 4 (.getfield 19) 3 7 := ⟨by decide +kernel, rfl⟩
theorem dX8_firstFault_7 : bx cX8_firstFault 7 (.if_icmp .ge 19) 19 26 10 := ⟨by decide +kernel, by decide, rfl⟩
theorem dX8_firstFault_10 : nx cX8_firstFault 10 (.aload_n 0) 1 11 := ⟨by decide +kernel, rfl⟩
theorem dX8_firstFault_11 : nx cX8_firstFault 11 (.iload_n 1) 1 12 := ⟨by decide +kernel, rfl⟩
theorem dX8_firstFault_12 : nx cX8_firstFault 12 (.invokevirtual 22) 3 15 := ⟨by decide +kernel, rfl⟩
theorem dX8_firstFault_15 : bx cX8_firstFault 15 (.ifCond .ne 5) 5 20 18 := ⟨by decide +kernel, by decide, rfl⟩
theorem dX8_firstFault_18 : nx cX8_firstFault 18 (.iload_n 1) 1 19 := ⟨by decide +kernel, rfl⟩
theorem dX8_firstFault_19 : nx cX8_firstFault 19 (.ireturn) 1 20 := ⟨by decide +kernel, rfl⟩
theorem dX8_firstFault_20 : nx cX8_firstFault 20 (.iinc 1 1) 3 23 := ⟨by decide +kernel, rfl⟩
theorem dX8_firstFault_23 : bx cX8_firstFault 23 (.goto (-21)) (-21) 2 26 := ⟨by decide +kernel, by decide, rfl⟩
theorem dX8_firstFault_26 : nx cX8_firstFault 26 (.aload_n 0) 1 27 := ⟨by decide +kernel, rfl⟩
theorem dX8_firstFault_27 : nx cX8_firstFault 27 (.getfield 19) 3 30 := ⟨by decide +kernel, rfl⟩
theorem dX8_firstFault_30 : nx cX8_firstFault 30 (.bipush 9) 2 32 := ⟨by decide +kernel, rfl⟩
theorem dX8_firstFault_32 : bx cX8_firstFault 32 (.if_icmp .lt 19) 19 51 35 := ⟨by decide +kernel, by decide, rfl⟩
theorem dX8_firstFault_35 : nx cX8_firstFault 35 (.aload_n 0) 1 36 := ⟨by decide +kernel, rfl⟩
theorem dX8_firstFault_36 : nx cX8_firstFault 36 (.getfield 19) 3 39 := ⟨by decide +kernel, rfl⟩
theorem dX8_firstFault_39 : nx cX8_firstFault 39 (.iconst 2) 1 40 := ⟨by decide +kernel, rfl⟩
theorem dX8_firstFault_40 : nx cX8_firstFault 40 (.isub) 1 41 := ⟨by decide +kernel, rfl⟩
theorem dX8_firstFault_41 : nx cX8_firstFault 41 (.bipush 7) 2 43 := ⟨by decide +kernel, rfl⟩
theorem dX8_firstFault_43 : nx cX8_firstFault 43 (.irem) 1 44 := ⟨by decide +kernel, rfl⟩
theorem dX8_firstFault_44 : bx cX8_firstFault 44 (.ifCond .ne 7) 7 51 47 := ⟨by decide +kernel, by decide, rfl⟩
theorem dX8_firstFault_47 : nx cX8_firstFault 47 (.iconst 1) 1 48 := ⟨by decide +kernel, rfl⟩
theorem dX8_firstFault_48 : bx cX8_firstFault 48 (.goto 4) 4 52 51 := ⟨by decide +kernel, by decide, rfl⟩
theorem dX8_firstFault_51 : nx cX8_firstFault 51 (.iconst 0) 1 52 := ⟨by decide +kernel, rfl⟩
theorem dX8_firstFault_52 : nx cX8_firstFault 52 (.istore_n 1) 1 53 := ⟨by decide +kernel, rfl⟩
theorem dX8_firstFault_53 : nx cX8_firstFault 53 (.iload_n 1) 1 54 := ⟨by decide +kernel, rfl⟩
theorem dX8_firstFault_54 : bx cX8_firstFault 54 (.ifCond .eq 8) 8 62 57 := ⟨by decide +kernel, by decide, rfl⟩
theorem dX8_firstFault_57 : nx cX8_firstFault 57 (.bipush (-9)) 2 59 := ⟨by decide +kernel, rfl⟩
theorem dX8_firstFault_59 : bx cX8_firstFault 59 (.goto 7) 7 66 62 := ⟨by decide +kernel, by decide, rfl⟩
theorem dX8_firstFault_62 : nx cX8_firstFault 62 (.aload_n 0) 1 63 := ⟨by decide +kernel, rfl⟩
theorem dX8_firstFault_63 : nx cX8_firstFault 63 (.getfield 19) 3 66 := ⟨by decide +kernel, rfl⟩
theorem dX8_firstFault_66 : nx cX8_firstFault 66 (.ireturn) 1 67 := ⟨by decide +kernel, rfl⟩
theorem dX8_goesOnAt_0 : nx cX8_goesOnAt 0 (.iload_n 1) 1 1 := ⟨by decide +kernel, rfl⟩
theorem dX8_goesOnAt_1 : bx cX8_goesOnAt 1 (.ifCond .ne 19) 19 20 4 := ⟨by decide +kernel, by decide, rfl⟩
theorem dX8_goesOnAt_4 : nx cX8_goesOnAt 4 (.aload_n 0) 1 5 := ⟨by decide +kernel, rfl⟩
theorem dX8_goesOnAt_5 : nx cX8_goesOnAt 5 (.iload_n 1) 1 6 := ⟨by decide +kernel, rfl⟩
theorem dX8_goesOnAt_6 : nx cX8_goesOnAt 6 (.invokevirtual 26) 3 9 := ⟨by decide +kernel, rfl⟩
theorem dX8_goesOnAt_9 : nx cX8_goesOnAt 9 (.bipush 110) 2 11 := ⟨by decide +kernel, rfl⟩
theorem dX8_goesOnAt_11 : bx cX8_goesOnAt 11 (.if_icmp .ne 7) 7 18 14 := ⟨by decide +kernel, by decide, rfl⟩
theorem dX8_goesOnAt_14 : nx cX8_goesOnAt 14 (.iconst 1) 1 15 := ⟨by decide +kernel, rfl⟩
theorem dX8_goesOnAt_15 : bx cX8_goesOnAt 15 (.goto 4) 4 19 18 := ⟨by decide +kernel, by decide, rfl⟩
theorem dX8_goesOnAt_18 : nx cX8_goesOnAt 18 (.iconst 0) 1 19 := ⟨by decide +kernel, rfl⟩
theorem dX8_goesOnAt_19 : nx cX8_goesOnAt 19 (.ireturn) 1 20 := ⟨by decide +kernel, rfl⟩
theorem dX8_goesOnAt_20 : nx cX8_goesOnAt 20 (.iload_n 1) 1 21 := ⟨by decide +kernel, rfl⟩
theorem dX8_goesOnAt_21 : nx cX8_goesOnAt 21 (.iconst 1) 1 22 := ⟨by decide +kernel, rfl⟩
theorem dX8_goesOnAt_22 : bx cX8_goesOnAt 22 (.if_icmp .ne 12) 12 34 25 := ⟨by decide +kernel, by decide, rfl⟩
theorem dX8_goesOnAt_25 : nx cX8_goesOnAt 25 (.aload_n 0) 1 26 := ⟨by decide +kernel, rfl⟩
theorem dX8_goesOnAt_26 : nx cX8_goesOnAt 26 (.iload_n 1) 1 27 := ⟨by decide +kernel, rfl⟩
theorem dX8_goesOnAt_27 : nx cX8_goesOnAt 27 (.iconst 2) 1 28 := ⟨by decide +kernel, rfl⟩
theorem dX8_goesOnAt_28 : nx cX8_goesOnAt 28 (.bipush 7) 2 30 := ⟨by decide +kernel, rfl⟩
theorem dX8_goesOnAt_30 : nx cX8_goesOnAt 30 (.invokevirtual 30) 3 33 := ⟨by decide +kernel, rfl⟩
theorem dX8_goesOnAt_33 : nx cX8_goesOnAt 33 (.ireturn) 1 34 := ⟨by decide +kernel, rfl⟩
theorem dX8_goesOnAt_34 : nx cX8_goesOnAt 34 (.iload_n 1) 1 35 := ⟨by decide +kernel, rfl⟩
theorem dX8_goesOnAt_35 : nx cX8_goesOnAt 35 (.iconst 2) 1 36 := ⟨by decide +kernel, rfl⟩
theorem dX8_goesOnAt_36 : nx cX8_goesOnAt 36 (.isub) 1 37 := ⟨by decide +kernel, rfl⟩
theorem dX8_goesOnAt_37 : nx cX8_goesOnAt 37 (.bipush 7) 2 39 := ⟨by decide +kernel, rfl⟩
theorem dX8_goesOnAt_39 : nx cX8_goesOnAt 39 (.irem) 1 40 := ⟨by decide +kernel, rfl⟩
theorem dX8_goesOnAt_40 : nx cX8_goesOnAt 40 (.tableswitch 127 0 4 #[36, 63, 69, 82, 118]) 36 76 := ⟨by decide +kernel, rfl⟩
theorem dX8_goesOnAt_76 : nx cX8_goesOnAt 76 (.aload_n 0) 1 77 := ⟨by decide +kernel, rfl⟩
theorem dX8_goesOnAt_77 : nx cX8_goesOnAt 77 (.iload_n 1) 1 78 := ⟨by decide +kernel, rfl⟩
theorem dX8_goesOnAt_78 : nx cX8_goesOnAt 78 (.invokevirtual 26) 3 81 := ⟨by decide +kernel, rfl⟩
theorem dX8_goesOnAt_81 : nx cX8_goesOnAt 81 (.bipush 59) 2 83 := ⟨by decide +kernel, rfl⟩
theorem dX8_goesOnAt_83 : bx cX8_goesOnAt 83 (.if_icmp .ne 18) 18 101 86 := ⟨by decide +kernel, by decide, rfl⟩
theorem dX8_goesOnAt_86 : nx cX8_goesOnAt 86 (.iload_n 1) 1 87 := ⟨by decide +kernel, rfl⟩
theorem dX8_goesOnAt_87 : nx cX8_goesOnAt 87 (.iconst 2) 1 88 := ⟨by decide +kernel, rfl⟩
theorem dX8_goesOnAt_88 : nx cX8_goesOnAt 88 (.isub) 1 89 := ⟨by decide +kernel, rfl⟩
theorem dX8_goesOnAt_89 : nx cX8_goesOnAt 89 (.bipush 7) 2 91 := ⟨by decide +kernel, rfl⟩
theorem dX8_goesOnAt_91 : nx cX8_goesOnAt 91 (.idiv) 1 92 := ⟨by decide +kernel, rfl⟩
theorem dX8_goesOnAt_92 : nx cX8_goesOnAt 92 (.bipush 9) 2 94 := ⟨by decide +kernel, rfl⟩
theorem dX8_goesOnAt_94 : bx cX8_goesOnAt 94 (.if_icmp .ge 7) 7 101 97 := ⟨by decide +kernel, by decide, rfl⟩
theorem dX8_goesOnAt_97 : nx cX8_goesOnAt 97 (.iconst 1) 1 98 := ⟨by decide +kernel, rfl⟩
theorem dX8_goesOnAt_98 : bx cX8_goesOnAt 98 (.goto 4) 4 102 101 := ⟨by decide +kernel, by decide, rfl⟩
theorem dX8_goesOnAt_101 : nx cX8_goesOnAt 101 (.iconst 0) 1 102 := ⟨by decide +kernel, rfl⟩
theorem dX8_goesOnAt_102 : nx cX8_goesOnAt 102 (.ireturn) 1 103 := ⟨by decide +kernel, rfl⟩
theorem dX8_goesOnAt_103 : nx cX8_goesOnAt 103 (.aload_n 0) 1 104 := ⟨by decide +kernel, rfl⟩
theorem dX8_goesOnAt_104 : nx cX8_goesOnAt 104 (.iload_n 1) 1 105 := ⟨by decide +kernel, rfl⟩
theorem dX8_goesOnAt_105 : nx cX8_goesOnAt 105 (.invokevirtual 34) 3 108 := ⟨by decide +kernel, rfl⟩
theorem dX8_goesOnAt_108 : nx cX8_goesOnAt 108 (.ireturn) 1 109 := ⟨by decide +kernel, rfl⟩
theorem dX8_goesOnAt_109 : nx cX8_goesOnAt 109 (.aload_n 0) 1 110 := ⟨by decide +kernel, rfl⟩
theorem dX8_goesOnAt_110 : nx cX8_goesOnAt 110 (.iload_n 1) 1 111 := ⟨by decide +kernel, rfl⟩
theorem dX8_goesOnAt_111 : nx cX8_goesOnAt 111 (.iconst 0) 1 112 := ⟨by decide +kernel, rfl⟩
theorem dX8_goesOnAt_112 : nx cX8_goesOnAt 112 (.aload_n 0) 1 113 := ⟨by decide +kernel, rfl⟩
theorem dX8_goesOnAt_113 : nx cX8_goesOnAt 113 (.invokevirtual 37) 3 116 := ⟨by decide +kernel, rfl⟩
theorem dX8_goesOnAt_116 : nx cX8_goesOnAt 116 (.iconst 1) 1 117 := ⟨by decide +kernel, rfl⟩
theorem dX8_goesOnAt_117 : nx cX8_goesOnAt 117 (.isub) 1 118 := ⟨by decide +kernel, rfl⟩
theorem dX8_goesOnAt_118 : nx cX8_goesOnAt 118 (.invokevirtual 30) 3 121 := ⟨by decide +kernel, rfl⟩
theorem dX8_goesOnAt_121 : nx cX8_goesOnAt 121 (.ireturn) 1 122 := ⟨by decide +kernel, rfl⟩
theorem dX8_goesOnAt_122 : nx cX8_goesOnAt 122 (.aload_n 0) 1 123 := ⟨by decide +kernel, rfl⟩
theorem dX8_goesOnAt_123 : nx cX8_goesOnAt 123 (.iload_n 1) 1 124 := ⟨by decide +kernel, rfl⟩
theorem dX8_goesOnAt_124 : nx cX8_goesOnAt 124 (.iconst 0) 1 125 := ⟨by decide +kernel, rfl⟩
theorem dX8_goesOnAt_125 : nx cX8_goesOnAt 125 (.aload_n 0) 1 126 := ⟨by decide +kernel, rfl⟩
theorem dX8_goesOnAt_126 : nx cX8_goesOnAt 126 (.invokevirtual 37) 3 129 := ⟨by decide +kernel, rfl⟩
theorem dX8_goesOnAt_129 : nx cX8_goesOnAt 129 (.iconst 1) 1 130 := ⟨by decide +kernel, rfl⟩
theorem dX8_goesOnAt_130 : nx cX8_goesOnAt 130 (.isub) 1 131 := ⟨by decide +kernel, rfl⟩
theorem dX8_goesOnAt_131 : nx cX8_goesOnAt 131 (.invokevirtual 30) 3 134 := ⟨by decide +kernel, rfl⟩
theorem dX8_goesOnAt_134 : bx cX8_goesOnAt 134 (.ifCond .eq 22) 22 156 137 := ⟨by decide +kernel, by decide, rfl⟩
theorem dX8_goesOnAt_137 : nx cX8_goesOnAt 137 (.aload_n 0) 1 138 := ⟨by decide +kernel, rfl⟩
theorem dX8_goesOnAt_138 : nx cX8_goesOnAt 138 (.iload_n 1) 1 139 := ⟨by decide +kernel, rfl⟩
theorem dX8_goesOnAt_139 : nx cX8_goesOnAt 139 (.invokevirtual 26) 3 142 := ⟨by decide +kernel, rfl⟩
theorem dX8_goesOnAt_142 : nx cX8_goesOnAt 142 (.aload_n 0) 1 143 := ⟨by decide +kernel, rfl⟩
theorem dX8_goesOnAt_143 : nx cX8_goesOnAt 143 (.iload_n 1) 1 144 := ⟨by decide +kernel, rfl⟩
theorem dX8_goesOnAt_144 : nx cX8_goesOnAt 144 (.iconst 1) 1 145 := ⟨by decide +kernel, rfl⟩
theorem dX8_goesOnAt_145 : nx cX8_goesOnAt 145 (.isub) 1 146 := ⟨by decide +kernel, rfl⟩
theorem dX8_goesOnAt_146 : nx cX8_goesOnAt 146 (.invokevirtual 26) 3 149 := ⟨by decide +kernel, rfl⟩
theorem dX8_goesOnAt_149 : bx cX8_goesOnAt 149 (.if_icmp .eq 7) 7 156 152 := ⟨by decide +kernel, by decide, rfl⟩
theorem dX8_goesOnAt_152 : nx cX8_goesOnAt 152 (.iconst 1) 1 153 := ⟨by decide +kernel, rfl⟩
theorem dX8_goesOnAt_153 : bx cX8_goesOnAt 153 (.goto 4) 4 157 156 := ⟨by decide +kernel, by decide, rfl⟩
theorem dX8_goesOnAt_156 : nx cX8_goesOnAt 156 (.iconst 0) 1 157 := ⟨by decide +kernel, rfl⟩
theorem dX8_goesOnAt_157 : nx cX8_goesOnAt 157 (.ireturn) 1 158 := ⟨by decide +kernel, rfl⟩
theorem dX8_goesOnAt_158 : nx cX8_goesOnAt 158 (.aload_n 0) 1 159 := ⟨by decide +kernel, rfl⟩
theorem dX8_goesOnAt_159 : nx cX8_goesOnAt 159 (.iload_n 1) 1 160 := ⟨by decide +kernel, rfl⟩
theorem dX8_goesOnAt_160 : nx cX8_goesOnAt 160 (.iconst 1) 1 161 := ⟨by decide +kernel, rfl⟩
theorem dX8_goesOnAt_161 : nx cX8_goesOnAt 161 (.bipush 9) 2 163 := ⟨by decide +kernel, rfl⟩
theorem dX8_goesOnAt_163 : nx cX8_goesOnAt 163 (.invokevirtual 30) 3 166 := ⟨by decide +kernel, rfl⟩
theorem dX8_goesOnAt_166 : nx cX8_goesOnAt 166 (.ireturn) 1 167 := ⟨by decide +kernel, rfl⟩
theorem dX8_goesOnAt_167 : nx cX8_goesOnAt 167 (.aload_n 0) 1 168 := ⟨by decide +kernel, rfl⟩
theorem dX8_goesOnAt_168 : nx cX8_goesOnAt 168 (.iload_n 1) 1 169 := ⟨by decide +kernel, rfl⟩
theorem dX8_goesOnAt_169 : nx cX8_goesOnAt 169 (.iconst 0) 1 170 := ⟨by decide +kernel, rfl⟩
theorem dX8_goesOnAt_170 : nx cX8_goesOnAt 170 (.bipush 9) 2 172 := ⟨by decide +kernel, rfl⟩
theorem dX8_goesOnAt_172 : nx cX8_goesOnAt 172 (.invokevirtual 30) 3 175 := ⟨by decide +kernel, rfl⟩
theorem dX8_goesOnAt_175 : nx cX8_goesOnAt 175 (.ireturn) 1 176 := ⟨by decide +kernel, rfl⟩
theorem dX8_places_0 : nx cX8_places 0 (.aload_n 0) 1 1 := ⟨by decide +kernel, rfl⟩
theorem dX8_places_1 : nx cX8_places 1 (.iconst 1) 1 2 := ⟨by decide +kernel, rfl⟩
theorem dX8_places_2 : nx cX8_places 2 (.invokevirtual 26) 3 5 := ⟨by decide +kernel, rfl⟩
theorem dX8_places_5 : nx cX8_places 5 (.bipush 48) 2 7 := ⟨by decide +kernel, rfl⟩
theorem dX8_places_7 : nx cX8_places 7 (.isub) 1 8 := ⟨by decide +kernel, rfl⟩
theorem dX8_places_8 : nx cX8_places 8 (.ireturn) 1 9 := ⟨by decide +kernel, rfl⟩
theorem dX8_stretches_0 : nx cX8_stretches 0 (.aload_n 0) 1 1 := ⟨by decide +kernel, rfl⟩
theorem dX8_stretches_1 : nx cX8_stretches 1 (.getfield 19) 3 4 := ⟨by decide +kernel, rfl⟩
theorem dX8_stretches_4 : nx cX8_stretches 4 (.iconst 2) 1 5 := ⟨by decide +kernel, rfl⟩
theorem dX8_stretches_5 : nx cX8_stretches 5 (.isub) 1 6 := ⟨by decide +kernel, rfl⟩
theorem dX8_stretches_6 : nx cX8_stretches 6 (.bipush 7) 2 8 := ⟨by decide +kernel, rfl⟩
theorem dX8_stretches_8 : nx cX8_stretches 8 (.idiv) 1 9 := ⟨by decide +kernel, rfl⟩
theorem dX8_stretches_9 : nx cX8_stretches 9 (.ireturn) 1 10 := ⟨by decide +kernel, rfl⟩
theorem dX8_makeStretch_0 : nx cX8_makeStretch 0 (.iconst 2) 1 1 := ⟨by decide +kernel, rfl⟩
theorem dX8_makeStretch_1 : nx cX8_makeStretch 1 (.iload_n 1) 1 2 := ⟨by decide +kernel, rfl⟩
theorem dX8_makeStretch_2 : nx cX8_makeStretch 2 (.bipush 7) 2 4 := ⟨by decide +kernel, rfl⟩
theorem dX8_makeStretch_4 : nx cX8_makeStretch 4 (.imul) 1 5 := ⟨by decide +kernel, rfl⟩
theorem dX8_makeStretch_5 : nx cX8_makeStretch 5 (.iadd) 1 6 := ⟨by decide +kernel, rfl⟩
theorem dX8_makeStretch_6 : nx cX8_makeStretch 6 (.iconst 2) 1 7 := ⟨by decide +kernel, rfl⟩
theorem dX8_makeStretch_7 : nx cX8_makeStretch 7 (.iadd) 1 8 := ⟨by decide +kernel, rfl⟩
theorem dX8_makeStretch_8 : nx cX8_makeStretch 8 (.istore_n 2) 1 9 := ⟨by decide +kernel, rfl⟩
theorem dX8_makeStretch_9 : nx cX8_makeStretch 9 (.aload_n 0) 1 10 := ⟨by decide +kernel, rfl⟩
theorem dX8_makeStretch_10 : nx cX8_makeStretch 10 (.iload_n 2) 1 11 := ⟨by decide +kernel, rfl⟩
theorem dX8_makeStretch_11 : nx cX8_makeStretch 11 (.invokevirtual 41) 3 14 := ⟨by decide +kernel, rfl⟩
theorem dX8_makeStretch_14 : nx cX8_makeStretch 14 (.istore_n 3) 1 15 := ⟨by decide +kernel, rfl⟩
theorem dX8_makeStretch_15 : nx cX8_makeStretch 15 (.aload_n 0) 1 16 := ⟨by decide +kernel, rfl⟩
theorem dX8_makeStretch_16 : nx cX8_makeStretch 16 (.iload_n 2) 1 17 := ⟨by decide +kernel, rfl⟩
theorem dX8_makeStretch_17 : nx cX8_makeStretch 17 (.iconst 1) 1 18 := ⟨by decide +kernel, rfl⟩
theorem dX8_makeStretch_18 : nx cX8_makeStretch 18 (.iadd) 1 19 := ⟨by decide +kernel, rfl⟩
theorem dX8_makeStretch_19 : nx cX8_makeStretch 19 (.invokevirtual 41) 3 22 := ⟨by decide +kernel, rfl⟩
theorem dX8_makeStretch_22 : nx cX8_makeStretch 22 (.istore 4) 2 24 := ⟨by decide +kernel, rfl⟩
theorem dX8_makeStretch_24 : nx cX8_makeStretch 24 (.aload_n 0) 1 25 := ⟨by decide +kernel, rfl⟩
theorem dX8_makeStretch_25 : nx cX8_makeStretch 25 (.iload_n 2) 1 26 := ⟨by decide +kernel, rfl⟩
theorem dX8_makeStretch_26 : nx cX8_makeStretch 26 (.iconst 2) 1 27 := ⟨by decide +kernel, rfl⟩
theorem dX8_makeStretch_27 : nx cX8_makeStretch 27 (.iadd) 1 28 := ⟨by decide +kernel, rfl⟩
theorem dX8_makeStretch_28 : nx cX8_makeStretch 28 (.invokevirtual 41) 3 31 := ⟨by decide +kernel, rfl⟩
theorem dX8_makeStretch_31 : nx cX8_makeStretch 31 (.istore 5) 2 33 := ⟨by decide +kernel, rfl⟩
theorem dX8_makeStretch_33 : nx cX8_makeStretch 33 (.aload_n 0) 1 34 := ⟨by decide +kernel, rfl⟩
theorem dX8_makeStretch_34 : nx cX8_makeStretch 34 (.iload_n 2) 1 35 := ⟨by decide +kernel, rfl⟩
theorem dX8_makeStretch_35 : nx cX8_makeStretch 35 (.iconst 3) 1 36 := ⟨by decide +kernel, rfl⟩
theorem dX8_makeStretch_36 : nx cX8_makeStretch 36 (.iadd) 1 37 := ⟨by decide +kernel, rfl⟩
theorem dX8_makeStretch_37 : nx cX8_makeStretch 37 (.invokevirtual 41) 3 40 := ⟨by decide +kernel, rfl⟩
theorem dX8_makeStretch_40 : nx cX8_makeStretch 40 (.istore 6) 2 42 := ⟨by decide +kernel, rfl⟩
theorem dX8_makeStretch_42 : nx cX8_makeStretch 42 (.aload_n 0) 1 43 := ⟨by decide +kernel, rfl⟩
theorem dX8_makeStretch_43 : nx cX8_makeStretch 43 (.iload_n 2) 1 44 := ⟨by decide +kernel, rfl⟩
theorem dX8_makeStretch_44 : nx cX8_makeStretch 44 (.iconst 4) 1 45 := ⟨by decide +kernel, rfl⟩
theorem dX8_makeStretch_45 : nx cX8_makeStretch 45 (.iadd) 1 46 := ⟨by decide +kernel, rfl⟩
theorem dX8_makeStretch_46 : nx cX8_makeStretch 46 (.invokevirtual 41) 3 49 := ⟨by decide +kernel, rfl⟩
theorem dX8_makeStretch_49 : nx cX8_makeStretch 49 (.istore 7) 2 51 := ⟨by decide +kernel, rfl⟩
theorem dX8_makeStretch_51 : nx cX8_makeStretch 51 (.aload_n 0) 1 52 := ⟨by decide +kernel, rfl⟩
theorem dX8_makeStretch_52 : nx cX8_makeStretch 52 (.iload_n 2) 1 53 := ⟨by decide +kernel, rfl⟩
theorem dX8_makeStretch_53 : nx cX8_makeStretch 53 (.iconst 1) 1 54 := ⟨by decide +kernel, rfl⟩
theorem dX8_makeStretch_54 : nx cX8_makeStretch 54 (.isub) 1 55 := ⟨by decide +kernel, rfl⟩
theorem dX8_makeStretch_55 : nx cX8_makeStretch 55 (.invokevirtual 26) 3 58 := ⟨by decide +kernel, rfl⟩
theorem dX8_makeStretch_58 : nx cX8_makeStretch 58 (.lookupswitch 62 #[(109, 26), (112, 44)]) 26 84 := ⟨by decide +kernel, rfl⟩
theorem dX8_makeStretch_84 : nx cX8_makeStretch 84 (.new 44) 3 87 := ⟨by decide +kernel, rfl⟩
theorem dX8_makeStretch_87 : nx cX8_makeStretch 87 (.dup) 1 88 := ⟨by decide +kernel, rfl⟩
theorem dX8_makeStretch_88 : nx cX8_makeStretch 88 (.iload_n 1) 1 89 := ⟨by decide +kernel, rfl⟩
theorem dX8_makeStretch_89 : nx cX8_makeStretch 89 (.iload_n 3) 1 90 := ⟨by decide +kernel, rfl⟩
theorem dX8_makeStretch_90 : nx cX8_makeStretch 90 (.iload 4) 2 92 := ⟨by decide +kernel, rfl⟩
theorem dX8_makeStretch_92 : nx cX8_makeStretch 92 (.iload 5) 2 94 := ⟨by decide +kernel, rfl⟩
theorem dX8_makeStretch_94 : nx cX8_makeStretch 94 (.iload 6) 2 96 := ⟨by decide +kernel, rfl⟩
theorem dX8_makeStretch_96 : nx cX8_makeStretch 96 (.iload 7) 2 98 := ⟨by decide +kernel, rfl⟩
theorem dX8_makeStretch_98 : nx cX8_makeStretch 98 (.invokespecial 46) 3 101 := ⟨by decide +kernel, rfl⟩
theorem dX8_makeStretch_101 : nx cX8_makeStretch 101 (.areturn) 1 102 := ⟨by decide +kernel, rfl⟩
theorem dX8_makeStretch_102 : nx cX8_makeStretch 102 (.new 49) 3 105 := ⟨by decide +kernel, rfl⟩
theorem dX8_makeStretch_105 : nx cX8_makeStretch 105 (.dup) 1 106 := ⟨by decide +kernel, rfl⟩
theorem dX8_makeStretch_106 : nx cX8_makeStretch 106 (.iload_n 1) 1 107 := ⟨by decide +kernel, rfl⟩
theorem dX8_makeStretch_107 : nx cX8_makeStretch 107 (.iload_n 3) 1 108 := ⟨by decide +kernel, rfl⟩
theorem dX8_makeStretch_108 : nx cX8_makeStretch 108 (.iload 4) 2 110 := ⟨by decide +kernel, rfl⟩
theorem dX8_makeStretch_110 : nx cX8_makeStretch 110 (.iload 5) 2 112 := ⟨by decide +kernel, rfl⟩
theorem dX8_makeStretch_112 : nx cX8_makeStretch 112 (.iload 6) 2 114 := ⟨by decide +kernel, rfl⟩
theorem dX8_makeStretch_114 : nx cX8_makeStretch 114 (.iload 7) 2 116 := ⟨by decide +kernel, rfl⟩
theorem dX8_makeStretch_116 : nx cX8_makeStretch 116 (.invokespecial 51) 3 119 := ⟨by decide +kernel, rfl⟩
theorem dX8_makeStretch_119 : nx cX8_makeStretch 119 (.areturn) 1 120 := ⟨by decide +kernel, rfl⟩
theorem dX8_makeStretch_120 : nx cX8_makeStretch 120 (.new 52) 3 123 := ⟨by decide +kernel, rfl⟩
theorem dX8_makeStretch_123 : nx cX8_makeStretch 123 (.dup) 1 124 := ⟨by decide +kernel, rfl⟩
theorem dX8_makeStretch_124 : nx cX8_makeStretch 124 (.iload_n 1) 1 125 := ⟨by decide +kernel, rfl⟩
theorem dX8_makeStretch_125 : nx cX8_makeStretch 125 (.iload_n 3) 1 126 := ⟨by decide +kernel, rfl⟩
theorem dX8_makeStretch_126 : nx cX8_makeStretch 126 (.iload 4) 2 128 := ⟨by decide +kernel, rfl⟩
theorem dX8_makeStretch_128 : nx cX8_makeStretch 128 (.iload 5) 2 130 := ⟨by decide +kernel, rfl⟩
theorem dX8_makeStretch_130 : nx cX8_makeStretch 130 (.iload 6) 2 132 := ⟨by decide +kernel, rfl⟩
theorem dX8_makeStretch_132 : nx cX8_makeStretch 132 (.iload 7) 2 134 := ⟨by decide +kernel, rfl⟩
theorem dX8_makeStretch_134 : nx cX8_makeStretch 134 (.invokespecial 54) 3 137 := ⟨by decide +kernel, rfl⟩
theorem dX8_makeStretch_137 : nx cX8_makeStretch 137 (.areturn) 1 138 := ⟨by decide +kernel, rfl⟩
theorem dX8_codeAt_0 : nx cX8_codeAt 0 (.iload_n 1) 1 1 := ⟨by decide +kernel, rfl⟩
theorem dX8_codeAt_1 : bx cX8_codeAt 1 (.ifCond .lt 27) 27 28 4 := ⟨by decide +kernel, by decide, rfl⟩
theorem dX8_codeAt_4 : nx cX8_codeAt 4 (.iload_n 1) 1 5 := ⟨by decide +kernel, rfl⟩
theorem dX8_codeAt_5 : nx cX8_codeAt 5 (.aload_n 0) 1 6 := ⟨by decide +kernel, rfl⟩
theorem dX8_codeAt_6 : nx cX8_codeAt 6 (.getfield 19) 3 9 := ⟨by decide +kernel, rfl⟩
theorem dX8_codeAt_9 : bx cX8_codeAt 9 (.if_icmp .ge 19) 19 28 12 := ⟨by decide +kernel, by decide, rfl⟩
theorem dX8_codeAt_12 : nx cX8_codeAt 12 (.aload_n 0) 1 13 := ⟨by decide +kernel, rfl⟩
theorem dX8_codeAt_13 : nx cX8_codeAt 13 (.getfield 9) 3 16 := ⟨by decide +kernel, rfl⟩
theorem dX8_codeAt_16 : nx cX8_codeAt 16 (.aload_n 0) 1 17 := ⟨by decide +kernel, rfl⟩
theorem dX8_codeAt_17 : nx cX8_codeAt 17 (.getfield 15) 3 20 := ⟨by decide +kernel, rfl⟩
theorem dX8_codeAt_20 : nx cX8_codeAt 20 (.iload_n 1) 1 21 := ⟨by decide +kernel, rfl⟩
theorem dX8_codeAt_21 : nx cX8_codeAt 21 (.iadd) 1 22 := ⟨by decide +kernel, rfl⟩
theorem dX8_codeAt_22 : nx cX8_codeAt 22 (.invokevirtual 55) 3 25 := ⟨by decide +kernel, rfl⟩
theorem dX8_codeAt_25 : bx cX8_codeAt 25 (.goto 5) 5 30 28 := ⟨by decide +kernel, by decide, rfl⟩
theorem dX8_codeAt_28 : nx cX8_codeAt 28 (.bipush (-9)) 2 30 := ⟨by decide +kernel, rfl⟩
theorem dX8_codeAt_30 : nx cX8_codeAt 30 (.ireturn) 1 31 := ⟨by decide +kernel, rfl⟩
theorem dX8_digitAt_0 : nx cX8_digitAt 0 (.aload_n 0) 1 1 := ⟨by decide +kernel, rfl⟩
theorem dX8_digitAt_1 : nx cX8_digitAt 1 (.iload_n 1) 1 2 := ⟨by decide +kernel, rfl⟩
theorem dX8_digitAt_2 : nx cX8_digitAt 2 (.invokevirtual 26) 3 5 := ⟨by decide +kernel, rfl⟩
theorem dX8_digitAt_5 : nx cX8_digitAt 5 (.bipush 48) 2 7 := ⟨by decide +kernel, rfl⟩
theorem dX8_digitAt_7 : nx cX8_digitAt 7 (.isub) 1 8 := ⟨by decide +kernel, rfl⟩
theorem dX8_digitAt_8 : nx cX8_digitAt 8 (.ireturn) 1 9 := ⟨by decide +kernel, rfl⟩
theorem dX8_isDigitAt_0 : nx cX8_isDigitAt 0 (.aload_n 0) 1 1 := ⟨by decide +kernel, rfl⟩
theorem dX8_isDigitAt_1 : nx cX8_isDigitAt 1 (.iload_n 1) 1 2 := ⟨by decide +kernel, rfl⟩
theorem dX8_isDigitAt_2 : nx cX8_isDigitAt 2 (.invokevirtual 26) 3 5 := ⟨by decide +kernel, rfl⟩
theorem dX8_isDigitAt_5 : nx cX8_isDigitAt 5 (.bipush 48) 2 7 := ⟨by decide +kernel, rfl⟩
theorem dX8_isDigitAt_7 : nx cX8_isDigitAt 7 (.iload_n 2) 1 8 := ⟨by decide +kernel, rfl⟩
theorem dX8_isDigitAt_8 : nx cX8_isDigitAt 8 (.iadd) 1 9 := ⟨by decide +kernel, rfl⟩
theorem dX8_isDigitAt_9 : nx cX8_isDigitAt 9 (.bipush 48) 2 11 := ⟨by decide +kernel, rfl⟩
theorem dX8_isDigitAt_11 : nx cX8_isDigitAt 11 (.iload_n 3) 1 12 := ⟨by decide +kernel, rfl⟩
theorem dX8_isDigitAt_12 : nx cX8_isDigitAt 12 (.iadd) 1 13 := ⟨by decide +kernel, rfl⟩
theorem dX8_isDigitAt_13 : nx cX8_isDigitAt 13 (.invokestatic 60) 3 16 := ⟨by decide +kernel, rfl⟩
theorem dX8_isDigitAt_16 : nx cX8_isDigitAt 16 (.ireturn) 1 17 := ⟨by decide +kernel, rfl⟩
theorem dX8_isKindAt_0 : nx cX8_isKindAt 0 (.aload_n 0) 1 1 := ⟨by decide +kernel, rfl⟩
theorem dX8_isKindAt_1 : nx cX8_isKindAt 1 (.iload_n 1) 1 2 := ⟨by decide +kernel, rfl⟩
theorem dX8_isKindAt_2 : nx cX8_isKindAt 2 (.invokevirtual 26) 3 5 := ⟨by decide +kernel, rfl⟩
theorem dX8_isKindAt_5 : nx cX8_isKindAt 5 (.istore_n 2) 1 6 := ⟨by decide +kernel, rfl⟩
theorem dX8_isKindAt_6 : nx cX8_isKindAt 6 (.iload_n 2) 1 7 := ⟨by decide +kernel, rfl⟩
theorem dX8_isKindAt_7 : nx cX8_isKindAt 7 (.bipush 115) 2 9 := ⟨by decide +kernel, rfl⟩
theorem dX8_isKindAt_9 : bx cX8_isKindAt 9 (.if_icmp .eq 15) 15 24 12 := ⟨by decide +kernel, by decide, rfl⟩
theorem dX8_isKindAt_12 : nx cX8_isKindAt 12 (.iload_n 2) 1 13 := ⟨by decide +kernel, rfl⟩
theorem dX8_isKindAt_13 : nx cX8_isKindAt 13 (.bipush 109) 2 15 := ⟨by decide +kernel, rfl⟩
theorem dX8_isKindAt_15 : bx cX8_isKindAt 15 (.if_icmp .eq 9) 9 24 18 := ⟨by decide +kernel, by decide, rfl⟩
theorem dX8_isKindAt_18 : nx cX8_isKindAt 18 (.iload_n 2) 1 19 := ⟨by decide +kernel, rfl⟩
theorem dX8_isKindAt_19 : nx cX8_isKindAt 19 (.bipush 112) 2 21 := ⟨by decide +kernel, rfl⟩
theorem dX8_isKindAt_21 : bx cX8_isKindAt 21 (.if_icmp .ne 7) 7 28 24 := ⟨by decide +kernel, by decide, rfl⟩
theorem dX8_isKindAt_24 : nx cX8_isKindAt 24 (.iconst 1) 1 25 := ⟨by decide +kernel, rfl⟩
theorem dX8_isKindAt_25 : bx cX8_isKindAt 25 (.goto 4) 4 29 28 := ⟨by decide +kernel, by decide, rfl⟩
theorem dX8_isKindAt_28 : nx cX8_isKindAt 28 (.iconst 0) 1 29 := ⟨by decide +kernel, rfl⟩
theorem dX8_isKindAt_29 : nx cX8_isKindAt 29 (.ireturn) 1 30 := ⟨by decide +kernel, rfl⟩
theorem dX9_init_0 : nx cX9_init 0 (.aload_n 0) 1 1 := ⟨by decide +kernel, rfl⟩
theorem dX9_init_1 : nx cX9_init 1 (.invokespecial 1) 3 4 := ⟨by decide +kernel, rfl⟩
theorem dX9_init_4 : nx cX9_init 4 (.aload_n 0) 1 5 := ⟨by decide +kernel, rfl⟩
theorem dX9_init_5 : nx cX9_init 5 (.iconst 0) 1 6 := ⟨by decide +kernel, rfl⟩
theorem dX9_init_6 : nx cX9_init 6 (.putfield 7) 3 9 := ⟨by decide +kernel, rfl⟩
theorem dX9_init_9 : nx cX9_init 9 (.return_) 1 10 := ⟨by decide +kernel, rfl⟩
theorem dX9_leave_0 : nx cX9_leave 0 (.aload_n 0) 1 1 := ⟨by decide +kernel, rfl⟩
theorem dX9_leave_1 : nx cX9_leave 1 (.bipush 31) 2 3 := ⟨by decide +kernel, rfl⟩
theorem dX9_leave_3 : nx cX9_leave 3 (.aload_n 0) 1 4 := ⟨by decide +kernel, rfl⟩
theorem dX9_leave_4 : nx cX9_leave 4 (.getfield 7) 3 7 := ⟨by decide +kernel, rfl⟩
theorem dX9_leave_7 : nx cX9_leave 7 (.imul) 1 8 := ⟨by decide +kernel, rfl⟩
theorem dX9_leave_8 : nx cX9_leave 8 (.iload_n 1) 1 9 := ⟨by decide +kernel, rfl⟩
theorem dX9_leave_9 : nx cX9_leave 9 (.iadd) 1 10 := ⟨by decide +kernel, rfl⟩
theorem dX9_leave_10 : nx cX9_leave 10 (.putfield 7) 3 13 := ⟨by decide +kernel, rfl⟩
theorem dX9_leave_13 : nx cX9_leave 13 (.return_) 1 14 := ⟨by decide +kernel, rfl⟩
theorem dX10_init_0 : nx cX10_init 0 (.aload_n 0) 1 1 := ⟨by decide +kernel, rfl⟩
theorem dX10_init_1 : nx cX10_init 1 (.invokespecial 3) 3 4 := ⟨by decide +kernel, rfl⟩
theorem dX10_init_4 : nx cX10_init 4 (.return_) 1 5 := ⟨by decide +kernel, rfl⟩
theorem dX10_begin_0 : nx cX10_begin 0 (.aload_n 0) 1 1 := ⟨by decide +kernel, rfl⟩
theorem dX10_begin_1 : nx cX10_begin 1 (.iconst 0) 1 2 := ⟨by decide +kernel, rfl⟩
theorem dX10_begin_2 : nx cX10_begin 2 (.putfield 9) 3 5 := ⟨by decide +kernel, rfl⟩
theorem dX10_begin_5 : nx cX10_begin 5 (.aload_n 0) 1 6 := ⟨by decide +kernel, rfl⟩
theorem dX10_begin_6 : nx cX10_begin 6 (.iconst 0) 1 7 := ⟨by decide +kernel, rfl⟩
theorem dX10_begin_7 : nx cX10_begin 7 (.putfield 15) 3 10 := ⟨by decide +kernel, rfl⟩
theorem dX10_begin_10 : nx cX10_begin 10 (.aload_n 0) 1 11 := ⟨by decide +kernel, rfl⟩
theorem dX10_begin_11 : nx cX10_begin 11 (.iconst 0) 1 12 := ⟨by decide +kernel, rfl⟩
theorem dX10_begin_12 : nx cX10_begin 12 (.putfield 18) 3 15 := ⟨by decide +kernel, rfl⟩
theorem dX10_begin_15 : nx cX10_begin 15 (.aload_n 0) 1 16 := ⟨by decide +kernel, rfl⟩
theorem dX10_begin_16 : nx cX10_begin 16 (.iconst 0) 1 17 := ⟨by decide +kernel, rfl⟩
theorem dX10_begin_17 : nx cX10_begin 17 (.putfield 21) 3 20 := ⟨by decide +kernel, rfl⟩
theorem dX10_begin_20 : nx cX10_begin 20 (.aload_n 0) 1 21 := ⟨by decide +kernel, rfl⟩
theorem dX10_begin_21 : nx cX10_begin 21 (.iconst 0) 1 22 := ⟨by decide +kernel, rfl⟩
theorem dX10_begin_22 : nx cX10_begin 22 (.putfield 24) 3 25 := ⟨by decide +kernel, rfl⟩
theorem dX10_begin_25 : nx cX10_begin 25 (.aload_n 0) 1 26 := ⟨by decide +kernel, rfl⟩
theorem dX10_begin_26 : nx cX10_begin 26 (.lconst 1) 1 27 := ⟨by decide +kernel, rfl⟩
theorem dX10_begin_27 : nx cX10_begin 27 (.putfield 27) 3 30 := ⟨by decide +kernel, rfl⟩
theorem dX10_begin_30 : nx cX10_begin 30 (.return_) 1 31 := ⟨by decide +kernel, rfl⟩
theorem dX10_follow_0 : nx cX10_follow 0 (.iconst 1) 1 1 := ⟨by decide +kernel, rfl⟩
theorem dX10_follow_1 : nx cX10_follow 1 (.aload_n 2) 1 2 := ⟨by decide +kernel, rfl⟩
theorem dX10_follow_2 : nx cX10_follow 2 (.getfield 31) 3 5 := ⟨by decide +kernel, rfl⟩
theorem dX10_follow_5 : nx cX10_follow 5 (.ishl) 1 6 := ⟨by decide +kernel, rfl⟩
theorem dX10_follow_6 : nx cX10_follow 6 (.istore_n 3) 1 7 := ⟨by decide +kernel, rfl⟩
theorem dX10_follow_7 : nx cX10_follow 7 (.aload_n 1) 1 8 := ⟨by decide +kernel, rfl⟩
theorem dX10_follow_8 : nx cX10_follow 8 (.getfield 24) 3 11 := ⟨by decide +kernel, rfl⟩
theorem dX10_follow_11 : nx cX10_follow 11 (.iload_n 3) 1 12 := ⟨by decide +kernel, rfl⟩
theorem dX10_follow_12 : nx cX10_follow 12 (.iand) 1 13 := ⟨by decide +kernel, rfl⟩
theorem dX10_follow_13 : bx cX10_follow 13 (.ifCond .ne 7) 7 20 16 := ⟨by decide +kernel, by decide, rfl⟩
theorem dX10_follow_16 : nx cX10_follow 16 (.iconst 1) 1 17 := ⟨by decide +kernel, rfl⟩
theorem dX10_follow_17 : bx cX10_follow 17 (.goto 4) 4 21 20 := ⟨by decide +kernel, by decide, rfl⟩
theorem dX10_follow_20 : nx cX10_follow 20 (.iconst 0) 1 21 := ⟨by decide +kernel, rfl⟩
theorem dX10_follow_21 : nx cX10_follow 21 (.istore 4) 2 23 := ⟨by decide +kernel, rfl⟩
theorem dX10_follow_23 : nx cX10_follow 23 (.aload_n 0) 1 24 := ⟨by decide +kernel, rfl⟩
theorem dX10_follow_24 : nx cX10_follow 24 (.aload_n 2) 1 25 := ⟨by decide +kernel, rfl⟩
theorem dX10_follow_25 : nx cX10_follow 25 (.aload_n 1) 1 26 := ⟨by decide +kernel, rfl⟩
theorem dX10_follow_26 : nx cX10_follow 26 (.getfield 9) 3 29 := ⟨by decide +kernel, rfl⟩
theorem dX10_follow_29 : nx cX10_follow 29 (.invokevirtual 36) 3 32 := ⟨by decide +kernel, rfl⟩
theorem dX10_follow_32 : nx cX10_follow 32 (.putfield 9) 3 35 := ⟨by decide +kernel, rfl⟩
theorem dX10_follow_35 : nx cX10_follow 35 (.aload_n 0) 1 36 := ⟨by decide +kernel, rfl⟩
theorem dX10_follow_36 : nx cX10_follow 36 (.aload_n 1) 1 37 := ⟨by decide +kernel, rfl⟩
theorem dX10_follow_37 : nx cX10_follow 37 (.getfield 15) 3 40 := ⟨by decide +kernel, rfl⟩
theorem dX10_follow_40 : nx cX10_follow 40 (.iconst 1) 1 41 := ⟨by decide +kernel, rfl⟩
theorem dX10_follow_41 : nx cX10_follow 41 (.iadd) 1 42 := ⟨by decide +kernel, rfl⟩
theorem dX10_follow_42 : nx cX10_follow 42 (.putfield 15) 3 45 := ⟨by decide +kernel, rfl⟩
theorem dX10_follow_45 : nx cX10_follow 45 (.aload_n 0) 1 46 := ⟨by decide +kernel, rfl⟩
theorem dX10_follow_46 : nx cX10_follow 46 (.aload_n 1) 1 47 := ⟨by decide +kernel, rfl⟩
theorem dX10_follow_47 : nx cX10_follow 47 (.getfield 18) 3 50 := ⟨by decide +kernel, rfl⟩
theorem dX10_follow_50 : nx cX10_follow 50 (.aload_n 2) 1 51 := ⟨by decide +kernel, rfl⟩
theorem dX10_follow_51 : nx cX10_follow 51 (.getfield 40) 3 54 := ⟨by decide +kernel, rfl⟩
theorem dX10_follow_54 : nx cX10_follow 54 (.iadd) 1 55 := ⟨by decide +kernel, rfl⟩
theorem dX10_follow_55 : nx cX10_follow 55 (.putfield 18) 3 58 := ⟨by decide +kernel, rfl⟩
theorem dX10_follow_58 : nx cX10_follow 58 (.aload_n 0) 1 59 := ⟨by decide +kernel, rfl⟩
theorem dX10_follow_59 : nx cX10_follow 59 (.aload_n 1) 1 60 := ⟨by decide +kernel, rfl⟩
theorem dX10_follow_60 : nx cX10_follow 60 (.getfield 21) 3 63 := ⟨by decide +kernel, rfl⟩
theorem dX10_follow_63 : nx cX10_follow 63 (.iload 4) 2 65 := ⟨by decide +kernel, rfl⟩
theorem dX10_follow_65 : bx cX10_follow 65 (.ifCond .eq 10) 10 75 68 := ⟨by decide +kernel, by decide, rfl⟩
theorem dX10_follow_68 : nx cX10_follow 68 (.aload_n 2) 1 69 := ⟨by decide +kernel, rfl⟩
theorem dX10_follow_69 : nx cX10_follow 69 (.getfield 41) 3 72 := ⟨by decide +kernel, rfl⟩
theorem dX10_follow_72 : bx cX10_follow 72 (.goto 4) 4 76 75 := ⟨by decide +kernel, by decide, rfl⟩
theorem dX10_follow_75 : nx cX10_follow 75 (.iconst 0) 1 76 := ⟨by decide +kernel, rfl⟩
theorem dX10_follow_76 : nx cX10_follow 76 (.iadd) 1 77 := ⟨by decide +kernel, rfl⟩
theorem dX10_follow_77 : nx cX10_follow 77 (.putfield 21) 3 80 := ⟨by decide +kernel, rfl⟩
theorem dX10_follow_80 : nx cX10_follow 80 (.aload_n 0) 1 81 := ⟨by decide +kernel, rfl⟩
theorem dX10_follow_81 : nx cX10_follow 81 (.aload_n 1) 1 82 := ⟨by decide +kernel, rfl⟩
theorem dX10_follow_82 : nx cX10_follow 82 (.getfield 24) 3 85 := ⟨by decide +kernel, rfl⟩
theorem dX10_follow_85 : nx cX10_follow 85 (.iload_n 3) 1 86 := ⟨by decide +kernel, rfl⟩
theorem dX10_follow_86 : nx cX10_follow 86 (.ior) 1 87 := ⟨by decide +kernel, rfl⟩
theorem dX10_follow_87 : nx cX10_follow 87 (.putfield 24) 3 90 := ⟨by decide +kernel, rfl⟩
theorem dX10_follow_90 : nx cX10_follow 90 (.aload_n 0) 1 91 := ⟨by decide +kernel, rfl⟩
theorem dX10_follow_91 : nx cX10_follow 91 (.aload_n 1) 1 92 := ⟨by decide +kernel, rfl⟩
theorem dX10_follow_92 : nx cX10_follow 92 (.getfield 27) 3 95 := ⟨by decide +kernel, rfl⟩
theorem dX10_follow_95 : nx cX10_follow 95 (.aload_n 2) 1 96 := ⟨by decide +kernel, rfl⟩
theorem dX10_follow_96 : nx cX10_follow 96 (.getfield 42) 3 99 := ⟨by decide +kernel, rfl⟩
theorem dX10_follow_99 : nx cX10_follow 99 (.i2l) 1 100 := ⟨by decide +kernel, rfl⟩
theorem dX10_follow_100 : nx cX10_follow 100 (.lmul) 1 101 := ⟨by decide +kernel, rfl⟩
theorem dX10_follow_101 : nx cX10_follow 101 (.putfield 27) 3 104 := ⟨by decide +kernel, rfl⟩
theorem dX10_follow_104 : nx cX10_follow 104 (.return_) 1 105 := ⟨by decide +kernel, rfl⟩
theorem dX11_init_0 : nx cX11_init 0 (.aload_n 0) 1 1 := ⟨by decide +kernel, rfl⟩
theorem dX11_init_1 : nx cX11_init 1 (.invokespecial 3) 3 4 := ⟨by decide +kernel, rfl⟩
theorem dX11_init_4 : nx cX11_init 4 (.aload_n 0) 1 5 := ⟨by decide +kernel, rfl⟩
theorem dX11_init_5 : nx cX11_init 5 (.iconst 4) 1 6 := ⟨by decide +kernel, rfl⟩
theorem dX11_init_6 : nx cX11_init 6 (.anewarray 11) 3 9 := ⟨by decide +kernel, rfl⟩
theorem dX11_init_9 : nx cX11_init 9 (.putfield 13) 3 12 := ⟨by decide +kernel, rfl⟩
theorem dX11_init_12 : nx cX11_init 12 (.iconst 0) 1 13 := ⟨by decide +kernel, rfl⟩
theorem dX11_init_13 : nx cX11_init 13 (.istore_n 1) 1 14 := ⟨by decide +kernel, rfl⟩
theorem dX11_init_14 : nx cX11_init 14 (.iload_n 1) 1 15 := ⟨by decide +kernel, rfl⟩
theorem dX11_init_15 : nx cX11_init 15 (.iconst 4) 1 16 := ⟨by decide +kernel, rfl⟩
theorem dX11_init_16 : bx cX11_init 16 (.if_icmp .ge 22) 22 38 19 := ⟨by decide +kernel, by decide, rfl⟩
theorem dX11_init_19 : nx cX11_init 19 (.aload_n 0) 1 20 := ⟨by decide +kernel, rfl⟩
theorem dX11_init_20 : nx cX11_init 20 (.getfield 13) 3 23 := ⟨by decide +kernel, rfl⟩
theorem dX11_init_23 : nx cX11_init 23 (.iload_n 1) 1 24 := ⟨by decide +kernel, rfl⟩
theorem dX11_init_24 : nx cX11_init 24 (.new 11) 3 27 := ⟨by decide +kernel, rfl⟩
theorem dX11_init_27 : nx cX11_init 27 (.dup) 1 28 := ⟨by decide +kernel, rfl⟩
theorem dX11_init_28 : nx cX11_init 28 (.invokespecial 17) 3 31 := ⟨by decide +kernel, rfl⟩
theorem dX11_init_31 : nx cX11_init 31 (.aastore) 1 32 := ⟨by decide +kernel, rfl⟩
theorem dX11_init_32 : nx cX11_init 32 (.iinc 1 1) 3 35 := ⟨by decide +kernel, rfl⟩
theorem dX11_init_35 : bx cX11_init 35 (.goto (-21)) (-21) 14 38 := ⟨by decide +kernel, by decide, rfl⟩
theorem dX11_init_38 : nx cX11_init 38 (.aload_n 0) 1 39 := ⟨by decide +kernel, rfl⟩
theorem dX11_init_39 : nx cX11_init 39 (.new 18) 3 42 := ⟨by decide +kernel, rfl⟩
theorem dX11_init_42 : nx cX11_init 42 (.dup) 1 43 := ⟨by decide +kernel, rfl⟩
theorem dX11_init_43 : nx cX11_init 43 (.invokespecial 20) 3 46 := ⟨by decide +kernel, rfl⟩
theorem dX11_init_46 : nx cX11_init 46 (.putfield 21) 3 49 := ⟨by decide +kernel, rfl⟩
theorem dX11_init_49 : nx cX11_init 49 (.aload_n 0) 1 50 := ⟨by decide +kernel, rfl⟩
theorem dX11_init_50 : nx cX11_init 50 (.new 25) 3 53 := ⟨by decide +kernel, rfl⟩
theorem dX11_init_53 : nx cX11_init 53 (.dup) 1 54 := ⟨by decide +kernel, rfl⟩
theorem dX11_init_54 : nx cX11_init 54 (.invokespecial 27) 3 57 := ⟨by decide +kernel, rfl⟩
theorem dX11_init_57 : nx cX11_init 57 (.putfield 28) 3 60 := ⟨by decide +kernel, rfl⟩
theorem dX11_init_60 : nx cX11_init 60 (.aload_n 0) 1 61 := ⟨by decide +kernel, rfl⟩
theorem dX11_init_61 : nx cX11_init 61 (.new 32) 3 64 := ⟨by decide +kernel, rfl⟩
theorem dX11_init_64 : nx cX11_init 64 (.dup) 1 65 := ⟨by decide +kernel, rfl⟩
theorem dX11_init_65 : nx cX11_init 65 (.invokespecial 34) 3 68 := ⟨by decide +kernel, rfl⟩
theorem dX11_init_68 : nx cX11_init 68 (.putfield 35) 3 71 := ⟨by decide +kernel, rfl⟩
theorem dX11_init_71 : nx cX11_init 71 (.aload_n 0) 1 72 := ⟨by decide +kernel, rfl⟩
theorem dX11_init_72 : nx cX11_init 72 (.new 39) 3 75 := ⟨by decide +kernel, rfl⟩
theorem dX11_init_75 : nx cX11_init 75 (.dup) 1 76 := ⟨by decide +kernel, rfl⟩
theorem dX11_init_76 : nx cX11_init 76 (.invokespecial 41) 3 79 := ⟨by decide +kernel, rfl⟩
theorem dX11_init_79 : nx cX11_init 79 (.putfield 42) 3 82 := ⟨by decide +kernel, rfl⟩
theorem dX11_init_82 : nx cX11_init 82 (.aload_n 0) 1 83 := ⟨by decide +kernel, rfl⟩
theorem dX11_init_83 : nx cX11_init 83 (.new 46) 3 86 := ⟨by decide +kernel, rfl⟩
theorem dX11_init_86 : nx cX11_init 86 (.dup) 1 87 := ⟨by decide +kernel, rfl⟩
theorem dX11_init_87 : nx cX11_init 87 (.invokespecial 48) 3 90 := ⟨by decide +kernel, rfl⟩
theorem dX11_init_90 : nx cX11_init 90 (.putfield 49) 3 93 := ⟨by decide +kernel, rfl⟩
theorem dX11_init_93 : nx cX11_init 93 (.aload_n 0) 1 94 := ⟨by decide +kernel, rfl⟩
theorem dX11_init_94 : nx cX11_init 94 (.new 53) 3 97 := ⟨by decide +kernel, rfl⟩
theorem dX11_init_97 : nx cX11_init 97 (.dup) 1 98 := ⟨by decide +kernel, rfl⟩
theorem dX11_init_98 : nx cX11_init 98 (.invokespecial 55) 3 101 := ⟨by decide +kernel, rfl⟩
theorem dX11_init_101 : nx cX11_init 101 (.putfield 56) 3 104 := ⟨by decide +kernel, rfl⟩
theorem dX11_init_104 : nx cX11_init 104 (.aload_n 0) 1 105 := ⟨by decide +kernel, rfl⟩
theorem dX11_init_105 : nx cX11_init 105 (.iconst 0) 1 106 := ⟨by decide +kernel, rfl⟩
theorem dX11_init_106 : nx cX11_init 106 (.putfield 60) 3 109 := ⟨by decide +kernel, rfl⟩
theorem dX11_init_109 : nx cX11_init 109 (.return_) 1 110 := ⟨by decide +kernel, rfl⟩
theorem dX11_net_0 : nx cX11_net 0 (.aload_n 0) 1 1 := ⟨by decide +kernel, rfl⟩
theorem dX11_net_1 : nx cX11_net 1 (.iload_n 1) 1 2 := ⟨by decide +kernel, rfl⟩
theorem dX11_net_2 : nx cX11_net 2 (.invokevirtual 64) 3 5 := ⟨by decide +kernel, rfl⟩
theorem dX11_net_5 : nx cX11_net 5 (.astore 5) 2 7 := ⟨by decide +kernel, rfl⟩
theorem dX11_net_7 : nx cX11_net 7 (.aload 5) 2 9 := ⟨by decide +kernel, rfl⟩
theorem dX11_net_9 : bx cX11_net 9 (.ifnonnull 9) 9 18 12 := ⟨by decide +kernel, by decide, rfl⟩
theorem dX11_net_12 : nx cX11_net 12 (.aload_n 0) 1 13 := ⟨by decide +kernel, rfl⟩
theorem dX11_net_13 : nx cX11_net 13 (.iconst (-1)) 1 14 := ⟨by decide +kernel, rfl⟩
theorem dX11_net_14 : nx cX11_net 14 (.invokevirtual 68) 3 17 := ⟨by decide +kernel, rfl⟩
theorem dX11_net_17 : nx cX11_net 17 (.ireturn) 1 18 := ⟨by decide +kernel, rfl⟩
theorem dX11_net_18 : nx cX11_net 18 (.iload_n 2) 1 19 := ⟨by decide +kernel, rfl⟩
theorem dX11_net_19 : nx cX11_net 19 (.iconst 0) 1 20 := ⟨by decide +kernel, rfl⟩
theorem dX11_net_20 : nx cX11_net 20 (.iconst 2) 1 21 := ⟨by decide +kernel, rfl⟩
theorem dX11_net_21 : nx cX11_net 21 (.invokestatic 72) 3 24 := ⟨by decide +kernel, rfl⟩
theorem dX11_net_24 : bx cX11_net 24 (.ifCond .ne 10) 10 34 27 := ⟨by decide +kernel, by decide, rfl⟩
theorem dX11_net_27 : nx cX11_net 27 (.aload_n 0) 1 28 := ⟨by decide +kernel, rfl⟩
theorem dX11_net_28 : nx cX11_net 28 (.bipush (-2)) 2 30 := ⟨by decide +kernel, rfl⟩
theorem dX11_net_30 : nx cX11_net 30 (.invokevirtual 68) 3 33 := ⟨by decide +kernel, rfl⟩
theorem dX11_net_33 : nx cX11_net 33 (.ireturn) 1 34 := ⟨by decide +kernel, rfl⟩
theorem dX11_net_34 : nx cX11_net 34 (.aload 5) 2 36 := ⟨by decide +kernel, rfl⟩
theorem dX11_net_36 : nx cX11_net 36 (.iload_n 2) 1 37 := ⟨by decide +kernel, rfl⟩
theorem dX11_net_37 : nx cX11_net 37 (.iload_n 3) 1 38 := ⟨by decide +kernel, rfl⟩
theorem dX11_net_38 : nx cX11_net 38 (.iload 4) 2 40 := ⟨by decide +kernel, rfl⟩
theorem dX11_net_40 : nx cX11_net 40 (.invokevirtual 76) 3 43 := ⟨by decide +kernel, rfl⟩
theorem dX11_net_43 : nx cX11_net 43 (.istore 6) 2 45 := ⟨by decide +kernel, rfl⟩
theorem dX11_net_45 : nx cX11_net 45 (.iload 6) 2 47 := ⟨by decide +kernel, rfl⟩
theorem dX11_net_47 : bx cX11_net 47 (.ifCond .eq 10) 10 57 50 := ⟨by decide +kernel, by decide, rfl⟩
theorem dX11_net_50 : nx cX11_net 50 (.aload_n 0) 1 51 := ⟨by decide +kernel, rfl⟩
theorem dX11_net_51 : nx cX11_net 51 (.iload 6) 2 53 := ⟨by decide +kernel, rfl⟩
theorem dX11_net_53 : nx cX11_net 53 (.invokevirtual 80) 3 56 := ⟨by decide +kernel, rfl⟩
theorem dX11_net_56 : nx cX11_net 56 (.ireturn) 1 57 := ⟨by decide +kernel, rfl⟩
theorem dX11_net_57 : nx cX11_net 57 (.aload_n 0) 1 58 := ⟨by decide +kernel, rfl⟩
theorem dX11_net_58 : nx cX11_net 58 (.iconst 0) 1 59 := ⟨by decide +kernel, rfl⟩
theorem dX11_net_59 : nx cX11_net 59 (.putfield 60) 3 62 := ⟨by decide +kernel, rfl⟩
theorem dX11_net_62 : nx cX11_net 62 (.new 83) 3 65 := ⟨by decide +kernel, rfl⟩
theorem dX11_net_65 : nx cX11_net 65 (.dup) 1 66 := ⟨by decide +kernel, rfl⟩
theorem dX11_net_66 : nx cX11_net 66 (.aload 5) 2 68 := ⟨by decide +kernel, rfl⟩
theorem dX11_net_68 : nx cX11_net 68 (.iload_n 3) 1 69 := ⟨by decide +kernel, rfl⟩
theorem dX11_net_69 : nx cX11_net 69 (.iload 4) 2 71 := ⟨by decide +kernel, rfl⟩
theorem dX11_net_71 : nx cX11_net 71 (.invokespecial 85) 3 74 := ⟨by decide +kernel, rfl⟩
theorem dX11_net_74 : nx cX11_net 74 (.astore 7) 2 76 := ⟨by decide +kernel, rfl⟩
theorem dX11_net_76 : nx cX11_net 76 (.aload 7) 2 78 := ⟨by decide +kernel, rfl⟩
theorem dX11_net_78 : nx cX11_net 78 (.invokevirtual 88) 3 81 := ⟨by decide +kernel, rfl⟩
theorem dX11_net_81 : nx cX11_net 81 (.istore 8) 2 83 := ⟨by decide +kernel, rfl⟩
theorem dX11_net_83 : nx cX11_net 83 (.iload 8) 2 85 := ⟨by decide +kernel, rfl⟩
theorem dX11_net_85 : nx cX11_net 85 (.bipush (-9)) 2 87 := ⟨by decide +kernel, rfl⟩
theorem dX11_net_87 : bx cX11_net 87 (.if_icmp .eq 9) 9 96 90 := ⟨by decide +kernel, by decide, rfl⟩
theorem dX11_net_90 : nx cX11_net 90 (.bipush (-100)) 2 92 := ⟨by decide +kernel, rfl⟩
theorem dX11_net_92 : nx cX11_net 92 (.iload 8) 2 94 := ⟨by decide +kernel, rfl⟩
theorem dX11_net_94 : nx cX11_net 94 (.isub) 1 95 := ⟨by decide +kernel, rfl⟩
theorem dX11_net_95 : nx cX11_net 95 (.ireturn) 1 96 := ⟨by decide +kernel, rfl⟩
theorem dX11_net_96 : nx cX11_net 96 (.aload_n 0) 1 97 := ⟨by decide +kernel, rfl⟩
theorem dX11_net_97 : nx cX11_net 97 (.getfield 21) 3 100 := ⟨by decide +kernel, rfl⟩
theorem dX11_net_100 : nx cX11_net 100 (.aload 7) 2 102 := ⟨by decide +kernel, rfl⟩
theorem dX11_net_102 : nx cX11_net 102 (.invokevirtual 92) 3 105 := ⟨by decide +kernel, rfl⟩
theorem dX11_net_105 : nx cX11_net 105 (.aload_n 0) 1 106 := ⟨by decide +kernel, rfl⟩
theorem dX11_net_106 : nx cX11_net 106 (.getfield 21) 3 109 := ⟨by decide +kernel, rfl⟩
theorem dX11_net_109 : nx cX11_net 109 (.getfield 96) 3 112 := ⟨by decide +kernel, rfl⟩
theorem dX11_net_112 : nx cX11_net 112 (.ireturn) 1 113 := ⟨by decide +kernel, rfl⟩
theorem dX11_ofStretch_0 : nx cX11_ofStretch 0 (.aload_n 0) 1 1 := ⟨by decide +kernel, rfl⟩
theorem dX11_ofStretch_1 : nx cX11_ofStretch 1 (.getfield 21) 3 4 := ⟨by decide +kernel, rfl⟩
theorem dX11_ofStretch_4 : nx cX11_ofStretch 4 (.iload_n 1) 1 5 := ⟨by decide +kernel, rfl⟩
theorem dX11_ofStretch_5 : nx cX11_ofStretch 5 (.invokevirtual 99) 3 8 := ⟨by decide +kernel, rfl⟩
theorem dX11_ofStretch_8 : nx cX11_ofStretch 8 (.astore_n 3) 1 9 := ⟨by decide +kernel, rfl⟩
theorem dX11_ofStretch_9 : nx cX11_ofStretch 9 (.aload_n 3) 1 10 := ⟨by decide +kernel, rfl⟩
theorem dX11_ofStretch_10 : bx cX11_ofStretch 10 (.ifnonnull 5) 5 15 13 := ⟨by decide +kernel, by decide, rfl⟩
theorem dX11_ofStretch_13 : nx cX11_ofStretch 13 (.iconst (-1)) 1 14 := ⟨by decide +kernel, rfl⟩
theorem dX11_ofStretch_14 : nx cX11_ofStretch 14 (.ireturn) 1 15 := ⟨by decide +kernel, rfl⟩
theorem dX11_ofStretch_15 : nx cX11_ofStretch 15 (.iload_n 2) 1 16 := ⟨by decide +kernel, rfl⟩
theorem dX11_ofStretch_16 : nx cX11_ofStretch 16 (.tableswitch 96 0 7 #[48, 53, 58, 63, 68, 73, 78, 83]) 48 64 := ⟨by decide +kernel, rfl⟩
theorem dX11_ofStretch_64 : nx cX11_ofStretch 64 (.aload_n 3) 1 65 := ⟨by decide +kernel, rfl⟩
theorem dX11_ofStretch_65 : nx cX11_ofStretch 65 (.invokevirtual 103) 3 68 := ⟨by decide +kernel, rfl⟩
theorem dX11_ofStretch_68 : nx cX11_ofStretch 68 (.ireturn) 1 69 := ⟨by decide +kernel, rfl⟩
theorem dX11_ofStretch_69 : nx cX11_ofStretch 69 (.aload_n 3) 1 70 := ⟨by decide +kernel, rfl⟩
theorem dX11_ofStretch_70 : nx cX11_ofStretch 70 (.getfield 108) 3 73 := ⟨by decide +kernel, rfl⟩
theorem dX11_ofStretch_73 : nx cX11_ofStretch 73 (.ireturn) 1 74 := ⟨by decide +kernel, rfl⟩
theorem dX11_ofStretch_74 : nx cX11_ofStretch 74 (.aload_n 3) 1 75 := ⟨by decide +kernel, rfl⟩
theorem dX11_ofStretch_75 : nx cX11_ofStretch 75 (.getfield 111) 3 78 := ⟨by decide +kernel, rfl⟩
theorem dX11_ofStretch_78 : nx cX11_ofStretch 78 (.ireturn) 1 79 := ⟨by decide +kernel, rfl⟩
theorem dX11_ofStretch_79 : nx cX11_ofStretch 79 (.aload_n 3) 1 80 := ⟨by decide +kernel, rfl⟩
theorem dX11_ofStretch_80 : nx cX11_ofStretch 80 (.getfield 114) 3 83 := ⟨by decide +kernel, rfl⟩
theorem dX11_ofStretch_83 : nx cX11_ofStretch 83 (.ireturn) 1 84 := ⟨by decide +kernel, rfl⟩
theorem dX11_ofStretch_84 : nx cX11_ofStretch 84 (.aload_n 3) 1 85 := ⟨by decide +kernel, rfl⟩
theorem dX11_ofStretch_85 : nx cX11_ofStretch 85 (.getfield 117) 3 88 := ⟨by decide +kernel, rfl⟩
theorem dX11_ofStretch_88 : nx cX11_ofStretch 88 (.ireturn) 1 89 := ⟨by decide +kernel, rfl⟩
theorem dX11_ofStretch_89 : nx cX11_ofStretch 89 (.aload_n 3) 1 90 := ⟨by decide +kernel, rfl⟩
theorem dX11_ofStretch_90 : nx cX11_ofStretch 90 (.getfield 120) 3 93 := ⟨by decide +kernel, rfl⟩
theorem dX11_ofStretch_93 : nx cX11_ofStretch 93 (.ireturn) 1 94 := ⟨by decide +kernel, rfl⟩
theorem dX11_ofStretch_94 : nx cX11_ofStretch 94 (.aload_n 3) 1 95 := ⟨by decide +kernel, rfl⟩
theorem dX11_ofStretch_95 : nx cX11_ofStretch 95 (.getfield 123) 3 98 := ⟨by decide +kernel, rfl⟩
theorem dX11_ofStretch_98 : nx cX11_ofStretch 98 (.ireturn) 1 99 := ⟨by decide +kernel, rfl⟩
theorem dX11_ofStretch_99 : nx cX11_ofStretch 99 (.aload_n 3) 1 100 := ⟨by decide +kernel, rfl⟩
theorem dX11_ofStretch_100 : nx cX11_ofStretch 100 (.getfield 126) 3 103 := ⟨by decide +kernel, rfl⟩
theorem dX11_ofStretch_103 : bx cX11_ofStretch 103 (.ifCond .eq 7) 7 110 106 := ⟨by decide +kernel, by decide, rfl⟩
theorem dX11_ofStretch_106 : nx cX11_ofStretch 106 (.iconst 1) 1 107 := ⟨by decide +kernel, rfl⟩
theorem dX11_ofStretch_107 : bx cX11_ofStretch 107 (.goto 4) 4 111 110 := ⟨by decide +kernel, by decide, rfl⟩
theorem dX11_ofStretch_110 : nx cX11_ofStretch 110 (.iconst 0) 1 111 := ⟨by decide +kernel, rfl⟩
theorem dX11_ofStretch_111 : nx cX11_ofStretch 111 (.ireturn) 1 112 := ⟨by decide +kernel, rfl⟩
theorem dX11_ofStretch_112 : nx cX11_ofStretch 112 (.bipush (-2)) 2 114 := ⟨by decide +kernel, rfl⟩
theorem dX11_ofStretch_114 : nx cX11_ofStretch 114 (.ireturn) 1 115 := ⟨by decide +kernel, rfl⟩
theorem dX11_due_0 : nx cX11_due 0 (.iload_n 1) 1 1 := ⟨by decide +kernel, rfl⟩
theorem dX11_due_1 : nx cX11_due 1 (.iconst 0) 1 2 := ⟨by decide +kernel, rfl⟩
theorem dX11_due_2 : nx cX11_due 2 (.bipush 99) 2 4 := ⟨by decide +kernel, rfl⟩
theorem dX11_due_4 : nx cX11_due 4 (.invokestatic 72) 3 7 := ⟨by decide +kernel, rfl⟩
theorem dX11_due_7 : bx cX11_due 7 (.ifCond .ne 6) 6 13 10 := ⟨by decide +kernel, by decide, rfl⟩
theorem dX11_due_10 : nx cX11_due 10 (.bipush (-2)) 2 12 := ⟨by decide +kernel, rfl⟩
theorem dX11_due_12 : nx cX11_due 12 (.ireturn) 1 13 := ⟨by decide +kernel, rfl⟩
theorem dX11_due_13 : nx cX11_due 13 (.aload_n 0) 1 14 := ⟨by decide +kernel, rfl⟩
theorem dX11_due_14 : nx cX11_due 14 (.getfield 21) 3 17 := ⟨by decide +kernel, rfl⟩
theorem dX11_due_17 : nx cX11_due 17 (.invokevirtual 130) 3 20 := ⟨by decide +kernel, rfl⟩
theorem dX11_due_20 : bx cX11_due 20 (.ifCond .eq 6) 6 26 23 := ⟨by decide +kernel, by decide, rfl⟩
theorem dX11_due_23 : nx cX11_due 23 (.bipush (-3)) 2 25 := ⟨by decide +kernel, rfl⟩
theorem dX11_due_25 : nx cX11_due 25 (.ireturn) 1 26 := ⟨by decide +kernel, rfl⟩
theorem dX11_due_26 : nx cX11_due 26 (.aload_n 0) 1 27 := ⟨by decide +kernel, rfl⟩
theorem dX11_due_27 : nx cX11_due 27 (.getfield 21) 3 30 := ⟨by decide +kernel, rfl⟩
theorem dX11_due_30 : nx cX11_due 30 (.getfield 134) 3 33 := ⟨by decide +kernel, rfl⟩
theorem dX11_due_33 : nx cX11_due 33 (.istore_n 2) 1 34 := ⟨by decide +kernel, rfl⟩
theorem dX11_due_34 : nx cX11_due 34 (.aload_n 0) 1 35 := ⟨by decide +kernel, rfl⟩
theorem dX11_due_35 : nx cX11_due 35 (.getfield 21) 3 38 := ⟨by decide +kernel, rfl⟩
theorem dX11_due_38 : nx cX11_due 38 (.iload_n 1) 1 39 := ⟨by decide +kernel, rfl⟩
theorem dX11_due_39 : nx cX11_due 39 (.putfield 134) 3 42 := ⟨by decide +kernel, rfl⟩
theorem dX11_due_42 : nx cX11_due 42 (.iload_n 2) 1 43 := ⟨by decide +kernel, rfl⟩
theorem dX11_due_43 : nx cX11_due 43 (.ireturn) 1 44 := ⟨by decide +kernel, rfl⟩
theorem dX11_law_0 : nx cX11_law 0 (.iload_n 1) 1 1 := ⟨by decide +kernel, rfl⟩
theorem dX11_law_1 : nx cX11_law 1 (.iconst 0) 1 2 := ⟨by decide +kernel, rfl⟩
theorem dX11_law_2 : nx cX11_law 2 (.iconst 2) 1 3 := ⟨by decide +kernel, rfl⟩
theorem dX11_law_3 : nx cX11_law 3 (.invokestatic 72) 3 6 := ⟨by decide +kernel, rfl⟩
theorem dX11_law_6 : bx cX11_law 6 (.ifCond .ne 6) 6 12 9 := ⟨by decide +kernel, by decide, rfl⟩
theorem dX11_law_9 : nx cX11_law 9 (.bipush (-2)) 2 11 := ⟨by decide +kernel, rfl⟩
theorem dX11_law_11 : nx cX11_law 11 (.ireturn) 1 12 := ⟨by decide +kernel, rfl⟩
theorem dX11_law_12 : nx cX11_law 12 (.aload_n 0) 1 13 := ⟨by decide +kernel, rfl⟩
theorem dX11_law_13 : nx cX11_law 13 (.getfield 21) 3 16 := ⟨by decide +kernel, rfl⟩
theorem dX11_law_16 : nx cX11_law 16 (.invokevirtual 130) 3 19 := ⟨by decide +kernel, rfl⟩
theorem dX11_law_19 : bx cX11_law 19 (.ifCond .eq 6) 6 25 22 := ⟨by decide +kernel, by decide, rfl⟩
theorem dX11_law_22 : nx cX11_law 22 (.bipush (-3)) 2 24 := ⟨by decide +kernel, rfl⟩
theorem dX11_law_24 : nx cX11_law 24 (.ireturn) 1 25 := ⟨by decide +kernel, rfl⟩
theorem dX11_law_25 : nx cX11_law 25 (.aload_n 0) 1 26 := ⟨by decide +kernel, rfl⟩
theorem dX11_law_26 : nx cX11_law 26 (.getfield 21) 3 29 := ⟨by decide +kernel, rfl⟩
theorem dX11_law_29 : nx cX11_law 29 (.getfield 137) 3 32 := ⟨by decide +kernel, rfl⟩
theorem dX11_law_32 : nx cX11_law 32 (.istore_n 2) 1 33 := ⟨by decide +kernel, rfl⟩
theorem dX11_law_33 : nx cX11_law 33 (.aload_n 0) 1 34 := ⟨by decide +kernel, rfl⟩
theorem dX11_law_34 : nx cX11_law 34 (.getfield 21) 3 37 := ⟨by decide +kernel, rfl⟩
theorem dX11_law_37 : nx cX11_law 37 (.iload_n 1) 1 38 := ⟨by decide +kernel, rfl⟩
theorem dX11_law_38 : nx cX11_law 38 (.putfield 137) 3 41 := ⟨by decide +kernel, rfl⟩
theorem dX11_law_41 : nx cX11_law 41 (.iload_n 2) 1 42 := ⟨by decide +kernel, rfl⟩
theorem dX11_law_42 : nx cX11_law 42 (.ireturn) 1 43 := ⟨by decide +kernel, rfl⟩
theorem dX11_friend_0 : nx cX11_friend 0 (.iload_n 1) 1 1 := ⟨by decide +kernel, rfl⟩
theorem dX11_friend_1 : nx cX11_friend 1 (.bipush (-9)) 2 3 := ⟨by decide +kernel, rfl⟩
theorem dX11_friend_3 : bx cX11_friend 3 (.if_icmp .eq 16) 16 19 6 := ⟨by decide +kernel, by decide, rfl⟩
theorem dX11_friend_6 : nx cX11_friend 6 (.aload_n 0) 1 7 := ⟨by decide +kernel, rfl⟩
theorem dX11_friend_7 : nx cX11_friend 7 (.getfield 21) 3 10 := ⟨by decide +kernel, rfl⟩
theorem dX11_friend_10 : nx cX11_friend 10 (.iload_n 1) 1 11 := ⟨by decide +kernel, rfl⟩
theorem dX11_friend_11 : nx cX11_friend 11 (.invokevirtual 140) 3 14 := ⟨by decide +kernel, rfl⟩
theorem dX11_friend_14 : bx cX11_friend 14 (.ifCond .ne 5) 5 19 17 := ⟨by decide +kernel, by decide, rfl⟩
theorem dX11_friend_17 : nx cX11_friend 17 (.iconst (-1)) 1 18 := ⟨by decide +kernel, rfl⟩
theorem dX11_friend_18 : nx cX11_friend 18 (.ireturn) 1 19 := ⟨by decide +kernel, rfl⟩
theorem dX11_friend_19 : nx cX11_friend 19 (.aload_n 0) 1 20 := ⟨by decide +kernel, rfl⟩
theorem dX11_friend_20 : nx cX11_friend 20 (.getfield 21) 3 23 := ⟨by decide +kernel, rfl⟩
theorem dX11_friend_23 : nx cX11_friend 23 (.invokevirtual 130) 3 26 := ⟨by decide +kernel, rfl⟩
theorem dX11_friend_26 : bx cX11_friend 26 (.ifCond .eq 6) 6 32 29 := ⟨by decide +kernel, by decide, rfl⟩
theorem dX11_friend_29 : nx cX11_friend 29 (.bipush (-3)) 2 31 := ⟨by decide +kernel, rfl⟩
theorem dX11_friend_31 : nx cX11_friend 31 (.ireturn) 1 32 := ⟨by decide +kernel, rfl⟩
theorem dX11_friend_32 : nx cX11_friend 32 (.aload_n 0) 1 33 := ⟨by decide +kernel, rfl⟩
theorem dX11_friend_33 : nx cX11_friend 33 (.getfield 21) 3 36 := ⟨by decide +kernel, rfl⟩
theorem dX11_friend_36 : nx cX11_friend 36 (.getfield 144) 3 39 := ⟨by decide +kernel, rfl⟩
theorem dX11_friend_39 : nx cX11_friend 39 (.istore_n 2) 1 40 := ⟨by decide +kernel, rfl⟩
theorem dX11_friend_40 : nx cX11_friend 40 (.aload_n 0) 1 41 := ⟨by decide +kernel, rfl⟩
theorem dX11_friend_41 : nx cX11_friend 41 (.getfield 21) 3 44 := ⟨by decide +kernel, rfl⟩
theorem dX11_friend_44 : nx cX11_friend 44 (.iload_n 1) 1 45 := ⟨by decide +kernel, rfl⟩
theorem dX11_friend_45 : nx cX11_friend 45 (.invokevirtual 147) 3 48 := ⟨by decide +kernel, rfl⟩
theorem dX11_friend_48 : nx cX11_friend 48 (.iload_n 2) 1 49 := ⟨by decide +kernel, rfl⟩
theorem dX11_friend_49 : nx cX11_friend 49 (.ireturn) 1 50 := ⟨by decide +kernel, rfl⟩
theorem dX11_close_0 : nx cX11_close 0 (.aload_n 0) 1 1 := ⟨by decide +kernel, rfl⟩
theorem dX11_close_1 : nx cX11_close 1 (.getfield 21) 3 4 := ⟨by decide +kernel, rfl⟩
theorem dX11_close_4 : nx cX11_close 4 (.iload_n 1) 1 5 := ⟨by decide +kernel, rfl⟩
theorem dX11_close_5 : nx cX11_close 5 (.invokevirtual 99) 3 8 := ⟨by decide +kernel, rfl⟩
theorem dX11_close_8 : nx cX11_close 8 (.astore_n 3) 1 9 := ⟨by decide +kernel, rfl⟩
theorem dX11_close_9 : nx cX11_close 9 (.aload_n 3) 1 10 := ⟨by decide +kernel, rfl⟩
theorem dX11_close_10 : bx cX11_close 10 (.ifnonnull 5) 5 15 13 := ⟨by decide +kernel, by decide, rfl⟩
theorem dX11_close_13 : nx cX11_close 13 (.iconst (-1)) 1 14 := ⟨by decide +kernel, rfl⟩
theorem dX11_close_14 : nx cX11_close 14 (.ireturn) 1 15 := ⟨by decide +kernel, rfl⟩
theorem dX11_close_15 : nx cX11_close 15 (.aload_n 3) 1 16 := ⟨by decide +kernel, rfl⟩
theorem dX11_close_16 : nx cX11_close 16 (.getfield 126) 3 19 := ⟨by decide +kernel, rfl⟩
theorem dX11_close_19 : nx cX11_close 19 (.iload_n 2) 1 20 := ⟨by decide +kernel, rfl⟩
theorem dX11_close_20 : bx cX11_close 20 (.if_icmp .ne 5) 5 25 23 := ⟨by decide +kernel, by decide, rfl⟩
theorem dX11_close_23 : nx cX11_close 23 (.iconst 0) 1 24 := ⟨by decide +kernel, rfl⟩
theorem dX11_close_24 : nx cX11_close 24 (.ireturn) 1 25 := ⟨by decide +kernel, rfl⟩
theorem dX11_close_25 : nx cX11_close 25 (.aload_n 3) 1 26 := ⟨by decide +kernel, rfl⟩
theorem dX11_close_26 : nx cX11_close 26 (.iload_n 2) 1 27 := ⟨by decide +kernel, rfl⟩
theorem dX11_close_27 : nx cX11_close 27 (.putfield 126) 3 30 := ⟨by decide +kernel, rfl⟩
theorem dX11_close_30 : nx cX11_close 30 (.iconst 1) 1 31 := ⟨by decide +kernel, rfl⟩
theorem dX11_close_31 : nx cX11_close 31 (.ireturn) 1 32 := ⟨by decide +kernel, rfl⟩
theorem dX11_walk_0 : nx cX11_walk 0 (.aload_n 0) 1 1 := ⟨by decide +kernel, rfl⟩
theorem dX11_walk_1 : nx cX11_walk 1 (.iload_n 1) 1 2 := ⟨by decide +kernel, rfl⟩
theorem dX11_walk_2 : nx cX11_walk 2 (.iload_n 2) 1 3 := ⟨by decide +kernel, rfl⟩
theorem dX11_walk_3 : nx cX11_walk 3 (.iload_n 3) 1 4 := ⟨by decide +kernel, rfl⟩
theorem dX11_walk_4 : nx cX11_walk 4 (.iload 4) 2 6 := ⟨by decide +kernel, rfl⟩
theorem dX11_walk_6 : nx cX11_walk 6 (.iload 5) 2 8 := ⟨by decide +kernel, rfl⟩
theorem dX11_walk_8 : nx cX11_walk 8 (.iconst 0) 1 9 := ⟨by decide +kernel, rfl⟩
theorem dX11_walk_9 : nx cX11_walk 9 (.iconst 3) 1 10 := ⟨by decide +kernel, rfl⟩
theorem dX11_walk_10 : nx cX11_walk 10 (.invokestatic 72) 3 13 := ⟨by decide +kernel, rfl⟩
theorem dX11_walk_13 : nx cX11_walk 13 (.invokevirtual 151) 3 16 := ⟨by decide +kernel, rfl⟩
theorem dX11_walk_16 : nx cX11_walk 16 (.istore 6) 2 18 := ⟨by decide +kernel, rfl⟩
theorem dX11_walk_18 : nx cX11_walk 18 (.iload 6) 2 20 := ⟨by decide +kernel, rfl⟩
theorem dX11_walk_20 : bx cX11_walk 20 (.ifCond .eq 6) 6 26 23 := ⟨by decide +kernel, by decide, rfl⟩
theorem dX11_walk_23 : nx cX11_walk 23 (.iload 6) 2 25 := ⟨by decide +kernel, rfl⟩
theorem dX11_walk_25 : nx cX11_walk 25 (.ireturn) 1 26 := ⟨by decide +kernel, rfl⟩
theorem dX11_walk_26 : nx cX11_walk 26 (.iload 5) 2 28 := ⟨by decide +kernel, rfl⟩
theorem dX11_walk_28 : nx cX11_walk 28 (.tableswitch 52 0 2 #[28, 36, 44]) 28 56 := ⟨by decide +kernel, rfl⟩
theorem dX11_walk_56 : nx cX11_walk 56 (.aload_n 0) 1 57 := ⟨by decide +kernel, rfl⟩
theorem dX11_walk_57 : nx cX11_walk 57 (.getfield 28) 3 60 := ⟨by decide +kernel, rfl⟩
theorem dX11_walk_60 : nx cX11_walk 60 (.getfield 155) 3 63 := ⟨by decide +kernel, rfl⟩
theorem dX11_walk_63 : nx cX11_walk 63 (.ireturn) 1 64 := ⟨by decide +kernel, rfl⟩
theorem dX11_walk_64 : nx cX11_walk 64 (.aload_n 0) 1 65 := ⟨by decide +kernel, rfl⟩
theorem dX11_walk_65 : nx cX11_walk 65 (.getfield 28) 3 68 := ⟨by decide +kernel, rfl⟩
theorem dX11_walk_68 : nx cX11_walk 68 (.getfield 158) 3 71 := ⟨by decide +kernel, rfl⟩
theorem dX11_walk_71 : nx cX11_walk 71 (.ireturn) 1 72 := ⟨by decide +kernel, rfl⟩
theorem dX11_walk_72 : nx cX11_walk 72 (.aload_n 0) 1 73 := ⟨by decide +kernel, rfl⟩
theorem dX11_walk_73 : nx cX11_walk 73 (.getfield 28) 3 76 := ⟨by decide +kernel, rfl⟩
theorem dX11_walk_76 : nx cX11_walk 76 (.getfield 159) 3 79 := ⟨by decide +kernel, rfl⟩
theorem dX11_walk_79 : nx cX11_walk 79 (.ireturn) 1 80 := ⟨by decide +kernel, rfl⟩
theorem dX11_walk_80 : nx cX11_walk 80 (.ldc 160) 2 82 := ⟨by decide +kernel, rfl⟩
theorem dX11_walk_82 : nx cX11_walk 82 (.aload_n 0) 1 83 := ⟨by decide +kernel, rfl⟩
theorem dX11_walk_83 : nx cX11_walk 83 (.getfield 21) 3 86 := ⟨by decide +kernel, rfl⟩
theorem dX11_walk_86 : nx cX11_walk 86 (.aload_n 0) 1 87 := ⟨by decide +kernel, rfl⟩
theorem dX11_walk_87 : nx cX11_walk 87 (.getfield 28) 3 90 := ⟨by decide +kernel, rfl⟩
theorem dX11_walk_90 : nx cX11_walk 90 (.invokevirtual 161) 3 93 := ⟨by decide +kernel, rfl⟩
theorem dX11_walk_93 : nx cX11_walk 93 (.iadd) 1 94 := ⟨by decide +kernel, rfl⟩
theorem dX11_walk_94 : nx cX11_walk 94 (.ireturn) 1 95 := ⟨by decide +kernel, rfl⟩
theorem dX11_safe_0 : nx cX11_safe 0 (.aload_n 0) 1 1 := ⟨by decide +kernel, rfl⟩
theorem dX11_safe_1 : nx cX11_safe 1 (.iload_n 1) 1 2 := ⟨by decide +kernel, rfl⟩
theorem dX11_safe_2 : nx cX11_safe 2 (.iload_n 2) 1 3 := ⟨by decide +kernel, rfl⟩
theorem dX11_safe_3 : nx cX11_safe 3 (.iload_n 3) 1 4 := ⟨by decide +kernel, rfl⟩
theorem dX11_safe_4 : nx cX11_safe 4 (.iload 4) 2 6 := ⟨by decide +kernel, rfl⟩
theorem dX11_safe_6 : nx cX11_safe 6 (.iload 5) 2 8 := ⟨by decide +kernel, rfl⟩
theorem dX11_safe_8 : nx cX11_safe 8 (.iconst 0) 1 9 := ⟨by decide +kernel, rfl⟩
theorem dX11_safe_9 : nx cX11_safe 9 (.iconst 1) 1 10 := ⟨by decide +kernel, rfl⟩
theorem dX11_safe_10 : nx cX11_safe 10 (.invokestatic 72) 3 13 := ⟨by decide +kernel, rfl⟩
theorem dX11_safe_13 : nx cX11_safe 13 (.invokevirtual 151) 3 16 := ⟨by decide +kernel, rfl⟩
theorem dX11_safe_16 : nx cX11_safe 16 (.istore 6) 2 18 := ⟨by decide +kernel, rfl⟩
theorem dX11_safe_18 : nx cX11_safe 18 (.iload 6) 2 20 := ⟨by decide +kernel, rfl⟩
theorem dX11_safe_20 : bx cX11_safe 20 (.ifCond .eq 7) 7 27 23 := ⟨by decide +kernel, by decide, rfl⟩
theorem dX11_safe_23 : nx cX11_safe 23 (.ldc2_w 165) 3 26 := ⟨by decide +kernel, rfl⟩
theorem dX11_safe_26 : nx cX11_safe 26 (.lreturn) 1 27 := ⟨by decide +kernel, rfl⟩
theorem dX11_safe_27 : nx cX11_safe 27 (.aload_n 0) 1 28 := ⟨by decide +kernel, rfl⟩
theorem dX11_safe_28 : nx cX11_safe 28 (.getfield 28) 3 31 := ⟨by decide +kernel, rfl⟩
theorem dX11_safe_31 : nx cX11_safe 31 (.getfield 167) 3 34 := ⟨by decide +kernel, rfl⟩
theorem dX11_safe_34 : nx cX11_safe 34 (.ldc2_w 171) 3 37 := ⟨by decide +kernel, rfl⟩
theorem dX11_safe_37 : nx cX11_safe 37 (.aload_n 0) 1 38 := ⟨by decide +kernel, rfl⟩
theorem dX11_safe_38 : nx cX11_safe 38 (.getfield 28) 3 41 := ⟨by decide +kernel, rfl⟩
theorem dX11_safe_41 : nx cX11_safe 41 (.getfield 173) 3 44 := ⟨by decide +kernel, rfl⟩
theorem dX11_safe_44 : nx cX11_safe 44 (.invokestatic 176) 3 47 := ⟨by decide +kernel, rfl⟩
theorem dX11_safe_47 : nx cX11_safe 47 (.iload 5) 2 49 := ⟨by decide +kernel, rfl⟩
theorem dX11_safe_49 : nx cX11_safe 49 (.invokestatic 180) 3 52 := ⟨by decide +kernel, rfl⟩
theorem dX11_safe_52 : nx cX11_safe 52 (.lreturn) 1 53 := ⟨by decide +kernel, rfl⟩
theorem dX11_quickest_0 : nx cX11_quickest 0 (.aload_n 0) 1 1 := ⟨by decide +kernel, rfl⟩
theorem dX11_quickest_1 : nx cX11_quickest 1 (.getfield 21) 3 4 := ⟨by decide +kernel, rfl⟩
theorem dX11_quickest_4 : nx cX11_quickest 4 (.iload_n 1) 1 5 := ⟨by decide +kernel, rfl⟩
theorem dX11_quickest_5 : nx cX11_quickest 5 (.invokevirtual 140) 3 8 := ⟨by decide +kernel, rfl⟩
theorem dX11_quickest_8 : bx cX11_quickest 8 (.ifCond .ne 5) 5 13 11 := ⟨by decide +kernel, by decide, rfl⟩
theorem dX11_quickest_11 : nx cX11_quickest 11 (.iconst (-1)) 1 12 := ⟨by decide +kernel, rfl⟩
theorem dX11_quickest_12 : nx cX11_quickest 12 (.ireturn) 1 13 := ⟨by decide +kernel, rfl⟩
theorem dX11_quickest_13 : nx cX11_quickest 13 (.aload_n 0) 1 14 := ⟨by decide +kernel, rfl⟩
theorem dX11_quickest_14 : nx cX11_quickest 14 (.getfield 42) 3 17 := ⟨by decide +kernel, rfl⟩
theorem dX11_quickest_17 : nx cX11_quickest 17 (.aload_n 0) 1 18 := ⟨by decide +kernel, rfl⟩
theorem dX11_quickest_18 : nx cX11_quickest 18 (.getfield 21) 3 21 := ⟨by decide +kernel, rfl⟩
theorem dX11_quickest_21 : nx cX11_quickest 21 (.iconst 0) 1 22 := ⟨by decide +kernel, rfl⟩
theorem dX11_quickest_22 : nx cX11_quickest 22 (.iload_n 1) 1 23 := ⟨by decide +kernel, rfl⟩
theorem dX11_quickest_23 : nx cX11_quickest 23 (.invokevirtual 184) 3 26 := ⟨by decide +kernel, rfl⟩
theorem dX11_quickest_26 : nx cX11_quickest 26 (.ireturn) 1 27 := ⟨by decide +kernel, rfl⟩
theorem dX11_via_0 : nx cX11_via 0 (.aload_n 0) 1 1 := ⟨by decide +kernel, rfl⟩
theorem dX11_via_1 : nx cX11_via 1 (.getfield 21) 3 4 := ⟨by decide +kernel, rfl⟩
theorem dX11_via_4 : nx cX11_via 4 (.iload_n 1) 1 5 := ⟨by decide +kernel, rfl⟩
theorem dX11_via_5 : nx cX11_via 5 (.invokevirtual 140) 3 8 := ⟨by decide +kernel, rfl⟩
theorem dX11_via_8 : bx cX11_via 8 (.ifCond .ne 5) 5 13 11 := ⟨by decide +kernel, by decide, rfl⟩
theorem dX11_via_11 : nx cX11_via 11 (.iconst (-1)) 1 12 := ⟨by decide +kernel, rfl⟩
theorem dX11_via_12 : nx cX11_via 12 (.ireturn) 1 13 := ⟨by decide +kernel, rfl⟩
theorem dX11_via_13 : nx cX11_via 13 (.aload_n 0) 1 14 := ⟨by decide +kernel, rfl⟩
theorem dX11_via_14 : nx cX11_via 14 (.getfield 42) 3 17 := ⟨by decide +kernel, rfl⟩
theorem dX11_via_17 : nx cX11_via 17 (.aload_n 0) 1 18 := ⟨by decide +kernel, rfl⟩
theorem dX11_via_18 : nx cX11_via 18 (.getfield 21) 3 21 := ⟨by decide +kernel, rfl⟩
theorem dX11_via_21 : nx cX11_via 21 (.iconst 0) 1 22 := ⟨by decide +kernel, rfl⟩
theorem dX11_via_22 : nx cX11_via 22 (.iload_n 1) 1 23 := ⟨by decide +kernel, rfl⟩
theorem dX11_via_23 : nx cX11_via 23 (.invokevirtual 184) 3 26 := ⟨by decide +kernel, rfl⟩
theorem dX11_via_26 : nx cX11_via 26 (.istore_n 2) 1 27 := ⟨by decide +kernel, rfl⟩
theorem dX11_via_27 : nx cX11_via 27 (.aload_n 0) 1 28 := ⟨by decide +kernel, rfl⟩
theorem dX11_via_28 : nx cX11_via 28 (.getfield 42) 3 31 := ⟨by decide +kernel, rfl⟩
theorem dX11_via_31 : nx cX11_via 31 (.aload_n 0) 1 32 := ⟨by decide +kernel, rfl⟩
theorem dX11_via_32 : nx cX11_via 32 (.getfield 21) 3 35 := ⟨by decide +kernel, rfl⟩
theorem dX11_via_35 : nx cX11_via 35 (.iload_n 1) 1 36 := ⟨by decide +kernel, rfl⟩
theorem dX11_via_36 : nx cX11_via 36 (.aload_n 0) 1 37 := ⟨by decide +kernel, rfl⟩
theorem dX11_via_37 : nx cX11_via 37 (.getfield 21) 3 40 := ⟨by decide +kernel, rfl⟩
theorem dX11_via_40 : nx cX11_via 40 (.invokevirtual 188) 3 43 := ⟨by decide +kernel, rfl⟩
theorem dX11_via_43 : nx cX11_via 43 (.invokevirtual 184) 3 46 := ⟨by decide +kernel, rfl⟩
theorem dX11_via_46 : nx cX11_via 46 (.istore_n 3) 1 47 := ⟨by decide +kernel, rfl⟩
theorem dX11_via_47 : nx cX11_via 47 (.iload_n 2) 1 48 := ⟨by decide +kernel, rfl⟩
theorem dX11_via_48 : nx cX11_via 48 (.bipush (-9)) 2 50 := ⟨by decide +kernel, rfl⟩
theorem dX11_via_50 : bx cX11_via 50 (.if_icmp .eq 9) 9 59 53 := ⟨by decide +kernel, by decide, rfl⟩
theorem dX11_via_53 : nx cX11_via 53 (.iload_n 3) 1 54 := ⟨by decide +kernel, rfl⟩
theorem dX11_via_54 : nx cX11_via 54 (.bipush (-9)) 2 56 := ⟨by decide +kernel, rfl⟩
theorem dX11_via_56 : bx cX11_via 56 (.if_icmp .ne 8) 8 64 59 := ⟨by decide +kernel, by decide, rfl⟩
theorem dX11_via_59 : nx cX11_via 59 (.bipush (-9)) 2 61 := ⟨by decide +kernel, rfl⟩
theorem dX11_via_61 : bx cX11_via 61 (.goto 6) 6 67 64 := ⟨by decide +kernel, by decide, rfl⟩
theorem dX11_via_64 : nx cX11_via 64 (.iload_n 2) 1 65 := ⟨by decide +kernel, rfl⟩
theorem dX11_via_65 : nx cX11_via 65 (.iload_n 3) 1 66 := ⟨by decide +kernel, rfl⟩
theorem dX11_via_66 : nx cX11_via 66 (.iadd) 1 67 := ⟨by decide +kernel, rfl⟩
theorem dX11_via_67 : nx cX11_via 67 (.ireturn) 1 68 := ⟨by decide +kernel, rfl⟩
theorem dX11_best_0 : nx cX11_best 0 (.aload_n 0) 1 1 := ⟨by decide +kernel, rfl⟩
theorem dX11_best_1 : nx cX11_best 1 (.iload_n 1) 1 2 := ⟨by decide +kernel, rfl⟩
theorem dX11_best_2 : nx cX11_best 2 (.iload_n 2) 1 3 := ⟨by decide +kernel, rfl⟩
theorem dX11_best_3 : nx cX11_best 3 (.invokevirtual 191) 3 6 := ⟨by decide +kernel, rfl⟩
theorem dX11_best_6 : nx cX11_best 6 (.istore_n 3) 1 7 := ⟨by decide +kernel, rfl⟩
theorem dX11_best_7 : nx cX11_best 7 (.iload_n 3) 1 8 := ⟨by decide +kernel, rfl⟩
theorem dX11_best_8 : bx cX11_best 8 (.ifCond .eq 5) 5 13 11 := ⟨by decide +kernel, by decide, rfl⟩
theorem dX11_best_11 : nx cX11_best 11 (.iload_n 3) 1 12 := ⟨by decide +kernel, rfl⟩
theorem dX11_best_12 : nx cX11_best 12 (.ireturn) 1 13 := ⟨by decide +kernel, rfl⟩
theorem dX11_best_13 : nx cX11_best 13 (.aload_n 0) 1 14 := ⟨by decide +kernel, rfl⟩
theorem dX11_best_14 : nx cX11_best 14 (.getfield 35) 3 17 := ⟨by decide +kernel, rfl⟩
theorem dX11_best_17 : nx cX11_best 17 (.aload_n 0) 1 18 := ⟨by decide +kernel, rfl⟩
theorem dX11_best_18 : nx cX11_best 18 (.getfield 21) 3 21 := ⟨by decide +kernel, rfl⟩
theorem dX11_best_21 : nx cX11_best 21 (.iconst 0) 1 22 := ⟨by decide +kernel, rfl⟩
theorem dX11_best_22 : nx cX11_best 22 (.iload_n 1) 1 23 := ⟨by decide +kernel, rfl⟩
theorem dX11_best_23 : nx cX11_best 23 (.iconst 0) 1 24 := ⟨by decide +kernel, rfl⟩
theorem dX11_best_24 : nx cX11_best 24 (.invokevirtual 195) 3 27 := ⟨by decide +kernel, rfl⟩
theorem dX11_best_27 : nx cX11_best 27 (.iload_n 2) 1 28 := ⟨by decide +kernel, rfl⟩
theorem dX11_best_28 : nx cX11_best 28 (.iconst (-1)) 1 29 := ⟨by decide +kernel, rfl⟩
theorem dX11_best_29 : bx cX11_best 29 (.if_icmp .ne 10) 10 39 32 := ⟨by decide +kernel, by decide, rfl⟩
theorem dX11_best_32 : nx cX11_best 32 (.aload_n 0) 1 33 := ⟨by decide +kernel, rfl⟩
theorem dX11_best_33 : nx cX11_best 33 (.invokevirtual 199) 3 36 := ⟨by decide +kernel, rfl⟩
theorem dX11_best_36 : bx cX11_best 36 (.goto 11) 11 47 39 := ⟨by decide +kernel, by decide, rfl⟩
theorem dX11_best_39 : nx cX11_best 39 (.aload_n 0) 1 40 := ⟨by decide +kernel, rfl⟩
theorem dX11_best_40 : nx cX11_best 40 (.getfield 35) 3 43 := ⟨by decide +kernel, rfl⟩
theorem dX11_best_43 : nx cX11_best 43 (.iload_n 2) 1 44 := ⟨by decide +kernel, rfl⟩
theorem dX11_best_44 : nx cX11_best 44 (.invokevirtual 202) 3 47 := ⟨by decide +kernel, rfl⟩
theorem dX11_best_47 : nx cX11_best 47 (.ireturn) 1 48 := ⟨by decide +kernel, rfl⟩
theorem dX11_safest_0 : nx cX11_safest 0 (.aload_n 0) 1 1 := ⟨by decide +kernel, rfl⟩
theorem dX11_safest_1 : nx cX11_safest 1 (.iload_n 1) 1 2 := ⟨by decide +kernel, rfl⟩
theorem dX11_safest_2 : nx cX11_safest 2 (.iload_n 2) 1 3 := ⟨by decide +kernel, rfl⟩
theorem dX11_safest_3 : nx cX11_safest 3 (.invokevirtual 191) 3 6 := ⟨by decide +kernel, rfl⟩
theorem dX11_safest_6 : nx cX11_safest 6 (.istore_n 3) 1 7 := ⟨by decide +kernel, rfl⟩
theorem dX11_safest_7 : nx cX11_safest 7 (.iload_n 3) 1 8 := ⟨by decide +kernel, rfl⟩
theorem dX11_safest_8 : bx cX11_safest 8 (.ifCond .eq 5) 5 13 11 := ⟨by decide +kernel, by decide, rfl⟩
theorem dX11_safest_11 : nx cX11_safest 11 (.iload_n 3) 1 12 := ⟨by decide +kernel, rfl⟩
theorem dX11_safest_12 : nx cX11_safest 12 (.ireturn) 1 13 := ⟨by decide +kernel, rfl⟩
theorem dX11_safest_13 : nx cX11_safest 13 (.aload_n 0) 1 14 := ⟨by decide +kernel, rfl⟩
theorem dX11_safest_14 : nx cX11_safest 14 (.getfield 35) 3 17 := ⟨by decide +kernel, rfl⟩
theorem dX11_safest_17 : nx cX11_safest 17 (.aload_n 0) 1 18 := ⟨by decide +kernel, rfl⟩
theorem dX11_safest_18 : nx cX11_safest 18 (.getfield 21) 3 21 := ⟨by decide +kernel, rfl⟩
theorem dX11_safest_21 : nx cX11_safest 21 (.iconst 1) 1 22 := ⟨by decide +kernel, rfl⟩
theorem dX11_safest_22 : nx cX11_safest 22 (.iload_n 1) 1 23 := ⟨by decide +kernel, rfl⟩
theorem dX11_safest_23 : nx cX11_safest 23 (.iconst 0) 1 24 := ⟨by decide +kernel, rfl⟩
theorem dX11_safest_24 : nx cX11_safest 24 (.invokevirtual 195) 3 27 := ⟨by decide +kernel, rfl⟩
theorem dX11_safest_27 : nx cX11_safest 27 (.iload_n 2) 1 28 := ⟨by decide +kernel, rfl⟩
theorem dX11_safest_28 : nx cX11_safest 28 (.iconst (-1)) 1 29 := ⟨by decide +kernel, rfl⟩
theorem dX11_safest_29 : bx cX11_safest 29 (.if_icmp .eq 12) 12 41 32 := ⟨by decide +kernel, by decide, rfl⟩
theorem dX11_safest_32 : nx cX11_safest 32 (.aload_n 0) 1 33 := ⟨by decide +kernel, rfl⟩
theorem dX11_safest_33 : nx cX11_safest 33 (.getfield 35) 3 36 := ⟨by decide +kernel, rfl⟩
theorem dX11_safest_36 : nx cX11_safest 36 (.iload_n 2) 1 37 := ⟨by decide +kernel, rfl⟩
theorem dX11_safest_37 : nx cX11_safest 37 (.invokevirtual 202) 3 40 := ⟨by decide +kernel, rfl⟩
theorem dX11_safest_40 : nx cX11_safest 40 (.ireturn) 1 41 := ⟨by decide +kernel, rfl⟩
theorem dX11_safest_41 : nx cX11_safest 41 (.aload_n 0) 1 42 := ⟨by decide +kernel, rfl⟩
theorem dX11_safest_42 : nx cX11_safest 42 (.getfield 35) 3 45 := ⟨by decide +kernel, rfl⟩
theorem dX11_safest_45 : nx cX11_safest 45 (.getfield 205) 3 48 := ⟨by decide +kernel, rfl⟩
theorem dX11_safest_48 : bx cX11_safest 48 (.ifCond .ne 8) 8 56 51 := ⟨by decide +kernel, by decide, rfl⟩
theorem dX11_safest_51 : nx cX11_safest 51 (.bipush (-9)) 2 53 := ⟨by decide +kernel, rfl⟩
theorem dX11_safest_53 : bx cX11_safest 53 (.goto 10) 10 63 56 := ⟨by decide +kernel, by decide, rfl⟩
theorem dX11_safest_56 : nx cX11_safest 56 (.aload_n 0) 1 57 := ⟨by decide +kernel, rfl⟩
theorem dX11_safest_57 : nx cX11_safest 57 (.getfield 35) 3 60 := ⟨by decide +kernel, rfl⟩
theorem dX11_safest_60 : nx cX11_safest 60 (.getfield 208) 3 63 := ⟨by decide +kernel, rfl⟩
theorem dX11_safest_63 : nx cX11_safest 63 (.ireturn) 1 64 := ⟨by decide +kernel, rfl⟩
theorem dX11_worth_0 : nx cX11_worth 0 (.aload_n 0) 1 1 := ⟨by decide +kernel, rfl⟩
theorem dX11_worth_1 : nx cX11_worth 1 (.getfield 21) 3 4 := ⟨by decide +kernel, rfl⟩
theorem dX11_worth_4 : nx cX11_worth 4 (.iload_n 1) 1 5 := ⟨by decide +kernel, rfl⟩
theorem dX11_worth_5 : nx cX11_worth 5 (.invokevirtual 99) 3 8 := ⟨by decide +kernel, rfl⟩
theorem dX11_worth_8 : nx cX11_worth 8 (.astore_n 2) 1 9 := ⟨by decide +kernel, rfl⟩
theorem dX11_worth_9 : nx cX11_worth 9 (.aload_n 2) 1 10 := ⟨by decide +kernel, rfl⟩
theorem dX11_worth_10 : bx cX11_worth 10 (.ifnonnull 5) 5 15 13 := ⟨by decide +kernel, by decide, rfl⟩
theorem dX11_worth_13 : nx cX11_worth 13 (.iconst (-1)) 1 14 := ⟨by decide +kernel, rfl⟩
theorem dX11_worth_14 : nx cX11_worth 14 (.ireturn) 1 15 := ⟨by decide +kernel, rfl⟩
theorem dX11_worth_15 : nx cX11_worth 15 (.aload_n 0) 1 16 := ⟨by decide +kernel, rfl⟩
theorem dX11_worth_16 : nx cX11_worth 16 (.getfield 35) 3 19 := ⟨by decide +kernel, rfl⟩
theorem dX11_worth_19 : nx cX11_worth 19 (.aload_n 0) 1 20 := ⟨by decide +kernel, rfl⟩
theorem dX11_worth_20 : nx cX11_worth 20 (.getfield 21) 3 23 := ⟨by decide +kernel, rfl⟩
theorem dX11_worth_23 : nx cX11_worth 23 (.iconst 0) 1 24 := ⟨by decide +kernel, rfl⟩
theorem dX11_worth_24 : nx cX11_worth 24 (.iconst 4) 1 25 := ⟨by decide +kernel, rfl⟩
theorem dX11_worth_25 : nx cX11_worth 25 (.iconst 0) 1 26 := ⟨by decide +kernel, rfl⟩
theorem dX11_worth_26 : nx cX11_worth 26 (.invokevirtual 195) 3 29 := ⟨by decide +kernel, rfl⟩
theorem dX11_worth_29 : nx cX11_worth 29 (.aload_n 0) 1 30 := ⟨by decide +kernel, rfl⟩
theorem dX11_worth_30 : nx cX11_worth 30 (.invokevirtual 199) 3 33 := ⟨by decide +kernel, rfl⟩
theorem dX11_worth_33 : nx cX11_worth 33 (.istore_n 3) 1 34 := ⟨by decide +kernel, rfl⟩
theorem dX11_worth_34 : nx cX11_worth 34 (.aload_n 2) 1 35 := ⟨by decide +kernel, rfl⟩
theorem dX11_worth_35 : nx cX11_worth 35 (.getfield 126) 3 38 := ⟨by decide +kernel, rfl⟩
theorem dX11_worth_38 : nx cX11_worth 38 (.istore 4) 2 40 := ⟨by decide +kernel, rfl⟩
theorem dX11_worth_40 : nx cX11_worth 40 (.aload_n 2) 1 41 := ⟨by decide +kernel, rfl⟩
theorem dX11_worth_41 : nx cX11_worth 41 (.iconst 1) 1 42 := ⟨by decide +kernel, rfl⟩
theorem dX11_worth_42 : nx cX11_worth 42 (.putfield 126) 3 45 := ⟨by decide +kernel, rfl⟩
theorem dX11_worth_45 : nx cX11_worth 45 (.aload_n 0) 1 46 := ⟨by decide +kernel, rfl⟩
theorem dX11_worth_46 : nx cX11_worth 46 (.getfield 35) 3 49 := ⟨by decide +kernel, rfl⟩
theorem dX11_worth_49 : nx cX11_worth 49 (.aload_n 0) 1 50 := ⟨by decide +kernel, rfl⟩
theorem dX11_worth_50 : nx cX11_worth 50 (.getfield 21) 3 53 := ⟨by decide +kernel, rfl⟩
theorem dX11_worth_53 : nx cX11_worth 53 (.iconst 0) 1 54 := ⟨by decide +kernel, rfl⟩
theorem dX11_worth_54 : nx cX11_worth 54 (.iconst 4) 1 55 := ⟨by decide +kernel, rfl⟩
theorem dX11_worth_55 : nx cX11_worth 55 (.iconst 0) 1 56 := ⟨by decide +kernel, rfl⟩
theorem dX11_worth_56 : nx cX11_worth 56 (.invokevirtual 195) 3 59 := ⟨by decide +kernel, rfl⟩
theorem dX11_worth_59 : nx cX11_worth 59 (.aload_n 0) 1 60 := ⟨by decide +kernel, rfl⟩
theorem dX11_worth_60 : nx cX11_worth 60 (.invokevirtual 199) 3 63 := ⟨by decide +kernel, rfl⟩
theorem dX11_worth_63 : nx cX11_worth 63 (.istore 5) 2 65 := ⟨by decide +kernel, rfl⟩
theorem dX11_worth_65 : nx cX11_worth 65 (.aload_n 2) 1 66 := ⟨by decide +kernel, rfl⟩
theorem dX11_worth_66 : nx cX11_worth 66 (.iload 4) 2 68 := ⟨by decide +kernel, rfl⟩
theorem dX11_worth_68 : nx cX11_worth 68 (.putfield 126) 3 71 := ⟨by decide +kernel, rfl⟩
theorem dX11_worth_71 : nx cX11_worth 71 (.iload_n 3) 1 72 := ⟨by decide +kernel, rfl⟩
theorem dX11_worth_72 : nx cX11_worth 72 (.bipush (-9)) 2 74 := ⟨by decide +kernel, rfl⟩
theorem dX11_worth_74 : bx cX11_worth 74 (.if_icmp .eq 10) 10 84 77 := ⟨by decide +kernel, by decide, rfl⟩
theorem dX11_worth_77 : nx cX11_worth 77 (.iload 5) 2 79 := ⟨by decide +kernel, rfl⟩
theorem dX11_worth_79 : nx cX11_worth 79 (.bipush (-9)) 2 81 := ⟨by decide +kernel, rfl⟩
theorem dX11_worth_81 : bx cX11_worth 81 (.if_icmp .ne 8) 8 89 84 := ⟨by decide +kernel, by decide, rfl⟩
theorem dX11_worth_84 : nx cX11_worth 84 (.bipush (-9)) 2 86 := ⟨by decide +kernel, rfl⟩
theorem dX11_worth_86 : bx cX11_worth 86 (.goto 7) 7 93 89 := ⟨by decide +kernel, by decide, rfl⟩
theorem dX11_worth_89 : nx cX11_worth 89 (.iload_n 3) 1 90 := ⟨by decide +kernel, rfl⟩
theorem dX11_worth_90 : nx cX11_worth 90 (.iload 5) 2 92 := ⟨by decide +kernel, rfl⟩
theorem dX11_worth_92 : nx cX11_worth 92 (.isub) 1 93 := ⟨by decide +kernel, rfl⟩
theorem dX11_worth_93 : nx cX11_worth 93 (.ireturn) 1 94 := ⟨by decide +kernel, rfl⟩
theorem dX11_reading_0 : nx cX11_reading 0 (.aload_n 0) 1 1 := ⟨by decide +kernel, rfl⟩
theorem dX11_reading_1 : nx cX11_reading 1 (.getfield 21) 3 4 := ⟨by decide +kernel, rfl⟩
theorem dX11_reading_4 : nx cX11_reading 4 (.iload_n 1) 1 5 := ⟨by decide +kernel, rfl⟩
theorem dX11_reading_5 : nx cX11_reading 5 (.invokevirtual 99) 3 8 := ⟨by decide +kernel, rfl⟩
theorem dX11_reading_8 : bx cX11_reading 8 (.ifnonnull 5) 5 13 11 := ⟨by decide +kernel, by decide, rfl⟩
theorem dX11_reading_11 : nx cX11_reading 11 (.iconst (-1)) 1 12 := ⟨by decide +kernel, rfl⟩
theorem dX11_reading_12 : nx cX11_reading 12 (.ireturn) 1 13 := ⟨by decide +kernel, rfl⟩
theorem dX11_reading_13 : nx cX11_reading 13 (.aload_n 0) 1 14 := ⟨by decide +kernel, rfl⟩
theorem dX11_reading_14 : nx cX11_reading 14 (.getfield 21) 3 17 := ⟨by decide +kernel, rfl⟩
theorem dX11_reading_17 : nx cX11_reading 17 (.getfield 211) 3 20 := ⟨by decide +kernel, rfl⟩
theorem dX11_reading_20 : nx cX11_reading 20 (.bipush 8) 2 22 := ⟨by decide +kernel, rfl⟩
theorem dX11_reading_22 : bx cX11_reading 22 (.if_icmp .lt 6) 6 28 25 := ⟨by decide +kernel, by decide, rfl⟩
theorem dX11_reading_25 : nx cX11_reading 25 (.bipush (-4)) 2 27 := ⟨by decide +kernel, rfl⟩
theorem dX11_reading_27 : nx cX11_reading 27 (.ireturn) 1 28 := ⟨by decide +kernel, rfl⟩
theorem dX11_reading_28 : nx cX11_reading 28 (.aload_n 0) 1 29 := ⟨by decide +kernel, rfl⟩
theorem dX11_reading_29 : nx cX11_reading 29 (.getfield 21) 3 32 := ⟨by decide +kernel, rfl⟩
theorem dX11_reading_32 : nx cX11_reading 32 (.iload_n 1) 1 33 := ⟨by decide +kernel, rfl⟩
theorem dX11_reading_33 : nx cX11_reading 33 (.iload_n 2) 1 34 := ⟨by decide +kernel, rfl⟩
theorem dX11_reading_34 : nx cX11_reading 34 (.invokevirtual 214) 3 37 := ⟨by decide +kernel, rfl⟩
theorem dX11_reading_37 : nx cX11_reading 37 (.ireturn) 1 38 := ⟨by decide +kernel, rfl⟩
theorem dX11_back_0 : nx cX11_back 0 (.iload_n 1) 1 1 := ⟨by decide +kernel, rfl⟩
theorem dX11_back_1 : nx cX11_back 1 (.iconst 0) 1 2 := ⟨by decide +kernel, rfl⟩
theorem dX11_back_2 : nx cX11_back 2 (.aload_n 0) 1 3 := ⟨by decide +kernel, rfl⟩
theorem dX11_back_3 : nx cX11_back 3 (.getfield 21) 3 6 := ⟨by decide +kernel, rfl⟩
theorem dX11_back_6 : nx cX11_back 6 (.getfield 211) 3 9 := ⟨by decide +kernel, rfl⟩
theorem dX11_back_9 : nx cX11_back 9 (.invokestatic 72) 3 12 := ⟨by decide +kernel, rfl⟩
theorem dX11_back_12 : bx cX11_back 12 (.ifCond .ne 6) 6 18 15 := ⟨by decide +kernel, by decide, rfl⟩
theorem dX11_back_15 : nx cX11_back 15 (.bipush (-2)) 2 17 := ⟨by decide +kernel, rfl⟩
theorem dX11_back_17 : nx cX11_back 17 (.ireturn) 1 18 := ⟨by decide +kernel, rfl⟩
theorem dX11_back_18 : nx cX11_back 18 (.aload_n 0) 1 19 := ⟨by decide +kernel, rfl⟩
theorem dX11_back_19 : nx cX11_back 19 (.getfield 21) 3 22 := ⟨by decide +kernel, rfl⟩
theorem dX11_back_22 : nx cX11_back 22 (.dup) 1 23 := ⟨by decide +kernel, rfl⟩
theorem dX11_back_23 : nx cX11_back 23 (.getfield 211) 3 26 := ⟨by decide +kernel, rfl⟩
theorem dX11_back_26 : nx cX11_back 26 (.iload_n 1) 1 27 := ⟨by decide +kernel, rfl⟩
theorem dX11_back_27 : nx cX11_back 27 (.isub) 1 28 := ⟨by decide +kernel, rfl⟩
theorem dX11_back_28 : nx cX11_back 28 (.putfield 211) 3 31 := ⟨by decide +kernel, rfl⟩
theorem dX11_back_31 : nx cX11_back 31 (.aload_n 0) 1 32 := ⟨by decide +kernel, rfl⟩
theorem dX11_back_32 : nx cX11_back 32 (.getfield 21) 3 35 := ⟨by decide +kernel, rfl⟩
theorem dX11_back_35 : nx cX11_back 35 (.getfield 211) 3 38 := ⟨by decide +kernel, rfl⟩
theorem dX11_back_38 : nx cX11_back 38 (.ireturn) 1 39 := ⟨by decide +kernel, rfl⟩
theorem dX11_trails_0 : nx cX11_trails 0 (.iload_n 2) 1 1 := ⟨by decide +kernel, rfl⟩
theorem dX11_trails_1 : nx cX11_trails 1 (.iconst 0) 1 2 := ⟨by decide +kernel, rfl⟩
theorem dX11_trails_2 : nx cX11_trails 2 (.sipush 200) 3 5 := ⟨by decide +kernel, rfl⟩
theorem dX11_trails_5 : nx cX11_trails 5 (.invokestatic 72) 3 8 := ⟨by decide +kernel, rfl⟩
theorem dX11_trails_8 : bx cX11_trails 8 (.ifCond .ne 6) 6 14 11 := ⟨by decide +kernel, by decide, rfl⟩
theorem dX11_trails_11 : nx cX11_trails 11 (.bipush (-2)) 2 13 := ⟨by decide +kernel, rfl⟩
theorem dX11_trails_13 : nx cX11_trails 13 (.ireturn) 1 14 := ⟨by decide +kernel, rfl⟩
theorem dX11_trails_14 : nx cX11_trails 14 (.aload_n 0) 1 15 := ⟨by decide +kernel, rfl⟩
theorem dX11_trails_15 : nx cX11_trails 15 (.iload_n 1) 1 16 := ⟨by decide +kernel, rfl⟩
theorem dX11_trails_16 : nx cX11_trails 16 (.iload_n 3) 1 17 := ⟨by decide +kernel, rfl⟩
theorem dX11_trails_17 : nx cX11_trails 17 (.invokevirtual 191) 3 20 := ⟨by decide +kernel, rfl⟩
theorem dX11_trails_20 : nx cX11_trails 20 (.istore 4) 2 22 := ⟨by decide +kernel, rfl⟩
theorem dX11_trails_22 : nx cX11_trails 22 (.iload 4) 2 24 := ⟨by decide +kernel, rfl⟩
theorem dX11_trails_24 : bx cX11_trails 24 (.ifCond .eq 6) 6 30 27 := ⟨by decide +kernel, by decide, rfl⟩
theorem dX11_trails_27 : nx cX11_trails 27 (.iload 4) 2 29 := ⟨by decide +kernel, rfl⟩
theorem dX11_trails_29 : nx cX11_trails 29 (.ireturn) 1 30 := ⟨by decide +kernel, rfl⟩
theorem dX11_trails_30 : nx cX11_trails 30 (.aload_n 0) 1 31 := ⟨by decide +kernel, rfl⟩
theorem dX11_trails_31 : nx cX11_trails 31 (.getfield 35) 3 34 := ⟨by decide +kernel, rfl⟩
theorem dX11_trails_34 : nx cX11_trails 34 (.aload_n 0) 1 35 := ⟨by decide +kernel, rfl⟩
theorem dX11_trails_35 : nx cX11_trails 35 (.getfield 21) 3 38 := ⟨by decide +kernel, rfl⟩
theorem dX11_trails_38 : nx cX11_trails 38 (.iconst 2) 1 39 := ⟨by decide +kernel, rfl⟩
theorem dX11_trails_39 : nx cX11_trails 39 (.iload_n 1) 1 40 := ⟨by decide +kernel, rfl⟩
theorem dX11_trails_40 : nx cX11_trails 40 (.iload_n 2) 1 41 := ⟨by decide +kernel, rfl⟩
theorem dX11_trails_41 : nx cX11_trails 41 (.invokevirtual 195) 3 44 := ⟨by decide +kernel, rfl⟩
theorem dX11_trails_44 : nx cX11_trails 44 (.iload_n 3) 1 45 := ⟨by decide +kernel, rfl⟩
theorem dX11_trails_45 : nx cX11_trails 45 (.iconst (-1)) 1 46 := ⟨by decide +kernel, rfl⟩
theorem dX11_trails_46 : bx cX11_trails 46 (.if_icmp .ne 13) 13 59 49 := ⟨by decide +kernel, by decide, rfl⟩
theorem dX11_trails_49 : nx cX11_trails 49 (.aload_n 0) 1 50 := ⟨by decide +kernel, rfl⟩
theorem dX11_trails_50 : nx cX11_trails 50 (.getfield 35) 3 53 := ⟨by decide +kernel, rfl⟩
theorem dX11_trails_53 : nx cX11_trails 53 (.getfield 205) 3 56 := ⟨by decide +kernel, rfl⟩
theorem dX11_trails_56 : bx cX11_trails 56 (.goto 11) 11 67 59 := ⟨by decide +kernel, by decide, rfl⟩
theorem dX11_trails_59 : nx cX11_trails 59 (.aload_n 0) 1 60 := ⟨by decide +kernel, rfl⟩
theorem dX11_trails_60 : nx cX11_trails 60 (.getfield 35) 3 63 := ⟨by decide +kernel, rfl⟩
theorem dX11_trails_63 : nx cX11_trails 63 (.iload_n 3) 1 64 := ⟨by decide +kernel, rfl⟩
theorem dX11_trails_64 : nx cX11_trails 64 (.invokevirtual 202) 3 67 := ⟨by decide +kernel, rfl⟩
theorem dX11_trails_67 : nx cX11_trails 67 (.ireturn) 1 68 := ⟨by decide +kernel, rfl⟩
theorem dX11_dawdle_0 : nx cX11_dawdle 0 (.aload_n 0) 1 1 := ⟨by decide +kernel, rfl⟩
theorem dX11_dawdle_1 : nx cX11_dawdle 1 (.getfield 21) 3 4 := ⟨by decide +kernel, rfl⟩
theorem dX11_dawdle_4 : nx cX11_dawdle 4 (.iload_n 2) 1 5 := ⟨by decide +kernel, rfl⟩
theorem dX11_dawdle_5 : nx cX11_dawdle 5 (.invokevirtual 140) 3 8 := ⟨by decide +kernel, rfl⟩
theorem dX11_dawdle_8 : bx cX11_dawdle 8 (.ifCond .eq 21) 21 29 11 := ⟨by decide +kernel, by decide, rfl⟩
theorem dX11_dawdle_11 : nx cX11_dawdle 11 (.iload_n 1) 1 12 := ⟨by decide +kernel, rfl⟩
theorem dX11_dawdle_12 : nx cX11_dawdle 12 (.iconst 0) 1 13 := ⟨by decide +kernel, rfl⟩
theorem dX11_dawdle_13 : nx cX11_dawdle 13 (.iconst 5) 1 14 := ⟨by decide +kernel, rfl⟩
theorem dX11_dawdle_14 : nx cX11_dawdle 14 (.invokestatic 72) 3 17 := ⟨by decide +kernel, rfl⟩
theorem dX11_dawdle_17 : bx cX11_dawdle 17 (.ifCond .eq 12) 12 29 20 := ⟨by decide +kernel, by decide, rfl⟩
theorem dX11_dawdle_20 : nx cX11_dawdle 20 (.iload_n 3) 1 21 := ⟨by decide +kernel, rfl⟩
theorem dX11_dawdle_21 : nx cX11_dawdle 21 (.iconst 0) 1 22 := ⟨by decide +kernel, rfl⟩
theorem dX11_dawdle_22 : nx cX11_dawdle 22 (.iconst 1) 1 23 := ⟨by decide +kernel, rfl⟩
theorem dX11_dawdle_23 : nx cX11_dawdle 23 (.invokestatic 72) 3 26 := ⟨by decide +kernel, rfl⟩
theorem dX11_dawdle_26 : bx cX11_dawdle 26 (.ifCond .ne 7) 7 33 29 := ⟨by decide +kernel, by decide, rfl⟩
theorem dX11_dawdle_29 : nx cX11_dawdle 29 (.ldc2_w 165) 3 32 := ⟨by decide +kernel, rfl⟩
theorem dX11_dawdle_32 : nx cX11_dawdle 32 (.lreturn) 1 33 := ⟨by decide +kernel, rfl⟩
theorem dX11_dawdle_33 : nx cX11_dawdle 33 (.aload_n 0) 1 34 := ⟨by decide +kernel, rfl⟩
theorem dX11_dawdle_34 : nx cX11_dawdle 34 (.getfield 49) 3 37 := ⟨by decide +kernel, rfl⟩
theorem dX11_dawdle_37 : nx cX11_dawdle 37 (.aload_n 0) 1 38 := ⟨by decide +kernel, rfl⟩
theorem dX11_dawdle_38 : nx cX11_dawdle 38 (.getfield 21) 3 41 := ⟨by decide +kernel, rfl⟩
theorem dX11_dawdle_41 : nx cX11_dawdle 41 (.iload_n 1) 1 42 := ⟨by decide +kernel, rfl⟩
theorem dX11_dawdle_42 : nx cX11_dawdle 42 (.iload_n 2) 1 43 := ⟨by decide +kernel, rfl⟩
theorem dX11_dawdle_43 : nx cX11_dawdle 43 (.invokevirtual 218) 3 46 := ⟨by decide +kernel, rfl⟩
theorem dX11_dawdle_46 : nx cX11_dawdle 46 (.lstore 4) 2 48 := ⟨by decide +kernel, rfl⟩
theorem dX11_dawdle_48 : nx cX11_dawdle 48 (.lload 4) 2 50 := ⟨by decide +kernel, rfl⟩
theorem dX11_dawdle_50 : nx cX11_dawdle 50 (.ldc2_w 222) 3 53 := ⟨by decide +kernel, rfl⟩
theorem dX11_dawdle_53 : nx cX11_dawdle 53 (.iload_n 1) 1 54 := ⟨by decide +kernel, rfl⟩
theorem dX11_dawdle_54 : nx cX11_dawdle 54 (.invokestatic 176) 3 57 := ⟨by decide +kernel, rfl⟩
theorem dX11_dawdle_57 : nx cX11_dawdle 57 (.iload_n 3) 1 58 := ⟨by decide +kernel, rfl⟩
theorem dX11_dawdle_58 : nx cX11_dawdle 58 (.invokestatic 180) 3 61 := ⟨by decide +kernel, rfl⟩
theorem dX11_dawdle_61 : nx cX11_dawdle 61 (.lreturn) 1 62 := ⟨by decide +kernel, rfl⟩
theorem dX11_sheet_0 : nx cX11_sheet 0 (.aload_n 0) 1 1 := ⟨by decide +kernel, rfl⟩
theorem dX11_sheet_1 : nx cX11_sheet 1 (.iload_n 1) 1 2 := ⟨by decide +kernel, rfl⟩
theorem dX11_sheet_2 : nx cX11_sheet 2 (.invokevirtual 64) 3 5 := ⟨by decide +kernel, rfl⟩
theorem dX11_sheet_5 : nx cX11_sheet 5 (.astore 4) 2 7 := ⟨by decide +kernel, rfl⟩
theorem dX11_sheet_7 : nx cX11_sheet 7 (.aload 4) 2 9 := ⟨by decide +kernel, rfl⟩
theorem dX11_sheet_9 : bx cX11_sheet 9 (.ifnonnull 9) 9 18 12 := ⟨by decide +kernel, by decide, rfl⟩
theorem dX11_sheet_12 : nx cX11_sheet 12 (.aload_n 0) 1 13 := ⟨by decide +kernel, rfl⟩
theorem dX11_sheet_13 : nx cX11_sheet 13 (.iconst (-1)) 1 14 := ⟨by decide +kernel, rfl⟩
theorem dX11_sheet_14 : nx cX11_sheet 14 (.invokevirtual 68) 3 17 := ⟨by decide +kernel, rfl⟩
theorem dX11_sheet_17 : nx cX11_sheet 17 (.ireturn) 1 18 := ⟨by decide +kernel, rfl⟩
theorem dX11_sheet_18 : nx cX11_sheet 18 (.iload_n 2) 1 19 := ⟨by decide +kernel, rfl⟩
theorem dX11_sheet_19 : nx cX11_sheet 19 (.iconst 0) 1 20 := ⟨by decide +kernel, rfl⟩
theorem dX11_sheet_20 : nx cX11_sheet 20 (.iconst 2) 1 21 := ⟨by decide +kernel, rfl⟩
theorem dX11_sheet_21 : nx cX11_sheet 21 (.invokestatic 72) 3 24 := ⟨by decide +kernel, rfl⟩
theorem dX11_sheet_24 : bx cX11_sheet 24 (.ifCond .eq 9) 9 33 27 := ⟨by decide +kernel, by decide, rfl⟩
theorem dX11_sheet_27 : nx cX11_sheet 27 (.iload_n 3) 1 28 := ⟨by decide +kernel, rfl⟩
theorem dX11_sheet_28 : nx cX11_sheet 28 (.bipush 60) 2 30 := ⟨by decide +kernel, rfl⟩
theorem dX11_sheet_30 : bx cX11_sheet 30 (.if_icmp .le 10) 10 40 33 := ⟨by decide +kernel, by decide, rfl⟩
theorem dX11_sheet_33 : nx cX11_sheet 33 (.aload_n 0) 1 34 := ⟨by decide +kernel, rfl⟩
theorem dX11_sheet_34 : nx cX11_sheet 34 (.bipush (-2)) 2 36 := ⟨by decide +kernel, rfl⟩
theorem dX11_sheet_36 : nx cX11_sheet 36 (.invokevirtual 68) 3 39 := ⟨by decide +kernel, rfl⟩
theorem dX11_sheet_39 : nx cX11_sheet 39 (.ireturn) 1 40 := ⟨by decide +kernel, rfl⟩
theorem dX11_sheet_40 : nx cX11_sheet 40 (.iload_n 3) 1 41 := ⟨by decide +kernel, rfl⟩
theorem dX11_sheet_41 : bx cX11_sheet 41 (.ifCond .ge 9) 9 50 44 := ⟨by decide +kernel, by decide, rfl⟩
theorem dX11_sheet_44 : nx cX11_sheet 44 (.aload_n 0) 1 45 := ⟨by decide +kernel, rfl⟩
theorem dX11_sheet_45 : nx cX11_sheet 45 (.iconst 4) 1 46 := ⟨by decide +kernel, rfl⟩
theorem dX11_sheet_46 : nx cX11_sheet 46 (.invokevirtual 80) 3 49 := ⟨by decide +kernel, rfl⟩
theorem dX11_sheet_49 : nx cX11_sheet 49 (.ireturn) 1 50 := ⟨by decide +kernel, rfl⟩
theorem dX11_sheet_50 : nx cX11_sheet 50 (.aload_n 0) 1 51 := ⟨by decide +kernel, rfl⟩
theorem dX11_sheet_51 : nx cX11_sheet 51 (.iconst 0) 1 52 := ⟨by decide +kernel, rfl⟩
theorem dX11_sheet_52 : nx cX11_sheet 52 (.putfield 60) 3 55 := ⟨by decide +kernel, rfl⟩
theorem dX11_sheet_55 : nx cX11_sheet 55 (.aload 4) 2 57 := ⟨by decide +kernel, rfl⟩
theorem dX11_sheet_57 : nx cX11_sheet 57 (.iload_n 2) 1 58 := ⟨by decide +kernel, rfl⟩
theorem dX11_sheet_58 : nx cX11_sheet 58 (.iload_n 3) 1 59 := ⟨by decide +kernel, rfl⟩
theorem dX11_sheet_59 : nx cX11_sheet 59 (.invokevirtual 224) 3 62 := ⟨by decide +kernel, rfl⟩
theorem dX11_sheet_62 : nx cX11_sheet 62 (.iconst 1) 1 63 := ⟨by decide +kernel, rfl⟩
theorem dX11_sheet_63 : nx cX11_sheet 63 (.ireturn) 1 64 := ⟨by decide +kernel, rfl⟩
theorem dX11_lose_0 : nx cX11_lose 0 (.aload_n 0) 1 1 := ⟨by decide +kernel, rfl⟩
theorem dX11_lose_1 : nx cX11_lose 1 (.iload_n 1) 1 2 := ⟨by decide +kernel, rfl⟩
theorem dX11_lose_2 : nx cX11_lose 2 (.invokevirtual 64) 3 5 := ⟨by decide +kernel, rfl⟩
theorem dX11_lose_5 : nx cX11_lose 5 (.astore_n 2) 1 6 := ⟨by decide +kernel, rfl⟩
theorem dX11_lose_6 : nx cX11_lose 6 (.aload_n 2) 1 7 := ⟨by decide +kernel, rfl⟩
theorem dX11_lose_7 : bx cX11_lose 7 (.ifnonnull 5) 5 12 10 := ⟨by decide +kernel, by decide, rfl⟩
theorem dX11_lose_10 : nx cX11_lose 10 (.iconst (-1)) 1 11 := ⟨by decide +kernel, rfl⟩
theorem dX11_lose_11 : nx cX11_lose 11 (.ireturn) 1 12 := ⟨by decide +kernel, rfl⟩
theorem dX11_lose_12 : nx cX11_lose 12 (.aload_n 2) 1 13 := ⟨by decide +kernel, rfl⟩
theorem dX11_lose_13 : nx cX11_lose 13 (.invokevirtual 228) 3 16 := ⟨by decide +kernel, rfl⟩
theorem dX11_lose_16 : bx cX11_lose 16 (.ifCond .eq 5) 5 21 19 := ⟨by decide +kernel, by decide, rfl⟩
theorem dX11_lose_19 : nx cX11_lose 19 (.iconst 0) 1 20 := ⟨by decide +kernel, rfl⟩
theorem dX11_lose_20 : nx cX11_lose 20 (.ireturn) 1 21 := ⟨by decide +kernel, rfl⟩
theorem dX11_lose_21 : nx cX11_lose 21 (.aload_n 2) 1 22 := ⟨by decide +kernel, rfl⟩
theorem dX11_lose_22 : nx cX11_lose 22 (.invokevirtual 231) 3 25 := ⟨by decide +kernel, rfl⟩
theorem dX11_lose_25 : nx cX11_lose 25 (.iconst 1) 1 26 := ⟨by decide +kernel, rfl⟩
theorem dX11_lose_26 : nx cX11_lose 26 (.ireturn) 1 27 := ⟨by decide +kernel, rfl⟩
theorem dX11_put_0 : nx cX11_put 0 (.aload_n 0) 1 1 := ⟨by decide +kernel, rfl⟩
theorem dX11_put_1 : nx cX11_put 1 (.iload_n 1) 1 2 := ⟨by decide +kernel, rfl⟩
theorem dX11_put_2 : nx cX11_put 2 (.invokevirtual 64) 3 5 := ⟨by decide +kernel, rfl⟩
theorem dX11_put_5 : nx cX11_put 5 (.astore 4) 2 7 := ⟨by decide +kernel, rfl⟩
theorem dX11_put_7 : nx cX11_put 7 (.aload 4) 2 9 := ⟨by decide +kernel, rfl⟩
theorem dX11_put_9 : bx cX11_put 9 (.ifnonnull 9) 9 18 12 := ⟨by decide +kernel, by decide, rfl⟩
theorem dX11_put_12 : nx cX11_put 12 (.aload_n 0) 1 13 := ⟨by decide +kernel, rfl⟩
theorem dX11_put_13 : nx cX11_put 13 (.iconst (-1)) 1 14 := ⟨by decide +kernel, rfl⟩
theorem dX11_put_14 : nx cX11_put 14 (.invokevirtual 68) 3 17 := ⟨by decide +kernel, rfl⟩
theorem dX11_put_17 : nx cX11_put 17 (.ireturn) 1 18 := ⟨by decide +kernel, rfl⟩
theorem dX11_put_18 : nx cX11_put 18 (.aload 4) 2 20 := ⟨by decide +kernel, rfl⟩
theorem dX11_put_20 : nx cX11_put 20 (.invokevirtual 228) 3 23 := ⟨by decide +kernel, rfl⟩
theorem dX11_put_23 : bx cX11_put 23 (.ifCond .eq 9) 9 32 26 := ⟨by decide +kernel, by decide, rfl⟩
theorem dX11_put_26 : nx cX11_put 26 (.aload_n 0) 1 27 := ⟨by decide +kernel, rfl⟩
theorem dX11_put_27 : nx cX11_put 27 (.iconst 1) 1 28 := ⟨by decide +kernel, rfl⟩
theorem dX11_put_28 : nx cX11_put 28 (.invokevirtual 80) 3 31 := ⟨by decide +kernel, rfl⟩
theorem dX11_put_31 : nx cX11_put 31 (.ireturn) 1 32 := ⟨by decide +kernel, rfl⟩
theorem dX11_put_32 : nx cX11_put 32 (.aload 4) 2 34 := ⟨by decide +kernel, rfl⟩
theorem dX11_put_34 : nx cX11_put 34 (.iload_n 2) 1 35 := ⟨by decide +kernel, rfl⟩
theorem dX11_put_35 : nx cX11_put 35 (.invokevirtual 234) 3 38 := ⟨by decide +kernel, rfl⟩
theorem dX11_put_38 : bx cX11_put 38 (.ifCond .ne 9) 9 47 41 := ⟨by decide +kernel, by decide, rfl⟩
theorem dX11_put_41 : nx cX11_put 41 (.aload_n 0) 1 42 := ⟨by decide +kernel, rfl⟩
theorem dX11_put_42 : nx cX11_put 42 (.iconst 3) 1 43 := ⟨by decide +kernel, rfl⟩
theorem dX11_put_43 : nx cX11_put 43 (.invokevirtual 80) 3 46 := ⟨by decide +kernel, rfl⟩
theorem dX11_put_46 : nx cX11_put 46 (.ireturn) 1 47 := ⟨by decide +kernel, rfl⟩
theorem dX11_put_47 : nx cX11_put 47 (.aload_n 0) 1 48 := ⟨by decide +kernel, rfl⟩
theorem dX11_put_48 : nx cX11_put 48 (.iconst 0) 1 49 := ⟨by decide +kernel, rfl⟩
theorem dX11_put_49 : nx cX11_put 49 (.putfield 60) 3 52 := ⟨by decide +kernel, rfl⟩
theorem dX11_put_52 : nx cX11_put 52 (.aload 4) 2 54 := ⟨by decide +kernel, rfl⟩
theorem dX11_put_54 : nx cX11_put 54 (.iload_n 2) 1 55 := ⟨by decide +kernel, rfl⟩
theorem dX11_put_55 : nx cX11_put 55 (.iload_n 3) 1 56 := ⟨by decide +kernel, rfl⟩
theorem dX11_put_56 : nx cX11_put 56 (.invokevirtual 237) 3 59 := ⟨by decide +kernel, rfl⟩
theorem dX11_put_59 : nx cX11_put 59 (.iconst 1) 1 60 := ⟨by decide +kernel, rfl⟩
theorem dX11_put_60 : nx cX11_put 60 (.ireturn) 1 61 := ⟨by decide +kernel, rfl⟩
theorem dX11_cell_0 : nx cX11_cell 0 (.aload_n 0) 1 1 := ⟨by decide +kernel, rfl⟩
theorem dX11_cell_1 : nx cX11_cell 1 (.iload_n 1) 1 2 := ⟨by decide +kernel, rfl⟩
theorem dX11_cell_2 : nx cX11_cell 2 (.invokevirtual 64) 3 5 := ⟨by decide +kernel, rfl⟩
theorem dX11_cell_5 : nx cX11_cell 5 (.astore 4) 2 7 := ⟨by decide +kernel, rfl⟩
theorem dX11_cell_7 : nx cX11_cell 7 (.aload 4) 2 9 := ⟨by decide +kernel, rfl⟩
theorem dX11_cell_9 : bx cX11_cell 9 (.ifnull 12) 12 21 12 := ⟨by decide +kernel, by decide, rfl⟩
theorem dX11_cell_12 : nx cX11_cell 12 (.iload_n 3) 1 13 := ⟨by decide +kernel, rfl⟩
theorem dX11_cell_13 : nx cX11_cell 13 (.iconst 0) 1 14 := ⟨by decide +kernel, rfl⟩
theorem dX11_cell_14 : nx cX11_cell 14 (.iconst 2) 1 15 := ⟨by decide +kernel, rfl⟩
theorem dX11_cell_15 : nx cX11_cell 15 (.invokestatic 72) 3 18 := ⟨by decide +kernel, rfl⟩
theorem dX11_cell_18 : bx cX11_cell 18 (.ifCond .ne 12) 12 30 21 := ⟨by decide +kernel, by decide, rfl⟩
theorem dX11_cell_21 : nx cX11_cell 21 (.aload_n 0) 1 22 := ⟨by decide +kernel, rfl⟩
theorem dX11_cell_22 : nx cX11_cell 22 (.iconst 0) 1 23 := ⟨by decide +kernel, rfl⟩
theorem dX11_cell_23 : nx cX11_cell 23 (.putfield 60) 3 26 := ⟨by decide +kernel, rfl⟩
theorem dX11_cell_26 : nx cX11_cell 26 (.ldc2_w 165) 3 29 := ⟨by decide +kernel, rfl⟩
theorem dX11_cell_29 : nx cX11_cell 29 (.lreturn) 1 30 := ⟨by decide +kernel, rfl⟩
theorem dX11_cell_30 : nx cX11_cell 30 (.aload_n 0) 1 31 := ⟨by decide +kernel, rfl⟩
theorem dX11_cell_31 : nx cX11_cell 31 (.aload 4) 2 33 := ⟨by decide +kernel, rfl⟩
theorem dX11_cell_33 : nx cX11_cell 33 (.iload_n 3) 1 34 := ⟨by decide +kernel, rfl⟩
theorem dX11_cell_34 : nx cX11_cell 34 (.invokevirtual 240) 3 37 := ⟨by decide +kernel, rfl⟩
theorem dX11_cell_37 : nx cX11_cell 37 (.putfield 60) 3 40 := ⟨by decide +kernel, rfl⟩
theorem dX11_cell_40 : nx cX11_cell 40 (.aload_n 0) 1 41 := ⟨by decide +kernel, rfl⟩
theorem dX11_cell_41 : nx cX11_cell 41 (.getfield 60) 3 44 := ⟨by decide +kernel, rfl⟩
theorem dX11_cell_44 : bx cX11_cell 44 (.ifCond .ne 17) 17 61 47 := ⟨by decide +kernel, by decide, rfl⟩
theorem dX11_cell_47 : nx cX11_cell 47 (.aload 4) 2 49 := ⟨by decide +kernel, rfl⟩
theorem dX11_cell_49 : nx cX11_cell 49 (.iload_n 2) 1 50 := ⟨by decide +kernel, rfl⟩
theorem dX11_cell_50 : nx cX11_cell 50 (.invokevirtual 234) 3 53 := ⟨by decide +kernel, rfl⟩
theorem dX11_cell_53 : bx cX11_cell 53 (.ifCond .ne 8) 8 61 56 := ⟨by decide +kernel, by decide, rfl⟩
theorem dX11_cell_56 : nx cX11_cell 56 (.aload_n 0) 1 57 := ⟨by decide +kernel, rfl⟩
theorem dX11_cell_57 : nx cX11_cell 57 (.iconst 3) 1 58 := ⟨by decide +kernel, rfl⟩
theorem dX11_cell_58 : nx cX11_cell 58 (.putfield 60) 3 61 := ⟨by decide +kernel, rfl⟩
theorem dX11_cell_61 : nx cX11_cell 61 (.aload_n 0) 1 62 := ⟨by decide +kernel, rfl⟩
theorem dX11_cell_62 : nx cX11_cell 62 (.getfield 60) 3 65 := ⟨by decide +kernel, rfl⟩
theorem dX11_cell_65 : bx cX11_cell 65 (.ifCond .ne 13) 13 78 68 := ⟨by decide +kernel, by decide, rfl⟩
theorem dX11_cell_68 : nx cX11_cell 68 (.aload 4) 2 70 := ⟨by decide +kernel, rfl⟩
theorem dX11_cell_70 : nx cX11_cell 70 (.iload_n 2) 1 71 := ⟨by decide +kernel, rfl⟩
theorem dX11_cell_71 : nx cX11_cell 71 (.invokevirtual 243) 3 74 := ⟨by decide +kernel, rfl⟩
theorem dX11_cell_74 : nx cX11_cell 74 (.i2l) 1 75 := ⟨by decide +kernel, rfl⟩
theorem dX11_cell_75 : bx cX11_cell 75 (.goto 6) 6 81 78 := ⟨by decide +kernel, by decide, rfl⟩
theorem dX11_cell_78 : nx cX11_cell 78 (.ldc2_w 165) 3 81 := ⟨by decide +kernel, rfl⟩
theorem dX11_cell_81 : nx cX11_cell 81 (.lreturn) 1 82 := ⟨by decide +kernel, rfl⟩
theorem dX11_copy_0 : nx cX11_copy 0 (.aload_n 0) 1 1 := ⟨by decide +kernel, rfl⟩
theorem dX11_copy_1 : nx cX11_copy 1 (.iload_n 1) 1 2 := ⟨by decide +kernel, rfl⟩
theorem dX11_copy_2 : nx cX11_copy 2 (.invokevirtual 64) 3 5 := ⟨by decide +kernel, rfl⟩
theorem dX11_copy_5 : nx cX11_copy 5 (.astore 6) 2 7 := ⟨by decide +kernel, rfl⟩
theorem dX11_copy_7 : nx cX11_copy 7 (.aload_n 0) 1 8 := ⟨by decide +kernel, rfl⟩
theorem dX11_copy_8 : nx cX11_copy 8 (.iload_n 3) 1 9 := ⟨by decide +kernel, rfl⟩
theorem dX11_copy_9 : nx cX11_copy 9 (.invokevirtual 64) 3 12 := ⟨by decide +kernel, rfl⟩
theorem dX11_copy_12 : nx cX11_copy 12 (.astore 7) 2 14 := ⟨by decide +kernel, rfl⟩
theorem dX11_copy_14 : nx cX11_copy 14 (.aload 6) 2 16 := ⟨by decide +kernel, rfl⟩
theorem dX11_copy_16 : bx cX11_copy 16 (.ifnull 8) 8 24 19 := ⟨by decide +kernel, by decide, rfl⟩
theorem dX11_copy_19 : nx cX11_copy 19 (.aload 7) 2 21 := ⟨by decide +kernel, rfl⟩
theorem dX11_copy_21 : bx cX11_copy 21 (.ifnonnull 9) 9 30 24 := ⟨by decide +kernel, by decide, rfl⟩
theorem dX11_copy_24 : nx cX11_copy 24 (.aload_n 0) 1 25 := ⟨by decide +kernel, rfl⟩
theorem dX11_copy_25 : nx cX11_copy 25 (.iconst (-1)) 1 26 := ⟨by decide +kernel, rfl⟩
theorem dX11_copy_26 : nx cX11_copy 26 (.invokevirtual 68) 3 29 := ⟨by decide +kernel, rfl⟩
theorem dX11_copy_29 : nx cX11_copy 29 (.ireturn) 1 30 := ⟨by decide +kernel, rfl⟩
theorem dX11_copy_30 : nx cX11_copy 30 (.aload 6) 2 32 := ⟨by decide +kernel, rfl⟩
theorem dX11_copy_32 : nx cX11_copy 32 (.invokevirtual 228) 3 35 := ⟨by decide +kernel, rfl⟩
theorem dX11_copy_35 : bx cX11_copy 35 (.ifCond .ne 11) 11 46 38 := ⟨by decide +kernel, by decide, rfl⟩
theorem dX11_copy_38 : nx cX11_copy 38 (.aload 7) 2 40 := ⟨by decide +kernel, rfl⟩
theorem dX11_copy_40 : nx cX11_copy 40 (.invokevirtual 228) 3 43 := ⟨by decide +kernel, rfl⟩
theorem dX11_copy_43 : bx cX11_copy 43 (.ifCond .eq 9) 9 52 46 := ⟨by decide +kernel, by decide, rfl⟩
theorem dX11_copy_46 : nx cX11_copy 46 (.aload_n 0) 1 47 := ⟨by decide +kernel, rfl⟩
theorem dX11_copy_47 : nx cX11_copy 47 (.iconst 1) 1 48 := ⟨by decide +kernel, rfl⟩
theorem dX11_copy_48 : nx cX11_copy 48 (.invokevirtual 80) 3 51 := ⟨by decide +kernel, rfl⟩
theorem dX11_copy_51 : nx cX11_copy 51 (.ireturn) 1 52 := ⟨by decide +kernel, rfl⟩
theorem dX11_copy_52 : nx cX11_copy 52 (.aload 6) 2 54 := ⟨by decide +kernel, rfl⟩
theorem dX11_copy_54 : nx cX11_copy 54 (.getfield 246) 3 57 := ⟨by decide +kernel, rfl⟩
theorem dX11_copy_57 : nx cX11_copy 57 (.aload 7) 2 59 := ⟨by decide +kernel, rfl⟩
theorem dX11_copy_59 : nx cX11_copy 59 (.getfield 246) 3 62 := ⟨by decide +kernel, rfl⟩
theorem dX11_copy_62 : bx cX11_copy 62 (.if_icmp .eq 9) 9 71 65 := ⟨by decide +kernel, by decide, rfl⟩
theorem dX11_copy_65 : nx cX11_copy 65 (.aload_n 0) 1 66 := ⟨by decide +kernel, rfl⟩
theorem dX11_copy_66 : nx cX11_copy 66 (.iconst 2) 1 67 := ⟨by decide +kernel, rfl⟩
theorem dX11_copy_67 : nx cX11_copy 67 (.invokevirtual 80) 3 70 := ⟨by decide +kernel, rfl⟩
theorem dX11_copy_70 : nx cX11_copy 70 (.ireturn) 1 71 := ⟨by decide +kernel, rfl⟩
theorem dX11_copy_71 : nx cX11_copy 71 (.aload 6) 2 73 := ⟨by decide +kernel, rfl⟩
theorem dX11_copy_73 : nx cX11_copy 73 (.iload_n 2) 1 74 := ⟨by decide +kernel, rfl⟩
theorem dX11_copy_74 : nx cX11_copy 74 (.iload 5) 2 76 := ⟨by decide +kernel, rfl⟩
theorem dX11_copy_76 : nx cX11_copy 76 (.invokevirtual 249) 3 79 := ⟨by decide +kernel, rfl⟩
theorem dX11_copy_79 : bx cX11_copy 79 (.ifCond .eq 15) 15 94 82 := ⟨by decide +kernel, by decide, rfl⟩
theorem dX11_copy_82 : nx cX11_copy 82 (.aload 7) 2 84 := ⟨by decide +kernel, rfl⟩
theorem dX11_copy_84 : nx cX11_copy 84 (.iload 4) 2 86 := ⟨by decide +kernel, rfl⟩
theorem dX11_copy_86 : nx cX11_copy 86 (.iload 5) 2 88 := ⟨by decide +kernel, rfl⟩
theorem dX11_copy_88 : nx cX11_copy 88 (.invokevirtual 249) 3 91 := ⟨by decide +kernel, rfl⟩
theorem dX11_copy_91 : bx cX11_copy 91 (.ifCond .ne 9) 9 100 94 := ⟨by decide +kernel, by decide, rfl⟩
theorem dX11_copy_94 : nx cX11_copy 94 (.aload_n 0) 1 95 := ⟨by decide +kernel, rfl⟩
theorem dX11_copy_95 : nx cX11_copy 95 (.iconst 3) 1 96 := ⟨by decide +kernel, rfl⟩
theorem dX11_copy_96 : nx cX11_copy 96 (.invokevirtual 80) 3 99 := ⟨by decide +kernel, rfl⟩
theorem dX11_copy_99 : nx cX11_copy 99 (.ireturn) 1 100 := ⟨by decide +kernel, rfl⟩
theorem dX11_copy_100 : nx cX11_copy 100 (.aload_n 0) 1 101 := ⟨by decide +kernel, rfl⟩
theorem dX11_copy_101 : nx cX11_copy 101 (.iconst 0) 1 102 := ⟨by decide +kernel, rfl⟩
theorem dX11_copy_102 : nx cX11_copy 102 (.putfield 60) 3 105 := ⟨by decide +kernel, rfl⟩
theorem dX11_copy_105 : nx cX11_copy 105 (.aload 6) 2 107 := ⟨by decide +kernel, rfl⟩
theorem dX11_copy_107 : nx cX11_copy 107 (.getfield 253) 3 110 := ⟨by decide +kernel, rfl⟩
theorem dX11_copy_110 : nx cX11_copy 110 (.iload_n 2) 1 111 := ⟨by decide +kernel, rfl⟩
theorem dX11_copy_111 : nx cX11_copy 111 (.aload 7) 2 113 := ⟨by decide +kernel, rfl⟩
theorem dX11_copy_113 : nx cX11_copy 113 (.getfield 253) 3 116 := ⟨by decide +kernel, rfl⟩
theorem dX11_copy_116 : nx cX11_copy 116 (.iload 4) 2 118 := ⟨by decide +kernel, rfl⟩
theorem dX11_copy_118 : nx cX11_copy 118 (.iload 5) 2 120 := ⟨by decide +kernel, rfl⟩
theorem dX11_copy_120 : nx cX11_copy 120 (.invokestatic 257) 3 123 := ⟨by decide +kernel, rfl⟩
theorem dX11_copy_123 : nx cX11_copy 123 (.iload 5) 2 125 := ⟨by decide +kernel, rfl⟩
theorem dX11_copy_125 : nx cX11_copy 125 (.ireturn) 1 126 := ⟨by decide +kernel, rfl⟩
theorem dX11_tell_0 : nx cX11_tell 0 (.aload_n 0) 1 1 := ⟨by decide +kernel, rfl⟩
theorem dX11_tell_1 : nx cX11_tell 1 (.getfield 21) 3 4 := ⟨by decide +kernel, rfl⟩
theorem dX11_tell_4 : nx cX11_tell 4 (.iload_n 1) 1 5 := ⟨by decide +kernel, rfl⟩
theorem dX11_tell_5 : nx cX11_tell 5 (.invokevirtual 99) 3 8 := ⟨by decide +kernel, rfl⟩
theorem dX11_tell_8 : nx cX11_tell 8 (.astore_n 2) 1 9 := ⟨by decide +kernel, rfl⟩
theorem dX11_tell_9 : nx cX11_tell 9 (.aload_n 2) 1 10 := ⟨by decide +kernel, rfl⟩
theorem dX11_tell_10 : bx cX11_tell 10 (.ifnonnull 7) 7 17 13 := ⟨by decide +kernel, by decide, rfl⟩
theorem dX11_tell_13 : nx cX11_tell 13 (.iconst (-1)) 1 14 := ⟨by decide +kernel, rfl⟩
theorem dX11_tell_14 : bx cX11_tell 14 (.goto 11) 11 25 17 := ⟨by decide +kernel, by decide, rfl⟩
theorem dX11_tell_17 : nx cX11_tell 17 (.aload_n 2) 1 18 := ⟨by decide +kernel, rfl⟩
theorem dX11_tell_18 : nx cX11_tell 18 (.aload_n 0) 1 19 := ⟨by decide +kernel, rfl⟩
theorem dX11_tell_19 : nx cX11_tell 19 (.getfield 56) 3 22 := ⟨by decide +kernel, rfl⟩
theorem dX11_tell_22 : nx cX11_tell 22 (.invokevirtual 263) 3 25 := ⟨by decide +kernel, rfl⟩
theorem dX11_tell_25 : nx cX11_tell 25 (.ireturn) 1 26 := ⟨by decide +kernel, rfl⟩
theorem dX11_sing_0 : nx cX11_sing 0 (.aload_n 0) 1 1 := ⟨by decide +kernel, rfl⟩
theorem dX11_sing_1 : nx cX11_sing 1 (.getfield 21) 3 4 := ⟨by decide +kernel, rfl⟩
theorem dX11_sing_4 : nx cX11_sing 4 (.iload_n 1) 1 5 := ⟨by decide +kernel, rfl⟩
theorem dX11_sing_5 : nx cX11_sing 5 (.invokevirtual 99) 3 8 := ⟨by decide +kernel, rfl⟩
theorem dX11_sing_8 : nx cX11_sing 8 (.astore_n 2) 1 9 := ⟨by decide +kernel, rfl⟩
theorem dX11_sing_9 : nx cX11_sing 9 (.aload_n 2) 1 10 := ⟨by decide +kernel, rfl⟩
theorem dX11_sing_10 : bx cX11_sing 10 (.ifnonnull 7) 7 17 13 := ⟨by decide +kernel, by decide, rfl⟩
theorem dX11_sing_13 : nx cX11_sing 13 (.iconst (-1)) 1 14 := ⟨by decide +kernel, rfl⟩
theorem dX11_sing_14 : bx cX11_sing 14 (.goto 11) 11 25 17 := ⟨by decide +kernel, by decide, rfl⟩
theorem dX11_sing_17 : nx cX11_sing 17 (.aload_n 2) 1 18 := ⟨by decide +kernel, rfl⟩
theorem dX11_sing_18 : nx cX11_sing 18 (.aload_n 0) 1 19 := ⟨by decide +kernel, rfl⟩
theorem dX11_sing_19 : nx cX11_sing 19 (.getfield 56) 3 22 := ⟨by decide +kernel, rfl⟩
theorem dX11_sing_22 : nx cX11_sing 22 (.invokevirtual 267) 3 25 := ⟨by decide +kernel, rfl⟩
theorem dX11_sing_25 : nx cX11_sing 25 (.ireturn) 1 26 := ⟨by decide +kernel, rfl⟩
theorem dX11_as_0 : nx cX11_as 0 (.aload_n 0) 1 1 := ⟨by decide +kernel, rfl⟩
theorem dX11_as_1 : nx cX11_as 1 (.getfield 21) 3 4 := ⟨by decide +kernel, rfl⟩
theorem dX11_as_4 : nx cX11_as 4 (.iload_n 1) 1 5 := ⟨by decide +kernel, rfl⟩
theorem dX11_as_5 : nx cX11_as 5 (.invokevirtual 99) 3 8 := ⟨by decide +kernel, rfl⟩
theorem dX11_as_8 : nx cX11_as 8 (.astore_n 3) 1 9 := ⟨by decide +kernel, rfl⟩
theorem dX11_as_9 : nx cX11_as 9 (.aload_n 3) 1 10 := ⟨by decide +kernel, rfl⟩
theorem dX11_as_10 : bx cX11_as 10 (.ifnonnull 9) 9 19 13 := ⟨by decide +kernel, by decide, rfl⟩
theorem dX11_as_13 : nx cX11_as 13 (.aload_n 0) 1 14 := ⟨by decide +kernel, rfl⟩
theorem dX11_as_14 : nx cX11_as 14 (.iconst (-1)) 1 15 := ⟨by decide +kernel, rfl⟩
theorem dX11_as_15 : nx cX11_as 15 (.invokevirtual 68) 3 18 := ⟨by decide +kernel, rfl⟩
theorem dX11_as_18 : nx cX11_as 18 (.ireturn) 1 19 := ⟨by decide +kernel, rfl⟩
theorem dX11_as_19 : nx cX11_as 19 (.iload_n 2) 1 20 := ⟨by decide +kernel, rfl⟩
theorem dX11_as_20 : nx cX11_as 20 (.iconst 0) 1 21 := ⟨by decide +kernel, rfl⟩
theorem dX11_as_21 : nx cX11_as 21 (.iconst 2) 1 22 := ⟨by decide +kernel, rfl⟩
theorem dX11_as_22 : nx cX11_as 22 (.invokestatic 72) 3 25 := ⟨by decide +kernel, rfl⟩
theorem dX11_as_25 : bx cX11_as 25 (.ifCond .ne 10) 10 35 28 := ⟨by decide +kernel, by decide, rfl⟩
theorem dX11_as_28 : nx cX11_as 28 (.aload_n 0) 1 29 := ⟨by decide +kernel, rfl⟩
theorem dX11_as_29 : nx cX11_as 29 (.bipush (-2)) 2 31 := ⟨by decide +kernel, rfl⟩
theorem dX11_as_31 : nx cX11_as 31 (.invokevirtual 68) 3 34 := ⟨by decide +kernel, rfl⟩
theorem dX11_as_34 : nx cX11_as 34 (.ireturn) 1 35 := ⟨by decide +kernel, rfl⟩
theorem dX11_as_35 : nx cX11_as 35 (.iload_n 2) 1 36 := ⟨by decide +kernel, rfl⟩
theorem dX11_as_36 : nx cX11_as 36 (.iconst 1) 1 37 := ⟨by decide +kernel, rfl⟩
theorem dX11_as_37 : bx cX11_as 37 (.if_icmp .ne 10) 10 47 40 := ⟨by decide +kernel, by decide, rfl⟩
theorem dX11_as_40 : nx cX11_as 40 (.aload_n 3) 1 41 := ⟨by decide +kernel, rfl⟩
theorem dX11_as_41 : nx cX11_as 41 (.instanceof 270) 3 44 := ⟨by decide +kernel, rfl⟩
theorem dX11_as_44 : bx cX11_as 44 (.ifCond .eq 15) 15 59 47 := ⟨by decide +kernel, by decide, rfl⟩
theorem dX11_as_47 : nx cX11_as 47 (.iload_n 2) 1 48 := ⟨by decide +kernel, rfl⟩
theorem dX11_as_48 : nx cX11_as 48 (.iconst 2) 1 49 := ⟨by decide +kernel, rfl⟩
theorem dX11_as_49 : bx cX11_as 49 (.if_icmp .ne 16) 16 65 52 := ⟨by decide +kernel, by decide, rfl⟩
theorem dX11_as_52 : nx cX11_as 52 (.aload_n 3) 1 53 := ⟨by decide +kernel, rfl⟩
theorem dX11_as_53 : nx cX11_as 53 (.instanceof 272) 3 56 := ⟨by decide +kernel, rfl⟩
theorem dX11_as_56 : bx cX11_as 56 (.ifCond .ne 9) 9 65 59 := ⟨by decide +kernel, by decide, rfl⟩
theorem dX11_as_59 : nx cX11_as 59 (.aload_n 0) 1 60 := ⟨by decide +kernel, rfl⟩
theorem dX11_as_60 : nx cX11_as 60 (.iconst 2) 1 61 := ⟨by decide +kernel, rfl⟩
theorem dX11_as_61 : nx cX11_as 61 (.invokevirtual 80) 3 64 := ⟨by decide +kernel, rfl⟩
theorem dX11_as_64 : nx cX11_as 64 (.ireturn) 1 65 := ⟨by decide +kernel, rfl⟩
theorem dX11_as_65 : nx cX11_as 65 (.aload_n 0) 1 66 := ⟨by decide +kernel, rfl⟩
theorem dX11_as_66 : nx cX11_as 66 (.iconst 0) 1 67 := ⟨by decide +kernel, rfl⟩
theorem dX11_as_67 : nx cX11_as 67 (.putfield 60) 3 70 := ⟨by decide +kernel, rfl⟩
theorem dX11_as_70 : nx cX11_as 70 (.iconst 1) 1 71 := ⟨by decide +kernel, rfl⟩
theorem dX11_as_71 : nx cX11_as 71 (.ireturn) 1 72 := ⟨by decide +kernel, rfl⟩
theorem dX11_trace_0 : nx cX11_trace 0 (.aload_n 0) 1 1 := ⟨by decide +kernel, rfl⟩
theorem dX11_trace_1 : nx cX11_trace 1 (.getfield 56) 3 4 := ⟨by decide +kernel, rfl⟩
theorem dX11_trace_4 : nx cX11_trace 4 (.getfield 274) 3 7 := ⟨by decide +kernel, rfl⟩
theorem dX11_trace_7 : nx cX11_trace 7 (.ireturn) 1 8 := ⟨by decide +kernel, rfl⟩
theorem dX11_fault_0 : nx cX11_fault 0 (.aload_n 0) 1 1 := ⟨by decide +kernel, rfl⟩
theorem dX11_fault_1 : nx cX11_fault 1 (.getfield 60) 3 4 := ⟨by decide +kernel, rfl⟩
theorem dX11_fault_4 : nx cX11_fault 4 (.ireturn) 1 5 := ⟨by decide +kernel, rfl⟩
theorem dX11_many_0 : nx cX11_many 0 (.iload_n 1) 1 1 := ⟨by decide +kernel, rfl⟩
theorem dX11_many_1 : nx cX11_many 1 (.tableswitch 75 0 4 #[35, 43, 51, 59, 67]) 35 36 := ⟨by decide +kernel, rfl⟩
theorem dX11_many_36 : nx cX11_many 36 (.aload_n 0) 1 37 := ⟨by decide +kernel, rfl⟩
theorem dX11_many_37 : nx cX11_many 37 (.getfield 21) 3 40 := ⟨by decide +kernel, rfl⟩
theorem dX11_many_40 : nx cX11_many 40 (.getfield 277) 3 43 := ⟨by decide +kernel, rfl⟩
theorem dX11_many_43 : nx cX11_many 43 (.ireturn) 1 44 := ⟨by decide +kernel, rfl⟩
theorem dX11_many_44 : nx cX11_many 44 (.aload_n 0) 1 45 := ⟨by decide +kernel, rfl⟩
theorem dX11_many_45 : nx cX11_many 45 (.getfield 21) 3 48 := ⟨by decide +kernel, rfl⟩
theorem dX11_many_48 : nx cX11_many 48 (.getfield 96) 3 51 := ⟨by decide +kernel, rfl⟩
theorem dX11_many_51 : nx cX11_many 51 (.ireturn) 1 52 := ⟨by decide +kernel, rfl⟩
theorem dX11_many_52 : nx cX11_many 52 (.aload_n 0) 1 53 := ⟨by decide +kernel, rfl⟩
theorem dX11_many_53 : nx cX11_many 53 (.getfield 21) 3 56 := ⟨by decide +kernel, rfl⟩
theorem dX11_many_56 : nx cX11_many 56 (.getfield 134) 3 59 := ⟨by decide +kernel, rfl⟩
theorem dX11_many_59 : nx cX11_many 59 (.ireturn) 1 60 := ⟨by decide +kernel, rfl⟩
theorem dX11_many_60 : nx cX11_many 60 (.aload_n 0) 1 61 := ⟨by decide +kernel, rfl⟩
theorem dX11_many_61 : nx cX11_many 61 (.getfield 21) 3 64 := ⟨by decide +kernel, rfl⟩
theorem dX11_many_64 : nx cX11_many 64 (.getfield 137) 3 67 := ⟨by decide +kernel, rfl⟩
theorem dX11_many_67 : nx cX11_many 67 (.ireturn) 1 68 := ⟨by decide +kernel, rfl⟩
theorem dX11_many_68 : nx cX11_many 68 (.aload_n 0) 1 69 := ⟨by decide +kernel, rfl⟩
theorem dX11_many_69 : nx cX11_many 69 (.getfield 21) 3 72 := ⟨by decide +kernel, rfl⟩
theorem dX11_many_72 : nx cX11_many 72 (.getfield 211) 3 75 := ⟨by decide +kernel, rfl⟩
theorem dX11_many_75 : nx cX11_many 75 (.ireturn) 1 76 := ⟨by decide +kernel, rfl⟩
theorem dX11_many_76 : nx cX11_many 76 (.bipush (-2)) 2 78 := ⟨by decide +kernel, rfl⟩
theorem dX11_many_78 : nx cX11_many 78 (.ireturn) 1 79 := ⟨by decide +kernel, rfl⟩
theorem dX11_isWithin_0 : nx cX11_isWithin 0 (.iload_n 0) 1 1 := ⟨by decide +kernel, rfl⟩
theorem dX11_isWithin_1 : nx cX11_isWithin 1 (.iload_n 1) 1 2 := ⟨by decide +kernel, rfl⟩
theorem dX11_isWithin_2 : bx cX11_isWithin 2 (.if_icmp .lt 12) 12 14 5 := ⟨by decide +kernel, by decide, rfl⟩
theorem dX11_isWithin_5 : nx cX11_isWithin 5 (.iload_n 0) 1 6 := ⟨by decide +kernel, rfl⟩
theorem dX11_isWithin_6 : nx cX11_isWithin 6 (.iload_n 2) 1 7 := ⟨by decide +kernel, rfl⟩
theorem dX11_isWithin_7 : bx cX11_isWithin 7 (.if_icmp .gt 7) 7 14 10 := ⟨by decide +kernel, by decide, rfl⟩
theorem dX11_isWithin_10 : nx cX11_isWithin 10 (.iconst 1) 1 11 := ⟨by decide +kernel, rfl⟩
theorem dX11_isWithin_11 : bx cX11_isWithin 11 (.goto 4) 4 15 14 := ⟨by decide +kernel, by decide, rfl⟩
theorem dX11_isWithin_14 : nx cX11_isWithin 14 (.iconst 0) 1 15 := ⟨by decide +kernel, rfl⟩
theorem dX11_isWithin_15 : nx cX11_isWithin 15 (.ireturn) 1 16 := ⟨by decide +kernel, rfl⟩
theorem dX11_refused_0 : nx cX11_refused 0 (.aload_n 0) 1 1 := ⟨by decide +kernel, rfl⟩
theorem dX11_refused_1 : nx cX11_refused 1 (.iconst 0) 1 2 := ⟨by decide +kernel, rfl⟩
theorem dX11_refused_2 : nx cX11_refused 2 (.putfield 60) 3 5 := ⟨by decide +kernel, rfl⟩
theorem dX11_refused_5 : nx cX11_refused 5 (.iload_n 1) 1 6 := ⟨by decide +kernel, rfl⟩
theorem dX11_refused_6 : nx cX11_refused 6 (.ireturn) 1 7 := ⟨by decide +kernel, rfl⟩
theorem dX11_failed_0 : nx cX11_failed 0 (.aload_n 0) 1 1 := ⟨by decide +kernel, rfl⟩
theorem dX11_failed_1 : nx cX11_failed 1 (.iload_n 1) 1 2 := ⟨by decide +kernel, rfl⟩
theorem dX11_failed_2 : nx cX11_failed 2 (.putfield 60) 3 5 := ⟨by decide +kernel, rfl⟩
theorem dX11_failed_5 : nx cX11_failed 5 (.bipush (-10)) 2 7 := ⟨by decide +kernel, rfl⟩
theorem dX11_failed_7 : nx cX11_failed 7 (.iload_n 1) 1 8 := ⟨by decide +kernel, rfl⟩
theorem dX11_failed_8 : nx cX11_failed 8 (.isub) 1 9 := ⟨by decide +kernel, rfl⟩
theorem dX11_failed_9 : nx cX11_failed 9 (.ireturn) 1 10 := ⟨by decide +kernel, rfl⟩
theorem dX11_sheetAt_0 : nx cX11_sheetAt 0 (.iload_n 1) 1 1 := ⟨by decide +kernel, rfl⟩
theorem dX11_sheetAt_1 : nx cX11_sheetAt 1 (.iconst 0) 1 2 := ⟨by decide +kernel, rfl⟩
theorem dX11_sheetAt_2 : nx cX11_sheetAt 2 (.iconst 3) 1 3 := ⟨by decide +kernel, rfl⟩
theorem dX11_sheetAt_3 : nx cX11_sheetAt 3 (.invokestatic 72) 3 6 := ⟨by decide +kernel, rfl⟩
theorem dX11_sheetAt_6 : bx cX11_sheetAt 6 (.ifCond .eq 12) 12 18 9 := ⟨by decide +kernel, by decide, rfl⟩
theorem dX11_sheetAt_9 : nx cX11_sheetAt 9 (.aload_n 0) 1 10 := ⟨by decide +kernel, rfl⟩
theorem dX11_sheetAt_10 : nx cX11_sheetAt 10 (.getfield 13) 3 13 := ⟨by decide +kernel, rfl⟩
theorem dX11_sheetAt_13 : nx cX11_sheetAt 13 (.iload_n 1) 1 14 := ⟨by decide +kernel, rfl⟩
theorem dX11_sheetAt_14 : nx cX11_sheetAt 14 (.aaload) 1 15 := ⟨by decide +kernel, rfl⟩
theorem dX11_sheetAt_15 : bx cX11_sheetAt 15 (.goto 4) 4 19 18 := ⟨by decide +kernel, by decide, rfl⟩
theorem dX11_sheetAt_18 : nx cX11_sheetAt 18 (.aconst_null) 1 19 := ⟨by decide +kernel, rfl⟩
theorem dX11_sheetAt_19 : nx cX11_sheetAt 19 (.areturn) 1 20 := ⟨by decide +kernel, rfl⟩
theorem dX11_followTold_0 : nx cX11_followTold 0 (.aload_n 0) 1 1 := ⟨by decide +kernel, rfl⟩
theorem dX11_followTold_1 : nx cX11_followTold 1 (.iload_n 1) 1 2 := ⟨by decide +kernel, rfl⟩
theorem dX11_followTold_2 : nx cX11_followTold 2 (.invokevirtual 64) 3 5 := ⟨by decide +kernel, rfl⟩
theorem dX11_followTold_5 : nx cX11_followTold 5 (.astore 6) 2 7 := ⟨by decide +kernel, rfl⟩
theorem dX11_followTold_7 : nx cX11_followTold 7 (.aload 6) 2 9 := ⟨by decide +kernel, rfl⟩
theorem dX11_followTold_9 : bx cX11_followTold 9 (.ifnonnull 9) 9 18 12 := ⟨by decide +kernel, by decide, rfl⟩
theorem dX11_followTold_12 : nx cX11_followTold 12 (.aload_n 0) 1 13 := ⟨by decide +kernel, rfl⟩
theorem dX11_followTold_13 : nx cX11_followTold 13 (.iconst (-1)) 1 14 := ⟨by decide +kernel, rfl⟩
theorem dX11_followTold_14 : nx cX11_followTold 14 (.invokevirtual 68) 3 17 := ⟨by decide +kernel, rfl⟩
theorem dX11_followTold_17 : nx cX11_followTold 17 (.ireturn) 1 18 := ⟨by decide +kernel, rfl⟩
theorem dX11_followTold_18 : nx cX11_followTold 18 (.iload_n 2) 1 19 := ⟨by decide +kernel, rfl⟩
theorem dX11_followTold_19 : nx cX11_followTold 19 (.iconst 0) 1 20 := ⟨by decide +kernel, rfl⟩
theorem dX11_followTold_20 : nx cX11_followTold 20 (.iconst 2) 1 21 := ⟨by decide +kernel, rfl⟩
theorem dX11_followTold_21 : nx cX11_followTold 21 (.invokestatic 72) 3 24 := ⟨by decide +kernel, rfl⟩
theorem dX11_followTold_24 : bx cX11_followTold 24 (.ifCond .eq 8) 8 32 27 := ⟨by decide +kernel, by decide, rfl⟩
theorem dX11_followTold_27 : nx cX11_followTold 27 (.iload 5) 2 29 := ⟨by decide +kernel, rfl⟩
theorem dX11_followTold_29 : bx cX11_followTold 29 (.ifCond .ne 10) 10 39 32 := ⟨by decide +kernel, by decide, rfl⟩
theorem dX11_followTold_32 : nx cX11_followTold 32 (.aload_n 0) 1 33 := ⟨by decide +kernel, rfl⟩
theorem dX11_followTold_33 : nx cX11_followTold 33 (.bipush (-2)) 2 35 := ⟨by decide +kernel, rfl⟩
theorem dX11_followTold_35 : nx cX11_followTold 35 (.invokevirtual 68) 3 38 := ⟨by decide +kernel, rfl⟩
theorem dX11_followTold_38 : nx cX11_followTold 38 (.ireturn) 1 39 := ⟨by decide +kernel, rfl⟩
theorem dX11_followTold_39 : nx cX11_followTold 39 (.aload_n 0) 1 40 := ⟨by decide +kernel, rfl⟩
theorem dX11_followTold_40 : nx cX11_followTold 40 (.getfield 21) 3 43 := ⟨by decide +kernel, rfl⟩
theorem dX11_followTold_43 : nx cX11_followTold 43 (.invokevirtual 130) 3 46 := ⟨by decide +kernel, rfl⟩
theorem dX11_followTold_46 : bx cX11_followTold 46 (.ifCond .eq 10) 10 56 49 := ⟨by decide +kernel, by decide, rfl⟩
theorem dX11_followTold_49 : nx cX11_followTold 49 (.aload_n 0) 1 50 := ⟨by decide +kernel, rfl⟩
theorem dX11_followTold_50 : nx cX11_followTold 50 (.bipush (-3)) 2 52 := ⟨by decide +kernel, rfl⟩
theorem dX11_followTold_52 : nx cX11_followTold 52 (.invokevirtual 68) 3 55 := ⟨by decide +kernel, rfl⟩
theorem dX11_followTold_55 : nx cX11_followTold 55 (.ireturn) 1 56 := ⟨by decide +kernel, rfl⟩
theorem dX11_followTold_56 : nx cX11_followTold 56 (.aload 6) 2 58 := ⟨by decide +kernel, rfl⟩
theorem dX11_followTold_58 : nx cX11_followTold 58 (.iload_n 2) 1 59 := ⟨by decide +kernel, rfl⟩
theorem dX11_followTold_59 : nx cX11_followTold 59 (.iload_n 3) 1 60 := ⟨by decide +kernel, rfl⟩
theorem dX11_followTold_60 : nx cX11_followTold 60 (.iload 4) 2 62 := ⟨by decide +kernel, rfl⟩
theorem dX11_followTold_62 : nx cX11_followTold 62 (.invokevirtual 76) 3 65 := ⟨by decide +kernel, rfl⟩
theorem dX11_followTold_65 : nx cX11_followTold 65 (.istore 7) 2 67 := ⟨by decide +kernel, rfl⟩
theorem dX11_followTold_67 : nx cX11_followTold 67 (.iload 7) 2 69 := ⟨by decide +kernel, rfl⟩
theorem dX11_followTold_69 : bx cX11_followTold 69 (.ifCond .eq 10) 10 79 72 := ⟨by decide +kernel, by decide, rfl⟩
theorem dX11_followTold_72 : nx cX11_followTold 72 (.aload_n 0) 1 73 := ⟨by decide +kernel, rfl⟩
theorem dX11_followTold_73 : nx cX11_followTold 73 (.iload 7) 2 75 := ⟨by decide +kernel, rfl⟩
theorem dX11_followTold_75 : nx cX11_followTold 75 (.invokevirtual 80) 3 78 := ⟨by decide +kernel, rfl⟩
theorem dX11_followTold_78 : nx cX11_followTold 78 (.ireturn) 1 79 := ⟨by decide +kernel, rfl⟩
theorem dX11_followTold_79 : nx cX11_followTold 79 (.aload_n 0) 1 80 := ⟨by decide +kernel, rfl⟩
theorem dX11_followTold_80 : nx cX11_followTold 80 (.iconst 0) 1 81 := ⟨by decide +kernel, rfl⟩
theorem dX11_followTold_81 : nx cX11_followTold 81 (.putfield 60) 3 84 := ⟨by decide +kernel, rfl⟩
theorem dX11_followTold_84 : nx cX11_followTold 84 (.iload 4) 2 86 := ⟨by decide +kernel, rfl⟩
theorem dX11_followTold_86 : nx cX11_followTold 86 (.bipush 12) 2 88 := ⟨by decide +kernel, rfl⟩
theorem dX11_followTold_88 : bx cX11_followTold 88 (.if_icmp .le 6) 6 94 91 := ⟨by decide +kernel, by decide, rfl⟩
theorem dX11_followTold_91 : nx cX11_followTold 91 (.bipush (-2)) 2 93 := ⟨by decide +kernel, rfl⟩
theorem dX11_followTold_93 : nx cX11_followTold 93 (.ireturn) 1 94 := ⟨by decide +kernel, rfl⟩
theorem dX11_followTold_94 : nx cX11_followTold 94 (.aload_n 0) 1 95 := ⟨by decide +kernel, rfl⟩
theorem dX11_followTold_95 : nx cX11_followTold 95 (.aload 6) 2 97 := ⟨by decide +kernel, rfl⟩
theorem dX11_followTold_97 : nx cX11_followTold 97 (.iload_n 3) 1 98 := ⟨by decide +kernel, rfl⟩
theorem dX11_followTold_98 : nx cX11_followTold 98 (.iload 4) 2 100 := ⟨by decide +kernel, rfl⟩
theorem dX11_followTold_100 : nx cX11_followTold 100 (.invokevirtual 280) 3 103 := ⟨by decide +kernel, rfl⟩
theorem dX11_followTold_103 : bx cX11_followTold 103 (.ifCond .ne 5) 5 108 106 := ⟨by decide +kernel, by decide, rfl⟩
theorem dX11_followTold_106 : nx cX11_followTold 106 (.iconst (-1)) 1 107 := ⟨by decide +kernel, rfl⟩
theorem dX11_followTold_107 : nx cX11_followTold 107 (.ireturn) 1 108 := ⟨by decide +kernel, rfl⟩
theorem dX11_followTold_108 : nx cX11_followTold 108 (.aload_n 0) 1 109 := ⟨by decide +kernel, rfl⟩
theorem dX11_followTold_109 : nx cX11_followTold 109 (.aload 6) 2 111 := ⟨by decide +kernel, rfl⟩
theorem dX11_followTold_111 : nx cX11_followTold 111 (.iload_n 3) 1 112 := ⟨by decide +kernel, rfl⟩
theorem dX11_followTold_112 : nx cX11_followTold 112 (.iload 4) 2 114 := ⟨by decide +kernel, rfl⟩
theorem dX11_followTold_114 : nx cX11_followTold 114 (.invokevirtual 284) 3 117 := ⟨by decide +kernel, rfl⟩
theorem dX11_followTold_117 : nx cX11_followTold 117 (.ireturn) 1 118 := ⟨by decide +kernel, rfl⟩
theorem dX11_areStretches_0 : nx cX11_areStretches 0 (.iconst 0) 1 1 := ⟨by decide +kernel, rfl⟩
theorem dX11_areStretches_1 : nx cX11_areStretches 1 (.istore 4) 2 3 := ⟨by decide +kernel, rfl⟩
theorem dX11_areStretches_3 : nx cX11_areStretches 3 (.iload 4) 2 5 := ⟨by decide +kernel, rfl⟩
theorem dX11_areStretches_5 : nx cX11_areStretches 5 (.iload_n 3) 1 6 := ⟨by decide +kernel, rfl⟩
theorem dX11_areStretches_6 : bx cX11_areStretches 6 (.if_icmp .ge 29) 29 35 9 := ⟨by decide +kernel, by decide, rfl⟩
theorem dX11_areStretches_9 : nx cX11_areStretches 9 (.aload_n 0) 1 10 := ⟨by decide +kernel, rfl⟩
theorem dX11_areStretches_10 : nx cX11_areStretches 10 (.getfield 21) 3 13 := ⟨by decide +kernel, rfl⟩
theorem dX11_areStretches_13 : nx cX11_areStretches 13 (.aload_n 1) 1 14 := ⟨by decide +kernel, rfl⟩
theorem dX11_areStretches_14 : nx cX11_areStretches 14 (.iload_n 2) 1 15 := ⟨by decide +kernel, rfl⟩
theorem dX11_areStretches_15 : nx cX11_areStretches 15 (.iload 4) 2 17 := ⟨by decide +kernel, rfl⟩
theorem dX11_areStretches_17 : nx cX11_areStretches 17 (.iadd) 1 18 := ⟨by decide +kernel, rfl⟩
theorem dX11_areStretches_18 : nx cX11_areStretches 18 (.invokevirtual 243) 3 21 := ⟨by decide +kernel, rfl⟩
theorem dX11_areStretches_21 : nx cX11_areStretches 21 (.invokevirtual 99) 3 24 := ⟨by decide +kernel, rfl⟩
theorem dX11_areStretches_24 : bx cX11_areStretches 24 (.ifnonnull 5) 5 29 27 := ⟨by decide +kernel, by decide, rfl⟩
theorem dX11_areStretches_27 : nx cX11_areStretches 27 (.iconst 0) 1 28 := ⟨by decide +kernel, rfl⟩
theorem dX11_areStretches_28 : nx cX11_areStretches 28 (.ireturn) 1 29 := ⟨by decide +kernel, rfl⟩
theorem dX11_areStretches_29 : nx cX11_areStretches 29 (.iinc 4 1) 3 32 := ⟨by decide +kernel, rfl⟩
theorem dX11_areStretches_32 : bx cX11_areStretches 32 (.goto (-29)) (-29) 3 35 := ⟨by decide +kernel, by decide, rfl⟩
theorem dX11_areStretches_35 : nx cX11_areStretches 35 (.iconst 1) 1 36 := ⟨by decide +kernel, rfl⟩
theorem dX11_areStretches_36 : nx cX11_areStretches 36 (.ireturn) 1 37 := ⟨by decide +kernel, rfl⟩
theorem dX11_followCells_0 : nx cX11_followCells 0 (.aload_n 0) 1 1 := ⟨by decide +kernel, rfl⟩
theorem dX11_followCells_1 : nx cX11_followCells 1 (.getfield 28) 3 4 := ⟨by decide +kernel, rfl⟩
theorem dX11_followCells_4 : nx cX11_followCells 4 (.invokevirtual 288) 3 7 := ⟨by decide +kernel, rfl⟩
theorem dX11_followCells_7 : nx cX11_followCells 7 (.iconst 0) 1 8 := ⟨by decide +kernel, rfl⟩
theorem dX11_followCells_8 : nx cX11_followCells 8 (.istore 4) 2 10 := ⟨by decide +kernel, rfl⟩
theorem dX11_followCells_10 : nx cX11_followCells 10 (.iload 4) 2 12 := ⟨by decide +kernel, rfl⟩
theorem dX11_followCells_12 : nx cX11_followCells 12 (.iload_n 3) 1 13 := ⟨by decide +kernel, rfl⟩
theorem dX11_followCells_13 : bx cX11_followCells 13 (.if_icmp .ge 65) 65 78 16 := ⟨by decide +kernel, by decide, rfl⟩
theorem dX11_followCells_16 : nx cX11_followCells 16 (.aload_n 0) 1 17 := ⟨by decide +kernel, rfl⟩
theorem dX11_followCells_17 : nx cX11_followCells 17 (.getfield 21) 3 20 := ⟨by decide +kernel, rfl⟩
theorem dX11_followCells_20 : nx cX11_followCells 20 (.aload_n 1) 1 21 := ⟨by decide +kernel, rfl⟩
theorem dX11_followCells_21 : nx cX11_followCells 21 (.iload_n 2) 1 22 := ⟨by decide +kernel, rfl⟩
theorem dX11_followCells_22 : nx cX11_followCells 22 (.iload 4) 2 24 := ⟨by decide +kernel, rfl⟩
theorem dX11_followCells_24 : nx cX11_followCells 24 (.iadd) 1 25 := ⟨by decide +kernel, rfl⟩
theorem dX11_followCells_25 : nx cX11_followCells 25 (.invokevirtual 243) 3 28 := ⟨by decide +kernel, rfl⟩
theorem dX11_followCells_28 : nx cX11_followCells 28 (.invokevirtual 99) 3 31 := ⟨by decide +kernel, rfl⟩
theorem dX11_followCells_31 : nx cX11_followCells 31 (.astore 5) 2 33 := ⟨by decide +kernel, rfl⟩
theorem dX11_followCells_33 : nx cX11_followCells 33 (.aload 5) 2 35 := ⟨by decide +kernel, rfl⟩
theorem dX11_followCells_35 : bx cX11_followCells 35 (.ifnull 18) 18 53 38 := ⟨by decide +kernel, by decide, rfl⟩
theorem dX11_followCells_38 : nx cX11_followCells 38 (.aload 5) 2 40 := ⟨by decide +kernel, rfl⟩
theorem dX11_followCells_40 : nx cX11_followCells 40 (.aload_n 0) 1 41 := ⟨by decide +kernel, rfl⟩
theorem dX11_followCells_41 : nx cX11_followCells 41 (.getfield 28) 3 44 := ⟨by decide +kernel, rfl⟩
theorem dX11_followCells_44 : nx cX11_followCells 44 (.getfield 155) 3 47 := ⟨by decide +kernel, rfl⟩
theorem dX11_followCells_47 : nx cX11_followCells 47 (.invokevirtual 290) 3 50 := ⟨by decide +kernel, rfl⟩
theorem dX11_followCells_50 : bx cX11_followCells 50 (.ifCond .ne 9) 9 59 53 := ⟨by decide +kernel, by decide, rfl⟩
theorem dX11_followCells_53 : nx cX11_followCells 53 (.bipush (-100)) 2 55 := ⟨by decide +kernel, rfl⟩
theorem dX11_followCells_55 : nx cX11_followCells 55 (.iload 4) 2 57 := ⟨by decide +kernel, rfl⟩
theorem dX11_followCells_57 : nx cX11_followCells 57 (.isub) 1 58 := ⟨by decide +kernel, rfl⟩
theorem dX11_followCells_58 : nx cX11_followCells 58 (.ireturn) 1 59 := ⟨by decide +kernel, rfl⟩
theorem dX11_followCells_59 : nx cX11_followCells 59 (.aload_n 0) 1 60 := ⟨by decide +kernel, rfl⟩
theorem dX11_followCells_60 : nx cX11_followCells 60 (.getfield 28) 3 63 := ⟨by decide +kernel, rfl⟩
theorem dX11_followCells_63 : nx cX11_followCells 63 (.aload_n 0) 1 64 := ⟨by decide +kernel, rfl⟩
theorem dX11_followCells_64 : nx cX11_followCells 64 (.getfield 28) 3 67 := ⟨by decide +kernel, rfl⟩
theorem dX11_followCells_67 : nx cX11_followCells 67 (.aload 5) 2 69 := ⟨by decide +kernel, rfl⟩
theorem dX11_followCells_69 : nx cX11_followCells 69 (.invokevirtual 293) 3 72 := ⟨by decide +kernel, rfl⟩
theorem dX11_followCells_72 : nx cX11_followCells 72 (.iinc 4 1) 3 75 := ⟨by decide +kernel, rfl⟩
theorem dX11_followCells_75 : bx cX11_followCells 75 (.goto (-65)) (-65) 10 78 := ⟨by decide +kernel, by decide, rfl⟩
theorem dX11_followCells_78 : nx cX11_followCells 78 (.iconst 0) 1 79 := ⟨by decide +kernel, rfl⟩
theorem dX11_followCells_79 : nx cX11_followCells 79 (.ireturn) 1 80 := ⟨by decide +kernel, rfl⟩
theorem dX11_refusalOfSearch_0 : nx cX11_refusalOfSearch 0 (.iload_n 1) 1 1 := ⟨by decide +kernel, rfl⟩
theorem dX11_refusalOfSearch_1 : nx cX11_refusalOfSearch 1 (.iconst 1) 1 2 := ⟨by decide +kernel, rfl⟩
theorem dX11_refusalOfSearch_2 : nx cX11_refusalOfSearch 2 (.iconst 5) 1 3 := ⟨by decide +kernel, rfl⟩
theorem dX11_refusalOfSearch_3 : nx cX11_refusalOfSearch 3 (.invokestatic 72) 3 6 := ⟨by decide +kernel, rfl⟩
theorem dX11_refusalOfSearch_6 : bx cX11_refusalOfSearch 6 (.ifCond .eq 12) 12 18 9 := ⟨by decide +kernel, by decide, rfl⟩
theorem dX11_refusalOfSearch_9 : nx cX11_refusalOfSearch 9 (.iload_n 2) 1 10 := ⟨by decide +kernel, rfl⟩
theorem dX11_refusalOfSearch_10 : nx cX11_refusalOfSearch 10 (.iconst (-1)) 1 11 := ⟨by decide +kernel, rfl⟩
theorem dX11_refusalOfSearch_11 : nx cX11_refusalOfSearch 11 (.iconst 4) 1 12 := ⟨by decide +kernel, rfl⟩
theorem dX11_refusalOfSearch_12 : nx cX11_refusalOfSearch 12 (.invokestatic 72) 3 15 := ⟨by decide +kernel, rfl⟩
theorem dX11_refusalOfSearch_15 : bx cX11_refusalOfSearch 15 (.ifCond .ne 6) 6 21 18 := ⟨by decide +kernel, by decide, rfl⟩
theorem dX11_refusalOfSearch_18 : nx cX11_refusalOfSearch 18 (.bipush (-2)) 2 20 := ⟨by decide +kernel, rfl⟩
theorem dX11_refusalOfSearch_20 : nx cX11_refusalOfSearch 20 (.ireturn) 1 21 := ⟨by decide +kernel, rfl⟩
theorem dX11_refusalOfSearch_21 : nx cX11_refusalOfSearch 21 (.aload_n 0) 1 22 := ⟨by decide +kernel, rfl⟩
theorem dX11_refusalOfSearch_22 : nx cX11_refusalOfSearch 22 (.getfield 21) 3 25 := ⟨by decide +kernel, rfl⟩
theorem dX11_refusalOfSearch_25 : nx cX11_refusalOfSearch 25 (.invokevirtual 130) 3 28 := ⟨by decide +kernel, rfl⟩
theorem dX11_refusalOfSearch_28 : bx cX11_refusalOfSearch 28 (.ifCond .eq 8) 8 36 31 := ⟨by decide +kernel, by decide, rfl⟩
theorem dX11_refusalOfSearch_31 : nx cX11_refusalOfSearch 31 (.bipush (-3)) 2 33 := ⟨by decide +kernel, rfl⟩
theorem dX11_refusalOfSearch_33 : bx cX11_refusalOfSearch 33 (.goto 4) 4 37 36 := ⟨by decide +kernel, by decide, rfl⟩
theorem dX11_refusalOfSearch_36 : nx cX11_refusalOfSearch 36 (.iconst 0) 1 37 := ⟨by decide +kernel, rfl⟩
theorem dX11_refusalOfSearch_37 : nx cX11_refusalOfSearch 37 (.ireturn) 1 38 := ⟨by decide +kernel, rfl⟩
theorem dX11_joyFound_0 : nx cX11_joyFound 0 (.aload_n 0) 1 1 := ⟨by decide +kernel, rfl⟩
theorem dX11_joyFound_1 : nx cX11_joyFound 1 (.getfield 35) 3 4 := ⟨by decide +kernel, rfl⟩
theorem dX11_joyFound_4 : nx cX11_joyFound 4 (.getfield 205) 3 7 := ⟨by decide +kernel, rfl⟩
theorem dX11_joyFound_7 : bx cX11_joyFound 7 (.ifCond .ne 8) 8 15 10 := ⟨by decide +kernel, by decide, rfl⟩
theorem dX11_joyFound_10 : nx cX11_joyFound 10 (.bipush (-9)) 2 12 := ⟨by decide +kernel, rfl⟩
theorem dX11_joyFound_12 : bx cX11_joyFound 12 (.goto 13) 13 25 15 := ⟨by decide +kernel, by decide, rfl⟩
theorem dX11_joyFound_15 : nx cX11_joyFound 15 (.ldc 160) 2 17 := ⟨by decide +kernel, rfl⟩
theorem dX11_joyFound_17 : nx cX11_joyFound 17 (.aload_n 0) 1 18 := ⟨by decide +kernel, rfl⟩
theorem dX11_joyFound_18 : nx cX11_joyFound 18 (.getfield 35) 3 21 := ⟨by decide +kernel, rfl⟩
theorem dX11_joyFound_21 : nx cX11_joyFound 21 (.getfield 208) 3 24 := ⟨by decide +kernel, rfl⟩
theorem dX11_joyFound_24 : nx cX11_joyFound 24 (.iadd) 1 25 := ⟨by decide +kernel, rfl⟩
theorem dX11_joyFound_25 : nx cX11_joyFound 25 (.ireturn) 1 26 := ⟨by decide +kernel, rfl⟩
theorem dX11_powerOf_0 : nx cX11_powerOf 0 (.lconst 1) 1 1 := ⟨by decide +kernel, rfl⟩
theorem dX11_powerOf_1 : nx cX11_powerOf 1 (.lstore_n 3) 1 2 := ⟨by decide +kernel, rfl⟩
theorem dX11_powerOf_2 : nx cX11_powerOf 2 (.iconst 0) 1 3 := ⟨by decide +kernel, rfl⟩
theorem dX11_powerOf_3 : nx cX11_powerOf 3 (.istore 5) 2 5 := ⟨by decide +kernel, rfl⟩
theorem dX11_powerOf_5 : nx cX11_powerOf 5 (.iload 5) 2 7 := ⟨by decide +kernel, rfl⟩
theorem dX11_powerOf_7 : nx cX11_powerOf 7 (.iload_n 2) 1 8 := ⟨by decide +kernel, rfl⟩
theorem dX11_powerOf_8 : bx cX11_powerOf 8 (.if_icmp .ge 13) 13 21 11 := ⟨by decide +kernel, by decide, rfl⟩
theorem dX11_powerOf_11 : nx cX11_powerOf 11 (.lload_n 3) 1 12 := ⟨by decide +kernel, rfl⟩
theorem dX11_powerOf_12 : nx cX11_powerOf 12 (.lload_n 0) 1 13 := ⟨by decide +kernel, rfl⟩
theorem dX11_powerOf_13 : nx cX11_powerOf 13 (.lmul) 1 14 := ⟨by decide +kernel, rfl⟩
theorem dX11_powerOf_14 : nx cX11_powerOf 14 (.lstore_n 3) 1 15 := ⟨by decide +kernel, rfl⟩
theorem dX11_powerOf_15 : nx cX11_powerOf 15 (.iinc 5 1) 3 18 := ⟨by decide +kernel, rfl⟩
theorem dX11_powerOf_18 : bx cX11_powerOf 18 (.goto (-13)) (-13) 5 21 := ⟨by decide +kernel, by decide, rfl⟩
theorem dX11_powerOf_21 : nx cX11_powerOf 21 (.lload_n 3) 1 22 := ⟨by decide +kernel, rfl⟩
theorem dX11_powerOf_22 : nx cX11_powerOf 22 (.lreturn) 1 23 := ⟨by decide +kernel, rfl⟩
theorem dX11_inLeastTerms_0 : nx cX11_inLeastTerms 0 (.lload_n 0) 1 1 := ⟨by decide +kernel, rfl⟩
theorem dX11_inLeastTerms_1 : nx cX11_inLeastTerms 1 (.lload_n 2) 1 2 := ⟨by decide +kernel, rfl⟩
theorem dX11_inLeastTerms_2 : nx cX11_inLeastTerms 2 (.invokestatic 297) 3 5 := ⟨by decide +kernel, rfl⟩
theorem dX11_inLeastTerms_5 : nx cX11_inLeastTerms 5 (.lstore 5) 2 7 := ⟨by decide +kernel, rfl⟩
theorem dX11_inLeastTerms_7 : nx cX11_inLeastTerms 7 (.lload 5) 2 9 := ⟨by decide +kernel, rfl⟩
theorem dX11_inLeastTerms_9 : nx cX11_inLeastTerms 9 (.lconst 0) 1 10 := ⟨by decide +kernel, rfl⟩
theorem dX11_inLeastTerms_10 : nx cX11_inLeastTerms 10 (.lcmp) 1 11 := ⟨by decide +kernel, rfl⟩
theorem dX11_inLeastTerms_11 : bx cX11_inLeastTerms 11 (.ifCond .ne 7) 7 18 14 := ⟨by decide +kernel, by decide, rfl⟩
theorem dX11_inLeastTerms_14 : nx cX11_inLeastTerms 14 (.ldc2_w 165) 3 17 := ⟨by decide +kernel, rfl⟩
theorem dX11_inLeastTerms_17 : nx cX11_inLeastTerms 17 (.lreturn) 1 18 := ⟨by decide +kernel, rfl⟩
theorem dX11_inLeastTerms_18 : nx cX11_inLeastTerms 18 (.iload 4) 2 20 := ⟨by decide +kernel, rfl⟩
theorem dX11_inLeastTerms_20 : bx cX11_inLeastTerms 20 (.ifCond .ne 7) 7 27 23 := ⟨by decide +kernel, by decide, rfl⟩
theorem dX11_inLeastTerms_23 : nx cX11_inLeastTerms 23 (.lload_n 0) 1 24 := ⟨by decide +kernel, rfl⟩
theorem dX11_inLeastTerms_24 : bx cX11_inLeastTerms 24 (.goto 4) 4 28 27 := ⟨by decide +kernel, by decide, rfl⟩
theorem dX11_inLeastTerms_27 : nx cX11_inLeastTerms 27 (.lload_n 2) 1 28 := ⟨by decide +kernel, rfl⟩
theorem dX11_inLeastTerms_28 : nx cX11_inLeastTerms 28 (.lload 5) 2 30 := ⟨by decide +kernel, rfl⟩
theorem dX11_inLeastTerms_30 : nx cX11_inLeastTerms 30 (.ldiv) 1 31 := ⟨by decide +kernel, rfl⟩
theorem dX11_inLeastTerms_31 : nx cX11_inLeastTerms 31 (.lreturn) 1 32 := ⟨by decide +kernel, rfl⟩
theorem dX11_commonDivisor_0 : nx cX11_commonDivisor 0 (.lload_n 0) 1 1 := ⟨by decide +kernel, rfl⟩
theorem dX11_commonDivisor_1 : nx cX11_commonDivisor 1 (.lstore 4) 2 3 := ⟨by decide +kernel, rfl⟩
theorem dX11_commonDivisor_3 : nx cX11_commonDivisor 3 (.lload_n 2) 1 4 := ⟨by decide +kernel, rfl⟩
theorem dX11_commonDivisor_4 : nx cX11_commonDivisor 4 (.lstore 6) 2 6 := ⟨by decide +kernel, rfl⟩
theorem dX11_commonDivisor_6 : nx cX11_commonDivisor 6 (.iconst 0) 1 7 := ⟨by decide +kernel, rfl⟩
theorem dX11_commonDivisor_7 : nx cX11_commonDivisor 7 (.istore 8) 2 9 := ⟨by decide +kernel, rfl⟩
theorem dX11_commonDivisor_9 : nx cX11_commonDivisor 9 (.iload 8) 2 11 := ⟨by decide +kernel, rfl⟩
theorem dX11_commonDivisor_11 : nx cX11_commonDivisor 11 (.bipush 100) 2 13 := ⟨by decide +kernel, rfl⟩
theorem dX11_commonDivisor_13 : bx cX11_commonDivisor 13 (.if_icmp .ge 31) 31 44 16 := ⟨by decide +kernel, by decide, rfl⟩
theorem dX11_commonDivisor_16 : nx cX11_commonDivisor 16 (.lload 6) 2 18 := ⟨by decide +kernel, rfl⟩
theorem dX11_commonDivisor_18 : nx cX11_commonDivisor 18 (.lconst 0) 1 19 := ⟨by decide +kernel, rfl⟩
theorem dX11_commonDivisor_19 : nx cX11_commonDivisor 19 (.lcmp) 1 20 := ⟨by decide +kernel, rfl⟩
theorem dX11_commonDivisor_20 : bx cX11_commonDivisor 20 (.ifCond .eq 24) 24 44 23 := ⟨by decide +kernel, by decide, rfl⟩
theorem dX11_commonDivisor_23 : nx cX11_commonDivisor 23 (.lload 4) 2 25 := ⟨by decide +kernel, rfl⟩
theorem dX11_commonDivisor_25 : nx cX11_commonDivisor 25 (.lload 6) 2 27 := ⟨by decide +kernel, rfl⟩
theorem dX11_commonDivisor_27 : nx cX11_commonDivisor 27 (.lrem) 1 28 := ⟨by decide +kernel, rfl⟩
theorem dX11_commonDivisor_28 : nx cX11_commonDivisor 28 (.lstore 9) 2 30 := ⟨by decide +kernel, rfl⟩
theorem dX11_commonDivisor_30 : nx cX11_commonDivisor 30 (.lload 6) 2 32 := ⟨by decide +kernel, rfl⟩
theorem dX11_commonDivisor_32 : nx cX11_commonDivisor 32 (.lstore 4) 2 34 := ⟨by decide +kernel, rfl⟩
theorem dX11_commonDivisor_34 : nx cX11_commonDivisor 34 (.lload 9) 2 36 := ⟨by decide +kernel, rfl⟩
theorem dX11_commonDivisor_36 : nx cX11_commonDivisor 36 (.lstore 6) 2 38 := ⟨by decide +kernel, rfl⟩
theorem dX11_commonDivisor_38 : nx cX11_commonDivisor 38 (.iinc 8 1) 3 41 := ⟨by decide +kernel, rfl⟩
theorem dX11_commonDivisor_41 : bx cX11_commonDivisor 41 (.goto (-32)) (-32) 9 44 := ⟨by decide +kernel, by decide, rfl⟩
theorem dX11_commonDivisor_44 : nx cX11_commonDivisor 44 (.lload 4) 2 46 := ⟨by decide +kernel, rfl⟩
theorem dX11_commonDivisor_46 : nx cX11_commonDivisor 46 (.lreturn) 1 47 := ⟨by decide +kernel, rfl⟩
theorem dX12_init_0 : nx cX12_init 0 (.aload_n 0) 1 1 := ⟨by decide +kernel, rfl⟩
theorem dX12_init_1 : nx cX12_init 1 (.invokespecial 1) 3 4 := ⟨by decide +kernel, rfl⟩
theorem dX12_init_4 : nx cX12_init 4 (.aload_n 0) 1 5 := ⟨by decide +kernel, rfl⟩
theorem dX12_init_5 : nx cX12_init 5 (.bipush 9) 2 7 := ⟨by decide +kernel, rfl⟩
theorem dX12_init_7 : nx cX12_init 7 (.newarray .int) 2 9 := ⟨by decide +kernel, rfl⟩
theorem dX12_init_9 : nx cX12_init 9 (.putfield 7) 3 12 := ⟨by decide +kernel, rfl⟩
end
section
theorem dX12_init_12 : nx cX12_init 12 (.aload_n 0) 1 13 := ⟨by decide +kernel, rfl⟩
theorem dX12_init_13 : nx cX12_init 13 (.bipush 9) 2 15 := ⟨by decide +kernel, rfl⟩
theorem dX12_init_15 : nx cX12_init 15 (.newarray .int) 2 17 := ⟨by decide +kernel, rfl⟩
theorem dX12_init_17 : nx cX12_init 17 (.putfield 13) 3 20 := ⟨by decide +kernel, rfl⟩
theorem dX12_init_20 : nx cX12_init 20 (.aload_n 0) 1 21 := ⟨by decide +kernel, rfl⟩
theorem dX12_init_21 : nx cX12_init 21 (.bipush 9) 2 23 := ⟨by decide +kernel, rfl⟩
theorem dX12_init_23 : nx cX12_init 23 (.newarray .int) 2 25 := ⟨by decide +kernel, rfl⟩
theorem dX12_init_25 : nx cX12_init 25 (.putfield 16) 3 28 := ⟨by decide +kernel, rfl⟩
theorem dX12_init_28 : nx cX12_init 28 (.aload_n 0) 1 29 := ⟨by decide +kernel, rfl⟩
theorem dX12_init_29 : nx cX12_init 29 (.bipush 9) 2 31 := ⟨by decide +kernel, rfl⟩
theorem dX12_init_31 : nx cX12_init 31 (.newarray .int) 2 33 := ⟨by decide +kernel, rfl⟩
theorem dX12_init_33 : nx cX12_init 33 (.putfield 19) 3 36 := ⟨by decide +kernel, rfl⟩
theorem dX12_init_36 : nx cX12_init 36 (.aload_n 0) 1 37 := ⟨by decide +kernel, rfl⟩
theorem dX12_init_37 : nx cX12_init 37 (.bipush 9) 2 39 := ⟨by decide +kernel, rfl⟩
theorem dX12_init_39 : nx cX12_init 39 (.newarray .int) 2 41 := ⟨by decide +kernel, rfl⟩
theorem dX12_init_41 : nx cX12_init 41 (.putfield 22) 3 44 := ⟨by decide +kernel, rfl⟩
theorem dX12_init_44 : nx cX12_init 44 (.aload_n 0) 1 45 := ⟨by decide +kernel, rfl⟩
theorem dX12_init_45 : nx cX12_init 45 (.bipush 9) 2 47 := ⟨by decide +kernel, rfl⟩
theorem dX12_init_47 : nx cX12_init 47 (.newarray .int) 2 49 := ⟨by decide +kernel, rfl⟩
theorem dX12_init_49 : nx cX12_init 49 (.putfield 25) 3 52 := ⟨by decide +kernel, rfl⟩
theorem dX12_init_52 : nx cX12_init 52 (.aload_n 0) 1 53 := ⟨by decide +kernel, rfl⟩
theorem dX12_init_53 : nx cX12_init 53 (.bipush 9) 2 55 := ⟨by decide +kernel, rfl⟩
theorem dX12_init_55 : nx cX12_init 55 (.newarray .int) 2 57 := ⟨by decide +kernel, rfl⟩
theorem dX12_init_57 : nx cX12_init 57 (.putfield 28) 3 60 := ⟨by decide +kernel, rfl⟩
theorem dX12_init_60 : nx cX12_init 60 (.aload_n 0) 1 61 := ⟨by decide +kernel, rfl⟩
theorem dX12_init_61 : nx cX12_init 61 (.bipush 9) 2 63 := ⟨by decide +kernel, rfl⟩
theorem dX12_init_63 : nx cX12_init 63 (.newarray .int) 2 65 := ⟨by decide +kernel, rfl⟩
theorem dX12_init_65 : nx cX12_init 65 (.putfield 31) 3 68 := ⟨by decide +kernel, rfl⟩
theorem dX12_init_68 : nx cX12_init 68 (.aload_n 0) 1 69 := ⟨by decide +kernel, rfl⟩
theorem dX12_init_69 : nx cX12_init 69 (.bipush 9) 2 71 := ⟨by decide +kernel, rfl⟩
theorem dX12_init_71 : nx cX12_init 71 (.newarray .int) 2 73 := ⟨by decide +kernel, rfl⟩
theorem dX12_init_73 : nx cX12_init 73 (.putfield 34) 3 76 := ⟨by decide +kernel, rfl⟩
theorem dX12_init_76 : nx cX12_init 76 (.aload_n 0) 1 77 := ⟨by decide +kernel, rfl⟩
theorem dX12_init_77 : nx cX12_init 77 (.bipush 9) 2 79 := ⟨by decide +kernel, rfl⟩
theorem dX12_init_79 : nx cX12_init 79 (.newarray .int) 2 81 := ⟨by decide +kernel, rfl⟩
theorem dX12_init_81 : nx cX12_init 81 (.putfield 37) 3 84 := ⟨by decide +kernel, rfl⟩
theorem dX12_init_84 : nx cX12_init 84 (.aload_n 0) 1 85 := ⟨by decide +kernel, rfl⟩
theorem dX12_init_85 : nx cX12_init 85 (.bipush 9) 2 87 := ⟨by decide +kernel, rfl⟩
theorem dX12_init_87 : nx cX12_init 87 (.newarray .int) 2 89 := ⟨by decide +kernel, rfl⟩
theorem dX12_init_89 : nx cX12_init 89 (.putfield 40) 3 92 := ⟨by decide +kernel, rfl⟩
theorem dX12_init_92 : nx cX12_init 92 (.aload_n 0) 1 93 := ⟨by decide +kernel, rfl⟩
theorem dX12_init_93 : nx cX12_init 93 (.bipush 9) 2 95 := ⟨by decide +kernel, rfl⟩
theorem dX12_init_95 : nx cX12_init 95 (.newarray .int) 2 97 := ⟨by decide +kernel, rfl⟩
theorem dX12_init_97 : nx cX12_init 97 (.putfield 43) 3 100 := ⟨by decide +kernel, rfl⟩
theorem dX12_init_100 : nx cX12_init 100 (.aload_n 0) 1 101 := ⟨by decide +kernel, rfl⟩
theorem dX12_init_101 : nx cX12_init 101 (.bipush 12) 2 103 := ⟨by decide +kernel, rfl⟩
theorem dX12_init_103 : nx cX12_init 103 (.newarray .int) 2 105 := ⟨by decide +kernel, rfl⟩
theorem dX12_init_105 : nx cX12_init 105 (.putfield 46) 3 108 := ⟨by decide +kernel, rfl⟩
theorem dX12_init_108 : nx cX12_init 108 (.aload_n 0) 1 109 := ⟨by decide +kernel, rfl⟩
theorem dX12_init_109 : nx cX12_init 109 (.bipush 7) 2 111 := ⟨by decide +kernel, rfl⟩
theorem dX12_init_111 : nx cX12_init 111 (.newarray .int) 2 113 := ⟨by decide +kernel, rfl⟩
theorem dX12_init_113 : nx cX12_init 113 (.putfield 49) 3 116 := ⟨by decide +kernel, rfl⟩
theorem dX12_init_116 : nx cX12_init 116 (.aload_n 0) 1 117 := ⟨by decide +kernel, rfl⟩
theorem dX12_init_117 : nx cX12_init 117 (.bipush 6) 2 119 := ⟨by decide +kernel, rfl⟩
theorem dX12_init_119 : nx cX12_init 119 (.newarray .int) 2 121 := ⟨by decide +kernel, rfl⟩
theorem dX12_init_121 : nx cX12_init 121 (.putfield 52) 3 124 := ⟨by decide +kernel, rfl⟩
theorem dX12_init_124 : nx cX12_init 124 (.aload_n 0) 1 125 := ⟨by decide +kernel, rfl⟩
theorem dX12_init_125 : nx cX12_init 125 (.iconst 5) 1 126 := ⟨by decide +kernel, rfl⟩
theorem dX12_init_126 : nx cX12_init 126 (.newarray .int) 2 128 := ⟨by decide +kernel, rfl⟩
theorem dX12_init_128 : nx cX12_init 128 (.putfield 55) 3 131 := ⟨by decide +kernel, rfl⟩
theorem dX12_init_131 : nx cX12_init 131 (.aload_n 0) 1 132 := ⟨by decide +kernel, rfl⟩
theorem dX12_init_132 : nx cX12_init 132 (.bipush 8) 2 134 := ⟨by decide +kernel, rfl⟩
theorem dX12_init_134 : nx cX12_init 134 (.newarray .int) 2 136 := ⟨by decide +kernel, rfl⟩
theorem dX12_init_136 : nx cX12_init 136 (.putfield 58) 3 139 := ⟨by decide +kernel, rfl⟩
theorem dX12_init_139 : nx cX12_init 139 (.aload_n 0) 1 140 := ⟨by decide +kernel, rfl⟩
theorem dX12_init_140 : nx cX12_init 140 (.bipush 8) 2 142 := ⟨by decide +kernel, rfl⟩
theorem dX12_init_142 : nx cX12_init 142 (.newarray .boolean) 2 144 := ⟨by decide +kernel, rfl⟩
theorem dX12_init_144 : nx cX12_init 144 (.putfield 61) 3 147 := ⟨by decide +kernel, rfl⟩
theorem dX12_init_147 : nx cX12_init 147 (.aload_n 0) 1 148 := ⟨by decide +kernel, rfl⟩
theorem dX12_init_148 : nx cX12_init 148 (.bipush 7) 2 150 := ⟨by decide +kernel, rfl⟩
theorem dX12_init_150 : nx cX12_init 150 (.newarray .long) 2 152 := ⟨by decide +kernel, rfl⟩
theorem dX12_init_152 : nx cX12_init 152 (.putfield 65) 3 155 := ⟨by decide +kernel, rfl⟩
theorem dX12_init_155 : nx cX12_init 155 (.aload_n 0) 1 156 := ⟨by decide +kernel, rfl⟩
theorem dX12_init_156 : nx cX12_init 156 (.bipush 7) 2 158 := ⟨by decide +kernel, rfl⟩
theorem dX12_init_158 : nx cX12_init 158 (.newarray .long) 2 160 := ⟨by decide +kernel, rfl⟩
theorem dX12_init_160 : nx cX12_init 160 (.putfield 69) 3 163 := ⟨by decide +kernel, rfl⟩
theorem dX12_init_163 : nx cX12_init 163 (.aload_n 0) 1 164 := ⟨by decide +kernel, rfl⟩
theorem dX12_init_164 : nx cX12_init 164 (.iconst 4) 1 165 := ⟨by decide +kernel, rfl⟩
theorem dX12_init_165 : nx cX12_init 165 (.newarray .int) 2 167 := ⟨by decide +kernel, rfl⟩
theorem dX12_init_167 : nx cX12_init 167 (.putfield 72) 3 170 := ⟨by decide +kernel, rfl⟩
theorem dX12_init_170 : nx cX12_init 170 (.aload_n 0) 1 171 := ⟨by decide +kernel, rfl⟩
theorem dX12_init_171 : nx cX12_init 171 (.iconst 4) 1 172 := ⟨by decide +kernel, rfl⟩
theorem dX12_init_172 : nx cX12_init 172 (.newarray .int) 2 174 := ⟨by decide +kernel, rfl⟩
theorem dX12_init_174 : nx cX12_init 174 (.putfield 75) 3 177 := ⟨by decide +kernel, rfl⟩
theorem dX12_init_177 : nx cX12_init 177 (.aload_n 0) 1 178 := ⟨by decide +kernel, rfl⟩
theorem dX12_init_178 : nx cX12_init 178 (.sipush 240) 3 181 := ⟨by decide +kernel, rfl⟩
theorem dX12_init_181 : nx cX12_init 181 (.newarray .int) 2 183 := ⟨by decide +kernel, rfl⟩
theorem dX12_init_183 : nx cX12_init 183 (.putfield 78) 3 186 := ⟨by decide +kernel, rfl⟩
theorem dX12_init_186 : nx cX12_init 186 (.aload_n 0) 1 187 := ⟨by decide +kernel, rfl⟩
theorem dX12_init_187 : nx cX12_init 187 (.bipush 60) 2 189 := ⟨by decide +kernel, rfl⟩
theorem dX12_init_189 : nx cX12_init 189 (.newarray .int) 2 191 := ⟨by decide +kernel, rfl⟩
theorem dX12_init_191 : nx cX12_init 191 (.putfield 81) 3 194 := ⟨by decide +kernel, rfl⟩
theorem dX12_init_194 : nx cX12_init 194 (.iconst 0) 1 195 := ⟨by decide +kernel, rfl⟩
theorem dX12_init_195 : nx cX12_init 195 (.istore_n 1) 1 196 := ⟨by decide +kernel, rfl⟩
theorem dX12_init_196 : nx cX12_init 196 (.iload_n 1) 1 197 := ⟨by decide +kernel, rfl⟩
theorem dX12_init_197 : nx cX12_init 197 (.iconst 4) 1 198 := ⟨by decide +kernel, rfl⟩
theorem dX12_init_198 : bx cX12_init 198 (.if_icmp .ge 16) 16 214 201 := ⟨by decide +kernel, by decide, rfl⟩
theorem dX12_init_201 : nx cX12_init 201 (.aload_n 0) 1 202 := ⟨by decide +kernel, rfl⟩
theorem dX12_init_202 : nx cX12_init 202 (.getfield 72) 3 205 := ⟨by decide +kernel, rfl⟩
theorem dX12_init_205 : nx cX12_init 205 (.iload_n 1) 1 206 := ⟨by decide +kernel, rfl⟩
theorem dX12_init_206 : nx cX12_init 206 (.iconst (-1)) 1 207 := ⟨by decide +kernel, rfl⟩
theorem dX12_init_207 : nx cX12_init 207 (.iastore) 1 208 := ⟨by decide +kernel, rfl⟩
theorem dX12_init_208 : nx cX12_init 208 (.iinc 1 1) 3 211 := ⟨by decide +kernel, rfl⟩
theorem dX12_init_211 : bx cX12_init 211 (.goto (-15)) (-15) 196 214 := ⟨by decide +kernel, by decide, rfl⟩
theorem dX12_init_214 : nx cX12_init 214 (.return_) 1 215 := ⟨by decide +kernel, rfl⟩
theorem dX12_in_0 : nx cX12_in 0 (.lload_n 0) 1 1 := ⟨by decide +kernel, rfl⟩
theorem dX12_in_1 : nx cX12_in 1 (.lload_n 2) 1 2 := ⟨by decide +kernel, rfl⟩
theorem dX12_in_2 : nx cX12_in 2 (.lcmp) 1 3 := ⟨by decide +kernel, rfl⟩
theorem dX12_in_3 : bx cX12_in 3 (.ifCond .lt 14) 14 17 6 := ⟨by decide +kernel, by decide, rfl⟩
theorem dX12_in_6 : nx cX12_in 6 (.lload_n 0) 1 7 := ⟨by decide +kernel, rfl⟩
theorem dX12_in_7 : nx cX12_in 7 (.lload 4) 2 9 := ⟨by decide +kernel, rfl⟩
theorem dX12_in_9 : nx cX12_in 9 (.lcmp) 1 10 := ⟨by decide +kernel, rfl⟩
theorem dX12_in_10 : bx cX12_in 10 (.ifCond .gt 7) 7 17 13 := ⟨by decide +kernel, by decide, rfl⟩
theorem dX12_in_13 : nx cX12_in 13 (.iconst 1) 1 14 := ⟨by decide +kernel, rfl⟩
theorem dX12_in_14 : bx cX12_in 14 (.goto 4) 4 18 17 := ⟨by decide +kernel, by decide, rfl⟩
theorem dX12_in_17 : nx cX12_in 17 (.iconst 0) 1 18 := ⟨by decide +kernel, rfl⟩
theorem dX12_in_18 : nx cX12_in 18 (.ireturn) 1 19 := ⟨by decide +kernel, rfl⟩
theorem dX12_lost_0 : nx cX12_lost 0 (.ldc2_w 84) 3 3 := ⟨by decide +kernel, rfl⟩
theorem dX12_lost_3 : nx cX12_lost 3 (.lreturn) 1 4 := ⟨by decide +kernel, rfl⟩
theorem dX12_isIn_0 : nx cX12_isIn 0 (.iload_n 0) 1 1 := ⟨by decide +kernel, rfl⟩
theorem dX12_isIn_1 : nx cX12_isIn 1 (.iload_n 1) 1 2 := ⟨by decide +kernel, rfl⟩
theorem dX12_isIn_2 : nx cX12_isIn 2 (.ishr) 1 3 := ⟨by decide +kernel, rfl⟩
theorem dX12_isIn_3 : nx cX12_isIn 3 (.iconst 1) 1 4 := ⟨by decide +kernel, rfl⟩
theorem dX12_isIn_4 : nx cX12_isIn 4 (.iand) 1 5 := ⟨by decide +kernel, rfl⟩
theorem dX12_isIn_5 : nx cX12_isIn 5 (.iconst 1) 1 6 := ⟨by decide +kernel, rfl⟩
theorem dX12_isIn_6 : bx cX12_isIn 6 (.if_icmp .ne 7) 7 13 9 := ⟨by decide +kernel, by decide, rfl⟩
theorem dX12_isIn_9 : nx cX12_isIn 9 (.iconst 1) 1 10 := ⟨by decide +kernel, rfl⟩
theorem dX12_isIn_10 : bx cX12_isIn 10 (.goto 4) 4 14 13 := ⟨by decide +kernel, by decide, rfl⟩
theorem dX12_isIn_13 : nx cX12_isIn 13 (.iconst 0) 1 14 := ⟨by decide +kernel, rfl⟩
theorem dX12_isIn_14 : nx cX12_isIn 14 (.ireturn) 1 15 := ⟨by decide +kernel, rfl⟩
theorem dX12_told_0 : nx cX12_told 0 (.lload_n 0) 1 1 := ⟨by decide +kernel, rfl⟩
theorem dX12_told_1 : nx cX12_told 1 (.lstore 5) 2 3 := ⟨by decide +kernel, rfl⟩
theorem dX12_told_3 : nx cX12_told 3 (.lload_n 2) 1 4 := ⟨by decide +kernel, rfl⟩
theorem dX12_told_4 : nx cX12_told 4 (.lstore 7) 2 6 := ⟨by decide +kernel, rfl⟩
theorem dX12_told_6 : nx cX12_told 6 (.lload 7) 2 8 := ⟨by decide +kernel, rfl⟩
theorem dX12_told_8 : nx cX12_told 8 (.lconst 0) 1 9 := ⟨by decide +kernel, rfl⟩
theorem dX12_told_9 : nx cX12_told 9 (.lcmp) 1 10 := ⟨by decide +kernel, rfl⟩
theorem dX12_told_10 : bx cX12_told 10 (.ifCond .eq 21) 21 31 13 := ⟨by decide +kernel, by decide, rfl⟩
theorem dX12_told_13 : nx cX12_told 13 (.lload 5) 2 15 := ⟨by decide +kernel, rfl⟩
theorem dX12_told_15 : nx cX12_told 15 (.lload 7) 2 17 := ⟨by decide +kernel, rfl⟩
theorem dX12_told_17 : nx cX12_told 17 (.lrem) 1 18 := ⟨by decide +kernel, rfl⟩
theorem dX12_told_18 : nx cX12_told 18 (.lstore 9) 2 20 := ⟨by decide +kernel, rfl⟩
theorem dX12_told_20 : nx cX12_told 20 (.lload 7) 2 22 := ⟨by decide +kernel, rfl⟩
theorem dX12_told_22 : nx cX12_told 22 (.lstore 5) 2 24 := ⟨by decide +kernel, rfl⟩
theorem dX12_told_24 : nx cX12_told 24 (.lload 9) 2 26 := ⟨by decide +kernel, rfl⟩
theorem dX12_told_26 : nx cX12_told 26 (.lstore 7) 2 28 := ⟨by decide +kernel, rfl⟩
theorem dX12_told_28 : bx cX12_told 28 (.goto (-22)) (-22) 6 31 := ⟨by decide +kernel, by decide, rfl⟩
theorem dX12_told_31 : nx cX12_told 31 (.iload 4) 2 33 := ⟨by decide +kernel, rfl⟩
theorem dX12_told_33 : bx cX12_told 33 (.ifCond .ne 7) 7 40 36 := ⟨by decide +kernel, by decide, rfl⟩
theorem dX12_told_36 : nx cX12_told 36 (.lload_n 0) 1 37 := ⟨by decide +kernel, rfl⟩
theorem dX12_told_37 : bx cX12_told 37 (.goto 4) 4 41 40 := ⟨by decide +kernel, by decide, rfl⟩
theorem dX12_told_40 : nx cX12_told 40 (.lload_n 2) 1 41 := ⟨by decide +kernel, rfl⟩
theorem dX12_told_41 : nx cX12_told 41 (.lload 5) 2 43 := ⟨by decide +kernel, rfl⟩
theorem dX12_told_43 : nx cX12_told 43 (.ldiv) 1 44 := ⟨by decide +kernel, rfl⟩
theorem dX12_told_44 : nx cX12_told 44 (.lreturn) 1 45 := ⟨by decide +kernel, rfl⟩
theorem dX12_refused_0 : nx cX12_refused 0 (.aload_n 0) 1 1 := ⟨by decide +kernel, rfl⟩
theorem dX12_refused_1 : nx cX12_refused 1 (.iconst 0) 1 2 := ⟨by decide +kernel, rfl⟩
theorem dX12_refused_2 : nx cX12_refused 2 (.putfield 86) 3 5 := ⟨by decide +kernel, rfl⟩
theorem dX12_refused_5 : nx cX12_refused 5 (.iload_n 1) 1 6 := ⟨by decide +kernel, rfl⟩
theorem dX12_refused_6 : nx cX12_refused 6 (.ireturn) 1 7 := ⟨by decide +kernel, rfl⟩
theorem dX12_failed_0 : nx cX12_failed 0 (.aload_n 0) 1 1 := ⟨by decide +kernel, rfl⟩
theorem dX12_failed_1 : nx cX12_failed 1 (.iload_n 1) 1 2 := ⟨by decide +kernel, rfl⟩
theorem dX12_failed_2 : nx cX12_failed 2 (.putfield 86) 3 5 := ⟨by decide +kernel, rfl⟩
theorem dX12_failed_5 : nx cX12_failed 5 (.bipush (-10)) 2 7 := ⟨by decide +kernel, rfl⟩
theorem dX12_failed_7 : nx cX12_failed 7 (.iload_n 1) 1 8 := ⟨by decide +kernel, rfl⟩
theorem dX12_failed_8 : nx cX12_failed 8 (.isub) 1 9 := ⟨by decide +kernel, rfl⟩
theorem dX12_failed_9 : nx cX12_failed 9 (.ireturn) 1 10 := ⟨by decide +kernel, rfl⟩
theorem dX12_failedLong_0 : nx cX12_failedLong 0 (.aload_n 0) 1 1 := ⟨by decide +kernel, rfl⟩
theorem dX12_failedLong_1 : nx cX12_failedLong 1 (.iload_n 1) 1 2 := ⟨by decide +kernel, rfl⟩
theorem dX12_failedLong_2 : nx cX12_failedLong 2 (.putfield 86) 3 5 := ⟨by decide +kernel, rfl⟩
theorem dX12_failedLong_5 : nx cX12_failedLong 5 (.invokestatic 90) 3 8 := ⟨by decide +kernel, rfl⟩
theorem dX12_failedLong_8 : nx cX12_failedLong 8 (.lreturn) 1 9 := ⟨by decide +kernel, rfl⟩
theorem dX12_refusedLong_0 : nx cX12_refusedLong 0 (.aload_n 0) 1 1 := ⟨by decide +kernel, rfl⟩
theorem dX12_refusedLong_1 : nx cX12_refusedLong 1 (.iconst 0) 1 2 := ⟨by decide +kernel, rfl⟩
theorem dX12_refusedLong_2 : nx cX12_refusedLong 2 (.putfield 86) 3 5 := ⟨by decide +kernel, rfl⟩
theorem dX12_refusedLong_5 : nx cX12_refusedLong 5 (.invokestatic 90) 3 8 := ⟨by decide +kernel, rfl⟩
theorem dX12_refusedLong_8 : nx cX12_refusedLong 8 (.lreturn) 1 9 := ⟨by decide +kernel, rfl⟩
theorem dX12_noPlace_0 : nx cX12_noPlace 0 (.iload_n 1) 1 1 := ⟨by decide +kernel, rfl⟩
theorem dX12_noPlace_1 : nx cX12_noPlace 1 (.i2l) 1 2 := ⟨by decide +kernel, rfl⟩
theorem dX12_noPlace_2 : nx cX12_noPlace 2 (.lconst 0) 1 3 := ⟨by decide +kernel, rfl⟩
theorem dX12_noPlace_3 : nx cX12_noPlace 3 (.aload_n 0) 1 4 := ⟨by decide +kernel, rfl⟩
theorem dX12_noPlace_4 : nx cX12_noPlace 4 (.getfield 94) 3 7 := ⟨by decide +kernel, rfl⟩
theorem dX12_noPlace_7 : nx cX12_noPlace 7 (.i2l) 1 8 := ⟨by decide +kernel, rfl⟩
theorem dX12_noPlace_8 : nx cX12_noPlace 8 (.lconst 1) 1 9 := ⟨by decide +kernel, rfl⟩
theorem dX12_noPlace_9 : nx cX12_noPlace 9 (.lsub) 1 10 := ⟨by decide +kernel, rfl⟩
theorem dX12_noPlace_10 : nx cX12_noPlace 10 (.invokestatic 97) 3 13 := ⟨by decide +kernel, rfl⟩
theorem dX12_noPlace_13 : bx cX12_noPlace 13 (.ifCond .ne 7) 7 20 16 := ⟨by decide +kernel, by decide, rfl⟩
theorem dX12_noPlace_16 : nx cX12_noPlace 16 (.iconst 1) 1 17 := ⟨by decide +kernel, rfl⟩
theorem dX12_noPlace_17 : bx cX12_noPlace 17 (.goto 4) 4 21 20 := ⟨by decide +kernel, by decide, rfl⟩
theorem dX12_noPlace_20 : nx cX12_noPlace 20 (.iconst 0) 1 21 := ⟨by decide +kernel, rfl⟩
theorem dX12_noPlace_21 : nx cX12_noPlace 21 (.ireturn) 1 22 := ⟨by decide +kernel, rfl⟩
theorem dX12_noStretch_0 : nx cX12_noStretch 0 (.iload_n 1) 1 1 := ⟨by decide +kernel, rfl⟩
theorem dX12_noStretch_1 : nx cX12_noStretch 1 (.i2l) 1 2 := ⟨by decide +kernel, rfl⟩
theorem dX12_noStretch_2 : nx cX12_noStretch 2 (.lconst 0) 1 3 := ⟨by decide +kernel, rfl⟩
theorem dX12_noStretch_3 : nx cX12_noStretch 3 (.aload_n 0) 1 4 := ⟨by decide +kernel, rfl⟩
theorem dX12_noStretch_4 : nx cX12_noStretch 4 (.getfield 101) 3 7 := ⟨by decide +kernel, rfl⟩
theorem dX12_noStretch_7 : nx cX12_noStretch 7 (.i2l) 1 8 := ⟨by decide +kernel, rfl⟩
theorem dX12_noStretch_8 : nx cX12_noStretch 8 (.lconst 1) 1 9 := ⟨by decide +kernel, rfl⟩
theorem dX12_noStretch_9 : nx cX12_noStretch 9 (.lsub) 1 10 := ⟨by decide +kernel, rfl⟩
theorem dX12_noStretch_10 : nx cX12_noStretch 10 (.invokestatic 97) 3 13 := ⟨by decide +kernel, rfl⟩
theorem dX12_noStretch_13 : bx cX12_noStretch 13 (.ifCond .ne 7) 7 20 16 := ⟨by decide +kernel, by decide, rfl⟩
theorem dX12_noStretch_16 : nx cX12_noStretch 16 (.iconst 1) 1 17 := ⟨by decide +kernel, rfl⟩
theorem dX12_noStretch_17 : bx cX12_noStretch 17 (.goto 4) 4 21 20 := ⟨by decide +kernel, by decide, rfl⟩
theorem dX12_noStretch_20 : nx cX12_noStretch 20 (.iconst 0) 1 21 := ⟨by decide +kernel, rfl⟩
theorem dX12_noStretch_21 : nx cX12_noStretch 21 (.ireturn) 1 22 := ⟨by decide +kernel, rfl⟩
theorem dX12_codeAt_0 : nx cX12_codeAt 0 (.aload_n 0) 1 1 := ⟨by decide +kernel, rfl⟩
theorem dX12_codeAt_1 : nx cX12_codeAt 1 (.getfield 104) 3 4 := ⟨by decide +kernel, rfl⟩
theorem dX12_codeAt_4 : nx cX12_codeAt 4 (.iload_n 2) 1 5 := ⟨by decide +kernel, rfl⟩
theorem dX12_codeAt_5 : bx cX12_codeAt 5 (.if_icmp .ge 17) 17 22 8 := ⟨by decide +kernel, by decide, rfl⟩
theorem dX12_codeAt_8 : nx cX12_codeAt 8 (.aload_n 0) 1 9 := ⟨by decide +kernel, rfl⟩
theorem dX12_codeAt_9 : nx cX12_codeAt 9 (.getfield 78) 3 12 := ⟨by decide +kernel, rfl⟩
theorem dX12_codeAt_12 : nx cX12_codeAt 12 (.iload_n 1) 1 13 := ⟨by decide +kernel, rfl⟩
theorem dX12_codeAt_13 : nx cX12_codeAt 13 (.aload_n 0) 1 14 := ⟨by decide +kernel, rfl⟩
theorem dX12_codeAt_14 : nx cX12_codeAt 14 (.getfield 104) 3 17 := ⟨by decide +kernel, rfl⟩
theorem dX12_codeAt_17 : nx cX12_codeAt 17 (.iadd) 1 18 := ⟨by decide +kernel, rfl⟩
theorem dX12_codeAt_18 : nx cX12_codeAt 18 (.iaload) 1 19 := ⟨by decide +kernel, rfl⟩
theorem dX12_codeAt_19 : bx cX12_codeAt 19 (.goto 5) 5 24 22 := ⟨by decide +kernel, by decide, rfl⟩
theorem dX12_codeAt_22 : nx cX12_codeAt 22 (.bipush (-9)) 2 24 := ⟨by decide +kernel, rfl⟩
theorem dX12_codeAt_24 : nx cX12_codeAt 24 (.ireturn) 1 25 := ⟨by decide +kernel, rfl⟩
theorem dX12_figure_0 : nx cX12_figure 0 (.aload_n 0) 1 1 := ⟨by decide +kernel, rfl⟩
theorem dX12_figure_1 : nx cX12_figure 1 (.iload_n 1) 1 2 := ⟨by decide +kernel, rfl⟩
theorem dX12_figure_2 : nx cX12_figure 2 (.iload_n 2) 1 3 := ⟨by decide +kernel, rfl⟩
theorem dX12_figure_3 : nx cX12_figure 3 (.invokevirtual 107) 3 6 := ⟨by decide +kernel, rfl⟩
theorem dX12_figure_6 : nx cX12_figure 6 (.bipush 48) 2 8 := ⟨by decide +kernel, rfl⟩
theorem dX12_figure_8 : nx cX12_figure 8 (.isub) 1 9 := ⟨by decide +kernel, rfl⟩
theorem dX12_figure_9 : nx cX12_figure 9 (.istore 6) 2 11 := ⟨by decide +kernel, rfl⟩
theorem dX12_figure_11 : nx cX12_figure 11 (.iload 6) 2 13 := ⟨by decide +kernel, rfl⟩
theorem dX12_figure_13 : nx cX12_figure 13 (.i2l) 1 14 := ⟨by decide +kernel, rfl⟩
theorem dX12_figure_14 : nx cX12_figure 14 (.iload_n 3) 1 15 := ⟨by decide +kernel, rfl⟩
theorem dX12_figure_15 : nx cX12_figure 15 (.i2l) 1 16 := ⟨by decide +kernel, rfl⟩
theorem dX12_figure_16 : nx cX12_figure 16 (.iload 4) 2 18 := ⟨by decide +kernel, rfl⟩
theorem dX12_figure_18 : nx cX12_figure 18 (.i2l) 1 19 := ⟨by decide +kernel, rfl⟩
theorem dX12_figure_19 : nx cX12_figure 19 (.invokestatic 97) 3 22 := ⟨by decide +kernel, rfl⟩
theorem dX12_figure_22 : bx cX12_figure 22 (.ifCond .eq 14) 14 36 25 := ⟨by decide +kernel, by decide, rfl⟩
theorem dX12_figure_25 : nx cX12_figure 25 (.iload 6) 2 27 := ⟨by decide +kernel, rfl⟩
theorem dX12_figure_27 : nx cX12_figure 27 (.iload 5) 2 29 := ⟨by decide +kernel, rfl⟩
theorem dX12_figure_29 : bx cX12_figure 29 (.if_icmp .eq 7) 7 36 32 := ⟨by decide +kernel, by decide, rfl⟩
theorem dX12_figure_32 : nx cX12_figure 32 (.iconst 1) 1 33 := ⟨by decide +kernel, rfl⟩
theorem dX12_figure_33 : bx cX12_figure 33 (.goto 4) 4 37 36 := ⟨by decide +kernel, by decide, rfl⟩
theorem dX12_figure_36 : nx cX12_figure 36 (.iconst 0) 1 37 := ⟨by decide +kernel, rfl⟩
theorem dX12_figure_37 : nx cX12_figure 37 (.istore 7) 2 39 := ⟨by decide +kernel, rfl⟩
theorem dX12_figure_39 : nx cX12_figure 39 (.aload_n 0) 1 40 := ⟨by decide +kernel, rfl⟩
theorem dX12_figure_40 : nx cX12_figure 40 (.dup) 1 41 := ⟨by decide +kernel, rfl⟩
theorem dX12_figure_41 : nx cX12_figure 41 (.getfield 104) 3 44 := ⟨by decide +kernel, rfl⟩
theorem dX12_figure_44 : nx cX12_figure 44 (.iload 7) 2 46 := ⟨by decide +kernel, rfl⟩
theorem dX12_figure_46 : bx cX12_figure 46 (.ifCond .eq 7) 7 53 49 := ⟨by decide +kernel, by decide, rfl⟩
theorem dX12_figure_49 : nx cX12_figure 49 (.iconst 1) 1 50 := ⟨by decide +kernel, rfl⟩
theorem dX12_figure_50 : bx cX12_figure 50 (.goto 4) 4 54 53 := ⟨by decide +kernel, by decide, rfl⟩
theorem dX12_figure_53 : nx cX12_figure 53 (.iconst 0) 1 54 := ⟨by decide +kernel, rfl⟩
theorem dX12_figure_54 : nx cX12_figure 54 (.iadd) 1 55 := ⟨by decide +kernel, rfl⟩
theorem dX12_figure_55 : nx cX12_figure 55 (.putfield 104) 3 58 := ⟨by decide +kernel, rfl⟩
theorem dX12_figure_58 : nx cX12_figure 58 (.iload 7) 2 60 := ⟨by decide +kernel, rfl⟩
theorem dX12_figure_60 : bx cX12_figure 60 (.ifCond .eq 8) 8 68 63 := ⟨by decide +kernel, by decide, rfl⟩
theorem dX12_figure_63 : nx cX12_figure 63 (.iload 6) 2 65 := ⟨by decide +kernel, rfl⟩
theorem dX12_figure_65 : bx cX12_figure 65 (.goto 5) 5 70 68 := ⟨by decide +kernel, by decide, rfl⟩
theorem dX12_figure_68 : nx cX12_figure 68 (.bipush (-9)) 2 70 := ⟨by decide +kernel, rfl⟩
theorem dX12_figure_70 : nx cX12_figure 70 (.ireturn) 1 71 := ⟨by decide +kernel, rfl⟩
theorem dX12_readsStretch_0 : nx cX12_readsStretch 0 (.aload_n 0) 1 1 := ⟨by decide +kernel, rfl⟩
theorem dX12_readsStretch_1 : nx cX12_readsStretch 1 (.getfield 111) 3 4 := ⟨by decide +kernel, rfl⟩
theorem dX12_readsStretch_4 : nx cX12_readsStretch 4 (.bipush 9) 2 6 := ⟨by decide +kernel, rfl⟩
theorem dX12_readsStretch_6 : bx cX12_readsStretch 6 (.if_icmp .eq 14) 14 20 9 := ⟨by decide +kernel, by decide, rfl⟩
theorem dX12_readsStretch_9 : nx cX12_readsStretch 9 (.aload_n 0) 1 10 := ⟨by decide +kernel, rfl⟩
theorem dX12_readsStretch_10 : nx cX12_readsStretch 10 (.iload_n 1) 1 11 := ⟨by decide +kernel, rfl⟩
theorem dX12_readsStretch_11 : nx cX12_readsStretch 11 (.iload_n 2) 1 12 := ⟨by decide +kernel, rfl⟩
theorem dX12_readsStretch_12 : nx cX12_readsStretch 12 (.invokevirtual 107) 3 15 := ⟨by decide +kernel, rfl⟩
theorem dX12_readsStretch_15 : nx cX12_readsStretch 15 (.bipush 59) 2 17 := ⟨by decide +kernel, rfl⟩
theorem dX12_readsStretch_17 : bx cX12_readsStretch 17 (.if_icmp .eq 5) 5 22 20 := ⟨by decide +kernel, by decide, rfl⟩
theorem dX12_readsStretch_20 : nx cX12_readsStretch 20 (.iconst 0) 1 21 := ⟨by decide +kernel, rfl⟩
theorem dX12_readsStretch_21 : nx cX12_readsStretch 21 (.ireturn) 1 22 := ⟨by decide +kernel, rfl⟩
theorem dX12_readsStretch_22 : nx cX12_readsStretch 22 (.aload_n 0) 1 23 := ⟨by decide +kernel, rfl⟩
theorem dX12_readsStretch_23 : nx cX12_readsStretch 23 (.dup) 1 24 := ⟨by decide +kernel, rfl⟩
theorem dX12_readsStretch_24 : nx cX12_readsStretch 24 (.getfield 104) 3 27 := ⟨by decide +kernel, rfl⟩
theorem dX12_readsStretch_27 : nx cX12_readsStretch 27 (.iconst 1) 1 28 := ⟨by decide +kernel, rfl⟩
theorem dX12_readsStretch_28 : nx cX12_readsStretch 28 (.iadd) 1 29 := ⟨by decide +kernel, rfl⟩
theorem dX12_readsStretch_29 : nx cX12_readsStretch 29 (.putfield 104) 3 32 := ⟨by decide +kernel, rfl⟩
theorem dX12_readsStretch_32 : nx cX12_readsStretch 32 (.aload_n 0) 1 33 := ⟨by decide +kernel, rfl⟩
theorem dX12_readsStretch_33 : nx cX12_readsStretch 33 (.iload_n 1) 1 34 := ⟨by decide +kernel, rfl⟩
theorem dX12_readsStretch_34 : nx cX12_readsStretch 34 (.iload_n 2) 1 35 := ⟨by decide +kernel, rfl⟩
theorem dX12_readsStretch_35 : nx cX12_readsStretch 35 (.invokevirtual 107) 3 38 := ⟨by decide +kernel, rfl⟩
theorem dX12_readsStretch_38 : nx cX12_readsStretch 38 (.istore_n 3) 1 39 := ⟨by decide +kernel, rfl⟩
theorem dX12_readsStretch_39 : nx cX12_readsStretch 39 (.iload_n 3) 1 40 := ⟨by decide +kernel, rfl⟩
theorem dX12_readsStretch_40 : nx cX12_readsStretch 40 (.bipush 115) 2 42 := ⟨by decide +kernel, rfl⟩
theorem dX12_readsStretch_42 : bx cX12_readsStretch 42 (.if_icmp .eq 17) 17 59 45 := ⟨by decide +kernel, by decide, rfl⟩
theorem dX12_readsStretch_45 : nx cX12_readsStretch 45 (.iload_n 3) 1 46 := ⟨by decide +kernel, rfl⟩
theorem dX12_readsStretch_46 : nx cX12_readsStretch 46 (.bipush 109) 2 48 := ⟨by decide +kernel, rfl⟩
theorem dX12_readsStretch_48 : bx cX12_readsStretch 48 (.if_icmp .eq 11) 11 59 51 := ⟨by decide +kernel, by decide, rfl⟩
theorem dX12_readsStretch_51 : nx cX12_readsStretch 51 (.iload_n 3) 1 52 := ⟨by decide +kernel, rfl⟩
theorem dX12_readsStretch_52 : nx cX12_readsStretch 52 (.bipush 112) 2 54 := ⟨by decide +kernel, rfl⟩
theorem dX12_readsStretch_54 : bx cX12_readsStretch 54 (.if_icmp .eq 5) 5 59 57 := ⟨by decide +kernel, by decide, rfl⟩
theorem dX12_readsStretch_57 : nx cX12_readsStretch 57 (.iconst 0) 1 58 := ⟨by decide +kernel, rfl⟩
theorem dX12_readsStretch_58 : nx cX12_readsStretch 58 (.ireturn) 1 59 := ⟨by decide +kernel, rfl⟩
theorem dX12_readsStretch_59 : nx cX12_readsStretch 59 (.aload_n 0) 1 60 := ⟨by decide +kernel, rfl⟩
theorem dX12_readsStretch_60 : nx cX12_readsStretch 60 (.dup) 1 61 := ⟨by decide +kernel, rfl⟩
theorem dX12_readsStretch_61 : nx cX12_readsStretch 61 (.getfield 104) 3 64 := ⟨by decide +kernel, rfl⟩
theorem dX12_readsStretch_64 : nx cX12_readsStretch 64 (.iconst 1) 1 65 := ⟨by decide +kernel, rfl⟩
theorem dX12_readsStretch_65 : nx cX12_readsStretch 65 (.iadd) 1 66 := ⟨by decide +kernel, rfl⟩
theorem dX12_readsStretch_66 : nx cX12_readsStretch 66 (.putfield 104) 3 69 := ⟨by decide +kernel, rfl⟩
theorem dX12_readsStretch_69 : nx cX12_readsStretch 69 (.aload_n 0) 1 70 := ⟨by decide +kernel, rfl⟩
theorem dX12_readsStretch_70 : nx cX12_readsStretch 70 (.iload_n 1) 1 71 := ⟨by decide +kernel, rfl⟩
theorem dX12_readsStretch_71 : nx cX12_readsStretch 71 (.iload_n 2) 1 72 := ⟨by decide +kernel, rfl⟩
theorem dX12_readsStretch_72 : nx cX12_readsStretch 72 (.iconst 0) 1 73 := ⟨by decide +kernel, rfl⟩
theorem dX12_readsStretch_73 : nx cX12_readsStretch 73 (.aload_n 0) 1 74 := ⟨by decide +kernel, rfl⟩
theorem dX12_readsStretch_74 : nx cX12_readsStretch 74 (.getfield 114) 3 77 := ⟨by decide +kernel, rfl⟩
theorem dX12_readsStretch_77 : nx cX12_readsStretch 77 (.iconst 1) 1 78 := ⟨by decide +kernel, rfl⟩
theorem dX12_readsStretch_78 : nx cX12_readsStretch 78 (.isub) 1 79 := ⟨by decide +kernel, rfl⟩
theorem dX12_readsStretch_79 : nx cX12_readsStretch 79 (.bipush (-9)) 2 81 := ⟨by decide +kernel, rfl⟩
theorem dX12_readsStretch_81 : nx cX12_readsStretch 81 (.invokevirtual 117) 3 84 := ⟨by decide +kernel, rfl⟩
theorem dX12_readsStretch_84 : nx cX12_readsStretch 84 (.istore 4) 2 86 := ⟨by decide +kernel, rfl⟩
theorem dX12_readsStretch_86 : nx cX12_readsStretch 86 (.iload 4) 2 88 := ⟨by decide +kernel, rfl⟩
theorem dX12_readsStretch_88 : bx cX12_readsStretch 88 (.ifCond .ge 8) 8 96 91 := ⟨by decide +kernel, by decide, rfl⟩
theorem dX12_readsStretch_91 : nx cX12_readsStretch 91 (.bipush (-9)) 2 93 := ⟨by decide +kernel, rfl⟩
theorem dX12_readsStretch_93 : bx cX12_readsStretch 93 (.goto 18) 18 111 96 := ⟨by decide +kernel, by decide, rfl⟩
theorem dX12_readsStretch_96 : nx cX12_readsStretch 96 (.aload_n 0) 1 97 := ⟨by decide +kernel, rfl⟩
theorem dX12_readsStretch_97 : nx cX12_readsStretch 97 (.iload_n 1) 1 98 := ⟨by decide +kernel, rfl⟩
theorem dX12_readsStretch_98 : nx cX12_readsStretch 98 (.iload_n 2) 1 99 := ⟨by decide +kernel, rfl⟩
theorem dX12_readsStretch_99 : nx cX12_readsStretch 99 (.iconst 0) 1 100 := ⟨by decide +kernel, rfl⟩
theorem dX12_readsStretch_100 : nx cX12_readsStretch 100 (.aload_n 0) 1 101 := ⟨by decide +kernel, rfl⟩
theorem dX12_readsStretch_101 : nx cX12_readsStretch 101 (.getfield 114) 3 104 := ⟨by decide +kernel, rfl⟩
theorem dX12_readsStretch_104 : nx cX12_readsStretch 104 (.iconst 1) 1 105 := ⟨by decide +kernel, rfl⟩
theorem dX12_readsStretch_105 : nx cX12_readsStretch 105 (.isub) 1 106 := ⟨by decide +kernel, rfl⟩
theorem dX12_readsStretch_106 : nx cX12_readsStretch 106 (.iload 4) 2 108 := ⟨by decide +kernel, rfl⟩
theorem dX12_readsStretch_108 : nx cX12_readsStretch 108 (.invokevirtual 117) 3 111 := ⟨by decide +kernel, rfl⟩
theorem dX12_readsStretch_111 : nx cX12_readsStretch 111 (.istore 5) 2 113 := ⟨by decide +kernel, rfl⟩
theorem dX12_readsStretch_113 : nx cX12_readsStretch 113 (.iload 5) 2 115 := ⟨by decide +kernel, rfl⟩
theorem dX12_readsStretch_115 : bx cX12_readsStretch 115 (.ifCond .ge 8) 8 123 118 := ⟨by decide +kernel, by decide, rfl⟩
theorem dX12_readsStretch_118 : nx cX12_readsStretch 118 (.bipush (-9)) 2 120 := ⟨by decide +kernel, rfl⟩
theorem dX12_readsStretch_120 : bx cX12_readsStretch 120 (.goto 14) 14 134 123 := ⟨by decide +kernel, by decide, rfl⟩
theorem dX12_readsStretch_123 : nx cX12_readsStretch 123 (.aload_n 0) 1 124 := ⟨by decide +kernel, rfl⟩
theorem dX12_readsStretch_124 : nx cX12_readsStretch 124 (.iload_n 1) 1 125 := ⟨by decide +kernel, rfl⟩
theorem dX12_readsStretch_125 : nx cX12_readsStretch 125 (.iload_n 2) 1 126 := ⟨by decide +kernel, rfl⟩
theorem dX12_readsStretch_126 : nx cX12_readsStretch 126 (.iconst 1) 1 127 := ⟨by decide +kernel, rfl⟩
theorem dX12_readsStretch_127 : nx cX12_readsStretch 127 (.bipush 9) 2 129 := ⟨by decide +kernel, rfl⟩
theorem dX12_readsStretch_129 : nx cX12_readsStretch 129 (.bipush (-9)) 2 131 := ⟨by decide +kernel, rfl⟩
theorem dX12_readsStretch_131 : nx cX12_readsStretch 131 (.invokevirtual 117) 3 134 := ⟨by decide +kernel, rfl⟩
theorem dX12_readsStretch_134 : nx cX12_readsStretch 134 (.istore 6) 2 136 := ⟨by decide +kernel, rfl⟩
theorem dX12_readsStretch_136 : nx cX12_readsStretch 136 (.iload 6) 2 138 := ⟨by decide +kernel, rfl⟩
theorem dX12_readsStretch_138 : bx cX12_readsStretch 138 (.ifCond .ge 8) 8 146 141 := ⟨by decide +kernel, by decide, rfl⟩
theorem dX12_readsStretch_141 : nx cX12_readsStretch 141 (.bipush (-9)) 2 143 := ⟨by decide +kernel, rfl⟩
theorem dX12_readsStretch_143 : bx cX12_readsStretch 143 (.goto 14) 14 157 146 := ⟨by decide +kernel, by decide, rfl⟩
theorem dX12_readsStretch_146 : nx cX12_readsStretch 146 (.aload_n 0) 1 147 := ⟨by decide +kernel, rfl⟩
theorem dX12_readsStretch_147 : nx cX12_readsStretch 147 (.iload_n 1) 1 148 := ⟨by decide +kernel, rfl⟩
theorem dX12_readsStretch_148 : nx cX12_readsStretch 148 (.iload_n 2) 1 149 := ⟨by decide +kernel, rfl⟩
theorem dX12_readsStretch_149 : nx cX12_readsStretch 149 (.iconst 0) 1 150 := ⟨by decide +kernel, rfl⟩
theorem dX12_readsStretch_150 : nx cX12_readsStretch 150 (.bipush 9) 2 152 := ⟨by decide +kernel, rfl⟩
theorem dX12_readsStretch_152 : nx cX12_readsStretch 152 (.bipush (-9)) 2 154 := ⟨by decide +kernel, rfl⟩
theorem dX12_readsStretch_154 : nx cX12_readsStretch 154 (.invokevirtual 117) 3 157 := ⟨by decide +kernel, rfl⟩
theorem dX12_readsStretch_157 : nx cX12_readsStretch 157 (.istore 7) 2 159 := ⟨by decide +kernel, rfl⟩
theorem dX12_readsStretch_159 : nx cX12_readsStretch 159 (.iload 7) 2 161 := ⟨by decide +kernel, rfl⟩
theorem dX12_readsStretch_161 : bx cX12_readsStretch 161 (.ifCond .ge 8) 8 169 164 := ⟨by decide +kernel, by decide, rfl⟩
theorem dX12_readsStretch_164 : nx cX12_readsStretch 164 (.bipush (-9)) 2 166 := ⟨by decide +kernel, rfl⟩
theorem dX12_readsStretch_166 : bx cX12_readsStretch 166 (.goto 14) 14 180 169 := ⟨by decide +kernel, by decide, rfl⟩
theorem dX12_readsStretch_169 : nx cX12_readsStretch 169 (.aload_n 0) 1 170 := ⟨by decide +kernel, rfl⟩
theorem dX12_readsStretch_170 : nx cX12_readsStretch 170 (.iload_n 1) 1 171 := ⟨by decide +kernel, rfl⟩
theorem dX12_readsStretch_171 : nx cX12_readsStretch 171 (.iload_n 2) 1 172 := ⟨by decide +kernel, rfl⟩
theorem dX12_readsStretch_172 : nx cX12_readsStretch 172 (.iconst 0) 1 173 := ⟨by decide +kernel, rfl⟩
theorem dX12_readsStretch_173 : nx cX12_readsStretch 173 (.bipush 9) 2 175 := ⟨by decide +kernel, rfl⟩
theorem dX12_readsStretch_175 : nx cX12_readsStretch 175 (.bipush (-9)) 2 177 := ⟨by decide +kernel, rfl⟩
theorem dX12_readsStretch_177 : nx cX12_readsStretch 177 (.invokevirtual 117) 3 180 := ⟨by decide +kernel, rfl⟩
theorem dX12_readsStretch_180 : nx cX12_readsStretch 180 (.istore 8) 2 182 := ⟨by decide +kernel, rfl⟩
theorem dX12_readsStretch_182 : nx cX12_readsStretch 182 (.iload 8) 2 184 := ⟨by decide +kernel, rfl⟩
theorem dX12_readsStretch_184 : bx cX12_readsStretch 184 (.ifCond .ge 5) 5 189 187 := ⟨by decide +kernel, by decide, rfl⟩
theorem dX12_readsStretch_187 : nx cX12_readsStretch 187 (.iconst 0) 1 188 := ⟨by decide +kernel, rfl⟩
theorem dX12_readsStretch_188 : nx cX12_readsStretch 188 (.ireturn) 1 189 := ⟨by decide +kernel, rfl⟩
theorem dX12_readsStretch_189 : nx cX12_readsStretch 189 (.aload_n 0) 1 190 := ⟨by decide +kernel, rfl⟩
theorem dX12_readsStretch_190 : nx cX12_readsStretch 190 (.getfield 28) 3 193 := ⟨by decide +kernel, rfl⟩
theorem dX12_readsStretch_193 : nx cX12_readsStretch 193 (.aload_n 0) 1 194 := ⟨by decide +kernel, rfl⟩
theorem dX12_readsStretch_194 : nx cX12_readsStretch 194 (.getfield 111) 3 197 := ⟨by decide +kernel, rfl⟩
theorem dX12_readsStretch_197 : nx cX12_readsStretch 197 (.iload_n 3) 1 198 := ⟨by decide +kernel, rfl⟩
theorem dX12_readsStretch_198 : nx cX12_readsStretch 198 (.bipush 115) 2 200 := ⟨by decide +kernel, rfl⟩
theorem dX12_readsStretch_200 : bx cX12_readsStretch 200 (.if_icmp .ne 7) 7 207 203 := ⟨by decide +kernel, by decide, rfl⟩
theorem dX12_readsStretch_203 : nx cX12_readsStretch 203 (.iconst 0) 1 204 := ⟨by decide +kernel, rfl⟩
theorem dX12_readsStretch_204 : bx cX12_readsStretch 204 (.goto 14) 14 218 207 := ⟨by decide +kernel, by decide, rfl⟩
theorem dX12_readsStretch_207 : nx cX12_readsStretch 207 (.iload_n 3) 1 208 := ⟨by decide +kernel, rfl⟩
theorem dX12_readsStretch_208 : nx cX12_readsStretch 208 (.bipush 109) 2 210 := ⟨by decide +kernel, rfl⟩
theorem dX12_readsStretch_210 : bx cX12_readsStretch 210 (.if_icmp .ne 7) 7 217 213 := ⟨by decide +kernel, by decide, rfl⟩
theorem dX12_readsStretch_213 : nx cX12_readsStretch 213 (.iconst 1) 1 214 := ⟨by decide +kernel, rfl⟩
theorem dX12_readsStretch_214 : bx cX12_readsStretch 214 (.goto 4) 4 218 217 := ⟨by decide +kernel, by decide, rfl⟩
theorem dX12_readsStretch_217 : nx cX12_readsStretch 217 (.iconst 2) 1 218 := ⟨by decide +kernel, rfl⟩
theorem dX12_readsStretch_218 : nx cX12_readsStretch 218 (.iastore) 1 219 := ⟨by decide +kernel, rfl⟩
theorem dX12_readsStretch_219 : nx cX12_readsStretch 219 (.aload_n 0) 1 220 := ⟨by decide +kernel, rfl⟩
theorem dX12_readsStretch_220 : nx cX12_readsStretch 220 (.getfield 31) 3 223 := ⟨by decide +kernel, rfl⟩
theorem dX12_readsStretch_223 : nx cX12_readsStretch 223 (.aload_n 0) 1 224 := ⟨by decide +kernel, rfl⟩
theorem dX12_readsStretch_224 : nx cX12_readsStretch 224 (.getfield 111) 3 227 := ⟨by decide +kernel, rfl⟩
theorem dX12_readsStretch_227 : nx cX12_readsStretch 227 (.iload 4) 2 229 := ⟨by decide +kernel, rfl⟩
theorem dX12_readsStretch_229 : nx cX12_readsStretch 229 (.iastore) 1 230 := ⟨by decide +kernel, rfl⟩
theorem dX12_readsStretch_230 : nx cX12_readsStretch 230 (.aload_n 0) 1 231 := ⟨by decide +kernel, rfl⟩
theorem dX12_readsStretch_231 : nx cX12_readsStretch 231 (.getfield 34) 3 234 := ⟨by decide +kernel, rfl⟩
theorem dX12_readsStretch_234 : nx cX12_readsStretch 234 (.aload_n 0) 1 235 := ⟨by decide +kernel, rfl⟩
theorem dX12_readsStretch_235 : nx cX12_readsStretch 235 (.getfield 111) 3 238 := ⟨by decide +kernel, rfl⟩
theorem dX12_readsStretch_238 : nx cX12_readsStretch 238 (.iload 5) 2 240 := ⟨by decide +kernel, rfl⟩
theorem dX12_readsStretch_240 : nx cX12_readsStretch 240 (.iastore) 1 241 := ⟨by decide +kernel, rfl⟩
theorem dX12_readsStretch_241 : nx cX12_readsStretch 241 (.aload_n 0) 1 242 := ⟨by decide +kernel, rfl⟩
theorem dX12_readsStretch_242 : nx cX12_readsStretch 242 (.getfield 37) 3 245 := ⟨by decide +kernel, rfl⟩
theorem dX12_readsStretch_245 : nx cX12_readsStretch 245 (.aload_n 0) 1 246 := ⟨by decide +kernel, rfl⟩
theorem dX12_readsStretch_246 : nx cX12_readsStretch 246 (.getfield 111) 3 249 := ⟨by decide +kernel, rfl⟩
theorem dX12_readsStretch_249 : nx cX12_readsStretch 249 (.iload 6) 2 251 := ⟨by decide +kernel, rfl⟩
theorem dX12_readsStretch_251 : nx cX12_readsStretch 251 (.iastore) 1 252 := ⟨by decide +kernel, rfl⟩
theorem dX12_readsStretch_252 : nx cX12_readsStretch 252 (.aload_n 0) 1 253 := ⟨by decide +kernel, rfl⟩
theorem dX12_readsStretch_253 : nx cX12_readsStretch 253 (.getfield 40) 3 256 := ⟨by decide +kernel, rfl⟩
theorem dX12_readsStretch_256 : nx cX12_readsStretch 256 (.aload_n 0) 1 257 := ⟨by decide +kernel, rfl⟩
theorem dX12_readsStretch_257 : nx cX12_readsStretch 257 (.getfield 111) 3 260 := ⟨by decide +kernel, rfl⟩
theorem dX12_readsStretch_260 : nx cX12_readsStretch 260 (.iload 7) 2 262 := ⟨by decide +kernel, rfl⟩
theorem dX12_readsStretch_262 : nx cX12_readsStretch 262 (.iastore) 1 263 := ⟨by decide +kernel, rfl⟩
theorem dX12_readsStretch_263 : nx cX12_readsStretch 263 (.aload_n 0) 1 264 := ⟨by decide +kernel, rfl⟩
theorem dX12_readsStretch_264 : nx cX12_readsStretch 264 (.getfield 43) 3 267 := ⟨by decide +kernel, rfl⟩
theorem dX12_readsStretch_267 : nx cX12_readsStretch 267 (.aload_n 0) 1 268 := ⟨by decide +kernel, rfl⟩
theorem dX12_readsStretch_268 : nx cX12_readsStretch 268 (.getfield 111) 3 271 := ⟨by decide +kernel, rfl⟩
theorem dX12_readsStretch_271 : nx cX12_readsStretch 271 (.iload 8) 2 273 := ⟨by decide +kernel, rfl⟩
theorem dX12_readsStretch_273 : nx cX12_readsStretch 273 (.iastore) 1 274 := ⟨by decide +kernel, rfl⟩
theorem dX12_readsStretch_274 : nx cX12_readsStretch 274 (.aload_n 0) 1 275 := ⟨by decide +kernel, rfl⟩
theorem dX12_readsStretch_275 : nx cX12_readsStretch 275 (.dup) 1 276 := ⟨by decide +kernel, rfl⟩
theorem dX12_readsStretch_276 : nx cX12_readsStretch 276 (.getfield 111) 3 279 := ⟨by decide +kernel, rfl⟩
theorem dX12_readsStretch_279 : nx cX12_readsStretch 279 (.iconst 1) 1 280 := ⟨by decide +kernel, rfl⟩
theorem dX12_readsStretch_280 : nx cX12_readsStretch 280 (.iadd) 1 281 := ⟨by decide +kernel, rfl⟩
theorem dX12_readsStretch_281 : nx cX12_readsStretch 281 (.putfield 111) 3 284 := ⟨by decide +kernel, rfl⟩
theorem dX12_readsStretch_284 : nx cX12_readsStretch 284 (.iconst 1) 1 285 := ⟨by decide +kernel, rfl⟩
theorem dX12_readsStretch_285 : nx cX12_readsStretch 285 (.ireturn) 1 286 := ⟨by decide +kernel, rfl⟩
theorem dX12_readsNet_0 : nx cX12_readsNet 0 (.aload_n 0) 1 1 := ⟨by decide +kernel, rfl⟩
theorem dX12_readsNet_1 : nx cX12_readsNet 1 (.iconst 0) 1 2 := ⟨by decide +kernel, rfl⟩
theorem dX12_readsNet_2 : nx cX12_readsNet 2 (.putfield 104) 3 5 := ⟨by decide +kernel, rfl⟩
theorem dX12_readsNet_5 : nx cX12_readsNet 5 (.aload_n 0) 1 6 := ⟨by decide +kernel, rfl⟩
theorem dX12_readsNet_6 : nx cX12_readsNet 6 (.iconst 0) 1 7 := ⟨by decide +kernel, rfl⟩
theorem dX12_readsNet_7 : nx cX12_readsNet 7 (.putfield 111) 3 10 := ⟨by decide +kernel, rfl⟩
theorem dX12_readsNet_10 : nx cX12_readsNet 10 (.aload_n 0) 1 11 := ⟨by decide +kernel, rfl⟩
theorem dX12_readsNet_11 : nx cX12_readsNet 11 (.iload_n 1) 1 12 := ⟨by decide +kernel, rfl⟩
theorem dX12_readsNet_12 : nx cX12_readsNet 12 (.iload_n 2) 1 13 := ⟨by decide +kernel, rfl⟩
theorem dX12_readsNet_13 : nx cX12_readsNet 13 (.invokevirtual 107) 3 16 := ⟨by decide +kernel, rfl⟩
theorem dX12_readsNet_16 : nx cX12_readsNet 16 (.bipush 110) 2 18 := ⟨by decide +kernel, rfl⟩
theorem dX12_readsNet_18 : bx cX12_readsNet 18 (.if_icmp .ne 7) 7 25 21 := ⟨by decide +kernel, by decide, rfl⟩
theorem dX12_readsNet_21 : nx cX12_readsNet 21 (.iconst 1) 1 22 := ⟨by decide +kernel, rfl⟩
theorem dX12_readsNet_22 : bx cX12_readsNet 22 (.goto 4) 4 26 25 := ⟨by decide +kernel, by decide, rfl⟩
theorem dX12_readsNet_25 : nx cX12_readsNet 25 (.iconst 0) 1 26 := ⟨by decide +kernel, rfl⟩
theorem dX12_readsNet_26 : nx cX12_readsNet 26 (.istore_n 3) 1 27 := ⟨by decide +kernel, rfl⟩
theorem dX12_readsNet_27 : nx cX12_readsNet 27 (.aload_n 0) 1 28 := ⟨by decide +kernel, rfl⟩
theorem dX12_readsNet_28 : nx cX12_readsNet 28 (.dup) 1 29 := ⟨by decide +kernel, rfl⟩
theorem dX12_readsNet_29 : nx cX12_readsNet 29 (.getfield 104) 3 32 := ⟨by decide +kernel, rfl⟩
theorem dX12_readsNet_32 : nx cX12_readsNet 32 (.iload_n 3) 1 33 := ⟨by decide +kernel, rfl⟩
theorem dX12_readsNet_33 : bx cX12_readsNet 33 (.ifCond .eq 7) 7 40 36 := ⟨by decide +kernel, by decide, rfl⟩
theorem dX12_readsNet_36 : nx cX12_readsNet 36 (.iconst 1) 1 37 := ⟨by decide +kernel, rfl⟩
theorem dX12_readsNet_37 : bx cX12_readsNet 37 (.goto 4) 4 41 40 := ⟨by decide +kernel, by decide, rfl⟩
theorem dX12_readsNet_40 : nx cX12_readsNet 40 (.iconst 0) 1 41 := ⟨by decide +kernel, rfl⟩
theorem dX12_readsNet_41 : nx cX12_readsNet 41 (.iadd) 1 42 := ⟨by decide +kernel, rfl⟩
theorem dX12_readsNet_42 : nx cX12_readsNet 42 (.putfield 104) 3 45 := ⟨by decide +kernel, rfl⟩
theorem dX12_readsNet_45 : nx cX12_readsNet 45 (.aload_n 0) 1 46 := ⟨by decide +kernel, rfl⟩
theorem dX12_readsNet_46 : nx cX12_readsNet 46 (.iload_n 3) 1 47 := ⟨by decide +kernel, rfl⟩
theorem dX12_readsNet_47 : bx cX12_readsNet 47 (.ifCond .eq 17) 17 64 50 := ⟨by decide +kernel, by decide, rfl⟩
theorem dX12_readsNet_50 : nx cX12_readsNet 50 (.aload_n 0) 1 51 := ⟨by decide +kernel, rfl⟩
theorem dX12_readsNet_51 : nx cX12_readsNet 51 (.iload_n 1) 1 52 := ⟨by decide +kernel, rfl⟩
theorem dX12_readsNet_52 : nx cX12_readsNet 52 (.iload_n 2) 1 53 := ⟨by decide +kernel, rfl⟩
theorem dX12_readsNet_53 : nx cX12_readsNet 53 (.iconst 2) 1 54 := ⟨by decide +kernel, rfl⟩
theorem dX12_readsNet_54 : nx cX12_readsNet 54 (.bipush 7) 2 56 := ⟨by decide +kernel, rfl⟩
theorem dX12_readsNet_56 : nx cX12_readsNet 56 (.bipush (-9)) 2 58 := ⟨by decide +kernel, rfl⟩
theorem dX12_readsNet_58 : nx cX12_readsNet 58 (.invokevirtual 117) 3 61 := ⟨by decide +kernel, rfl⟩
theorem dX12_readsNet_61 : bx cX12_readsNet 61 (.goto 5) 5 66 64 := ⟨by decide +kernel, by decide, rfl⟩
theorem dX12_readsNet_64 : nx cX12_readsNet 64 (.bipush (-9)) 2 66 := ⟨by decide +kernel, rfl⟩
theorem dX12_readsNet_66 : nx cX12_readsNet 66 (.putfield 114) 3 69 := ⟨by decide +kernel, rfl⟩
theorem dX12_readsNet_69 : nx cX12_readsNet 69 (.aload_n 0) 1 70 := ⟨by decide +kernel, rfl⟩
theorem dX12_readsNet_70 : nx cX12_readsNet 70 (.getfield 114) 3 73 := ⟨by decide +kernel, rfl⟩
theorem dX12_readsNet_73 : bx cX12_readsNet 73 (.ifCond .le 7) 7 80 76 := ⟨by decide +kernel, by decide, rfl⟩
theorem dX12_readsNet_76 : nx cX12_readsNet 76 (.iconst 1) 1 77 := ⟨by decide +kernel, rfl⟩
theorem dX12_readsNet_77 : bx cX12_readsNet 77 (.goto 4) 4 81 80 := ⟨by decide +kernel, by decide, rfl⟩
theorem dX12_readsNet_80 : nx cX12_readsNet 80 (.iconst 0) 1 81 := ⟨by decide +kernel, rfl⟩
theorem dX12_readsNet_81 : nx cX12_readsNet 81 (.istore_n 3) 1 82 := ⟨by decide +kernel, rfl⟩
theorem dX12_readsNet_82 : nx cX12_readsNet 82 (.iload_n 3) 1 83 := ⟨by decide +kernel, rfl⟩
theorem dX12_readsNet_83 : bx cX12_readsNet 83 (.ifCond .eq 28) 28 111 86 := ⟨by decide +kernel, by decide, rfl⟩
theorem dX12_readsNet_86 : nx cX12_readsNet 86 (.aload_n 0) 1 87 := ⟨by decide +kernel, rfl⟩
theorem dX12_readsNet_87 : nx cX12_readsNet 87 (.getfield 111) 3 90 := ⟨by decide +kernel, rfl⟩
theorem dX12_readsNet_90 : bx cX12_readsNet 90 (.ifCond .eq 11) 11 101 93 := ⟨by decide +kernel, by decide, rfl⟩
theorem dX12_readsNet_93 : nx cX12_readsNet 93 (.aload_n 0) 1 94 := ⟨by decide +kernel, rfl⟩
theorem dX12_readsNet_94 : nx cX12_readsNet 94 (.getfield 104) 3 97 := ⟨by decide +kernel, rfl⟩
theorem dX12_readsNet_97 : nx cX12_readsNet 97 (.iload_n 2) 1 98 := ⟨by decide +kernel, rfl⟩
theorem dX12_readsNet_98 : bx cX12_readsNet 98 (.if_icmp .ge 13) 13 111 101 := ⟨by decide +kernel, by decide, rfl⟩
theorem dX12_readsNet_101 : nx cX12_readsNet 101 (.aload_n 0) 1 102 := ⟨by decide +kernel, rfl⟩
theorem dX12_readsNet_102 : nx cX12_readsNet 102 (.iload_n 1) 1 103 := ⟨by decide +kernel, rfl⟩
theorem dX12_readsNet_103 : nx cX12_readsNet 103 (.iload_n 2) 1 104 := ⟨by decide +kernel, rfl⟩
theorem dX12_readsNet_104 : nx cX12_readsNet 104 (.invokevirtual 121) 3 107 := ⟨by decide +kernel, rfl⟩
theorem dX12_readsNet_107 : nx cX12_readsNet 107 (.istore_n 3) 1 108 := ⟨by decide +kernel, rfl⟩
theorem dX12_readsNet_108 : bx cX12_readsNet 108 (.goto (-26)) (-26) 82 111 := ⟨by decide +kernel, by decide, rfl⟩
theorem dX12_readsNet_111 : nx cX12_readsNet 111 (.iload_n 3) 1 112 := ⟨by decide +kernel, rfl⟩
theorem dX12_readsNet_112 : nx cX12_readsNet 112 (.ireturn) 1 113 := ⟨by decide +kernel, rfl⟩
theorem dX12_cellsBarred_0 : nx cX12_cellsBarred 0 (.aload_n 0) 1 1 := ⟨by decide +kernel, rfl⟩
theorem dX12_cellsBarred_1 : nx cX12_cellsBarred 1 (.getfield 72) 3 4 := ⟨by decide +kernel, rfl⟩
theorem dX12_cellsBarred_4 : nx cX12_cellsBarred 4 (.iload_n 1) 1 5 := ⟨by decide +kernel, rfl⟩
theorem dX12_cellsBarred_5 : nx cX12_cellsBarred 5 (.iaload) 1 6 := ⟨by decide +kernel, rfl⟩
theorem dX12_cellsBarred_6 : bx cX12_cellsBarred 6 (.ifCond .lt 19) 19 25 9 := ⟨by decide +kernel, by decide, rfl⟩
theorem dX12_cellsBarred_9 : nx cX12_cellsBarred 9 (.aload_n 0) 1 10 := ⟨by decide +kernel, rfl⟩
theorem dX12_cellsBarred_10 : nx cX12_cellsBarred 10 (.getfield 75) 3 13 := ⟨by decide +kernel, rfl⟩
theorem dX12_cellsBarred_13 : nx cX12_cellsBarred 13 (.iload_n 1) 1 14 := ⟨by decide +kernel, rfl⟩
theorem dX12_cellsBarred_14 : nx cX12_cellsBarred 14 (.iaload) 1 15 := ⟨by decide +kernel, rfl⟩
theorem dX12_cellsBarred_15 : nx cX12_cellsBarred 15 (.iload_n 2) 1 16 := ⟨by decide +kernel, rfl⟩
theorem dX12_cellsBarred_16 : bx cX12_cellsBarred 16 (.if_icmp .eq 9) 9 25 19 := ⟨by decide +kernel, by decide, rfl⟩
theorem dX12_cellsBarred_19 : nx cX12_cellsBarred 19 (.aload_n 0) 1 20 := ⟨by decide +kernel, rfl⟩
theorem dX12_cellsBarred_20 : nx cX12_cellsBarred 20 (.iconst 2) 1 21 := ⟨by decide +kernel, rfl⟩
theorem dX12_cellsBarred_21 : nx cX12_cellsBarred 21 (.invokevirtual 125) 3 24 := ⟨by decide +kernel, rfl⟩
theorem dX12_cellsBarred_24 : nx cX12_cellsBarred 24 (.ireturn) 1 25 := ⟨by decide +kernel, rfl⟩
theorem dX12_cellsBarred_25 : nx cX12_cellsBarred 25 (.aload_n 0) 1 26 := ⟨by decide +kernel, rfl⟩
theorem dX12_cellsBarred_26 : nx cX12_cellsBarred 26 (.getfield 72) 3 29 := ⟨by decide +kernel, rfl⟩
theorem dX12_cellsBarred_29 : nx cX12_cellsBarred 29 (.iload_n 1) 1 30 := ⟨by decide +kernel, rfl⟩
theorem dX12_cellsBarred_30 : nx cX12_cellsBarred 30 (.iaload) 1 31 := ⟨by decide +kernel, rfl⟩
theorem dX12_cellsBarred_31 : bx cX12_cellsBarred 31 (.ifCond .ge 9) 9 40 34 := ⟨by decide +kernel, by decide, rfl⟩
theorem dX12_cellsBarred_34 : nx cX12_cellsBarred 34 (.aload_n 0) 1 35 := ⟨by decide +kernel, rfl⟩
theorem dX12_cellsBarred_35 : nx cX12_cellsBarred 35 (.iconst 1) 1 36 := ⟨by decide +kernel, rfl⟩
theorem dX12_cellsBarred_36 : nx cX12_cellsBarred 36 (.invokevirtual 125) 3 39 := ⟨by decide +kernel, rfl⟩
theorem dX12_cellsBarred_39 : nx cX12_cellsBarred 39 (.ireturn) 1 40 := ⟨by decide +kernel, rfl⟩
theorem dX12_cellsBarred_40 : nx cX12_cellsBarred 40 (.lload 4) 2 42 := ⟨by decide +kernel, rfl⟩
theorem dX12_cellsBarred_42 : nx cX12_cellsBarred 42 (.lconst 0) 1 43 := ⟨by decide +kernel, rfl⟩
theorem dX12_cellsBarred_43 : nx cX12_cellsBarred 43 (.lcmp) 1 44 := ⟨by decide +kernel, rfl⟩
theorem dX12_cellsBarred_44 : bx cX12_cellsBarred 44 (.ifCond .ge 9) 9 53 47 := ⟨by decide +kernel, by decide, rfl⟩
theorem dX12_cellsBarred_47 : nx cX12_cellsBarred 47 (.aload_n 0) 1 48 := ⟨by decide +kernel, rfl⟩
theorem dX12_cellsBarred_48 : nx cX12_cellsBarred 48 (.iconst 4) 1 49 := ⟨by decide +kernel, rfl⟩
theorem dX12_cellsBarred_49 : nx cX12_cellsBarred 49 (.invokevirtual 125) 3 52 := ⟨by decide +kernel, rfl⟩
theorem dX12_cellsBarred_52 : nx cX12_cellsBarred 52 (.ireturn) 1 53 := ⟨by decide +kernel, rfl⟩
theorem dX12_cellsBarred_53 : nx cX12_cellsBarred 53 (.iload_n 3) 1 54 := ⟨by decide +kernel, rfl⟩
theorem dX12_cellsBarred_54 : nx cX12_cellsBarred 54 (.lload 4) 2 56 := ⟨by decide +kernel, rfl⟩
theorem dX12_cellsBarred_56 : nx cX12_cellsBarred 56 (.aload_n 0) 1 57 := ⟨by decide +kernel, rfl⟩
theorem dX12_cellsBarred_57 : nx cX12_cellsBarred 57 (.getfield 72) 3 60 := ⟨by decide +kernel, rfl⟩
theorem dX12_cellsBarred_60 : nx cX12_cellsBarred 60 (.iload_n 1) 1 61 := ⟨by decide +kernel, rfl⟩
theorem dX12_cellsBarred_61 : nx cX12_cellsBarred 61 (.iaload) 1 62 := ⟨by decide +kernel, rfl⟩
theorem dX12_cellsBarred_62 : nx cX12_cellsBarred 62 (.invokestatic 129) 3 65 := ⟨by decide +kernel, rfl⟩
theorem dX12_cellsBarred_65 : bx cX12_cellsBarred 65 (.ifCond .eq 11) 11 76 68 := ⟨by decide +kernel, by decide, rfl⟩
theorem dX12_cellsBarred_68 : nx cX12_cellsBarred 68 (.aload_n 0) 1 69 := ⟨by decide +kernel, rfl⟩
theorem dX12_cellsBarred_69 : nx cX12_cellsBarred 69 (.iconst 3) 1 70 := ⟨by decide +kernel, rfl⟩
theorem dX12_cellsBarred_70 : nx cX12_cellsBarred 70 (.invokevirtual 125) 3 73 := ⟨by decide +kernel, rfl⟩
theorem dX12_cellsBarred_73 : bx cX12_cellsBarred 73 (.goto 4) 4 77 76 := ⟨by decide +kernel, by decide, rfl⟩
theorem dX12_cellsBarred_76 : nx cX12_cellsBarred 76 (.iconst 0) 1 77 := ⟨by decide +kernel, rfl⟩
theorem dX12_cellsBarred_77 : nx cX12_cellsBarred 77 (.ireturn) 1 78 := ⟨by decide +kernel, rfl⟩
theorem dX12_net_0 : nx cX12_net 0 (.iload_n 1) 1 1 := ⟨by decide +kernel, rfl⟩
theorem dX12_net_1 : nx cX12_net 1 (.invokestatic 133) 3 4 := ⟨by decide +kernel, rfl⟩
theorem dX12_net_4 : bx cX12_net 4 (.ifCond .eq 9) 9 13 7 := ⟨by decide +kernel, by decide, rfl⟩
theorem dX12_net_7 : nx cX12_net 7 (.aload_n 0) 1 8 := ⟨by decide +kernel, rfl⟩
theorem dX12_net_8 : nx cX12_net 8 (.iconst (-1)) 1 9 := ⟨by decide +kernel, rfl⟩
theorem dX12_net_9 : nx cX12_net 9 (.invokevirtual 137) 3 12 := ⟨by decide +kernel, rfl⟩
theorem dX12_net_12 : nx cX12_net 12 (.ireturn) 1 13 := ⟨by decide +kernel, rfl⟩
theorem dX12_net_13 : nx cX12_net 13 (.iload_n 2) 1 14 := ⟨by decide +kernel, rfl⟩
theorem dX12_net_14 : nx cX12_net 14 (.i2l) 1 15 := ⟨by decide +kernel, rfl⟩
theorem dX12_net_15 : nx cX12_net 15 (.lconst 0) 1 16 := ⟨by decide +kernel, rfl⟩
theorem dX12_net_16 : nx cX12_net 16 (.ldc2_w 140) 3 19 := ⟨by decide +kernel, rfl⟩
theorem dX12_net_19 : nx cX12_net 19 (.invokestatic 97) 3 22 := ⟨by decide +kernel, rfl⟩
theorem dX12_net_22 : bx cX12_net 22 (.ifCond .ne 10) 10 32 25 := ⟨by decide +kernel, by decide, rfl⟩
theorem dX12_net_25 : nx cX12_net 25 (.aload_n 0) 1 26 := ⟨by decide +kernel, rfl⟩
theorem dX12_net_26 : nx cX12_net 26 (.bipush (-2)) 2 28 := ⟨by decide +kernel, rfl⟩
theorem dX12_net_28 : nx cX12_net 28 (.invokevirtual 137) 3 31 := ⟨by decide +kernel, rfl⟩
theorem dX12_net_31 : nx cX12_net 31 (.ireturn) 1 32 := ⟨by decide +kernel, rfl⟩
theorem dX12_net_32 : nx cX12_net 32 (.aload_n 0) 1 33 := ⟨by decide +kernel, rfl⟩
theorem dX12_net_33 : nx cX12_net 33 (.iload_n 1) 1 34 := ⟨by decide +kernel, rfl⟩
theorem dX12_net_34 : nx cX12_net 34 (.iload_n 2) 1 35 := ⟨by decide +kernel, rfl⟩
theorem dX12_net_35 : nx cX12_net 35 (.iload_n 3) 1 36 := ⟨by decide +kernel, rfl⟩
theorem dX12_net_36 : nx cX12_net 36 (.iload 4) 2 38 := ⟨by decide +kernel, rfl⟩
theorem dX12_net_38 : nx cX12_net 38 (.i2l) 1 39 := ⟨by decide +kernel, rfl⟩
theorem dX12_net_39 : nx cX12_net 39 (.invokevirtual 142) 3 42 := ⟨by decide +kernel, rfl⟩
theorem dX12_net_42 : nx cX12_net 42 (.istore 5) 2 44 := ⟨by decide +kernel, rfl⟩
theorem dX12_net_44 : nx cX12_net 44 (.iload 5) 2 46 := ⟨by decide +kernel, rfl⟩
theorem dX12_net_46 : bx cX12_net 46 (.ifCond .ge 6) 6 52 49 := ⟨by decide +kernel, by decide, rfl⟩
theorem dX12_net_49 : nx cX12_net 49 (.iload 5) 2 51 := ⟨by decide +kernel, rfl⟩
theorem dX12_net_51 : nx cX12_net 51 (.ireturn) 1 52 := ⟨by decide +kernel, rfl⟩
theorem dX12_net_52 : nx cX12_net 52 (.aload_n 0) 1 53 := ⟨by decide +kernel, rfl⟩
theorem dX12_net_53 : nx cX12_net 53 (.bipush 60) 2 55 := ⟨by decide +kernel, rfl⟩
theorem dX12_net_55 : nx cX12_net 55 (.iload_n 1) 1 56 := ⟨by decide +kernel, rfl⟩
theorem dX12_net_56 : nx cX12_net 56 (.imul) 1 57 := ⟨by decide +kernel, rfl⟩
theorem dX12_net_57 : nx cX12_net 57 (.iload_n 3) 1 58 := ⟨by decide +kernel, rfl⟩
theorem dX12_net_58 : nx cX12_net 58 (.iadd) 1 59 := ⟨by decide +kernel, rfl⟩
theorem dX12_net_59 : nx cX12_net 59 (.iload 4) 2 61 := ⟨by decide +kernel, rfl⟩
theorem dX12_net_61 : nx cX12_net 61 (.invokevirtual 146) 3 64 := ⟨by decide +kernel, rfl⟩
theorem dX12_net_64 : bx cX12_net 64 (.ifCond .ne 15) 15 79 67 := ⟨by decide +kernel, by decide, rfl⟩
theorem dX12_net_67 : nx cX12_net 67 (.aload_n 0) 1 68 := ⟨by decide +kernel, rfl⟩
theorem dX12_net_68 : nx cX12_net 68 (.bipush (-100)) 2 70 := ⟨by decide +kernel, rfl⟩
theorem dX12_net_70 : nx cX12_net 70 (.aload_n 0) 1 71 := ⟨by decide +kernel, rfl⟩
theorem dX12_net_71 : nx cX12_net 71 (.getfield 104) 3 74 := ⟨by decide +kernel, rfl⟩
theorem dX12_net_74 : nx cX12_net 74 (.isub) 1 75 := ⟨by decide +kernel, rfl⟩
theorem dX12_net_75 : nx cX12_net 75 (.invokevirtual 137) 3 78 := ⟨by decide +kernel, rfl⟩
theorem dX12_net_78 : nx cX12_net 78 (.ireturn) 1 79 := ⟨by decide +kernel, rfl⟩
theorem dX12_net_79 : nx cX12_net 79 (.aload_n 0) 1 80 := ⟨by decide +kernel, rfl⟩
theorem dX12_net_80 : nx cX12_net 80 (.aload_n 0) 1 81 := ⟨by decide +kernel, rfl⟩
theorem dX12_net_81 : nx cX12_net 81 (.getfield 114) 3 84 := ⟨by decide +kernel, rfl⟩
theorem dX12_net_84 : nx cX12_net 84 (.putfield 94) 3 87 := ⟨by decide +kernel, rfl⟩
theorem dX12_net_87 : nx cX12_net 87 (.aload_n 0) 1 88 := ⟨by decide +kernel, rfl⟩
theorem dX12_net_88 : nx cX12_net 88 (.aload_n 0) 1 89 := ⟨by decide +kernel, rfl⟩
theorem dX12_net_89 : nx cX12_net 89 (.getfield 111) 3 92 := ⟨by decide +kernel, rfl⟩
theorem dX12_net_92 : nx cX12_net 92 (.putfield 101) 3 95 := ⟨by decide +kernel, rfl⟩
theorem dX12_net_95 : nx cX12_net 95 (.iconst 0) 1 96 := ⟨by decide +kernel, rfl⟩
theorem dX12_net_96 : nx cX12_net 96 (.istore 6) 2 98 := ⟨by decide +kernel, rfl⟩
theorem dX12_net_98 : nx cX12_net 98 (.iload 6) 2 100 := ⟨by decide +kernel, rfl⟩
theorem dX12_net_100 : nx cX12_net 100 (.aload_n 0) 1 101 := ⟨by decide +kernel, rfl⟩
theorem dX12_net_101 : nx cX12_net 101 (.getfield 101) 3 104 := ⟨by decide +kernel, rfl⟩
theorem dX12_net_104 : bx cX12_net 104 (.if_icmp .ge 93) 93 197 107 := ⟨by decide +kernel, by decide, rfl⟩
theorem dX12_net_107 : nx cX12_net 107 (.aload_n 0) 1 108 := ⟨by decide +kernel, rfl⟩
theorem dX12_net_108 : nx cX12_net 108 (.getfield 7) 3 111 := ⟨by decide +kernel, rfl⟩
theorem dX12_net_111 : nx cX12_net 111 (.iload 6) 2 113 := ⟨by decide +kernel, rfl⟩
theorem dX12_net_113 : nx cX12_net 113 (.aload_n 0) 1 114 := ⟨by decide +kernel, rfl⟩
theorem dX12_net_114 : nx cX12_net 114 (.getfield 28) 3 117 := ⟨by decide +kernel, rfl⟩
theorem dX12_net_117 : nx cX12_net 117 (.iload 6) 2 119 := ⟨by decide +kernel, rfl⟩
theorem dX12_net_119 : nx cX12_net 119 (.iaload) 1 120 := ⟨by decide +kernel, rfl⟩
theorem dX12_net_120 : nx cX12_net 120 (.iastore) 1 121 := ⟨by decide +kernel, rfl⟩
theorem dX12_net_121 : nx cX12_net 121 (.aload_n 0) 1 122 := ⟨by decide +kernel, rfl⟩
theorem dX12_net_122 : nx cX12_net 122 (.getfield 13) 3 125 := ⟨by decide +kernel, rfl⟩
theorem dX12_net_125 : nx cX12_net 125 (.iload 6) 2 127 := ⟨by decide +kernel, rfl⟩
theorem dX12_net_127 : nx cX12_net 127 (.aload_n 0) 1 128 := ⟨by decide +kernel, rfl⟩
theorem dX12_net_128 : nx cX12_net 128 (.getfield 31) 3 131 := ⟨by decide +kernel, rfl⟩
theorem dX12_net_131 : nx cX12_net 131 (.iload 6) 2 133 := ⟨by decide +kernel, rfl⟩
theorem dX12_net_133 : nx cX12_net 133 (.iaload) 1 134 := ⟨by decide +kernel, rfl⟩
theorem dX12_net_134 : nx cX12_net 134 (.iastore) 1 135 := ⟨by decide +kernel, rfl⟩
theorem dX12_net_135 : nx cX12_net 135 (.aload_n 0) 1 136 := ⟨by decide +kernel, rfl⟩
theorem dX12_net_136 : nx cX12_net 136 (.getfield 16) 3 139 := ⟨by decide +kernel, rfl⟩
theorem dX12_net_139 : nx cX12_net 139 (.iload 6) 2 141 := ⟨by decide +kernel, rfl⟩
theorem dX12_net_141 : nx cX12_net 141 (.aload_n 0) 1 142 := ⟨by decide +kernel, rfl⟩
theorem dX12_net_142 : nx cX12_net 142 (.getfield 34) 3 145 := ⟨by decide +kernel, rfl⟩
theorem dX12_net_145 : nx cX12_net 145 (.iload 6) 2 147 := ⟨by decide +kernel, rfl⟩
theorem dX12_net_147 : nx cX12_net 147 (.iaload) 1 148 := ⟨by decide +kernel, rfl⟩
theorem dX12_net_148 : nx cX12_net 148 (.iastore) 1 149 := ⟨by decide +kernel, rfl⟩
theorem dX12_net_149 : nx cX12_net 149 (.aload_n 0) 1 150 := ⟨by decide +kernel, rfl⟩
theorem dX12_net_150 : nx cX12_net 150 (.getfield 19) 3 153 := ⟨by decide +kernel, rfl⟩
theorem dX12_net_153 : nx cX12_net 153 (.iload 6) 2 155 := ⟨by decide +kernel, rfl⟩
theorem dX12_net_155 : nx cX12_net 155 (.aload_n 0) 1 156 := ⟨by decide +kernel, rfl⟩
theorem dX12_net_156 : nx cX12_net 156 (.getfield 37) 3 159 := ⟨by decide +kernel, rfl⟩
theorem dX12_net_159 : nx cX12_net 159 (.iload 6) 2 161 := ⟨by decide +kernel, rfl⟩
theorem dX12_net_161 : nx cX12_net 161 (.iaload) 1 162 := ⟨by decide +kernel, rfl⟩
theorem dX12_net_162 : nx cX12_net 162 (.iastore) 1 163 := ⟨by decide +kernel, rfl⟩
theorem dX12_net_163 : nx cX12_net 163 (.aload_n 0) 1 164 := ⟨by decide +kernel, rfl⟩
theorem dX12_net_164 : nx cX12_net 164 (.getfield 22) 3 167 := ⟨by decide +kernel, rfl⟩
theorem dX12_net_167 : nx cX12_net 167 (.iload 6) 2 169 := ⟨by decide +kernel, rfl⟩
theorem dX12_net_169 : nx cX12_net 169 (.aload_n 0) 1 170 := ⟨by decide +kernel, rfl⟩
theorem dX12_net_170 : nx cX12_net 170 (.getfield 40) 3 173 := ⟨by decide +kernel, rfl⟩
theorem dX12_net_173 : nx cX12_net 173 (.iload 6) 2 175 := ⟨by decide +kernel, rfl⟩
theorem dX12_net_175 : nx cX12_net 175 (.iaload) 1 176 := ⟨by decide +kernel, rfl⟩
theorem dX12_net_176 : nx cX12_net 176 (.iastore) 1 177 := ⟨by decide +kernel, rfl⟩
theorem dX12_net_177 : nx cX12_net 177 (.aload_n 0) 1 178 := ⟨by decide +kernel, rfl⟩
theorem dX12_net_178 : nx cX12_net 178 (.getfield 25) 3 181 := ⟨by decide +kernel, rfl⟩
theorem dX12_net_181 : nx cX12_net 181 (.iload 6) 2 183 := ⟨by decide +kernel, rfl⟩
theorem dX12_net_183 : nx cX12_net 183 (.aload_n 0) 1 184 := ⟨by decide +kernel, rfl⟩
theorem dX12_net_184 : nx cX12_net 184 (.getfield 43) 3 187 := ⟨by decide +kernel, rfl⟩
theorem dX12_net_187 : nx cX12_net 187 (.iload 6) 2 189 := ⟨by decide +kernel, rfl⟩
theorem dX12_net_189 : nx cX12_net 189 (.iaload) 1 190 := ⟨by decide +kernel, rfl⟩
theorem dX12_net_190 : nx cX12_net 190 (.iastore) 1 191 := ⟨by decide +kernel, rfl⟩
theorem dX12_net_191 : nx cX12_net 191 (.iinc 6 1) 3 194 := ⟨by decide +kernel, rfl⟩
theorem dX12_net_194 : bx cX12_net 194 (.goto (-96)) (-96) 98 197 := ⟨by decide +kernel, by decide, rfl⟩
theorem dX12_net_197 : nx cX12_net 197 (.aload_n 0) 1 198 := ⟨by decide +kernel, rfl⟩
theorem dX12_net_198 : nx cX12_net 198 (.bipush 45) 2 200 := ⟨by decide +kernel, rfl⟩
theorem dX12_net_200 : nx cX12_net 200 (.putfield 149) 3 203 := ⟨by decide +kernel, rfl⟩
theorem dX12_net_203 : nx cX12_net 203 (.aload_n 0) 1 204 := ⟨by decide +kernel, rfl⟩
theorem dX12_net_204 : nx cX12_net 204 (.iconst 0) 1 205 := ⟨by decide +kernel, rfl⟩
theorem dX12_net_205 : nx cX12_net 205 (.putfield 152) 3 208 := ⟨by decide +kernel, rfl⟩
theorem dX12_net_208 : nx cX12_net 208 (.aload_n 0) 1 209 := ⟨by decide +kernel, rfl⟩
theorem dX12_net_209 : nx cX12_net 209 (.bipush (-9)) 2 211 := ⟨by decide +kernel, rfl⟩
theorem dX12_net_211 : nx cX12_net 211 (.putfield 155) 3 214 := ⟨by decide +kernel, rfl⟩
theorem dX12_net_214 : nx cX12_net 214 (.aload_n 0) 1 215 := ⟨by decide +kernel, rfl⟩
theorem dX12_net_215 : nx cX12_net 215 (.iconst 0) 1 216 := ⟨by decide +kernel, rfl⟩
theorem dX12_net_216 : nx cX12_net 216 (.putfield 158) 3 219 := ⟨by decide +kernel, rfl⟩
theorem dX12_net_219 : nx cX12_net 219 (.aload_n 0) 1 220 := ⟨by decide +kernel, rfl⟩
theorem dX12_net_220 : nx cX12_net 220 (.iconst 0) 1 221 := ⟨by decide +kernel, rfl⟩
theorem dX12_net_221 : nx cX12_net 221 (.putfield 161) 3 224 := ⟨by decide +kernel, rfl⟩
theorem dX12_net_224 : nx cX12_net 224 (.aload_n 0) 1 225 := ⟨by decide +kernel, rfl⟩
theorem dX12_net_225 : nx cX12_net 225 (.aload_n 0) 1 226 := ⟨by decide +kernel, rfl⟩
theorem dX12_net_226 : nx cX12_net 226 (.getfield 101) 3 229 := ⟨by decide +kernel, rfl⟩
theorem dX12_net_229 : nx cX12_net 229 (.invokevirtual 137) 3 232 := ⟨by decide +kernel, rfl⟩
theorem dX12_net_232 : nx cX12_net 232 (.ireturn) 1 233 := ⟨by decide +kernel, rfl⟩
theorem dX12_isShared_0 : nx cX12_isShared 0 (.aload_n 0) 1 1 := ⟨by decide +kernel, rfl⟩
theorem dX12_isShared_1 : nx cX12_isShared 1 (.getfield 13) 3 4 := ⟨by decide +kernel, rfl⟩
theorem dX12_isShared_4 : nx cX12_isShared 4 (.iload_n 1) 1 5 := ⟨by decide +kernel, rfl⟩
theorem dX12_isShared_5 : nx cX12_isShared 5 (.iaload) 1 6 := ⟨by decide +kernel, rfl⟩
theorem dX12_isShared_6 : nx cX12_isShared 6 (.aload_n 0) 1 7 := ⟨by decide +kernel, rfl⟩
theorem dX12_isShared_7 : nx cX12_isShared 7 (.getfield 155) 3 10 := ⟨by decide +kernel, rfl⟩
theorem dX12_isShared_10 : bx cX12_isShared 10 (.if_icmp .gt 20) 20 30 13 := ⟨by decide +kernel, by decide, rfl⟩
theorem dX12_isShared_13 : nx cX12_isShared 13 (.aload_n 0) 1 14 := ⟨by decide +kernel, rfl⟩
theorem dX12_isShared_14 : nx cX12_isShared 14 (.getfield 16) 3 17 := ⟨by decide +kernel, rfl⟩
theorem dX12_isShared_17 : nx cX12_isShared 17 (.iload_n 1) 1 18 := ⟨by decide +kernel, rfl⟩
theorem dX12_isShared_18 : nx cX12_isShared 18 (.iaload) 1 19 := ⟨by decide +kernel, rfl⟩
theorem dX12_isShared_19 : nx cX12_isShared 19 (.aload_n 0) 1 20 := ⟨by decide +kernel, rfl⟩
theorem dX12_isShared_20 : nx cX12_isShared 20 (.getfield 155) 3 23 := ⟨by decide +kernel, rfl⟩
theorem dX12_isShared_23 : bx cX12_isShared 23 (.if_icmp .gt 7) 7 30 26 := ⟨by decide +kernel, by decide, rfl⟩
theorem dX12_isShared_26 : nx cX12_isShared 26 (.iconst 1) 1 27 := ⟨by decide +kernel, rfl⟩
theorem dX12_isShared_27 : bx cX12_isShared 27 (.goto 4) 4 31 30 := ⟨by decide +kernel, by decide, rfl⟩
theorem dX12_isShared_30 : nx cX12_isShared 30 (.iconst 0) 1 31 := ⟨by decide +kernel, rfl⟩
theorem dX12_isShared_31 : nx cX12_isShared 31 (.ireturn) 1 32 := ⟨by decide +kernel, rfl⟩
theorem dX12_takesOf_0 : nx cX12_takesOf 0 (.aload_n 0) 1 1 := ⟨by decide +kernel, rfl⟩
theorem dX12_takesOf_1 : nx cX12_takesOf 1 (.getfield 19) 3 4 := ⟨by decide +kernel, rfl⟩
theorem dX12_takesOf_4 : nx cX12_takesOf 4 (.iload_n 1) 1 5 := ⟨by decide +kernel, rfl⟩
theorem dX12_takesOf_5 : nx cX12_takesOf 5 (.iaload) 1 6 := ⟨by decide +kernel, rfl⟩
theorem dX12_takesOf_6 : nx cX12_takesOf 6 (.aload_n 0) 1 7 := ⟨by decide +kernel, rfl⟩
theorem dX12_takesOf_7 : nx cX12_takesOf 7 (.getfield 7) 3 10 := ⟨by decide +kernel, rfl⟩
theorem dX12_takesOf_10 : nx cX12_takesOf 10 (.iload_n 1) 1 11 := ⟨by decide +kernel, rfl⟩
theorem dX12_takesOf_11 : nx cX12_takesOf 11 (.iaload) 1 12 := ⟨by decide +kernel, rfl⟩
theorem dX12_takesOf_12 : bx cX12_takesOf 12 (.ifCond .le 7) 7 19 15 := ⟨by decide +kernel, by decide, rfl⟩
theorem dX12_takesOf_15 : nx cX12_takesOf 15 (.iconst 1) 1 16 := ⟨by decide +kernel, rfl⟩
theorem dX12_takesOf_16 : bx cX12_takesOf 16 (.goto 4) 4 20 19 := ⟨by decide +kernel, by decide, rfl⟩
theorem dX12_takesOf_19 : nx cX12_takesOf 19 (.iconst 0) 1 20 := ⟨by decide +kernel, rfl⟩
theorem dX12_takesOf_20 : nx cX12_takesOf 20 (.iadd) 1 21 := ⟨by decide +kernel, rfl⟩
theorem dX12_takesOf_21 : nx cX12_takesOf 21 (.istore_n 2) 1 22 := ⟨by decide +kernel, rfl⟩
theorem dX12_takesOf_22 : nx cX12_takesOf 22 (.aload_n 0) 1 23 := ⟨by decide +kernel, rfl⟩
theorem dX12_takesOf_23 : nx cX12_takesOf 23 (.getfield 7) 3 26 := ⟨by decide +kernel, rfl⟩
theorem dX12_takesOf_26 : nx cX12_takesOf 26 (.iload_n 1) 1 27 := ⟨by decide +kernel, rfl⟩
theorem dX12_takesOf_27 : nx cX12_takesOf 27 (.iaload) 1 28 := ⟨by decide +kernel, rfl⟩
theorem dX12_takesOf_28 : nx cX12_takesOf 28 (.iconst 2) 1 29 := ⟨by decide +kernel, rfl⟩
theorem dX12_takesOf_29 : bx cX12_takesOf 29 (.if_icmp .ne 9) 9 38 32 := ⟨by decide +kernel, by decide, rfl⟩
theorem dX12_takesOf_32 : nx cX12_takesOf 32 (.iconst 2) 1 33 := ⟨by decide +kernel, rfl⟩
theorem dX12_takesOf_33 : nx cX12_takesOf 33 (.iload_n 2) 1 34 := ⟨by decide +kernel, rfl⟩
theorem dX12_takesOf_34 : nx cX12_takesOf 34 (.imul) 1 35 := ⟨by decide +kernel, rfl⟩
theorem dX12_takesOf_35 : bx cX12_takesOf 35 (.goto 4) 4 39 38 := ⟨by decide +kernel, by decide, rfl⟩
theorem dX12_takesOf_38 : nx cX12_takesOf 38 (.iload_n 2) 1 39 := ⟨by decide +kernel, rfl⟩
theorem dX12_takesOf_39 : nx cX12_takesOf 39 (.istore_n 2) 1 40 := ⟨by decide +kernel, rfl⟩
theorem dX12_takesOf_40 : nx cX12_takesOf 40 (.aload_n 0) 1 41 := ⟨by decide +kernel, rfl⟩
theorem dX12_takesOf_41 : nx cX12_takesOf 41 (.iload_n 1) 1 42 := ⟨by decide +kernel, rfl⟩
theorem dX12_takesOf_42 : nx cX12_takesOf 42 (.invokevirtual 164) 3 45 := ⟨by decide +kernel, rfl⟩
theorem dX12_takesOf_45 : bx cX12_takesOf 45 (.ifCond .eq 9) 9 54 48 := ⟨by decide +kernel, by decide, rfl⟩
theorem dX12_takesOf_48 : nx cX12_takesOf 48 (.iload_n 2) 1 49 := ⟨by decide +kernel, rfl⟩
theorem dX12_takesOf_49 : nx cX12_takesOf 49 (.iconst 1) 1 50 := ⟨by decide +kernel, rfl⟩
theorem dX12_takesOf_50 : nx cX12_takesOf 50 (.iadd) 1 51 := ⟨by decide +kernel, rfl⟩
theorem dX12_takesOf_51 : bx cX12_takesOf 51 (.goto 4) 4 55 54 := ⟨by decide +kernel, by decide, rfl⟩
theorem dX12_takesOf_54 : nx cX12_takesOf 54 (.iload_n 2) 1 55 := ⟨by decide +kernel, rfl⟩
theorem dX12_takesOf_55 : nx cX12_takesOf 55 (.ireturn) 1 56 := ⟨by decide +kernel, rfl⟩
theorem dX12_safeOf_0 : nx cX12_safeOf 0 (.aload_n 0) 1 1 := ⟨by decide +kernel, rfl⟩
theorem dX12_safeOf_1 : nx cX12_safeOf 1 (.iload_n 1) 1 2 := ⟨by decide +kernel, rfl⟩
theorem dX12_safeOf_2 : nx cX12_safeOf 2 (.invokevirtual 164) 3 5 := ⟨by decide +kernel, rfl⟩
theorem dX12_safeOf_5 : bx cX12_safeOf 5 (.ifCond .eq 8) 8 13 8 := ⟨by decide +kernel, by decide, rfl⟩
theorem dX12_safeOf_8 : nx cX12_safeOf 8 (.bipush 10) 2 10 := ⟨by decide +kernel, rfl⟩
theorem dX12_safeOf_10 : bx cX12_safeOf 10 (.goto 12) 12 22 13 := ⟨by decide +kernel, by decide, rfl⟩
theorem dX12_safeOf_13 : nx cX12_safeOf 13 (.bipush 10) 2 15 := ⟨by decide +kernel, rfl⟩
theorem dX12_safeOf_15 : nx cX12_safeOf 15 (.aload_n 0) 1 16 := ⟨by decide +kernel, rfl⟩
theorem dX12_safeOf_16 : nx cX12_safeOf 16 (.getfield 25) 3 19 := ⟨by decide +kernel, rfl⟩
theorem dX12_safeOf_19 : nx cX12_safeOf 19 (.iload_n 1) 1 20 := ⟨by decide +kernel, rfl⟩
theorem dX12_safeOf_20 : nx cX12_safeOf 20 (.iaload) 1 21 := ⟨by decide +kernel, rfl⟩
theorem dX12_safeOf_21 : nx cX12_safeOf 21 (.isub) 1 22 := ⟨by decide +kernel, rfl⟩
theorem dX12_safeOf_22 : nx cX12_safeOf 22 (.ireturn) 1 23 := ⟨by decide +kernel, rfl⟩
theorem dX12_ofStretch_0 : nx cX12_ofStretch 0 (.aload_n 0) 1 1 := ⟨by decide +kernel, rfl⟩
theorem dX12_ofStretch_1 : nx cX12_ofStretch 1 (.iload_n 1) 1 2 := ⟨by decide +kernel, rfl⟩
theorem dX12_ofStretch_2 : nx cX12_ofStretch 2 (.invokevirtual 167) 3 5 := ⟨by decide +kernel, rfl⟩
theorem dX12_ofStretch_5 : bx cX12_ofStretch 5 (.ifCond .eq 5) 5 10 8 := ⟨by decide +kernel, by decide, rfl⟩
theorem dX12_ofStretch_8 : nx cX12_ofStretch 8 (.iconst (-1)) 1 9 := ⟨by decide +kernel, rfl⟩
theorem dX12_ofStretch_9 : nx cX12_ofStretch 9 (.ireturn) 1 10 := ⟨by decide +kernel, rfl⟩
theorem dX12_ofStretch_10 : nx cX12_ofStretch 10 (.iload_n 2) 1 11 := ⟨by decide +kernel, rfl⟩
theorem dX12_ofStretch_11 : nx cX12_ofStretch 11 (.tableswitch 110 0 7 #[45, 52, 59, 66, 73, 80, 87, 93]) 45 56 := ⟨by decide +kernel, rfl⟩
theorem dX12_ofStretch_56 : nx cX12_ofStretch 56 (.aload_n 0) 1 57 := ⟨by decide +kernel, rfl⟩
theorem dX12_ofStretch_57 : nx cX12_ofStretch 57 (.getfield 7) 3 60 := ⟨by decide +kernel, rfl⟩
theorem dX12_ofStretch_60 : nx cX12_ofStretch 60 (.iload_n 1) 1 61 := ⟨by decide +kernel, rfl⟩
theorem dX12_ofStretch_61 : nx cX12_ofStretch 61 (.iaload) 1 62 := ⟨by decide +kernel, rfl⟩
theorem dX12_ofStretch_62 : nx cX12_ofStretch 62 (.ireturn) 1 63 := ⟨by decide +kernel, rfl⟩
theorem dX12_ofStretch_63 : nx cX12_ofStretch 63 (.aload_n 0) 1 64 := ⟨by decide +kernel, rfl⟩
theorem dX12_ofStretch_64 : nx cX12_ofStretch 64 (.getfield 13) 3 67 := ⟨by decide +kernel, rfl⟩
theorem dX12_ofStretch_67 : nx cX12_ofStretch 67 (.iload_n 1) 1 68 := ⟨by decide +kernel, rfl⟩
theorem dX12_ofStretch_68 : nx cX12_ofStretch 68 (.iaload) 1 69 := ⟨by decide +kernel, rfl⟩
theorem dX12_ofStretch_69 : nx cX12_ofStretch 69 (.ireturn) 1 70 := ⟨by decide +kernel, rfl⟩
theorem dX12_ofStretch_70 : nx cX12_ofStretch 70 (.aload_n 0) 1 71 := ⟨by decide +kernel, rfl⟩
theorem dX12_ofStretch_71 : nx cX12_ofStretch 71 (.getfield 16) 3 74 := ⟨by decide +kernel, rfl⟩
theorem dX12_ofStretch_74 : nx cX12_ofStretch 74 (.iload_n 1) 1 75 := ⟨by decide +kernel, rfl⟩
theorem dX12_ofStretch_75 : nx cX12_ofStretch 75 (.iaload) 1 76 := ⟨by decide +kernel, rfl⟩
theorem dX12_ofStretch_76 : nx cX12_ofStretch 76 (.ireturn) 1 77 := ⟨by decide +kernel, rfl⟩
theorem dX12_ofStretch_77 : nx cX12_ofStretch 77 (.aload_n 0) 1 78 := ⟨by decide +kernel, rfl⟩
theorem dX12_ofStretch_78 : nx cX12_ofStretch 78 (.getfield 19) 3 81 := ⟨by decide +kernel, rfl⟩
theorem dX12_ofStretch_81 : nx cX12_ofStretch 81 (.iload_n 1) 1 82 := ⟨by decide +kernel, rfl⟩
theorem dX12_ofStretch_82 : nx cX12_ofStretch 82 (.iaload) 1 83 := ⟨by decide +kernel, rfl⟩
theorem dX12_ofStretch_83 : nx cX12_ofStretch 83 (.ireturn) 1 84 := ⟨by decide +kernel, rfl⟩
theorem dX12_ofStretch_84 : nx cX12_ofStretch 84 (.aload_n 0) 1 85 := ⟨by decide +kernel, rfl⟩
theorem dX12_ofStretch_85 : nx cX12_ofStretch 85 (.getfield 22) 3 88 := ⟨by decide +kernel, rfl⟩
theorem dX12_ofStretch_88 : nx cX12_ofStretch 88 (.iload_n 1) 1 89 := ⟨by decide +kernel, rfl⟩
theorem dX12_ofStretch_89 : nx cX12_ofStretch 89 (.iaload) 1 90 := ⟨by decide +kernel, rfl⟩
theorem dX12_ofStretch_90 : nx cX12_ofStretch 90 (.ireturn) 1 91 := ⟨by decide +kernel, rfl⟩
theorem dX12_ofStretch_91 : nx cX12_ofStretch 91 (.aload_n 0) 1 92 := ⟨by decide +kernel, rfl⟩
theorem dX12_ofStretch_92 : nx cX12_ofStretch 92 (.getfield 25) 3 95 := ⟨by decide +kernel, rfl⟩
theorem dX12_ofStretch_95 : nx cX12_ofStretch 95 (.iload_n 1) 1 96 := ⟨by decide +kernel, rfl⟩
theorem dX12_ofStretch_96 : nx cX12_ofStretch 96 (.iaload) 1 97 := ⟨by decide +kernel, rfl⟩
theorem dX12_ofStretch_97 : nx cX12_ofStretch 97 (.ireturn) 1 98 := ⟨by decide +kernel, rfl⟩
theorem dX12_ofStretch_98 : nx cX12_ofStretch 98 (.aload_n 0) 1 99 := ⟨by decide +kernel, rfl⟩
theorem dX12_ofStretch_99 : nx cX12_ofStretch 99 (.iload_n 1) 1 100 := ⟨by decide +kernel, rfl⟩
theorem dX12_ofStretch_100 : nx cX12_ofStretch 100 (.invokevirtual 170) 3 103 := ⟨by decide +kernel, rfl⟩
theorem dX12_ofStretch_103 : nx cX12_ofStretch 103 (.ireturn) 1 104 := ⟨by decide +kernel, rfl⟩
theorem dX12_ofStretch_104 : nx cX12_ofStretch 104 (.aload_n 0) 1 105 := ⟨by decide +kernel, rfl⟩
theorem dX12_ofStretch_105 : nx cX12_ofStretch 105 (.getfield 158) 3 108 := ⟨by decide +kernel, rfl⟩
theorem dX12_ofStretch_108 : nx cX12_ofStretch 108 (.iload_n 1) 1 109 := ⟨by decide +kernel, rfl⟩
theorem dX12_ofStretch_109 : nx cX12_ofStretch 109 (.invokestatic 173) 3 112 := ⟨by decide +kernel, rfl⟩
theorem dX12_ofStretch_112 : bx cX12_ofStretch 112 (.ifCond .eq 7) 7 119 115 := ⟨by decide +kernel, by decide, rfl⟩
theorem dX12_ofStretch_115 : nx cX12_ofStretch 115 (.iconst 1) 1 116 := ⟨by decide +kernel, rfl⟩
theorem dX12_ofStretch_116 : bx cX12_ofStretch 116 (.goto 4) 4 120 119 := ⟨by decide +kernel, by decide, rfl⟩
theorem dX12_ofStretch_119 : nx cX12_ofStretch 119 (.iconst 0) 1 120 := ⟨by decide +kernel, rfl⟩
theorem dX12_ofStretch_120 : nx cX12_ofStretch 120 (.ireturn) 1 121 := ⟨by decide +kernel, rfl⟩
theorem dX12_ofStretch_121 : nx cX12_ofStretch 121 (.bipush (-2)) 2 123 := ⟨by decide +kernel, rfl⟩
theorem dX12_ofStretch_123 : nx cX12_ofStretch 123 (.ireturn) 1 124 := ⟨by decide +kernel, rfl⟩
theorem dX12_due_0 : nx cX12_due 0 (.iload_n 1) 1 1 := ⟨by decide +kernel, rfl⟩
theorem dX12_due_1 : nx cX12_due 1 (.i2l) 1 2 := ⟨by decide +kernel, rfl⟩
theorem dX12_due_2 : nx cX12_due 2 (.lconst 0) 1 3 := ⟨by decide +kernel, rfl⟩
theorem dX12_due_3 : nx cX12_due 3 (.ldc2_w 176) 3 6 := ⟨by decide +kernel, rfl⟩
theorem dX12_due_6 : nx cX12_due 6 (.invokestatic 97) 3 9 := ⟨by decide +kernel, rfl⟩
theorem dX12_due_9 : bx cX12_due 9 (.ifCond .ne 6) 6 15 12 := ⟨by decide +kernel, by decide, rfl⟩
theorem dX12_due_12 : nx cX12_due 12 (.bipush (-2)) 2 14 := ⟨by decide +kernel, rfl⟩
theorem dX12_due_14 : nx cX12_due 14 (.ireturn) 1 15 := ⟨by decide +kernel, rfl⟩
theorem dX12_due_15 : nx cX12_due 15 (.aload_n 0) 1 16 := ⟨by decide +kernel, rfl⟩
theorem dX12_due_16 : nx cX12_due 16 (.getfield 101) 3 19 := ⟨by decide +kernel, rfl⟩
theorem dX12_due_19 : bx cX12_due 19 (.ifCond .ne 6) 6 25 22 := ⟨by decide +kernel, by decide, rfl⟩
theorem dX12_due_22 : nx cX12_due 22 (.bipush (-3)) 2 24 := ⟨by decide +kernel, rfl⟩
theorem dX12_due_24 : nx cX12_due 24 (.ireturn) 1 25 := ⟨by decide +kernel, rfl⟩
theorem dX12_due_25 : nx cX12_due 25 (.aload_n 0) 1 26 := ⟨by decide +kernel, rfl⟩
theorem dX12_due_26 : nx cX12_due 26 (.getfield 149) 3 29 := ⟨by decide +kernel, rfl⟩
theorem dX12_due_29 : nx cX12_due 29 (.istore_n 2) 1 30 := ⟨by decide +kernel, rfl⟩
theorem dX12_due_30 : nx cX12_due 30 (.aload_n 0) 1 31 := ⟨by decide +kernel, rfl⟩
theorem dX12_due_31 : nx cX12_due 31 (.iload_n 1) 1 32 := ⟨by decide +kernel, rfl⟩
theorem dX12_due_32 : nx cX12_due 32 (.putfield 149) 3 35 := ⟨by decide +kernel, rfl⟩
theorem dX12_due_35 : nx cX12_due 35 (.iload_n 2) 1 36 := ⟨by decide +kernel, rfl⟩
theorem dX12_due_36 : nx cX12_due 36 (.ireturn) 1 37 := ⟨by decide +kernel, rfl⟩
theorem dX12_law_0 : nx cX12_law 0 (.iload_n 1) 1 1 := ⟨by decide +kernel, rfl⟩
theorem dX12_law_1 : nx cX12_law 1 (.i2l) 1 2 := ⟨by decide +kernel, rfl⟩
theorem dX12_law_2 : nx cX12_law 2 (.lconst 0) 1 3 := ⟨by decide +kernel, rfl⟩
theorem dX12_law_3 : nx cX12_law 3 (.ldc2_w 140) 3 6 := ⟨by decide +kernel, rfl⟩
theorem dX12_law_6 : nx cX12_law 6 (.invokestatic 97) 3 9 := ⟨by decide +kernel, rfl⟩
theorem dX12_law_9 : bx cX12_law 9 (.ifCond .ne 6) 6 15 12 := ⟨by decide +kernel, by decide, rfl⟩
theorem dX12_law_12 : nx cX12_law 12 (.bipush (-2)) 2 14 := ⟨by decide +kernel, rfl⟩
theorem dX12_law_14 : nx cX12_law 14 (.ireturn) 1 15 := ⟨by decide +kernel, rfl⟩
theorem dX12_law_15 : nx cX12_law 15 (.aload_n 0) 1 16 := ⟨by decide +kernel, rfl⟩
theorem dX12_law_16 : nx cX12_law 16 (.getfield 101) 3 19 := ⟨by decide +kernel, rfl⟩
theorem dX12_law_19 : bx cX12_law 19 (.ifCond .ne 6) 6 25 22 := ⟨by decide +kernel, by decide, rfl⟩
theorem dX12_law_22 : nx cX12_law 22 (.bipush (-3)) 2 24 := ⟨by decide +kernel, rfl⟩
theorem dX12_law_24 : nx cX12_law 24 (.ireturn) 1 25 := ⟨by decide +kernel, rfl⟩
theorem dX12_law_25 : nx cX12_law 25 (.aload_n 0) 1 26 := ⟨by decide +kernel, rfl⟩
theorem dX12_law_26 : nx cX12_law 26 (.getfield 152) 3 29 := ⟨by decide +kernel, rfl⟩
theorem dX12_law_29 : nx cX12_law 29 (.istore_n 2) 1 30 := ⟨by decide +kernel, rfl⟩
theorem dX12_law_30 : nx cX12_law 30 (.aload_n 0) 1 31 := ⟨by decide +kernel, rfl⟩
theorem dX12_law_31 : nx cX12_law 31 (.iload_n 1) 1 32 := ⟨by decide +kernel, rfl⟩
theorem dX12_law_32 : nx cX12_law 32 (.putfield 152) 3 35 := ⟨by decide +kernel, rfl⟩
theorem dX12_law_35 : nx cX12_law 35 (.iload_n 2) 1 36 := ⟨by decide +kernel, rfl⟩
theorem dX12_law_36 : nx cX12_law 36 (.ireturn) 1 37 := ⟨by decide +kernel, rfl⟩
theorem dX12_friend_0 : nx cX12_friend 0 (.iload_n 1) 1 1 := ⟨by decide +kernel, rfl⟩
theorem dX12_friend_1 : nx cX12_friend 1 (.bipush (-9)) 2 3 := ⟨by decide +kernel, rfl⟩
theorem dX12_friend_3 : bx cX12_friend 3 (.if_icmp .eq 13) 13 16 6 := ⟨by decide +kernel, by decide, rfl⟩
theorem dX12_friend_6 : nx cX12_friend 6 (.aload_n 0) 1 7 := ⟨by decide +kernel, rfl⟩
theorem dX12_friend_7 : nx cX12_friend 7 (.iload_n 1) 1 8 := ⟨by decide +kernel, rfl⟩
theorem dX12_friend_8 : nx cX12_friend 8 (.invokevirtual 178) 3 11 := ⟨by decide +kernel, rfl⟩
theorem dX12_friend_11 : bx cX12_friend 11 (.ifCond .eq 5) 5 16 14 := ⟨by decide +kernel, by decide, rfl⟩
theorem dX12_friend_14 : nx cX12_friend 14 (.iconst (-1)) 1 15 := ⟨by decide +kernel, rfl⟩
theorem dX12_friend_15 : nx cX12_friend 15 (.ireturn) 1 16 := ⟨by decide +kernel, rfl⟩
theorem dX12_friend_16 : nx cX12_friend 16 (.aload_n 0) 1 17 := ⟨by decide +kernel, rfl⟩
theorem dX12_friend_17 : nx cX12_friend 17 (.getfield 101) 3 20 := ⟨by decide +kernel, rfl⟩
theorem dX12_friend_20 : bx cX12_friend 20 (.ifCond .ne 6) 6 26 23 := ⟨by decide +kernel, by decide, rfl⟩
theorem dX12_friend_23 : nx cX12_friend 23 (.bipush (-3)) 2 25 := ⟨by decide +kernel, rfl⟩
theorem dX12_friend_25 : nx cX12_friend 25 (.ireturn) 1 26 := ⟨by decide +kernel, rfl⟩
theorem dX12_friend_26 : nx cX12_friend 26 (.aload_n 0) 1 27 := ⟨by decide +kernel, rfl⟩
theorem dX12_friend_27 : nx cX12_friend 27 (.getfield 155) 3 30 := ⟨by decide +kernel, rfl⟩
theorem dX12_friend_30 : nx cX12_friend 30 (.istore_n 2) 1 31 := ⟨by decide +kernel, rfl⟩
theorem dX12_friend_31 : nx cX12_friend 31 (.aload_n 0) 1 32 := ⟨by decide +kernel, rfl⟩
theorem dX12_friend_32 : nx cX12_friend 32 (.iload_n 1) 1 33 := ⟨by decide +kernel, rfl⟩
theorem dX12_friend_33 : nx cX12_friend 33 (.putfield 155) 3 36 := ⟨by decide +kernel, rfl⟩
theorem dX12_friend_36 : nx cX12_friend 36 (.iload_n 2) 1 37 := ⟨by decide +kernel, rfl⟩
theorem dX12_friend_37 : nx cX12_friend 37 (.ireturn) 1 38 := ⟨by decide +kernel, rfl⟩
theorem dX12_close_0 : nx cX12_close 0 (.aload_n 0) 1 1 := ⟨by decide +kernel, rfl⟩
theorem dX12_close_1 : nx cX12_close 1 (.iload_n 1) 1 2 := ⟨by decide +kernel, rfl⟩
theorem dX12_close_2 : nx cX12_close 2 (.invokevirtual 167) 3 5 := ⟨by decide +kernel, rfl⟩
theorem dX12_close_5 : bx cX12_close 5 (.ifCond .eq 5) 5 10 8 := ⟨by decide +kernel, by decide, rfl⟩
theorem dX12_close_8 : nx cX12_close 8 (.iconst (-1)) 1 9 := ⟨by decide +kernel, rfl⟩
theorem dX12_close_9 : nx cX12_close 9 (.ireturn) 1 10 := ⟨by decide +kernel, rfl⟩
theorem dX12_close_10 : nx cX12_close 10 (.aload_n 0) 1 11 := ⟨by decide +kernel, rfl⟩
theorem dX12_close_11 : nx cX12_close 11 (.getfield 158) 3 14 := ⟨by decide +kernel, rfl⟩
theorem dX12_close_14 : nx cX12_close 14 (.iload_n 1) 1 15 := ⟨by decide +kernel, rfl⟩
theorem dX12_close_15 : nx cX12_close 15 (.invokestatic 173) 3 18 := ⟨by decide +kernel, rfl⟩
theorem dX12_close_18 : nx cX12_close 18 (.istore_n 3) 1 19 := ⟨by decide +kernel, rfl⟩
theorem dX12_close_19 : nx cX12_close 19 (.aload_n 0) 1 20 := ⟨by decide +kernel, rfl⟩
theorem dX12_close_20 : nx cX12_close 20 (.iload_n 2) 1 21 := ⟨by decide +kernel, rfl⟩
theorem dX12_close_21 : bx cX12_close 21 (.ifCond .eq 14) 14 35 24 := ⟨by decide +kernel, by decide, rfl⟩
theorem dX12_close_24 : nx cX12_close 24 (.aload_n 0) 1 25 := ⟨by decide +kernel, rfl⟩
theorem dX12_close_25 : nx cX12_close 25 (.getfield 158) 3 28 := ⟨by decide +kernel, rfl⟩
theorem dX12_close_28 : nx cX12_close 28 (.iconst 1) 1 29 := ⟨by decide +kernel, rfl⟩
theorem dX12_close_29 : nx cX12_close 29 (.iload_n 1) 1 30 := ⟨by decide +kernel, rfl⟩
theorem dX12_close_30 : nx cX12_close 30 (.ishl) 1 31 := ⟨by decide +kernel, rfl⟩
theorem dX12_close_31 : nx cX12_close 31 (.ior) 1 32 := ⟨by decide +kernel, rfl⟩
theorem dX12_close_32 : bx cX12_close 32 (.goto 13) 13 45 35 := ⟨by decide +kernel, by decide, rfl⟩
theorem dX12_close_35 : nx cX12_close 35 (.aload_n 0) 1 36 := ⟨by decide +kernel, rfl⟩
theorem dX12_close_36 : nx cX12_close 36 (.getfield 158) 3 39 := ⟨by decide +kernel, rfl⟩
theorem dX12_close_39 : nx cX12_close 39 (.iconst 1) 1 40 := ⟨by decide +kernel, rfl⟩
theorem dX12_close_40 : nx cX12_close 40 (.iload_n 1) 1 41 := ⟨by decide +kernel, rfl⟩
theorem dX12_close_41 : nx cX12_close 41 (.ishl) 1 42 := ⟨by decide +kernel, rfl⟩
theorem dX12_close_42 : nx cX12_close 42 (.iconst (-1)) 1 43 := ⟨by decide +kernel, rfl⟩
theorem dX12_close_43 : nx cX12_close 43 (.ixor) 1 44 := ⟨by decide +kernel, rfl⟩
theorem dX12_close_44 : nx cX12_close 44 (.iand) 1 45 := ⟨by decide +kernel, rfl⟩
theorem dX12_close_45 : nx cX12_close 45 (.putfield 158) 3 48 := ⟨by decide +kernel, rfl⟩
theorem dX12_close_48 : nx cX12_close 48 (.iload_n 3) 1 49 := ⟨by decide +kernel, rfl⟩
theorem dX12_close_49 : nx cX12_close 49 (.iload_n 2) 1 50 := ⟨by decide +kernel, rfl⟩
theorem dX12_close_50 : bx cX12_close 50 (.if_icmp .ne 7) 7 57 53 := ⟨by decide +kernel, by decide, rfl⟩
theorem dX12_close_53 : nx cX12_close 53 (.iconst 0) 1 54 := ⟨by decide +kernel, rfl⟩
theorem dX12_close_54 : bx cX12_close 54 (.goto 4) 4 58 57 := ⟨by decide +kernel, by decide, rfl⟩
theorem dX12_close_57 : nx cX12_close 57 (.iconst 1) 1 58 := ⟨by decide +kernel, rfl⟩
theorem dX12_close_58 : nx cX12_close 58 (.ireturn) 1 59 := ⟨by decide +kernel, rfl⟩
theorem dX12_goesTo_0 : nx cX12_goesTo 0 (.aload_n 0) 1 1 := ⟨by decide +kernel, rfl⟩
theorem dX12_goesTo_1 : nx cX12_goesTo 1 (.getfield 158) 3 4 := ⟨by decide +kernel, rfl⟩
theorem dX12_goesTo_4 : nx cX12_goesTo 4 (.iload_n 1) 1 5 := ⟨by decide +kernel, rfl⟩
theorem dX12_goesTo_5 : nx cX12_goesTo 5 (.invokestatic 173) 3 8 := ⟨by decide +kernel, rfl⟩
theorem dX12_goesTo_8 : bx cX12_goesTo 8 (.ifCond .eq 6) 6 14 11 := ⟨by decide +kernel, by decide, rfl⟩
theorem dX12_goesTo_11 : nx cX12_goesTo 11 (.bipush (-9)) 2 13 := ⟨by decide +kernel, rfl⟩
theorem dX12_goesTo_13 : nx cX12_goesTo 13 (.ireturn) 1 14 := ⟨by decide +kernel, rfl⟩
theorem dX12_goesTo_14 : nx cX12_goesTo 14 (.aload_n 0) 1 15 := ⟨by decide +kernel, rfl⟩
theorem dX12_goesTo_15 : nx cX12_goesTo 15 (.getfield 13) 3 18 := ⟨by decide +kernel, rfl⟩
theorem dX12_goesTo_18 : nx cX12_goesTo 18 (.iload_n 1) 1 19 := ⟨by decide +kernel, rfl⟩
theorem dX12_goesTo_19 : nx cX12_goesTo 19 (.iaload) 1 20 := ⟨by decide +kernel, rfl⟩
theorem dX12_goesTo_20 : nx cX12_goesTo 20 (.iload_n 2) 1 21 := ⟨by decide +kernel, rfl⟩
theorem dX12_goesTo_21 : bx cX12_goesTo 21 (.if_icmp .ne 12) 12 33 24 := ⟨by decide +kernel, by decide, rfl⟩
theorem dX12_goesTo_24 : nx cX12_goesTo 24 (.aload_n 0) 1 25 := ⟨by decide +kernel, rfl⟩
theorem dX12_goesTo_25 : nx cX12_goesTo 25 (.getfield 16) 3 28 := ⟨by decide +kernel, rfl⟩
theorem dX12_goesTo_28 : nx cX12_goesTo 28 (.iload_n 1) 1 29 := ⟨by decide +kernel, rfl⟩
theorem dX12_goesTo_29 : nx cX12_goesTo 29 (.iaload) 1 30 := ⟨by decide +kernel, rfl⟩
theorem dX12_goesTo_30 : bx cX12_goesTo 30 (.goto 24) 24 54 33 := ⟨by decide +kernel, by decide, rfl⟩
theorem dX12_goesTo_33 : nx cX12_goesTo 33 (.aload_n 0) 1 34 := ⟨by decide +kernel, rfl⟩
theorem dX12_goesTo_34 : nx cX12_goesTo 34 (.getfield 16) 3 37 := ⟨by decide +kernel, rfl⟩
theorem dX12_goesTo_37 : nx cX12_goesTo 37 (.iload_n 1) 1 38 := ⟨by decide +kernel, rfl⟩
theorem dX12_goesTo_38 : nx cX12_goesTo 38 (.iaload) 1 39 := ⟨by decide +kernel, rfl⟩
theorem dX12_goesTo_39 : nx cX12_goesTo 39 (.iload_n 2) 1 40 := ⟨by decide +kernel, rfl⟩
theorem dX12_goesTo_40 : bx cX12_goesTo 40 (.if_icmp .ne 12) 12 52 43 := ⟨by decide +kernel, by decide, rfl⟩
theorem dX12_goesTo_43 : nx cX12_goesTo 43 (.aload_n 0) 1 44 := ⟨by decide +kernel, rfl⟩
theorem dX12_goesTo_44 : nx cX12_goesTo 44 (.getfield 13) 3 47 := ⟨by decide +kernel, rfl⟩
theorem dX12_goesTo_47 : nx cX12_goesTo 47 (.iload_n 1) 1 48 := ⟨by decide +kernel, rfl⟩
theorem dX12_goesTo_48 : nx cX12_goesTo 48 (.iaload) 1 49 := ⟨by decide +kernel, rfl⟩
theorem dX12_goesTo_49 : bx cX12_goesTo 49 (.goto 5) 5 54 52 := ⟨by decide +kernel, by decide, rfl⟩
theorem dX12_goesTo_52 : nx cX12_goesTo 52 (.bipush (-9)) 2 54 := ⟨by decide +kernel, rfl⟩
theorem dX12_goesTo_54 : nx cX12_goesTo 54 (.ireturn) 1 55 := ⟨by decide +kernel, rfl⟩
theorem dX12_minutesOf_0 : nx cX12_minutesOf 0 (.iconst 0) 1 1 := ⟨by decide +kernel, rfl⟩
theorem dX12_minutesOf_1 : nx cX12_minutesOf 1 (.istore_n 2) 1 2 := ⟨by decide +kernel, rfl⟩
theorem dX12_minutesOf_2 : nx cX12_minutesOf 2 (.iconst 0) 1 3 := ⟨by decide +kernel, rfl⟩
theorem dX12_minutesOf_3 : nx cX12_minutesOf 3 (.istore_n 3) 1 4 := ⟨by decide +kernel, rfl⟩
theorem dX12_minutesOf_4 : nx cX12_minutesOf 4 (.iload_n 3) 1 5 := ⟨by decide +kernel, rfl⟩
theorem dX12_minutesOf_5 : nx cX12_minutesOf 5 (.iload_n 1) 1 6 := ⟨by decide +kernel, rfl⟩
theorem dX12_minutesOf_6 : bx cX12_minutesOf 6 (.if_icmp .ge 22) 22 28 9 := ⟨by decide +kernel, by decide, rfl⟩
theorem dX12_minutesOf_9 : nx cX12_minutesOf 9 (.iload_n 2) 1 10 := ⟨by decide +kernel, rfl⟩
theorem dX12_minutesOf_10 : nx cX12_minutesOf 10 (.aload_n 0) 1 11 := ⟨by decide +kernel, rfl⟩
theorem dX12_minutesOf_11 : nx cX12_minutesOf 11 (.aload_n 0) 1 12 := ⟨by decide +kernel, rfl⟩
theorem dX12_minutesOf_12 : nx cX12_minutesOf 12 (.getfield 46) 3 15 := ⟨by decide +kernel, rfl⟩
theorem dX12_minutesOf_15 : nx cX12_minutesOf 15 (.iload_n 3) 1 16 := ⟨by decide +kernel, rfl⟩
theorem dX12_minutesOf_16 : nx cX12_minutesOf 16 (.iaload) 1 17 := ⟨by decide +kernel, rfl⟩
theorem dX12_minutesOf_17 : nx cX12_minutesOf 17 (.invokevirtual 170) 3 20 := ⟨by decide +kernel, rfl⟩
theorem dX12_minutesOf_20 : nx cX12_minutesOf 20 (.iadd) 1 21 := ⟨by decide +kernel, rfl⟩
theorem dX12_minutesOf_21 : nx cX12_minutesOf 21 (.istore_n 2) 1 22 := ⟨by decide +kernel, rfl⟩
theorem dX12_minutesOf_22 : nx cX12_minutesOf 22 (.iinc 3 1) 3 25 := ⟨by decide +kernel, rfl⟩
theorem dX12_minutesOf_25 : bx cX12_minutesOf 25 (.goto (-21)) (-21) 4 28 := ⟨by decide +kernel, by decide, rfl⟩
theorem dX12_minutesOf_28 : nx cX12_minutesOf 28 (.iload_n 2) 1 29 := ⟨by decide +kernel, rfl⟩
theorem dX12_minutesOf_29 : nx cX12_minutesOf 29 (.ireturn) 1 30 := ⟨by decide +kernel, rfl⟩
theorem dX12_goneBy_0 : nx cX12_goneBy 0 (.iconst 0) 1 1 := ⟨by decide +kernel, rfl⟩
theorem dX12_goneBy_1 : nx cX12_goneBy 1 (.istore_n 2) 1 2 := ⟨by decide +kernel, rfl⟩
theorem dX12_goneBy_2 : nx cX12_goneBy 2 (.iconst 0) 1 3 := ⟨by decide +kernel, rfl⟩
theorem dX12_goneBy_3 : nx cX12_goneBy 3 (.istore_n 3) 1 4 := ⟨by decide +kernel, rfl⟩
theorem dX12_goneBy_4 : nx cX12_goneBy 4 (.iload_n 3) 1 5 := ⟨by decide +kernel, rfl⟩
theorem dX12_goneBy_5 : nx cX12_goneBy 5 (.iload_n 1) 1 6 := ⟨by decide +kernel, rfl⟩
theorem dX12_goneBy_6 : bx cX12_goneBy 6 (.if_icmp .ge 20) 20 26 9 := ⟨by decide +kernel, by decide, rfl⟩
theorem dX12_goneBy_9 : nx cX12_goneBy 9 (.iload_n 2) 1 10 := ⟨by decide +kernel, rfl⟩
theorem dX12_goneBy_10 : nx cX12_goneBy 10 (.iconst 1) 1 11 := ⟨by decide +kernel, rfl⟩
theorem dX12_goneBy_11 : nx cX12_goneBy 11 (.aload_n 0) 1 12 := ⟨by decide +kernel, rfl⟩
theorem dX12_goneBy_12 : nx cX12_goneBy 12 (.getfield 46) 3 15 := ⟨by decide +kernel, rfl⟩
theorem dX12_goneBy_15 : nx cX12_goneBy 15 (.iload_n 3) 1 16 := ⟨by decide +kernel, rfl⟩
theorem dX12_goneBy_16 : nx cX12_goneBy 16 (.iaload) 1 17 := ⟨by decide +kernel, rfl⟩
theorem dX12_goneBy_17 : nx cX12_goneBy 17 (.ishl) 1 18 := ⟨by decide +kernel, rfl⟩
theorem dX12_goneBy_18 : nx cX12_goneBy 18 (.ior) 1 19 := ⟨by decide +kernel, rfl⟩
theorem dX12_goneBy_19 : nx cX12_goneBy 19 (.istore_n 2) 1 20 := ⟨by decide +kernel, rfl⟩
theorem dX12_goneBy_20 : nx cX12_goneBy 20 (.iinc 3 1) 3 23 := ⟨by decide +kernel, rfl⟩
theorem dX12_goneBy_23 : bx cX12_goneBy 23 (.goto (-19)) (-19) 4 26 := ⟨by decide +kernel, by decide, rfl⟩
theorem dX12_goneBy_26 : nx cX12_goneBy 26 (.iload_n 2) 1 27 := ⟨by decide +kernel, rfl⟩
theorem dX12_goneBy_27 : nx cX12_goneBy 27 (.ireturn) 1 28 := ⟨by decide +kernel, rfl⟩
theorem dX12_sightsBy_0 : nx cX12_sightsBy 0 (.aload_n 0) 1 1 := ⟨by decide +kernel, rfl⟩
theorem dX12_sightsBy_1 : nx cX12_sightsBy 1 (.iload_n 1) 1 2 := ⟨by decide +kernel, rfl⟩
theorem dX12_sightsBy_2 : nx cX12_sightsBy 2 (.invokevirtual 181) 3 5 := ⟨by decide +kernel, rfl⟩
theorem dX12_sightsBy_5 : nx cX12_sightsBy 5 (.istore_n 2) 1 6 := ⟨by decide +kernel, rfl⟩
theorem dX12_sightsBy_6 : nx cX12_sightsBy 6 (.iconst 0) 1 7 := ⟨by decide +kernel, rfl⟩
theorem dX12_sightsBy_7 : nx cX12_sightsBy 7 (.istore_n 3) 1 8 := ⟨by decide +kernel, rfl⟩
theorem dX12_sightsBy_8 : nx cX12_sightsBy 8 (.iconst 0) 1 9 := ⟨by decide +kernel, rfl⟩
theorem dX12_sightsBy_9 : nx cX12_sightsBy 9 (.istore 4) 2 11 := ⟨by decide +kernel, rfl⟩
theorem dX12_sightsBy_11 : nx cX12_sightsBy 11 (.iload 4) 2 13 := ⟨by decide +kernel, rfl⟩
theorem dX12_sightsBy_13 : nx cX12_sightsBy 13 (.aload_n 0) 1 14 := ⟨by decide +kernel, rfl⟩
theorem dX12_sightsBy_14 : nx cX12_sightsBy 14 (.getfield 101) 3 17 := ⟨by decide +kernel, rfl⟩
theorem dX12_sightsBy_17 : bx cX12_sightsBy 17 (.if_icmp .ge 32) 32 49 20 := ⟨by decide +kernel, by decide, rfl⟩
theorem dX12_sightsBy_20 : nx cX12_sightsBy 20 (.iload_n 3) 1 21 := ⟨by decide +kernel, rfl⟩
theorem dX12_sightsBy_21 : nx cX12_sightsBy 21 (.iload_n 2) 1 22 := ⟨by decide +kernel, rfl⟩
theorem dX12_sightsBy_22 : nx cX12_sightsBy 22 (.iload 4) 2 24 := ⟨by decide +kernel, rfl⟩
theorem dX12_sightsBy_24 : nx cX12_sightsBy 24 (.invokestatic 173) 3 27 := ⟨by decide +kernel, rfl⟩
theorem dX12_sightsBy_27 : bx cX12_sightsBy 27 (.ifCond .eq 13) 13 40 30 := ⟨by decide +kernel, by decide, rfl⟩
theorem dX12_sightsBy_30 : nx cX12_sightsBy 30 (.aload_n 0) 1 31 := ⟨by decide +kernel, rfl⟩
theorem dX12_sightsBy_31 : nx cX12_sightsBy 31 (.getfield 22) 3 34 := ⟨by decide +kernel, rfl⟩
theorem dX12_sightsBy_34 : nx cX12_sightsBy 34 (.iload 4) 2 36 := ⟨by decide +kernel, rfl⟩
theorem dX12_sightsBy_36 : nx cX12_sightsBy 36 (.iaload) 1 37 := ⟨by decide +kernel, rfl⟩
theorem dX12_sightsBy_37 : bx cX12_sightsBy 37 (.goto 4) 4 41 40 := ⟨by decide +kernel, by decide, rfl⟩
theorem dX12_sightsBy_40 : nx cX12_sightsBy 40 (.iconst 0) 1 41 := ⟨by decide +kernel, rfl⟩
theorem dX12_sightsBy_41 : nx cX12_sightsBy 41 (.iadd) 1 42 := ⟨by decide +kernel, rfl⟩
theorem dX12_sightsBy_42 : nx cX12_sightsBy 42 (.istore_n 3) 1 43 := ⟨by decide +kernel, rfl⟩
theorem dX12_sightsBy_43 : nx cX12_sightsBy 43 (.iinc 4 1) 3 46 := ⟨by decide +kernel, rfl⟩
theorem dX12_sightsBy_46 : bx cX12_sightsBy 46 (.goto (-35)) (-35) 11 49 := ⟨by decide +kernel, by decide, rfl⟩
theorem dX12_sightsBy_49 : nx cX12_sightsBy 49 (.iload_n 3) 1 50 := ⟨by decide +kernel, rfl⟩
theorem dX12_sightsBy_50 : nx cX12_sightsBy 50 (.ireturn) 1 51 := ⟨by decide +kernel, rfl⟩
theorem dX12_costOf_0 : nx cX12_costOf 0 (.iload_n 1) 1 1 := ⟨by decide +kernel, rfl⟩
theorem dX12_costOf_1 : bx cX12_costOf 1 (.ifCond .gt 5) 5 6 4 := ⟨by decide +kernel, by decide, rfl⟩
theorem dX12_costOf_4 : nx cX12_costOf 4 (.iconst 0) 1 5 := ⟨by decide +kernel, rfl⟩
theorem dX12_costOf_5 : nx cX12_costOf 5 (.ireturn) 1 6 := ⟨by decide +kernel, rfl⟩
theorem dX12_costOf_6 : nx cX12_costOf 6 (.aload_n 0) 1 7 := ⟨by decide +kernel, rfl⟩
theorem dX12_costOf_7 : nx cX12_costOf 7 (.getfield 152) 3 10 := ⟨by decide +kernel, rfl⟩
theorem dX12_costOf_10 : bx cX12_costOf 10 (.ifCond .ne 7) 7 17 13 := ⟨by decide +kernel, by decide, rfl⟩
theorem dX12_costOf_13 : nx cX12_costOf 13 (.iload_n 1) 1 14 := ⟨by decide +kernel, rfl⟩
theorem dX12_costOf_14 : bx cX12_costOf 14 (.goto 31) 31 45 17 := ⟨by decide +kernel, by decide, rfl⟩
theorem dX12_costOf_17 : nx cX12_costOf 17 (.aload_n 0) 1 18 := ⟨by decide +kernel, rfl⟩
theorem dX12_costOf_18 : nx cX12_costOf 18 (.getfield 152) 3 21 := ⟨by decide +kernel, rfl⟩
theorem dX12_costOf_21 : nx cX12_costOf 21 (.iconst 2) 1 22 := ⟨by decide +kernel, rfl⟩
theorem dX12_costOf_22 : bx cX12_costOf 22 (.if_icmp .ne 9) 9 31 25 := ⟨by decide +kernel, by decide, rfl⟩
theorem dX12_costOf_25 : nx cX12_costOf 25 (.iload_n 1) 1 26 := ⟨by decide +kernel, rfl⟩
theorem dX12_costOf_26 : nx cX12_costOf 26 (.iload_n 1) 1 27 := ⟨by decide +kernel, rfl⟩
theorem dX12_costOf_27 : nx cX12_costOf 27 (.imul) 1 28 := ⟨by decide +kernel, rfl⟩
theorem dX12_costOf_28 : bx cX12_costOf 28 (.goto 17) 17 45 31 := ⟨by decide +kernel, by decide, rfl⟩
theorem dX12_costOf_31 : nx cX12_costOf 31 (.iload_n 1) 1 32 := ⟨by decide +kernel, rfl⟩
theorem dX12_costOf_32 : nx cX12_costOf 32 (.iconst 5) 1 33 := ⟨by decide +kernel, rfl⟩
theorem dX12_costOf_33 : bx cX12_costOf 33 (.if_icmp .le 11) 11 44 36 := ⟨by decide +kernel, by decide, rfl⟩
theorem dX12_costOf_36 : nx cX12_costOf 36 (.iconst 3) 1 37 := ⟨by decide +kernel, rfl⟩
theorem dX12_costOf_37 : nx cX12_costOf 37 (.iload_n 1) 1 38 := ⟨by decide +kernel, rfl⟩
theorem dX12_costOf_38 : nx cX12_costOf 38 (.iconst 5) 1 39 := ⟨by decide +kernel, rfl⟩
theorem dX12_costOf_39 : nx cX12_costOf 39 (.isub) 1 40 := ⟨by decide +kernel, rfl⟩
theorem dX12_costOf_40 : nx cX12_costOf 40 (.imul) 1 41 := ⟨by decide +kernel, rfl⟩
theorem dX12_costOf_41 : bx cX12_costOf 41 (.goto 4) 4 45 44 := ⟨by decide +kernel, by decide, rfl⟩
theorem dX12_costOf_44 : nx cX12_costOf 44 (.iconst 0) 1 45 := ⟨by decide +kernel, rfl⟩
theorem dX12_costOf_45 : nx cX12_costOf 45 (.ireturn) 1 46 := ⟨by decide +kernel, rfl⟩
theorem dX12_joyOf_0 : nx cX12_joyOf 0 (.aload_n 0) 1 1 := ⟨by decide +kernel, rfl⟩
theorem dX12_joyOf_1 : nx cX12_joyOf 1 (.iload_n 1) 1 2 := ⟨by decide +kernel, rfl⟩
theorem dX12_joyOf_2 : nx cX12_joyOf 2 (.invokevirtual 184) 3 5 := ⟨by decide +kernel, rfl⟩
theorem dX12_joyOf_5 : nx cX12_joyOf 5 (.aload_n 0) 1 6 := ⟨by decide +kernel, rfl⟩
theorem dX12_joyOf_6 : nx cX12_joyOf 6 (.aload_n 0) 1 7 := ⟨by decide +kernel, rfl⟩
theorem dX12_joyOf_7 : nx cX12_joyOf 7 (.iload_n 1) 1 8 := ⟨by decide +kernel, rfl⟩
theorem dX12_joyOf_8 : nx cX12_joyOf 8 (.invokevirtual 187) 3 11 := ⟨by decide +kernel, rfl⟩
theorem dX12_joyOf_11 : nx cX12_joyOf 11 (.aload_n 0) 1 12 := ⟨by decide +kernel, rfl⟩
theorem dX12_joyOf_12 : nx cX12_joyOf 12 (.getfield 149) 3 15 := ⟨by decide +kernel, rfl⟩
theorem dX12_joyOf_15 : nx cX12_joyOf 15 (.isub) 1 16 := ⟨by decide +kernel, rfl⟩
theorem dX12_joyOf_16 : nx cX12_joyOf 16 (.invokevirtual 190) 3 19 := ⟨by decide +kernel, rfl⟩
theorem dX12_joyOf_19 : nx cX12_joyOf 19 (.isub) 1 20 := ⟨by decide +kernel, rfl⟩
theorem dX12_joyOf_20 : nx cX12_joyOf 20 (.ireturn) 1 21 := ⟨by decide +kernel, rfl⟩
theorem dX12_safeBy_0 : nx cX12_safeBy 0 (.lconst 1) 1 1 := ⟨by decide +kernel, rfl⟩
theorem dX12_safeBy_1 : nx cX12_safeBy 1 (.lstore_n 2) 1 2 := ⟨by decide +kernel, rfl⟩
theorem dX12_safeBy_2 : nx cX12_safeBy 2 (.iconst 0) 1 3 := ⟨by decide +kernel, rfl⟩
theorem dX12_safeBy_3 : nx cX12_safeBy 3 (.istore 4) 2 5 := ⟨by decide +kernel, rfl⟩
theorem dX12_safeBy_5 : nx cX12_safeBy 5 (.iload 4) 2 7 := ⟨by decide +kernel, rfl⟩
theorem dX12_safeBy_7 : nx cX12_safeBy 7 (.iload_n 1) 1 8 := ⟨by decide +kernel, rfl⟩
theorem dX12_safeBy_8 : bx cX12_safeBy 8 (.if_icmp .ge 24) 24 32 11 := ⟨by decide +kernel, by decide, rfl⟩
theorem dX12_safeBy_11 : nx cX12_safeBy 11 (.lload_n 2) 1 12 := ⟨by decide +kernel, rfl⟩
theorem dX12_safeBy_12 : nx cX12_safeBy 12 (.aload_n 0) 1 13 := ⟨by decide +kernel, rfl⟩
theorem dX12_safeBy_13 : nx cX12_safeBy 13 (.aload_n 0) 1 14 := ⟨by decide +kernel, rfl⟩
theorem dX12_safeBy_14 : nx cX12_safeBy 14 (.getfield 46) 3 17 := ⟨by decide +kernel, rfl⟩
theorem dX12_safeBy_17 : nx cX12_safeBy 17 (.iload 4) 2 19 := ⟨by decide +kernel, rfl⟩
theorem dX12_safeBy_19 : nx cX12_safeBy 19 (.iaload) 1 20 := ⟨by decide +kernel, rfl⟩
theorem dX12_safeBy_20 : nx cX12_safeBy 20 (.invokevirtual 193) 3 23 := ⟨by decide +kernel, rfl⟩
theorem dX12_safeBy_23 : nx cX12_safeBy 23 (.i2l) 1 24 := ⟨by decide +kernel, rfl⟩
theorem dX12_safeBy_24 : nx cX12_safeBy 24 (.lmul) 1 25 := ⟨by decide +kernel, rfl⟩
theorem dX12_safeBy_25 : nx cX12_safeBy 25 (.lstore_n 2) 1 26 := ⟨by decide +kernel, rfl⟩
theorem dX12_safeBy_26 : nx cX12_safeBy 26 (.iinc 4 1) 3 29 := ⟨by decide +kernel, rfl⟩
theorem dX12_safeBy_29 : bx cX12_safeBy 29 (.goto (-24)) (-24) 5 32 := ⟨by decide +kernel, by decide, rfl⟩
theorem dX12_safeBy_32 : nx cX12_safeBy 32 (.lload_n 2) 1 33 := ⟨by decide +kernel, rfl⟩
theorem dX12_safeBy_33 : nx cX12_safeBy 33 (.lreturn) 1 34 := ⟨by decide +kernel, rfl⟩
theorem dX12_readsWalk_0 : nx cX12_readsWalk 0 (.iload_n 2) 1 1 := ⟨by decide +kernel, rfl⟩
theorem dX12_readsWalk_1 : nx cX12_readsWalk 1 (.bipush 12) 2 3 := ⟨by decide +kernel, rfl⟩
theorem dX12_readsWalk_3 : bx cX12_readsWalk 3 (.if_icmp .le 6) 6 9 6 := ⟨by decide +kernel, by decide, rfl⟩
theorem dX12_readsWalk_6 : nx cX12_readsWalk 6 (.bipush (-2)) 2 8 := ⟨by decide +kernel, rfl⟩
theorem dX12_readsWalk_8 : nx cX12_readsWalk 8 (.ireturn) 1 9 := ⟨by decide +kernel, rfl⟩
theorem dX12_readsWalk_9 : nx cX12_readsWalk 9 (.iconst 0) 1 10 := ⟨by decide +kernel, rfl⟩
theorem dX12_readsWalk_10 : nx cX12_readsWalk 10 (.istore_n 3) 1 11 := ⟨by decide +kernel, rfl⟩
theorem dX12_readsWalk_11 : nx cX12_readsWalk 11 (.iload_n 3) 1 12 := ⟨by decide +kernel, rfl⟩
theorem dX12_readsWalk_12 : nx cX12_readsWalk 12 (.iload_n 2) 1 13 := ⟨by decide +kernel, rfl⟩
theorem dX12_readsWalk_13 : bx cX12_readsWalk 13 (.if_icmp .ge 38) 38 51 16 := ⟨by decide +kernel, by decide, rfl⟩
theorem dX12_readsWalk_16 : nx cX12_readsWalk 16 (.aload_n 0) 1 17 := ⟨by decide +kernel, rfl⟩
theorem dX12_readsWalk_17 : nx cX12_readsWalk 17 (.getfield 46) 3 20 := ⟨by decide +kernel, rfl⟩
theorem dX12_readsWalk_20 : nx cX12_readsWalk 20 (.iload_n 3) 1 21 := ⟨by decide +kernel, rfl⟩
theorem dX12_readsWalk_21 : nx cX12_readsWalk 21 (.aload_n 0) 1 22 := ⟨by decide +kernel, rfl⟩
theorem dX12_readsWalk_22 : nx cX12_readsWalk 22 (.getfield 78) 3 25 := ⟨by decide +kernel, rfl⟩
theorem dX12_readsWalk_25 : nx cX12_readsWalk 25 (.iload_n 1) 1 26 := ⟨by decide +kernel, rfl⟩
theorem dX12_readsWalk_26 : nx cX12_readsWalk 26 (.iload_n 3) 1 27 := ⟨by decide +kernel, rfl⟩
theorem dX12_readsWalk_27 : nx cX12_readsWalk 27 (.iadd) 1 28 := ⟨by decide +kernel, rfl⟩
theorem dX12_readsWalk_28 : nx cX12_readsWalk 28 (.iaload) 1 29 := ⟨by decide +kernel, rfl⟩
theorem dX12_readsWalk_29 : nx cX12_readsWalk 29 (.iastore) 1 30 := ⟨by decide +kernel, rfl⟩
theorem dX12_readsWalk_30 : nx cX12_readsWalk 30 (.aload_n 0) 1 31 := ⟨by decide +kernel, rfl⟩
theorem dX12_readsWalk_31 : nx cX12_readsWalk 31 (.aload_n 0) 1 32 := ⟨by decide +kernel, rfl⟩
theorem dX12_readsWalk_32 : nx cX12_readsWalk 32 (.getfield 46) 3 35 := ⟨by decide +kernel, rfl⟩
theorem dX12_readsWalk_35 : nx cX12_readsWalk 35 (.iload_n 3) 1 36 := ⟨by decide +kernel, rfl⟩
theorem dX12_readsWalk_36 : nx cX12_readsWalk 36 (.iaload) 1 37 := ⟨by decide +kernel, rfl⟩
theorem dX12_readsWalk_37 : nx cX12_readsWalk 37 (.invokevirtual 167) 3 40 := ⟨by decide +kernel, rfl⟩
theorem dX12_readsWalk_40 : bx cX12_readsWalk 40 (.ifCond .eq 5) 5 45 43 := ⟨by decide +kernel, by decide, rfl⟩
theorem dX12_readsWalk_43 : nx cX12_readsWalk 43 (.iconst (-1)) 1 44 := ⟨by decide +kernel, rfl⟩
theorem dX12_readsWalk_44 : nx cX12_readsWalk 44 (.ireturn) 1 45 := ⟨by decide +kernel, rfl⟩
theorem dX12_readsWalk_45 : nx cX12_readsWalk 45 (.iinc 3 1) 3 48 := ⟨by decide +kernel, rfl⟩
theorem dX12_readsWalk_48 : bx cX12_readsWalk 48 (.goto (-37)) (-37) 11 51 := ⟨by decide +kernel, by decide, rfl⟩
theorem dX12_readsWalk_51 : nx cX12_readsWalk 51 (.iconst 0) 1 52 := ⟨by decide +kernel, rfl⟩
theorem dX12_readsWalk_52 : nx cX12_readsWalk 52 (.istore_n 3) 1 53 := ⟨by decide +kernel, rfl⟩
theorem dX12_readsWalk_53 : nx cX12_readsWalk 53 (.iconst 0) 1 54 := ⟨by decide +kernel, rfl⟩
theorem dX12_readsWalk_54 : nx cX12_readsWalk 54 (.istore 4) 2 56 := ⟨by decide +kernel, rfl⟩
theorem dX12_readsWalk_56 : nx cX12_readsWalk 56 (.iload 4) 2 58 := ⟨by decide +kernel, rfl⟩
theorem dX12_readsWalk_58 : nx cX12_readsWalk 58 (.iload_n 2) 1 59 := ⟨by decide +kernel, rfl⟩
theorem dX12_readsWalk_59 : bx cX12_readsWalk 59 (.if_icmp .ge 32) 32 91 62 := ⟨by decide +kernel, by decide, rfl⟩
theorem dX12_readsWalk_62 : nx cX12_readsWalk 62 (.aload_n 0) 1 63 := ⟨by decide +kernel, rfl⟩
theorem dX12_readsWalk_63 : nx cX12_readsWalk 63 (.aload_n 0) 1 64 := ⟨by decide +kernel, rfl⟩
theorem dX12_readsWalk_64 : nx cX12_readsWalk 64 (.getfield 46) 3 67 := ⟨by decide +kernel, rfl⟩
theorem dX12_readsWalk_67 : nx cX12_readsWalk 67 (.iload 4) 2 69 := ⟨by decide +kernel, rfl⟩
theorem dX12_readsWalk_69 : nx cX12_readsWalk 69 (.iaload) 1 70 := ⟨by decide +kernel, rfl⟩
theorem dX12_readsWalk_70 : nx cX12_readsWalk 70 (.iload_n 3) 1 71 := ⟨by decide +kernel, rfl⟩
theorem dX12_readsWalk_71 : nx cX12_readsWalk 71 (.invokevirtual 196) 3 74 := ⟨by decide +kernel, rfl⟩
theorem dX12_readsWalk_74 : nx cX12_readsWalk 74 (.istore_n 3) 1 75 := ⟨by decide +kernel, rfl⟩
theorem dX12_readsWalk_75 : nx cX12_readsWalk 75 (.iload_n 3) 1 76 := ⟨by decide +kernel, rfl⟩
theorem dX12_readsWalk_76 : bx cX12_readsWalk 76 (.ifCond .ge 9) 9 85 79 := ⟨by decide +kernel, by decide, rfl⟩
theorem dX12_readsWalk_79 : nx cX12_readsWalk 79 (.bipush (-100)) 2 81 := ⟨by decide +kernel, rfl⟩
theorem dX12_readsWalk_81 : nx cX12_readsWalk 81 (.iload 4) 2 83 := ⟨by decide +kernel, rfl⟩
theorem dX12_readsWalk_83 : nx cX12_readsWalk 83 (.isub) 1 84 := ⟨by decide +kernel, rfl⟩
theorem dX12_readsWalk_84 : nx cX12_readsWalk 84 (.ireturn) 1 85 := ⟨by decide +kernel, rfl⟩
theorem dX12_readsWalk_85 : nx cX12_readsWalk 85 (.iinc 4 1) 3 88 := ⟨by decide +kernel, rfl⟩
theorem dX12_readsWalk_88 : bx cX12_readsWalk 88 (.goto (-32)) (-32) 56 91 := ⟨by decide +kernel, by decide, rfl⟩
theorem dX12_readsWalk_91 : nx cX12_readsWalk 91 (.aload_n 0) 1 92 := ⟨by decide +kernel, rfl⟩
theorem dX12_readsWalk_92 : nx cX12_readsWalk 92 (.iload_n 3) 1 93 := ⟨by decide +kernel, rfl⟩
theorem dX12_readsWalk_93 : nx cX12_readsWalk 93 (.putfield 199) 3 96 := ⟨by decide +kernel, rfl⟩
theorem dX12_readsWalk_96 : nx cX12_readsWalk 96 (.iconst 0) 1 97 := ⟨by decide +kernel, rfl⟩
theorem dX12_readsWalk_97 : nx cX12_readsWalk 97 (.ireturn) 1 98 := ⟨by decide +kernel, rfl⟩
theorem dX12_walk_0 : nx cX12_walk 0 (.iload_n 1) 1 1 := ⟨by decide +kernel, rfl⟩
theorem dX12_walk_1 : nx cX12_walk 1 (.invokestatic 133) 3 4 := ⟨by decide +kernel, rfl⟩
theorem dX12_walk_4 : bx cX12_walk 4 (.ifCond .eq 9) 9 13 7 := ⟨by decide +kernel, by decide, rfl⟩
theorem dX12_walk_7 : nx cX12_walk 7 (.aload_n 0) 1 8 := ⟨by decide +kernel, rfl⟩
theorem dX12_walk_8 : nx cX12_walk 8 (.iconst (-1)) 1 9 := ⟨by decide +kernel, rfl⟩
theorem dX12_walk_9 : nx cX12_walk 9 (.invokevirtual 137) 3 12 := ⟨by decide +kernel, rfl⟩
theorem dX12_walk_12 : nx cX12_walk 12 (.ireturn) 1 13 := ⟨by decide +kernel, rfl⟩
theorem dX12_walk_13 : nx cX12_walk 13 (.iload_n 2) 1 14 := ⟨by decide +kernel, rfl⟩
theorem dX12_walk_14 : nx cX12_walk 14 (.i2l) 1 15 := ⟨by decide +kernel, rfl⟩
theorem dX12_walk_15 : nx cX12_walk 15 (.lconst 0) 1 16 := ⟨by decide +kernel, rfl⟩
theorem dX12_walk_16 : nx cX12_walk 16 (.ldc2_w 140) 3 19 := ⟨by decide +kernel, rfl⟩
theorem dX12_walk_19 : nx cX12_walk 19 (.invokestatic 97) 3 22 := ⟨by decide +kernel, rfl⟩
theorem dX12_walk_22 : bx cX12_walk 22 (.ifCond .eq 16) 16 38 25 := ⟨by decide +kernel, by decide, rfl⟩
theorem dX12_walk_25 : nx cX12_walk 25 (.iload 5) 2 27 := ⟨by decide +kernel, rfl⟩
theorem dX12_walk_27 : nx cX12_walk 27 (.i2l) 1 28 := ⟨by decide +kernel, rfl⟩
theorem dX12_walk_28 : nx cX12_walk 28 (.lconst 0) 1 29 := ⟨by decide +kernel, rfl⟩
theorem dX12_walk_29 : nx cX12_walk 29 (.ldc2_w 202) 3 32 := ⟨by decide +kernel, rfl⟩
theorem dX12_walk_32 : nx cX12_walk 32 (.invokestatic 97) 3 35 := ⟨by decide +kernel, rfl⟩
theorem dX12_walk_35 : bx cX12_walk 35 (.ifCond .ne 10) 10 45 38 := ⟨by decide +kernel, by decide, rfl⟩
theorem dX12_walk_38 : nx cX12_walk 38 (.aload_n 0) 1 39 := ⟨by decide +kernel, rfl⟩
theorem dX12_walk_39 : nx cX12_walk 39 (.bipush (-2)) 2 41 := ⟨by decide +kernel, rfl⟩
theorem dX12_walk_41 : nx cX12_walk 41 (.invokevirtual 137) 3 44 := ⟨by decide +kernel, rfl⟩
theorem dX12_walk_44 : nx cX12_walk 44 (.ireturn) 1 45 := ⟨by decide +kernel, rfl⟩
theorem dX12_walk_45 : nx cX12_walk 45 (.aload_n 0) 1 46 := ⟨by decide +kernel, rfl⟩
theorem dX12_walk_46 : nx cX12_walk 46 (.getfield 101) 3 49 := ⟨by decide +kernel, rfl⟩
theorem dX12_walk_49 : bx cX12_walk 49 (.ifCond .ne 10) 10 59 52 := ⟨by decide +kernel, by decide, rfl⟩
theorem dX12_walk_52 : nx cX12_walk 52 (.aload_n 0) 1 53 := ⟨by decide +kernel, rfl⟩
theorem dX12_walk_53 : nx cX12_walk 53 (.bipush (-3)) 2 55 := ⟨by decide +kernel, rfl⟩
theorem dX12_walk_55 : nx cX12_walk 55 (.invokevirtual 137) 3 58 := ⟨by decide +kernel, rfl⟩
theorem dX12_walk_58 : nx cX12_walk 58 (.ireturn) 1 59 := ⟨by decide +kernel, rfl⟩
theorem dX12_walk_59 : nx cX12_walk 59 (.aload_n 0) 1 60 := ⟨by decide +kernel, rfl⟩
theorem dX12_walk_60 : nx cX12_walk 60 (.iload_n 1) 1 61 := ⟨by decide +kernel, rfl⟩
theorem dX12_walk_61 : nx cX12_walk 61 (.iload_n 2) 1 62 := ⟨by decide +kernel, rfl⟩
theorem dX12_walk_62 : nx cX12_walk 62 (.iload_n 3) 1 63 := ⟨by decide +kernel, rfl⟩
theorem dX12_walk_63 : nx cX12_walk 63 (.iload 4) 2 65 := ⟨by decide +kernel, rfl⟩
theorem dX12_walk_65 : nx cX12_walk 65 (.i2l) 1 66 := ⟨by decide +kernel, rfl⟩
theorem dX12_walk_66 : nx cX12_walk 66 (.invokevirtual 142) 3 69 := ⟨by decide +kernel, rfl⟩
theorem dX12_walk_69 : nx cX12_walk 69 (.istore 6) 2 71 := ⟨by decide +kernel, rfl⟩
theorem dX12_walk_71 : nx cX12_walk 71 (.iload 6) 2 73 := ⟨by decide +kernel, rfl⟩
theorem dX12_walk_73 : bx cX12_walk 73 (.ifCond .ge 6) 6 79 76 := ⟨by decide +kernel, by decide, rfl⟩
theorem dX12_walk_76 : nx cX12_walk 76 (.iload 6) 2 78 := ⟨by decide +kernel, rfl⟩
theorem dX12_walk_78 : nx cX12_walk 78 (.ireturn) 1 79 := ⟨by decide +kernel, rfl⟩
theorem dX12_walk_79 : nx cX12_walk 79 (.aload_n 0) 1 80 := ⟨by decide +kernel, rfl⟩
theorem dX12_walk_80 : nx cX12_walk 80 (.bipush 60) 2 82 := ⟨by decide +kernel, rfl⟩
theorem dX12_walk_82 : nx cX12_walk 82 (.iload_n 1) 1 83 := ⟨by decide +kernel, rfl⟩
theorem dX12_walk_83 : nx cX12_walk 83 (.imul) 1 84 := ⟨by decide +kernel, rfl⟩
theorem dX12_walk_84 : nx cX12_walk 84 (.iload_n 3) 1 85 := ⟨by decide +kernel, rfl⟩
theorem dX12_walk_85 : nx cX12_walk 85 (.iadd) 1 86 := ⟨by decide +kernel, rfl⟩
theorem dX12_walk_86 : nx cX12_walk 86 (.iload 4) 2 88 := ⟨by decide +kernel, rfl⟩
theorem dX12_walk_88 : nx cX12_walk 88 (.invokevirtual 204) 3 91 := ⟨by decide +kernel, rfl⟩
theorem dX12_walk_91 : nx cX12_walk 91 (.istore 6) 2 93 := ⟨by decide +kernel, rfl⟩
theorem dX12_walk_93 : nx cX12_walk 93 (.iload 6) 2 95 := ⟨by decide +kernel, rfl⟩
theorem dX12_walk_95 : bx cX12_walk 95 (.ifCond .ge 10) 10 105 98 := ⟨by decide +kernel, by decide, rfl⟩
theorem dX12_walk_98 : nx cX12_walk 98 (.aload_n 0) 1 99 := ⟨by decide +kernel, rfl⟩
theorem dX12_walk_99 : nx cX12_walk 99 (.iload 6) 2 101 := ⟨by decide +kernel, rfl⟩
theorem dX12_walk_101 : nx cX12_walk 101 (.invokevirtual 137) 3 104 := ⟨by decide +kernel, rfl⟩
theorem dX12_walk_104 : nx cX12_walk 104 (.ireturn) 1 105 := ⟨by decide +kernel, rfl⟩
theorem dX12_walk_105 : nx cX12_walk 105 (.aload_n 0) 1 106 := ⟨by decide +kernel, rfl⟩
theorem dX12_walk_106 : nx cX12_walk 106 (.iload 5) 2 108 := ⟨by decide +kernel, rfl⟩
theorem dX12_walk_108 : bx cX12_walk 108 (.ifCond .ne 10) 10 118 111 := ⟨by decide +kernel, by decide, rfl⟩
theorem dX12_walk_111 : nx cX12_walk 111 (.aload_n 0) 1 112 := ⟨by decide +kernel, rfl⟩
theorem dX12_walk_112 : nx cX12_walk 112 (.getfield 199) 3 115 := ⟨by decide +kernel, rfl⟩
theorem dX12_walk_115 : bx cX12_walk 115 (.goto 42) 42 157 118 := ⟨by decide +kernel, by decide, rfl⟩
theorem dX12_walk_118 : nx cX12_walk 118 (.iload 5) 2 120 := ⟨by decide +kernel, rfl⟩
theorem dX12_walk_120 : nx cX12_walk 120 (.iconst 1) 1 121 := ⟨by decide +kernel, rfl⟩
theorem dX12_walk_121 : bx cX12_walk 121 (.if_icmp .ne 12) 12 133 124 := ⟨by decide +kernel, by decide, rfl⟩
theorem dX12_walk_124 : nx cX12_walk 124 (.aload_n 0) 1 125 := ⟨by decide +kernel, rfl⟩
theorem dX12_walk_125 : nx cX12_walk 125 (.iload 4) 2 127 := ⟨by decide +kernel, rfl⟩
theorem dX12_walk_127 : nx cX12_walk 127 (.invokevirtual 187) 3 130 := ⟨by decide +kernel, rfl⟩
theorem dX12_walk_130 : bx cX12_walk 130 (.goto 27) 27 157 133 := ⟨by decide +kernel, by decide, rfl⟩
theorem dX12_walk_133 : nx cX12_walk 133 (.iload 5) 2 135 := ⟨by decide +kernel, rfl⟩
theorem dX12_walk_135 : nx cX12_walk 135 (.iconst 2) 1 136 := ⟨by decide +kernel, rfl⟩
theorem dX12_walk_136 : bx cX12_walk 136 (.if_icmp .ne 12) 12 148 139 := ⟨by decide +kernel, by decide, rfl⟩
theorem dX12_walk_139 : nx cX12_walk 139 (.aload_n 0) 1 140 := ⟨by decide +kernel, rfl⟩
theorem dX12_walk_140 : nx cX12_walk 140 (.iload 4) 2 142 := ⟨by decide +kernel, rfl⟩
theorem dX12_walk_142 : nx cX12_walk 142 (.invokevirtual 184) 3 145 := ⟨by decide +kernel, rfl⟩
theorem dX12_walk_145 : bx cX12_walk 145 (.goto 12) 12 157 148 := ⟨by decide +kernel, by decide, rfl⟩
theorem dX12_walk_148 : nx cX12_walk 148 (.aload_n 0) 1 149 := ⟨by decide +kernel, rfl⟩
theorem dX12_walk_149 : nx cX12_walk 149 (.iload 4) 2 151 := ⟨by decide +kernel, rfl⟩
theorem dX12_walk_151 : nx cX12_walk 151 (.invokevirtual 207) 3 154 := ⟨by decide +kernel, rfl⟩
theorem dX12_walk_154 : nx cX12_walk 154 (.ldc 210) 2 156 := ⟨by decide +kernel, rfl⟩
theorem dX12_walk_156 : nx cX12_walk 156 (.iadd) 1 157 := ⟨by decide +kernel, rfl⟩
theorem dX12_walk_157 : nx cX12_walk 157 (.invokevirtual 137) 3 160 := ⟨by decide +kernel, rfl⟩
theorem dX12_walk_160 : nx cX12_walk 160 (.ireturn) 1 161 := ⟨by decide +kernel, rfl⟩
theorem dX12_safe_0 : nx cX12_safe 0 (.iload_n 1) 1 1 := ⟨by decide +kernel, rfl⟩
theorem dX12_safe_1 : nx cX12_safe 1 (.invokestatic 133) 3 4 := ⟨by decide +kernel, rfl⟩
theorem dX12_safe_4 : bx cX12_safe 4 (.ifCond .ne 33) 33 37 7 := ⟨by decide +kernel, by decide, rfl⟩
theorem dX12_safe_7 : nx cX12_safe 7 (.iload_n 2) 1 8 := ⟨by decide +kernel, rfl⟩
theorem dX12_safe_8 : nx cX12_safe 8 (.i2l) 1 9 := ⟨by decide +kernel, rfl⟩
theorem dX12_safe_9 : nx cX12_safe 9 (.lconst 0) 1 10 := ⟨by decide +kernel, rfl⟩
theorem dX12_safe_10 : nx cX12_safe 10 (.ldc2_w 140) 3 13 := ⟨by decide +kernel, rfl⟩
theorem dX12_safe_13 : nx cX12_safe 13 (.invokestatic 97) 3 16 := ⟨by decide +kernel, rfl⟩
theorem dX12_safe_16 : bx cX12_safe 16 (.ifCond .eq 21) 21 37 19 := ⟨by decide +kernel, by decide, rfl⟩
theorem dX12_safe_19 : nx cX12_safe 19 (.iload 5) 2 21 := ⟨by decide +kernel, rfl⟩
theorem dX12_safe_21 : nx cX12_safe 21 (.i2l) 1 22 := ⟨by decide +kernel, rfl⟩
theorem dX12_safe_22 : nx cX12_safe 22 (.lconst 0) 1 23 := ⟨by decide +kernel, rfl⟩
theorem dX12_safe_23 : nx cX12_safe 23 (.lconst 1) 1 24 := ⟨by decide +kernel, rfl⟩
theorem dX12_safe_24 : nx cX12_safe 24 (.invokestatic 97) 3 27 := ⟨by decide +kernel, rfl⟩
theorem dX12_safe_27 : bx cX12_safe 27 (.ifCond .eq 10) 10 37 30 := ⟨by decide +kernel, by decide, rfl⟩
theorem dX12_safe_30 : nx cX12_safe 30 (.aload_n 0) 1 31 := ⟨by decide +kernel, rfl⟩
theorem dX12_safe_31 : nx cX12_safe 31 (.getfield 101) 3 34 := ⟨by decide +kernel, rfl⟩
theorem dX12_safe_34 : bx cX12_safe 34 (.ifCond .ne 8) 8 42 37 := ⟨by decide +kernel, by decide, rfl⟩
theorem dX12_safe_37 : nx cX12_safe 37 (.aload_n 0) 1 38 := ⟨by decide +kernel, rfl⟩
theorem dX12_safe_38 : nx cX12_safe 38 (.invokevirtual 211) 3 41 := ⟨by decide +kernel, rfl⟩
theorem dX12_safe_41 : nx cX12_safe 41 (.lreturn) 1 42 := ⟨by decide +kernel, rfl⟩
theorem dX12_safe_42 : nx cX12_safe 42 (.aload_n 0) 1 43 := ⟨by decide +kernel, rfl⟩
theorem dX12_safe_43 : nx cX12_safe 43 (.iload_n 1) 1 44 := ⟨by decide +kernel, rfl⟩
theorem dX12_safe_44 : nx cX12_safe 44 (.iload_n 2) 1 45 := ⟨by decide +kernel, rfl⟩
theorem dX12_safe_45 : nx cX12_safe 45 (.iload_n 3) 1 46 := ⟨by decide +kernel, rfl⟩
theorem dX12_safe_46 : nx cX12_safe 46 (.iload 4) 2 48 := ⟨by decide +kernel, rfl⟩
theorem dX12_safe_48 : nx cX12_safe 48 (.i2l) 1 49 := ⟨by decide +kernel, rfl⟩
theorem dX12_safe_49 : nx cX12_safe 49 (.invokevirtual 142) 3 52 := ⟨by decide +kernel, rfl⟩
theorem dX12_safe_52 : nx cX12_safe 52 (.istore 6) 2 54 := ⟨by decide +kernel, rfl⟩
theorem dX12_safe_54 : nx cX12_safe 54 (.iload 6) 2 56 := ⟨by decide +kernel, rfl⟩
theorem dX12_safe_56 : bx cX12_safe 56 (.ifCond .ge 7) 7 63 59 := ⟨by decide +kernel, by decide, rfl⟩
theorem dX12_safe_59 : nx cX12_safe 59 (.invokestatic 90) 3 62 := ⟨by decide +kernel, rfl⟩
theorem dX12_safe_62 : nx cX12_safe 62 (.lreturn) 1 63 := ⟨by decide +kernel, rfl⟩
theorem dX12_safe_63 : nx cX12_safe 63 (.aload_n 0) 1 64 := ⟨by decide +kernel, rfl⟩
theorem dX12_safe_64 : nx cX12_safe 64 (.bipush 60) 2 66 := ⟨by decide +kernel, rfl⟩
theorem dX12_safe_66 : nx cX12_safe 66 (.iload_n 1) 1 67 := ⟨by decide +kernel, rfl⟩
theorem dX12_safe_67 : nx cX12_safe 67 (.imul) 1 68 := ⟨by decide +kernel, rfl⟩
theorem dX12_safe_68 : nx cX12_safe 68 (.iload_n 3) 1 69 := ⟨by decide +kernel, rfl⟩
theorem dX12_safe_69 : nx cX12_safe 69 (.iadd) 1 70 := ⟨by decide +kernel, rfl⟩
theorem dX12_safe_70 : nx cX12_safe 70 (.iload 4) 2 72 := ⟨by decide +kernel, rfl⟩
theorem dX12_safe_72 : nx cX12_safe 72 (.invokevirtual 204) 3 75 := ⟨by decide +kernel, rfl⟩
theorem dX12_safe_75 : bx cX12_safe 75 (.ifCond .ge 8) 8 83 78 := ⟨by decide +kernel, by decide, rfl⟩
theorem dX12_safe_78 : nx cX12_safe 78 (.aload_n 0) 1 79 := ⟨by decide +kernel, rfl⟩
theorem dX12_safe_79 : nx cX12_safe 79 (.invokevirtual 211) 3 82 := ⟨by decide +kernel, rfl⟩
theorem dX12_safe_82 : nx cX12_safe 82 (.lreturn) 1 83 := ⟨by decide +kernel, rfl⟩
theorem dX12_safe_83 : nx cX12_safe 83 (.aload_n 0) 1 84 := ⟨by decide +kernel, rfl⟩
theorem dX12_safe_84 : nx cX12_safe 84 (.iconst 0) 1 85 := ⟨by decide +kernel, rfl⟩
theorem dX12_safe_85 : nx cX12_safe 85 (.putfield 86) 3 88 := ⟨by decide +kernel, rfl⟩
theorem dX12_safe_88 : nx cX12_safe 88 (.lconst 1) 1 89 := ⟨by decide +kernel, rfl⟩
theorem dX12_safe_89 : nx cX12_safe 89 (.lstore 7) 2 91 := ⟨by decide +kernel, rfl⟩
theorem dX12_safe_91 : nx cX12_safe 91 (.iconst 0) 1 92 := ⟨by decide +kernel, rfl⟩
theorem dX12_safe_92 : nx cX12_safe 92 (.istore 9) 2 94 := ⟨by decide +kernel, rfl⟩
theorem dX12_safe_94 : nx cX12_safe 94 (.iload 9) 2 96 := ⟨by decide +kernel, rfl⟩
theorem dX12_safe_96 : nx cX12_safe 96 (.iload 4) 2 98 := ⟨by decide +kernel, rfl⟩
theorem dX12_safe_98 : bx cX12_safe 98 (.if_icmp .ge 17) 17 115 101 := ⟨by decide +kernel, by decide, rfl⟩
theorem dX12_safe_101 : nx cX12_safe 101 (.lload 7) 2 103 := ⟨by decide +kernel, rfl⟩
theorem dX12_safe_103 : nx cX12_safe 103 (.ldc2_w 214) 3 106 := ⟨by decide +kernel, rfl⟩
theorem dX12_safe_106 : nx cX12_safe 106 (.lmul) 1 107 := ⟨by decide +kernel, rfl⟩
theorem dX12_safe_107 : nx cX12_safe 107 (.lstore 7) 2 109 := ⟨by decide +kernel, rfl⟩
theorem dX12_safe_109 : nx cX12_safe 109 (.iinc 9 1) 3 112 := ⟨by decide +kernel, rfl⟩
theorem dX12_safe_112 : bx cX12_safe 112 (.goto (-18)) (-18) 94 115 := ⟨by decide +kernel, by decide, rfl⟩
theorem dX12_safe_115 : nx cX12_safe 115 (.aload_n 0) 1 116 := ⟨by decide +kernel, rfl⟩
theorem dX12_safe_116 : nx cX12_safe 116 (.iload 4) 2 118 := ⟨by decide +kernel, rfl⟩
theorem dX12_safe_118 : nx cX12_safe 118 (.invokevirtual 216) 3 121 := ⟨by decide +kernel, rfl⟩
theorem dX12_safe_121 : nx cX12_safe 121 (.lload 7) 2 123 := ⟨by decide +kernel, rfl⟩
theorem dX12_safe_123 : nx cX12_safe 123 (.iload 5) 2 125 := ⟨by decide +kernel, rfl⟩
theorem dX12_safe_125 : nx cX12_safe 125 (.invokestatic 220) 3 128 := ⟨by decide +kernel, rfl⟩
theorem dX12_safe_128 : nx cX12_safe 128 (.lreturn) 1 129 := ⟨by decide +kernel, rfl⟩
theorem dX12_laySoon_0 : nx cX12_laySoon 0 (.iconst 0) 1 1 := ⟨by decide +kernel, rfl⟩
theorem dX12_laySoon_1 : nx cX12_laySoon 1 (.istore_n 2) 1 2 := ⟨by decide +kernel, rfl⟩
theorem dX12_laySoon_2 : nx cX12_laySoon 2 (.iload_n 2) 1 3 := ⟨by decide +kernel, rfl⟩
theorem dX12_laySoon_3 : nx cX12_laySoon 3 (.bipush 7) 2 5 := ⟨by decide +kernel, rfl⟩
theorem dX12_laySoon_5 : bx cX12_laySoon 5 (.if_icmp .ge 26) 26 31 8 := ⟨by decide +kernel, by decide, rfl⟩
theorem dX12_laySoon_8 : nx cX12_laySoon 8 (.aload_n 0) 1 9 := ⟨by decide +kernel, rfl⟩
theorem dX12_laySoon_9 : nx cX12_laySoon 9 (.getfield 49) 3 12 := ⟨by decide +kernel, rfl⟩
theorem dX12_laySoon_12 : nx cX12_laySoon 12 (.iload_n 2) 1 13 := ⟨by decide +kernel, rfl⟩
theorem dX12_laySoon_13 : nx cX12_laySoon 13 (.iload_n 2) 1 14 := ⟨by decide +kernel, rfl⟩
theorem dX12_laySoon_14 : nx cX12_laySoon 14 (.iload_n 1) 1 15 := ⟨by decide +kernel, rfl⟩
theorem dX12_laySoon_15 : bx cX12_laySoon 15 (.if_icmp .ne 7) 7 22 18 := ⟨by decide +kernel, by decide, rfl⟩
theorem dX12_laySoon_18 : nx cX12_laySoon 18 (.iconst 0) 1 19 := ⟨by decide +kernel, rfl⟩
theorem dX12_laySoon_19 : bx cX12_laySoon 19 (.goto 5) 5 24 22 := ⟨by decide +kernel, by decide, rfl⟩
theorem dX12_laySoon_22 : nx cX12_laySoon 22 (.ldc 224) 2 24 := ⟨by decide +kernel, rfl⟩
theorem dX12_laySoon_24 : nx cX12_laySoon 24 (.iastore) 1 25 := ⟨by decide +kernel, rfl⟩
theorem dX12_laySoon_25 : nx cX12_laySoon 25 (.iinc 2 1) 3 28 := ⟨by decide +kernel, rfl⟩
theorem dX12_laySoon_28 : bx cX12_laySoon 28 (.goto (-26)) (-26) 2 31 := ⟨by decide +kernel, by decide, rfl⟩
theorem dX12_laySoon_31 : nx cX12_laySoon 31 (.iconst 0) 1 32 := ⟨by decide +kernel, rfl⟩
theorem dX12_laySoon_32 : nx cX12_laySoon 32 (.istore_n 2) 1 33 := ⟨by decide +kernel, rfl⟩
theorem dX12_laySoon_33 : nx cX12_laySoon 33 (.iload_n 2) 1 34 := ⟨by decide +kernel, rfl⟩
theorem dX12_laySoon_34 : nx cX12_laySoon 34 (.aload_n 0) 1 35 := ⟨by decide +kernel, rfl⟩
theorem dX12_laySoon_35 : nx cX12_laySoon 35 (.getfield 94) 3 38 := ⟨by decide +kernel, rfl⟩
theorem dX12_laySoon_38 : bx cX12_laySoon 38 (.if_icmp .ge 160) 160 198 41 := ⟨by decide +kernel, by decide, rfl⟩
theorem dX12_laySoon_41 : nx cX12_laySoon 41 (.iconst 0) 1 42 := ⟨by decide +kernel, rfl⟩
theorem dX12_laySoon_42 : nx cX12_laySoon 42 (.istore_n 3) 1 43 := ⟨by decide +kernel, rfl⟩
theorem dX12_laySoon_43 : nx cX12_laySoon 43 (.iload_n 3) 1 44 := ⟨by decide +kernel, rfl⟩
theorem dX12_laySoon_44 : nx cX12_laySoon 44 (.aload_n 0) 1 45 := ⟨by decide +kernel, rfl⟩
theorem dX12_laySoon_45 : nx cX12_laySoon 45 (.getfield 101) 3 48 := ⟨by decide +kernel, rfl⟩
theorem dX12_laySoon_48 : bx cX12_laySoon 48 (.if_icmp .ge 144) 144 192 51 := ⟨by decide +kernel, by decide, rfl⟩
theorem dX12_laySoon_51 : nx cX12_laySoon 51 (.aload_n 0) 1 52 := ⟨by decide +kernel, rfl⟩
theorem dX12_laySoon_52 : nx cX12_laySoon 52 (.getfield 158) 3 55 := ⟨by decide +kernel, rfl⟩
theorem dX12_laySoon_55 : nx cX12_laySoon 55 (.iload_n 3) 1 56 := ⟨by decide +kernel, rfl⟩
theorem dX12_laySoon_56 : nx cX12_laySoon 56 (.invokestatic 173) 3 59 := ⟨by decide +kernel, rfl⟩
theorem dX12_laySoon_59 : bx cX12_laySoon 59 (.ifCond .ne 127) 127 186 62 := ⟨by decide +kernel, by decide, rfl⟩
theorem dX12_laySoon_62 : nx cX12_laySoon 62 (.aload_n 0) 1 63 := ⟨by decide +kernel, rfl⟩
theorem dX12_laySoon_63 : nx cX12_laySoon 63 (.getfield 49) 3 66 := ⟨by decide +kernel, rfl⟩
theorem dX12_laySoon_66 : nx cX12_laySoon 66 (.aload_n 0) 1 67 := ⟨by decide +kernel, rfl⟩
theorem dX12_laySoon_67 : nx cX12_laySoon 67 (.getfield 13) 3 70 := ⟨by decide +kernel, rfl⟩
theorem dX12_laySoon_70 : nx cX12_laySoon 70 (.iload_n 3) 1 71 := ⟨by decide +kernel, rfl⟩
theorem dX12_laySoon_71 : nx cX12_laySoon 71 (.iaload) 1 72 := ⟨by decide +kernel, rfl⟩
theorem dX12_laySoon_72 : nx cX12_laySoon 72 (.iaload) 1 73 := ⟨by decide +kernel, rfl⟩
theorem dX12_laySoon_73 : nx cX12_laySoon 73 (.aload_n 0) 1 74 := ⟨by decide +kernel, rfl⟩
theorem dX12_laySoon_74 : nx cX12_laySoon 74 (.iload_n 3) 1 75 := ⟨by decide +kernel, rfl⟩
theorem dX12_laySoon_75 : nx cX12_laySoon 75 (.invokevirtual 170) 3 78 := ⟨by decide +kernel, rfl⟩
theorem dX12_laySoon_78 : nx cX12_laySoon 78 (.iadd) 1 79 := ⟨by decide +kernel, rfl⟩
theorem dX12_laySoon_79 : nx cX12_laySoon 79 (.istore 4) 2 81 := ⟨by decide +kernel, rfl⟩
theorem dX12_laySoon_81 : nx cX12_laySoon 81 (.aload_n 0) 1 82 := ⟨by decide +kernel, rfl⟩
theorem dX12_laySoon_82 : nx cX12_laySoon 82 (.getfield 49) 3 85 := ⟨by decide +kernel, rfl⟩
theorem dX12_laySoon_85 : nx cX12_laySoon 85 (.aload_n 0) 1 86 := ⟨by decide +kernel, rfl⟩
theorem dX12_laySoon_86 : nx cX12_laySoon 86 (.getfield 16) 3 89 := ⟨by decide +kernel, rfl⟩
theorem dX12_laySoon_89 : nx cX12_laySoon 89 (.iload_n 3) 1 90 := ⟨by decide +kernel, rfl⟩
theorem dX12_laySoon_90 : nx cX12_laySoon 90 (.iaload) 1 91 := ⟨by decide +kernel, rfl⟩
theorem dX12_laySoon_91 : nx cX12_laySoon 91 (.iaload) 1 92 := ⟨by decide +kernel, rfl⟩
theorem dX12_laySoon_92 : nx cX12_laySoon 92 (.aload_n 0) 1 93 := ⟨by decide +kernel, rfl⟩
theorem dX12_laySoon_93 : nx cX12_laySoon 93 (.iload_n 3) 1 94 := ⟨by decide +kernel, rfl⟩
theorem dX12_laySoon_94 : nx cX12_laySoon 94 (.invokevirtual 170) 3 97 := ⟨by decide +kernel, rfl⟩
theorem dX12_laySoon_97 : nx cX12_laySoon 97 (.iadd) 1 98 := ⟨by decide +kernel, rfl⟩
theorem dX12_laySoon_98 : nx cX12_laySoon 98 (.istore 5) 2 100 := ⟨by decide +kernel, rfl⟩
theorem dX12_laySoon_100 : nx cX12_laySoon 100 (.aload_n 0) 1 101 := ⟨by decide +kernel, rfl⟩
theorem dX12_laySoon_101 : nx cX12_laySoon 101 (.getfield 49) 3 104 := ⟨by decide +kernel, rfl⟩
theorem dX12_laySoon_104 : nx cX12_laySoon 104 (.aload_n 0) 1 105 := ⟨by decide +kernel, rfl⟩
theorem dX12_laySoon_105 : nx cX12_laySoon 105 (.getfield 16) 3 108 := ⟨by decide +kernel, rfl⟩
theorem dX12_laySoon_108 : nx cX12_laySoon 108 (.iload_n 3) 1 109 := ⟨by decide +kernel, rfl⟩
theorem dX12_laySoon_109 : nx cX12_laySoon 109 (.iaload) 1 110 := ⟨by decide +kernel, rfl⟩
theorem dX12_laySoon_110 : nx cX12_laySoon 110 (.iload 4) 2 112 := ⟨by decide +kernel, rfl⟩
theorem dX12_laySoon_112 : nx cX12_laySoon 112 (.aload_n 0) 1 113 := ⟨by decide +kernel, rfl⟩
theorem dX12_laySoon_113 : nx cX12_laySoon 113 (.getfield 49) 3 116 := ⟨by decide +kernel, rfl⟩
theorem dX12_laySoon_116 : nx cX12_laySoon 116 (.aload_n 0) 1 117 := ⟨by decide +kernel, rfl⟩
theorem dX12_laySoon_117 : nx cX12_laySoon 117 (.getfield 16) 3 120 := ⟨by decide +kernel, rfl⟩
theorem dX12_laySoon_120 : nx cX12_laySoon 120 (.iload_n 3) 1 121 := ⟨by decide +kernel, rfl⟩
theorem dX12_laySoon_121 : nx cX12_laySoon 121 (.iaload) 1 122 := ⟨by decide +kernel, rfl⟩
theorem dX12_laySoon_122 : nx cX12_laySoon 122 (.iaload) 1 123 := ⟨by decide +kernel, rfl⟩
theorem dX12_laySoon_123 : bx cX12_laySoon 123 (.if_icmp .ge 8) 8 131 126 := ⟨by decide +kernel, by decide, rfl⟩
theorem dX12_laySoon_126 : nx cX12_laySoon 126 (.iload 4) 2 128 := ⟨by decide +kernel, rfl⟩
theorem dX12_laySoon_128 : bx cX12_laySoon 128 (.goto 14) 14 142 131 := ⟨by decide +kernel, by decide, rfl⟩
theorem dX12_laySoon_131 : nx cX12_laySoon 131 (.aload_n 0) 1 132 := ⟨by decide +kernel, rfl⟩
theorem dX12_laySoon_132 : nx cX12_laySoon 132 (.getfield 49) 3 135 := ⟨by decide +kernel, rfl⟩
theorem dX12_laySoon_135 : nx cX12_laySoon 135 (.aload_n 0) 1 136 := ⟨by decide +kernel, rfl⟩
theorem dX12_laySoon_136 : nx cX12_laySoon 136 (.getfield 16) 3 139 := ⟨by decide +kernel, rfl⟩
theorem dX12_laySoon_139 : nx cX12_laySoon 139 (.iload_n 3) 1 140 := ⟨by decide +kernel, rfl⟩
theorem dX12_laySoon_140 : nx cX12_laySoon 140 (.iaload) 1 141 := ⟨by decide +kernel, rfl⟩
theorem dX12_laySoon_141 : nx cX12_laySoon 141 (.iaload) 1 142 := ⟨by decide +kernel, rfl⟩
theorem dX12_laySoon_142 : nx cX12_laySoon 142 (.iastore) 1 143 := ⟨by decide +kernel, rfl⟩
theorem dX12_laySoon_143 : nx cX12_laySoon 143 (.aload_n 0) 1 144 := ⟨by decide +kernel, rfl⟩
theorem dX12_laySoon_144 : nx cX12_laySoon 144 (.getfield 49) 3 147 := ⟨by decide +kernel, rfl⟩
theorem dX12_laySoon_147 : nx cX12_laySoon 147 (.aload_n 0) 1 148 := ⟨by decide +kernel, rfl⟩
theorem dX12_laySoon_148 : nx cX12_laySoon 148 (.getfield 13) 3 151 := ⟨by decide +kernel, rfl⟩
theorem dX12_laySoon_151 : nx cX12_laySoon 151 (.iload_n 3) 1 152 := ⟨by decide +kernel, rfl⟩
theorem dX12_laySoon_152 : nx cX12_laySoon 152 (.iaload) 1 153 := ⟨by decide +kernel, rfl⟩
theorem dX12_laySoon_153 : nx cX12_laySoon 153 (.iload 5) 2 155 := ⟨by decide +kernel, rfl⟩
theorem dX12_laySoon_155 : nx cX12_laySoon 155 (.aload_n 0) 1 156 := ⟨by decide +kernel, rfl⟩
theorem dX12_laySoon_156 : nx cX12_laySoon 156 (.getfield 49) 3 159 := ⟨by decide +kernel, rfl⟩
theorem dX12_laySoon_159 : nx cX12_laySoon 159 (.aload_n 0) 1 160 := ⟨by decide +kernel, rfl⟩
theorem dX12_laySoon_160 : nx cX12_laySoon 160 (.getfield 13) 3 163 := ⟨by decide +kernel, rfl⟩
theorem dX12_laySoon_163 : nx cX12_laySoon 163 (.iload_n 3) 1 164 := ⟨by decide +kernel, rfl⟩
theorem dX12_laySoon_164 : nx cX12_laySoon 164 (.iaload) 1 165 := ⟨by decide +kernel, rfl⟩
theorem dX12_laySoon_165 : nx cX12_laySoon 165 (.iaload) 1 166 := ⟨by decide +kernel, rfl⟩
theorem dX12_laySoon_166 : bx cX12_laySoon 166 (.if_icmp .ge 8) 8 174 169 := ⟨by decide +kernel, by decide, rfl⟩
theorem dX12_laySoon_169 : nx cX12_laySoon 169 (.iload 5) 2 171 := ⟨by decide +kernel, rfl⟩
theorem dX12_laySoon_171 : bx cX12_laySoon 171 (.goto 14) 14 185 174 := ⟨by decide +kernel, by decide, rfl⟩
theorem dX12_laySoon_174 : nx cX12_laySoon 174 (.aload_n 0) 1 175 := ⟨by decide +kernel, rfl⟩
theorem dX12_laySoon_175 : nx cX12_laySoon 175 (.getfield 49) 3 178 := ⟨by decide +kernel, rfl⟩
theorem dX12_laySoon_178 : nx cX12_laySoon 178 (.aload_n 0) 1 179 := ⟨by decide +kernel, rfl⟩
theorem dX12_laySoon_179 : nx cX12_laySoon 179 (.getfield 13) 3 182 := ⟨by decide +kernel, rfl⟩
theorem dX12_laySoon_182 : nx cX12_laySoon 182 (.iload_n 3) 1 183 := ⟨by decide +kernel, rfl⟩
theorem dX12_laySoon_183 : nx cX12_laySoon 183 (.iaload) 1 184 := ⟨by decide +kernel, rfl⟩
theorem dX12_laySoon_184 : nx cX12_laySoon 184 (.iaload) 1 185 := ⟨by decide +kernel, rfl⟩
theorem dX12_laySoon_185 : nx cX12_laySoon 185 (.iastore) 1 186 := ⟨by decide +kernel, rfl⟩
theorem dX12_laySoon_186 : nx cX12_laySoon 186 (.iinc 3 1) 3 189 := ⟨by decide +kernel, rfl⟩
theorem dX12_laySoon_189 : bx cX12_laySoon 189 (.goto (-146)) (-146) 43 192 := ⟨by decide +kernel, by decide, rfl⟩
theorem dX12_laySoon_192 : nx cX12_laySoon 192 (.iinc 2 1) 3 195 := ⟨by decide +kernel, rfl⟩
theorem dX12_laySoon_195 : bx cX12_laySoon 195 (.goto (-162)) (-162) 33 198 := ⟨by decide +kernel, by decide, rfl⟩
theorem dX12_laySoon_198 : nx cX12_laySoon 198 (.return_) 1 199 := ⟨by decide +kernel, rfl⟩
theorem dX12_quickest_0 : nx cX12_quickest 0 (.aload_n 0) 1 1 := ⟨by decide +kernel, rfl⟩
theorem dX12_quickest_1 : nx cX12_quickest 1 (.iload_n 1) 1 2 := ⟨by decide +kernel, rfl⟩
theorem dX12_quickest_2 : nx cX12_quickest 2 (.invokevirtual 178) 3 5 := ⟨by decide +kernel, rfl⟩
theorem dX12_quickest_5 : bx cX12_quickest 5 (.ifCond .eq 5) 5 10 8 := ⟨by decide +kernel, by decide, rfl⟩
theorem dX12_quickest_8 : nx cX12_quickest 8 (.iconst (-1)) 1 9 := ⟨by decide +kernel, rfl⟩
theorem dX12_quickest_9 : nx cX12_quickest 9 (.ireturn) 1 10 := ⟨by decide +kernel, rfl⟩
theorem dX12_quickest_10 : nx cX12_quickest 10 (.aload_n 0) 1 11 := ⟨by decide +kernel, rfl⟩
theorem dX12_quickest_11 : nx cX12_quickest 11 (.iconst 0) 1 12 := ⟨by decide +kernel, rfl⟩
theorem dX12_quickest_12 : nx cX12_quickest 12 (.invokevirtual 225) 3 15 := ⟨by decide +kernel, rfl⟩
theorem dX12_quickest_15 : nx cX12_quickest 15 (.aload_n 0) 1 16 := ⟨by decide +kernel, rfl⟩
theorem dX12_quickest_16 : nx cX12_quickest 16 (.getfield 49) 3 19 := ⟨by decide +kernel, rfl⟩
theorem dX12_quickest_19 : nx cX12_quickest 19 (.iload_n 1) 1 20 := ⟨by decide +kernel, rfl⟩
theorem dX12_quickest_20 : nx cX12_quickest 20 (.iaload) 1 21 := ⟨by decide +kernel, rfl⟩
theorem dX12_quickest_21 : nx cX12_quickest 21 (.ldc 224) 2 23 := ⟨by decide +kernel, rfl⟩
theorem dX12_quickest_23 : bx cX12_quickest 23 (.if_icmp .ge 12) 12 35 26 := ⟨by decide +kernel, by decide, rfl⟩
theorem dX12_quickest_26 : nx cX12_quickest 26 (.aload_n 0) 1 27 := ⟨by decide +kernel, rfl⟩
theorem dX12_quickest_27 : nx cX12_quickest 27 (.getfield 49) 3 30 := ⟨by decide +kernel, rfl⟩
theorem dX12_quickest_30 : nx cX12_quickest 30 (.iload_n 1) 1 31 := ⟨by decide +kernel, rfl⟩
theorem dX12_quickest_31 : nx cX12_quickest 31 (.iaload) 1 32 := ⟨by decide +kernel, rfl⟩
theorem dX12_quickest_32 : bx cX12_quickest 32 (.goto 5) 5 37 35 := ⟨by decide +kernel, by decide, rfl⟩
theorem dX12_quickest_35 : nx cX12_quickest 35 (.bipush (-9)) 2 37 := ⟨by decide +kernel, rfl⟩
theorem dX12_quickest_37 : nx cX12_quickest 37 (.ireturn) 1 38 := ⟨by decide +kernel, rfl⟩
theorem dX12_via_0 : nx cX12_via 0 (.aload_n 0) 1 1 := ⟨by decide +kernel, rfl⟩
theorem dX12_via_1 : nx cX12_via 1 (.iload_n 1) 1 2 := ⟨by decide +kernel, rfl⟩
theorem dX12_via_2 : nx cX12_via 2 (.invokevirtual 178) 3 5 := ⟨by decide +kernel, rfl⟩
theorem dX12_via_5 : bx cX12_via 5 (.ifCond .eq 5) 5 10 8 := ⟨by decide +kernel, by decide, rfl⟩
theorem dX12_via_8 : nx cX12_via 8 (.iconst (-1)) 1 9 := ⟨by decide +kernel, rfl⟩
theorem dX12_via_9 : nx cX12_via 9 (.ireturn) 1 10 := ⟨by decide +kernel, rfl⟩
theorem dX12_via_10 : nx cX12_via 10 (.aload_n 0) 1 11 := ⟨by decide +kernel, rfl⟩
theorem dX12_via_11 : nx cX12_via 11 (.iload_n 1) 1 12 := ⟨by decide +kernel, rfl⟩
theorem dX12_via_12 : nx cX12_via 12 (.invokevirtual 225) 3 15 := ⟨by decide +kernel, rfl⟩
theorem dX12_via_15 : nx cX12_via 15 (.aload_n 0) 1 16 := ⟨by decide +kernel, rfl⟩
theorem dX12_via_16 : nx cX12_via 16 (.getfield 49) 3 19 := ⟨by decide +kernel, rfl⟩
theorem dX12_via_19 : nx cX12_via 19 (.iconst 0) 1 20 := ⟨by decide +kernel, rfl⟩
theorem dX12_via_20 : nx cX12_via 20 (.iaload) 1 21 := ⟨by decide +kernel, rfl⟩
theorem dX12_via_21 : nx cX12_via 21 (.ldc 224) 2 23 := ⟨by decide +kernel, rfl⟩
theorem dX12_via_23 : bx cX12_via 23 (.if_icmp .ge 40) 40 63 26 := ⟨by decide +kernel, by decide, rfl⟩
theorem dX12_via_26 : nx cX12_via 26 (.aload_n 0) 1 27 := ⟨by decide +kernel, rfl⟩
theorem dX12_via_27 : nx cX12_via 27 (.getfield 49) 3 30 := ⟨by decide +kernel, rfl⟩
theorem dX12_via_30 : nx cX12_via 30 (.aload_n 0) 1 31 := ⟨by decide +kernel, rfl⟩
theorem dX12_via_31 : nx cX12_via 31 (.getfield 94) 3 34 := ⟨by decide +kernel, rfl⟩
theorem dX12_via_34 : nx cX12_via 34 (.iconst 1) 1 35 := ⟨by decide +kernel, rfl⟩
theorem dX12_via_35 : nx cX12_via 35 (.isub) 1 36 := ⟨by decide +kernel, rfl⟩
theorem dX12_via_36 : nx cX12_via 36 (.iaload) 1 37 := ⟨by decide +kernel, rfl⟩
theorem dX12_via_37 : nx cX12_via 37 (.ldc 224) 2 39 := ⟨by decide +kernel, rfl⟩
theorem dX12_via_39 : bx cX12_via 39 (.if_icmp .ge 24) 24 63 42 := ⟨by decide +kernel, by decide, rfl⟩
theorem dX12_via_42 : nx cX12_via 42 (.aload_n 0) 1 43 := ⟨by decide +kernel, rfl⟩
theorem dX12_via_43 : nx cX12_via 43 (.getfield 49) 3 46 := ⟨by decide +kernel, rfl⟩
theorem dX12_via_46 : nx cX12_via 46 (.iconst 0) 1 47 := ⟨by decide +kernel, rfl⟩
theorem dX12_via_47 : nx cX12_via 47 (.iaload) 1 48 := ⟨by decide +kernel, rfl⟩
theorem dX12_via_48 : nx cX12_via 48 (.aload_n 0) 1 49 := ⟨by decide +kernel, rfl⟩
theorem dX12_via_49 : nx cX12_via 49 (.getfield 49) 3 52 := ⟨by decide +kernel, rfl⟩
theorem dX12_via_52 : nx cX12_via 52 (.aload_n 0) 1 53 := ⟨by decide +kernel, rfl⟩
theorem dX12_via_53 : nx cX12_via 53 (.getfield 94) 3 56 := ⟨by decide +kernel, rfl⟩
theorem dX12_via_56 : nx cX12_via 56 (.iconst 1) 1 57 := ⟨by decide +kernel, rfl⟩
theorem dX12_via_57 : nx cX12_via 57 (.isub) 1 58 := ⟨by decide +kernel, rfl⟩
theorem dX12_via_58 : nx cX12_via 58 (.iaload) 1 59 := ⟨by decide +kernel, rfl⟩
theorem dX12_via_59 : nx cX12_via 59 (.iadd) 1 60 := ⟨by decide +kernel, rfl⟩
theorem dX12_via_60 : bx cX12_via 60 (.goto 5) 5 65 63 := ⟨by decide +kernel, by decide, rfl⟩
theorem dX12_via_63 : nx cX12_via 63 (.bipush (-9)) 2 65 := ⟨by decide +kernel, rfl⟩
theorem dX12_via_65 : nx cX12_via 65 (.ireturn) 1 66 := ⟨by decide +kernel, rfl⟩
theorem dX12_beginRows_0 : nx cX12_beginRows 0 (.aload_n 0) 1 1 := ⟨by decide +kernel, rfl⟩
theorem dX12_beginRows_1 : nx cX12_beginRows 1 (.iconst 0) 1 2 := ⟨by decide +kernel, rfl⟩
theorem dX12_beginRows_2 : nx cX12_beginRows 2 (.putfield 229) 3 5 := ⟨by decide +kernel, rfl⟩
theorem dX12_beginRows_5 : nx cX12_beginRows 5 (.aload_n 0) 1 6 := ⟨by decide +kernel, rfl⟩
theorem dX12_beginRows_6 : nx cX12_beginRows 6 (.getfield 46) 3 9 := ⟨by decide +kernel, rfl⟩
theorem dX12_beginRows_9 : nx cX12_beginRows 9 (.iconst 0) 1 10 := ⟨by decide +kernel, rfl⟩
theorem dX12_beginRows_10 : nx cX12_beginRows 10 (.iconst (-1)) 1 11 := ⟨by decide +kernel, rfl⟩
theorem dX12_beginRows_11 : nx cX12_beginRows 11 (.iastore) 1 12 := ⟨by decide +kernel, rfl⟩
theorem dX12_beginRows_12 : nx cX12_beginRows 12 (.aload_n 0) 1 13 := ⟨by decide +kernel, rfl⟩
theorem dX12_beginRows_13 : nx cX12_beginRows 13 (.getfield 52) 3 16 := ⟨by decide +kernel, rfl⟩
theorem dX12_beginRows_16 : nx cX12_beginRows 16 (.iconst 0) 1 17 := ⟨by decide +kernel, rfl⟩
theorem dX12_beginRows_17 : nx cX12_beginRows 17 (.iconst 0) 1 18 := ⟨by decide +kernel, rfl⟩
theorem dX12_beginRows_18 : nx cX12_beginRows 18 (.iastore) 1 19 := ⟨by decide +kernel, rfl⟩
theorem dX12_beginRows_19 : nx cX12_beginRows 19 (.return_) 1 20 := ⟨by decide +kernel, rfl⟩
theorem dX12_nextRow_0 : nx cX12_nextRow 0 (.aload_n 0) 1 1 := ⟨by decide +kernel, rfl⟩
theorem dX12_nextRow_1 : nx cX12_nextRow 1 (.getfield 229) 3 4 := ⟨by decide +kernel, rfl⟩
theorem dX12_nextRow_4 : bx cX12_nextRow 4 (.ifCond .lt 131) 131 135 7 := ⟨by decide +kernel, by decide, rfl⟩
theorem dX12_nextRow_7 : nx cX12_nextRow 7 (.aload_n 0) 1 8 := ⟨by decide +kernel, rfl⟩
theorem dX12_nextRow_8 : nx cX12_nextRow 8 (.getfield 46) 3 11 := ⟨by decide +kernel, rfl⟩
theorem dX12_nextRow_11 : nx cX12_nextRow 11 (.aload_n 0) 1 12 := ⟨by decide +kernel, rfl⟩
theorem dX12_nextRow_12 : nx cX12_nextRow 12 (.getfield 229) 3 15 := ⟨by decide +kernel, rfl⟩
theorem dX12_nextRow_15 : nx cX12_nextRow 15 (.dup2) 1 16 := ⟨by decide +kernel, rfl⟩
theorem dX12_nextRow_16 : nx cX12_nextRow 16 (.iaload) 1 17 := ⟨by decide +kernel, rfl⟩
theorem dX12_nextRow_17 : nx cX12_nextRow 17 (.iconst 1) 1 18 := ⟨by decide +kernel, rfl⟩
theorem dX12_nextRow_18 : nx cX12_nextRow 18 (.iadd) 1 19 := ⟨by decide +kernel, rfl⟩
theorem dX12_nextRow_19 : nx cX12_nextRow 19 (.iastore) 1 20 := ⟨by decide +kernel, rfl⟩
theorem dX12_nextRow_20 : nx cX12_nextRow 20 (.aload_n 0) 1 21 := ⟨by decide +kernel, rfl⟩
theorem dX12_nextRow_21 : nx cX12_nextRow 21 (.getfield 46) 3 24 := ⟨by decide +kernel, rfl⟩
theorem dX12_nextRow_24 : nx cX12_nextRow 24 (.aload_n 0) 1 25 := ⟨by decide +kernel, rfl⟩
theorem dX12_nextRow_25 : nx cX12_nextRow 25 (.getfield 229) 3 28 := ⟨by decide +kernel, rfl⟩
theorem dX12_nextRow_28 : nx cX12_nextRow 28 (.iaload) 1 29 := ⟨by decide +kernel, rfl⟩
theorem dX12_nextRow_29 : nx cX12_nextRow 29 (.aload_n 0) 1 30 := ⟨by decide +kernel, rfl⟩
theorem dX12_nextRow_30 : nx cX12_nextRow 30 (.getfield 101) 3 33 := ⟨by decide +kernel, rfl⟩
theorem dX12_nextRow_33 : bx cX12_nextRow 33 (.if_icmp .ne 16) 16 49 36 := ⟨by decide +kernel, by decide, rfl⟩
theorem dX12_nextRow_36 : nx cX12_nextRow 36 (.aload_n 0) 1 37 := ⟨by decide +kernel, rfl⟩
theorem dX12_nextRow_37 : nx cX12_nextRow 37 (.dup) 1 38 := ⟨by decide +kernel, rfl⟩
theorem dX12_nextRow_38 : nx cX12_nextRow 38 (.getfield 229) 3 41 := ⟨by decide +kernel, rfl⟩
theorem dX12_nextRow_41 : nx cX12_nextRow 41 (.iconst 1) 1 42 := ⟨by decide +kernel, rfl⟩
theorem dX12_nextRow_42 : nx cX12_nextRow 42 (.isub) 1 43 := ⟨by decide +kernel, rfl⟩
theorem dX12_nextRow_43 : nx cX12_nextRow 43 (.putfield 229) 3 46 := ⟨by decide +kernel, rfl⟩
theorem dX12_nextRow_46 : bx cX12_nextRow 46 (.goto (-46)) (-46) 0 49 := ⟨by decide +kernel, by decide, rfl⟩
theorem dX12_nextRow_49 : nx cX12_nextRow 49 (.aload_n 0) 1 50 := ⟨by decide +kernel, rfl⟩
theorem dX12_nextRow_50 : nx cX12_nextRow 50 (.aload_n 0) 1 51 := ⟨by decide +kernel, rfl⟩
theorem dX12_nextRow_51 : nx cX12_nextRow 51 (.getfield 46) 3 54 := ⟨by decide +kernel, rfl⟩
theorem dX12_nextRow_54 : nx cX12_nextRow 54 (.aload_n 0) 1 55 := ⟨by decide +kernel, rfl⟩
theorem dX12_nextRow_55 : nx cX12_nextRow 55 (.getfield 229) 3 58 := ⟨by decide +kernel, rfl⟩
theorem dX12_nextRow_58 : nx cX12_nextRow 58 (.iaload) 1 59 := ⟨by decide +kernel, rfl⟩
theorem dX12_nextRow_59 : nx cX12_nextRow 59 (.aload_n 0) 1 60 := ⟨by decide +kernel, rfl⟩
theorem dX12_nextRow_60 : nx cX12_nextRow 60 (.getfield 52) 3 63 := ⟨by decide +kernel, rfl⟩
theorem dX12_nextRow_63 : nx cX12_nextRow 63 (.aload_n 0) 1 64 := ⟨by decide +kernel, rfl⟩
theorem dX12_nextRow_64 : nx cX12_nextRow 64 (.getfield 229) 3 67 := ⟨by decide +kernel, rfl⟩
theorem dX12_nextRow_67 : nx cX12_nextRow 67 (.iaload) 1 68 := ⟨by decide +kernel, rfl⟩
theorem dX12_nextRow_68 : nx cX12_nextRow 68 (.invokevirtual 196) 3 71 := ⟨by decide +kernel, rfl⟩
theorem dX12_nextRow_71 : nx cX12_nextRow 71 (.istore_n 2) 1 72 := ⟨by decide +kernel, rfl⟩
theorem dX12_nextRow_72 : nx cX12_nextRow 72 (.iload_n 2) 1 73 := ⟨by decide +kernel, rfl⟩
theorem dX12_nextRow_73 : bx cX12_nextRow 73 (.ifCond .lt 25) 25 98 76 := ⟨by decide +kernel, by decide, rfl⟩
theorem dX12_nextRow_76 : nx cX12_nextRow 76 (.aload_n 0) 1 77 := ⟨by decide +kernel, rfl⟩
theorem dX12_nextRow_77 : nx cX12_nextRow 77 (.getfield 229) 3 80 := ⟨by decide +kernel, rfl⟩
theorem dX12_nextRow_80 : nx cX12_nextRow 80 (.iload_n 1) 1 81 := ⟨by decide +kernel, rfl⟩
theorem dX12_nextRow_81 : nx cX12_nextRow 81 (.iconst 1) 1 82 := ⟨by decide +kernel, rfl⟩
theorem dX12_nextRow_82 : nx cX12_nextRow 82 (.isub) 1 83 := ⟨by decide +kernel, rfl⟩
theorem dX12_nextRow_83 : bx cX12_nextRow 83 (.if_icmp .ne 15) 15 98 86 := ⟨by decide +kernel, by decide, rfl⟩
theorem dX12_nextRow_86 : nx cX12_nextRow 86 (.iload_n 2) 1 87 := ⟨by decide +kernel, rfl⟩
theorem dX12_nextRow_87 : nx cX12_nextRow 87 (.aload_n 0) 1 88 := ⟨by decide +kernel, rfl⟩
theorem dX12_nextRow_88 : nx cX12_nextRow 88 (.getfield 94) 3 91 := ⟨by decide +kernel, rfl⟩
theorem dX12_nextRow_91 : nx cX12_nextRow 91 (.iconst 1) 1 92 := ⟨by decide +kernel, rfl⟩
theorem dX12_nextRow_92 : nx cX12_nextRow 92 (.isub) 1 93 := ⟨by decide +kernel, rfl⟩
theorem dX12_nextRow_93 : bx cX12_nextRow 93 (.if_icmp .ne 39) 39 132 96 := ⟨by decide +kernel, by decide, rfl⟩
theorem dX12_nextRow_96 : nx cX12_nextRow 96 (.iconst 1) 1 97 := ⟨by decide +kernel, rfl⟩
theorem dX12_nextRow_97 : nx cX12_nextRow 97 (.ireturn) 1 98 := ⟨by decide +kernel, rfl⟩
theorem dX12_nextRow_98 : nx cX12_nextRow 98 (.iload_n 2) 1 99 := ⟨by decide +kernel, rfl⟩
theorem dX12_nextRow_99 : bx cX12_nextRow 99 (.ifCond .lt 33) 33 132 102 := ⟨by decide +kernel, by decide, rfl⟩
theorem dX12_nextRow_102 : nx cX12_nextRow 102 (.aload_n 0) 1 103 := ⟨by decide +kernel, rfl⟩
theorem dX12_nextRow_103 : nx cX12_nextRow 103 (.dup) 1 104 := ⟨by decide +kernel, rfl⟩
theorem dX12_nextRow_104 : nx cX12_nextRow 104 (.getfield 229) 3 107 := ⟨by decide +kernel, rfl⟩
theorem dX12_nextRow_107 : nx cX12_nextRow 107 (.iconst 1) 1 108 := ⟨by decide +kernel, rfl⟩
theorem dX12_nextRow_108 : nx cX12_nextRow 108 (.iadd) 1 109 := ⟨by decide +kernel, rfl⟩
theorem dX12_nextRow_109 : nx cX12_nextRow 109 (.putfield 229) 3 112 := ⟨by decide +kernel, rfl⟩
theorem dX12_nextRow_112 : nx cX12_nextRow 112 (.aload_n 0) 1 113 := ⟨by decide +kernel, rfl⟩
theorem dX12_nextRow_113 : nx cX12_nextRow 113 (.getfield 52) 3 116 := ⟨by decide +kernel, rfl⟩
theorem dX12_nextRow_116 : nx cX12_nextRow 116 (.aload_n 0) 1 117 := ⟨by decide +kernel, rfl⟩
theorem dX12_nextRow_117 : nx cX12_nextRow 117 (.getfield 229) 3 120 := ⟨by decide +kernel, rfl⟩
theorem dX12_nextRow_120 : nx cX12_nextRow 120 (.iload_n 2) 1 121 := ⟨by decide +kernel, rfl⟩
theorem dX12_nextRow_121 : nx cX12_nextRow 121 (.iastore) 1 122 := ⟨by decide +kernel, rfl⟩
theorem dX12_nextRow_122 : nx cX12_nextRow 122 (.aload_n 0) 1 123 := ⟨by decide +kernel, rfl⟩
theorem dX12_nextRow_123 : nx cX12_nextRow 123 (.getfield 46) 3 126 := ⟨by decide +kernel, rfl⟩
theorem dX12_nextRow_126 : nx cX12_nextRow 126 (.aload_n 0) 1 127 := ⟨by decide +kernel, rfl⟩
theorem dX12_nextRow_127 : nx cX12_nextRow 127 (.getfield 229) 3 130 := ⟨by decide +kernel, rfl⟩
theorem dX12_nextRow_130 : nx cX12_nextRow 130 (.iconst (-1)) 1 131 := ⟨by decide +kernel, rfl⟩
theorem dX12_nextRow_131 : nx cX12_nextRow 131 (.iastore) 1 132 := ⟨by decide +kernel, rfl⟩
theorem dX12_nextRow_132 : bx cX12_nextRow 132 (.goto (-132)) (-132) 0 135 := ⟨by decide +kernel, by decide, rfl⟩
theorem dX12_nextRow_135 : nx cX12_nextRow 135 (.iconst 0) 1 136 := ⟨by decide +kernel, rfl⟩
theorem dX12_nextRow_136 : nx cX12_nextRow 136 (.ireturn) 1 137 := ⟨by decide +kernel, rfl⟩
theorem dX12_keepRow_0 : nx cX12_keepRow 0 (.aload_n 0) 1 1 := ⟨by decide +kernel, rfl⟩
theorem dX12_keepRow_1 : nx cX12_keepRow 1 (.iload_n 1) 1 2 := ⟨by decide +kernel, rfl⟩
theorem dX12_keepRow_2 : nx cX12_keepRow 2 (.putfield 232) 3 5 := ⟨by decide +kernel, rfl⟩
theorem dX12_keepRow_5 : nx cX12_keepRow 5 (.aload_n 0) 1 6 := ⟨by decide +kernel, rfl⟩
theorem dX12_keepRow_6 : nx cX12_keepRow 6 (.lload_n 2) 1 7 := ⟨by decide +kernel, rfl⟩
theorem dX12_keepRow_7 : nx cX12_keepRow 7 (.putfield 235) 3 10 := ⟨by decide +kernel, rfl⟩
theorem dX12_keepRow_10 : nx cX12_keepRow 10 (.iconst 0) 1 11 := ⟨by decide +kernel, rfl⟩
theorem dX12_keepRow_11 : nx cX12_keepRow 11 (.istore 4) 2 13 := ⟨by decide +kernel, rfl⟩
theorem dX12_keepRow_13 : nx cX12_keepRow 13 (.iload 4) 2 15 := ⟨by decide +kernel, rfl⟩
theorem dX12_keepRow_15 : nx cX12_keepRow 15 (.iload_n 1) 1 16 := ⟨by decide +kernel, rfl⟩
theorem dX12_keepRow_16 : bx cX12_keepRow 16 (.if_icmp .ge 23) 23 39 19 := ⟨by decide +kernel, by decide, rfl⟩
theorem dX12_keepRow_19 : nx cX12_keepRow 19 (.aload_n 0) 1 20 := ⟨by decide +kernel, rfl⟩
theorem dX12_keepRow_20 : nx cX12_keepRow 20 (.getfield 55) 3 23 := ⟨by decide +kernel, rfl⟩
theorem dX12_keepRow_23 : nx cX12_keepRow 23 (.iload 4) 2 25 := ⟨by decide +kernel, rfl⟩
theorem dX12_keepRow_25 : nx cX12_keepRow 25 (.aload_n 0) 1 26 := ⟨by decide +kernel, rfl⟩
theorem dX12_keepRow_26 : nx cX12_keepRow 26 (.getfield 46) 3 29 := ⟨by decide +kernel, rfl⟩
theorem dX12_keepRow_29 : nx cX12_keepRow 29 (.iload 4) 2 31 := ⟨by decide +kernel, rfl⟩
theorem dX12_keepRow_31 : nx cX12_keepRow 31 (.iaload) 1 32 := ⟨by decide +kernel, rfl⟩
theorem dX12_keepRow_32 : nx cX12_keepRow 32 (.iastore) 1 33 := ⟨by decide +kernel, rfl⟩
theorem dX12_keepRow_33 : nx cX12_keepRow 33 (.iinc 4 1) 3 36 := ⟨by decide +kernel, rfl⟩
theorem dX12_keepRow_36 : bx cX12_keepRow 36 (.goto (-23)) (-23) 13 39 := ⟨by decide +kernel, by decide, rfl⟩
theorem dX12_keepRow_39 : nx cX12_keepRow 39 (.return_) 1 40 := ⟨by decide +kernel, rfl⟩
theorem dX12_partsOf_0 : nx cX12_partsOf 0 (.aload_n 0) 1 1 := ⟨by decide +kernel, rfl⟩
theorem dX12_partsOf_1 : nx cX12_partsOf 1 (.iload_n 1) 1 2 := ⟨by decide +kernel, rfl⟩
theorem dX12_partsOf_2 : nx cX12_partsOf 2 (.invokevirtual 216) 3 5 := ⟨by decide +kernel, rfl⟩
theorem dX12_partsOf_5 : nx cX12_partsOf 5 (.lstore_n 2) 1 6 := ⟨by decide +kernel, rfl⟩
theorem dX12_partsOf_6 : nx cX12_partsOf 6 (.iload_n 1) 1 7 := ⟨by decide +kernel, rfl⟩
theorem dX12_partsOf_7 : nx cX12_partsOf 7 (.istore 4) 2 9 := ⟨by decide +kernel, rfl⟩
theorem dX12_partsOf_9 : nx cX12_partsOf 9 (.iload 4) 2 11 := ⟨by decide +kernel, rfl⟩
theorem dX12_partsOf_11 : nx cX12_partsOf 11 (.iconst 5) 1 12 := ⟨by decide +kernel, rfl⟩
theorem dX12_partsOf_12 : bx cX12_partsOf 12 (.if_icmp .ge 15) 15 27 15 := ⟨by decide +kernel, by decide, rfl⟩
theorem dX12_partsOf_15 : nx cX12_partsOf 15 (.lload_n 2) 1 16 := ⟨by decide +kernel, rfl⟩
theorem dX12_partsOf_16 : nx cX12_partsOf 16 (.ldc2_w 214) 3 19 := ⟨by decide +kernel, rfl⟩
theorem dX12_partsOf_19 : nx cX12_partsOf 19 (.lmul) 1 20 := ⟨by decide +kernel, rfl⟩
theorem dX12_partsOf_20 : nx cX12_partsOf 20 (.lstore_n 2) 1 21 := ⟨by decide +kernel, rfl⟩
theorem dX12_partsOf_21 : nx cX12_partsOf 21 (.iinc 4 1) 3 24 := ⟨by decide +kernel, rfl⟩
theorem dX12_partsOf_24 : bx cX12_partsOf 24 (.goto (-15)) (-15) 9 27 := ⟨by decide +kernel, by decide, rfl⟩
theorem dX12_partsOf_27 : nx cX12_partsOf 27 (.lload_n 2) 1 28 := ⟨by decide +kernel, rfl⟩
theorem dX12_partsOf_28 : nx cX12_partsOf 28 (.lreturn) 1 29 := ⟨by decide +kernel, rfl⟩
theorem dX12_seek_0 : nx cX12_seek 0 (.aload_n 0) 1 1 := ⟨by decide +kernel, rfl⟩
theorem dX12_seek_1 : nx cX12_seek 1 (.iconst 0) 1 2 := ⟨by decide +kernel, rfl⟩
theorem dX12_seek_2 : nx cX12_seek 2 (.putfield 232) 3 5 := ⟨by decide +kernel, rfl⟩
theorem dX12_seek_5 : nx cX12_seek 5 (.aload_n 0) 1 6 := ⟨by decide +kernel, rfl⟩
theorem dX12_seek_6 : nx cX12_seek 6 (.lconst 0) 1 7 := ⟨by decide +kernel, rfl⟩
theorem dX12_seek_7 : nx cX12_seek 7 (.putfield 235) 3 10 := ⟨by decide +kernel, rfl⟩
theorem dX12_seek_10 : nx cX12_seek 10 (.iconst 1) 1 11 := ⟨by decide +kernel, rfl⟩
theorem dX12_seek_11 : nx cX12_seek 11 (.istore_n 3) 1 12 := ⟨by decide +kernel, rfl⟩
theorem dX12_seek_12 : nx cX12_seek 12 (.iload_n 3) 1 13 := ⟨by decide +kernel, rfl⟩
theorem dX12_seek_13 : nx cX12_seek 13 (.iload_n 1) 1 14 := ⟨by decide +kernel, rfl⟩
theorem dX12_seek_14 : bx cX12_seek 14 (.if_icmp .gt 71) 71 85 17 := ⟨by decide +kernel, by decide, rfl⟩
theorem dX12_seek_17 : nx cX12_seek 17 (.aload_n 0) 1 18 := ⟨by decide +kernel, rfl⟩
theorem dX12_seek_18 : nx cX12_seek 18 (.invokevirtual 239) 3 21 := ⟨by decide +kernel, rfl⟩
theorem dX12_seek_21 : nx cX12_seek 21 (.aload_n 0) 1 22 := ⟨by decide +kernel, rfl⟩
theorem dX12_seek_22 : nx cX12_seek 22 (.iload_n 3) 1 23 := ⟨by decide +kernel, rfl⟩
theorem dX12_seek_23 : nx cX12_seek 23 (.invokevirtual 242) 3 26 := ⟨by decide +kernel, rfl⟩
theorem dX12_seek_26 : bx cX12_seek 26 (.ifCond .eq 53) 53 79 29 := ⟨by decide +kernel, by decide, rfl⟩
theorem dX12_seek_29 : nx cX12_seek 29 (.iload_n 2) 1 30 := ⟨by decide +kernel, rfl⟩
theorem dX12_seek_30 : bx cX12_seek 30 (.ifCond .eq 11) 11 41 33 := ⟨by decide +kernel, by decide, rfl⟩
theorem dX12_seek_33 : nx cX12_seek 33 (.aload_n 0) 1 34 := ⟨by decide +kernel, rfl⟩
theorem dX12_seek_34 : nx cX12_seek 34 (.iload_n 3) 1 35 := ⟨by decide +kernel, rfl⟩
theorem dX12_seek_35 : nx cX12_seek 35 (.invokevirtual 245) 3 38 := ⟨by decide +kernel, rfl⟩
theorem dX12_seek_38 : bx cX12_seek 38 (.goto 12) 12 50 41 := ⟨by decide +kernel, by decide, rfl⟩
theorem dX12_seek_41 : nx cX12_seek 41 (.aload_n 0) 1 42 := ⟨by decide +kernel, rfl⟩
theorem dX12_seek_42 : nx cX12_seek 42 (.iload_n 3) 1 43 := ⟨by decide +kernel, rfl⟩
theorem dX12_seek_43 : nx cX12_seek 43 (.invokevirtual 207) 3 46 := ⟨by decide +kernel, rfl⟩
theorem dX12_seek_46 : nx cX12_seek 46 (.ldc 210) 2 48 := ⟨by decide +kernel, rfl⟩
theorem dX12_seek_48 : nx cX12_seek 48 (.iadd) 1 49 := ⟨by decide +kernel, rfl⟩
theorem dX12_seek_49 : nx cX12_seek 49 (.i2l) 1 50 := ⟨by decide +kernel, rfl⟩
theorem dX12_seek_50 : nx cX12_seek 50 (.lstore 4) 2 52 := ⟨by decide +kernel, rfl⟩
theorem dX12_seek_52 : nx cX12_seek 52 (.aload_n 0) 1 53 := ⟨by decide +kernel, rfl⟩
theorem dX12_seek_53 : nx cX12_seek 53 (.getfield 232) 3 56 := ⟨by decide +kernel, rfl⟩
theorem dX12_seek_56 : bx cX12_seek 56 (.ifCond .eq 13) 13 69 59 := ⟨by decide +kernel, by decide, rfl⟩
theorem dX12_seek_59 : nx cX12_seek 59 (.lload 4) 2 61 := ⟨by decide +kernel, rfl⟩
theorem dX12_seek_61 : nx cX12_seek 61 (.aload_n 0) 1 62 := ⟨by decide +kernel, rfl⟩
theorem dX12_seek_62 : nx cX12_seek 62 (.getfield 235) 3 65 := ⟨by decide +kernel, rfl⟩
theorem dX12_seek_65 : nx cX12_seek 65 (.lcmp) 1 66 := ⟨by decide +kernel, rfl⟩
theorem dX12_seek_66 : bx cX12_seek 66 (.ifCond .le 10) 10 76 69 := ⟨by decide +kernel, by decide, rfl⟩
theorem dX12_seek_69 : nx cX12_seek 69 (.aload_n 0) 1 70 := ⟨by decide +kernel, rfl⟩
theorem dX12_seek_70 : nx cX12_seek 70 (.iload_n 3) 1 71 := ⟨by decide +kernel, rfl⟩
theorem dX12_seek_71 : nx cX12_seek 71 (.lload 4) 2 73 := ⟨by decide +kernel, rfl⟩
theorem dX12_seek_73 : nx cX12_seek 73 (.invokevirtual 248) 3 76 := ⟨by decide +kernel, rfl⟩
theorem dX12_seek_76 : bx cX12_seek 76 (.goto (-55)) (-55) 21 79 := ⟨by decide +kernel, by decide, rfl⟩
theorem dX12_seek_79 : nx cX12_seek 79 (.iinc 3 1) 3 82 := ⟨by decide +kernel, rfl⟩
theorem dX12_seek_82 : bx cX12_seek 82 (.goto (-70)) (-70) 12 85 := ⟨by decide +kernel, by decide, rfl⟩
theorem dX12_seek_85 : nx cX12_seek 85 (.return_) 1 86 := ⟨by decide +kernel, rfl⟩
theorem dX12_toldBest_0 : nx cX12_toldBest 0 (.aload_n 0) 1 1 := ⟨by decide +kernel, rfl⟩
theorem dX12_toldBest_1 : nx cX12_toldBest 1 (.getfield 232) 3 4 := ⟨by decide +kernel, rfl⟩
theorem dX12_toldBest_4 : bx cX12_toldBest 4 (.ifCond .ne 8) 8 12 7 := ⟨by decide +kernel, by decide, rfl⟩
theorem dX12_toldBest_7 : nx cX12_toldBest 7 (.bipush (-9)) 2 9 := ⟨by decide +kernel, rfl⟩
theorem dX12_toldBest_9 : bx cX12_toldBest 9 (.goto 34) 34 43 12 := ⟨by decide +kernel, by decide, rfl⟩
theorem dX12_toldBest_12 : nx cX12_toldBest 12 (.iload_n 1) 1 13 := ⟨by decide +kernel, rfl⟩
theorem dX12_toldBest_13 : bx cX12_toldBest 13 (.ifCond .ge 11) 11 24 16 := ⟨by decide +kernel, by decide, rfl⟩
theorem dX12_toldBest_16 : nx cX12_toldBest 16 (.aload_n 0) 1 17 := ⟨by decide +kernel, rfl⟩
theorem dX12_toldBest_17 : nx cX12_toldBest 17 (.getfield 235) 3 20 := ⟨by decide +kernel, rfl⟩
theorem dX12_toldBest_20 : nx cX12_toldBest 20 (.l2i) 1 21 := ⟨by decide +kernel, rfl⟩
theorem dX12_toldBest_21 : bx cX12_toldBest 21 (.goto 22) 22 43 24 := ⟨by decide +kernel, by decide, rfl⟩
theorem dX12_toldBest_24 : nx cX12_toldBest 24 (.iload_n 1) 1 25 := ⟨by decide +kernel, rfl⟩
theorem dX12_toldBest_25 : nx cX12_toldBest 25 (.aload_n 0) 1 26 := ⟨by decide +kernel, rfl⟩
theorem dX12_toldBest_26 : nx cX12_toldBest 26 (.getfield 232) 3 29 := ⟨by decide +kernel, rfl⟩
theorem dX12_toldBest_29 : bx cX12_toldBest 29 (.if_icmp .ge 12) 12 41 32 := ⟨by decide +kernel, by decide, rfl⟩
theorem dX12_toldBest_32 : nx cX12_toldBest 32 (.aload_n 0) 1 33 := ⟨by decide +kernel, rfl⟩
theorem dX12_toldBest_33 : nx cX12_toldBest 33 (.getfield 55) 3 36 := ⟨by decide +kernel, rfl⟩
theorem dX12_toldBest_36 : nx cX12_toldBest 36 (.iload_n 1) 1 37 := ⟨by decide +kernel, rfl⟩
theorem dX12_toldBest_37 : nx cX12_toldBest 37 (.iaload) 1 38 := ⟨by decide +kernel, rfl⟩
theorem dX12_toldBest_38 : bx cX12_toldBest 38 (.goto 5) 5 43 41 := ⟨by decide +kernel, by decide, rfl⟩
theorem dX12_toldBest_41 : nx cX12_toldBest 41 (.bipush (-9)) 2 43 := ⟨by decide +kernel, rfl⟩
theorem dX12_toldBest_43 : nx cX12_toldBest 43 (.ireturn) 1 44 := ⟨by decide +kernel, rfl⟩
theorem dX12_refusedFor_0 : nx cX12_refusedFor 0 (.iload_n 1) 1 1 := ⟨by decide +kernel, rfl⟩
theorem dX12_refusedFor_1 : nx cX12_refusedFor 1 (.i2l) 1 2 := ⟨by decide +kernel, rfl⟩
theorem dX12_refusedFor_2 : nx cX12_refusedFor 2 (.lconst 1) 1 3 := ⟨by decide +kernel, rfl⟩
theorem dX12_refusedFor_3 : nx cX12_refusedFor 3 (.ldc2_w 252) 3 6 := ⟨by decide +kernel, rfl⟩
theorem dX12_refusedFor_6 : nx cX12_refusedFor 6 (.invokestatic 97) 3 9 := ⟨by decide +kernel, rfl⟩
theorem dX12_refusedFor_9 : bx cX12_refusedFor 9 (.ifCond .eq 17) 17 26 12 := ⟨by decide +kernel, by decide, rfl⟩
theorem dX12_refusedFor_12 : nx cX12_refusedFor 12 (.iload_n 2) 1 13 := ⟨by decide +kernel, rfl⟩
theorem dX12_refusedFor_13 : nx cX12_refusedFor 13 (.i2l) 1 14 := ⟨by decide +kernel, rfl⟩
theorem dX12_refusedFor_14 : nx cX12_refusedFor 14 (.ldc2_w 254) 3 17 := ⟨by decide +kernel, rfl⟩
theorem dX12_refusedFor_17 : nx cX12_refusedFor 17 (.ldc2_w 256) 3 20 := ⟨by decide +kernel, rfl⟩
theorem dX12_refusedFor_20 : nx cX12_refusedFor 20 (.invokestatic 97) 3 23 := ⟨by decide +kernel, rfl⟩
theorem dX12_refusedFor_23 : bx cX12_refusedFor 23 (.ifCond .ne 8) 8 31 26 := ⟨by decide +kernel, by decide, rfl⟩
theorem dX12_refusedFor_26 : nx cX12_refusedFor 26 (.bipush (-2)) 2 28 := ⟨by decide +kernel, rfl⟩
theorem dX12_refusedFor_28 : bx cX12_refusedFor 28 (.goto 16) 16 44 31 := ⟨by decide +kernel, by decide, rfl⟩
theorem dX12_refusedFor_31 : nx cX12_refusedFor 31 (.aload_n 0) 1 32 := ⟨by decide +kernel, rfl⟩
theorem dX12_refusedFor_32 : nx cX12_refusedFor 32 (.getfield 101) 3 35 := ⟨by decide +kernel, rfl⟩
theorem dX12_refusedFor_35 : bx cX12_refusedFor 35 (.ifCond .ne 8) 8 43 38 := ⟨by decide +kernel, by decide, rfl⟩
theorem dX12_refusedFor_38 : nx cX12_refusedFor 38 (.bipush (-3)) 2 40 := ⟨by decide +kernel, rfl⟩
theorem dX12_refusedFor_40 : bx cX12_refusedFor 40 (.goto 4) 4 44 43 := ⟨by decide +kernel, by decide, rfl⟩
theorem dX12_refusedFor_43 : nx cX12_refusedFor 43 (.iconst 0) 1 44 := ⟨by decide +kernel, rfl⟩
theorem dX12_refusedFor_44 : nx cX12_refusedFor 44 (.ireturn) 1 45 := ⟨by decide +kernel, rfl⟩
theorem dX12_best_0 : nx cX12_best 0 (.aload_n 0) 1 1 := ⟨by decide +kernel, rfl⟩
theorem dX12_best_1 : nx cX12_best 1 (.iload_n 1) 1 2 := ⟨by decide +kernel, rfl⟩
theorem dX12_best_2 : nx cX12_best 2 (.iload_n 2) 1 3 := ⟨by decide +kernel, rfl⟩
theorem dX12_best_3 : nx cX12_best 3 (.invokevirtual 258) 3 6 := ⟨by decide +kernel, rfl⟩
theorem dX12_best_6 : nx cX12_best 6 (.istore_n 3) 1 7 := ⟨by decide +kernel, rfl⟩
theorem dX12_best_7 : nx cX12_best 7 (.iload_n 3) 1 8 := ⟨by decide +kernel, rfl⟩
theorem dX12_best_8 : bx cX12_best 8 (.ifCond .ge 5) 5 13 11 := ⟨by decide +kernel, by decide, rfl⟩
theorem dX12_best_11 : nx cX12_best 11 (.iload_n 3) 1 12 := ⟨by decide +kernel, rfl⟩
theorem dX12_best_12 : nx cX12_best 12 (.ireturn) 1 13 := ⟨by decide +kernel, rfl⟩
theorem dX12_best_13 : nx cX12_best 13 (.aload_n 0) 1 14 := ⟨by decide +kernel, rfl⟩
theorem dX12_best_14 : nx cX12_best 14 (.iload_n 1) 1 15 := ⟨by decide +kernel, rfl⟩
theorem dX12_best_15 : nx cX12_best 15 (.iconst 0) 1 16 := ⟨by decide +kernel, rfl⟩
theorem dX12_best_16 : nx cX12_best 16 (.invokevirtual 261) 3 19 := ⟨by decide +kernel, rfl⟩
theorem dX12_best_19 : nx cX12_best 19 (.aload_n 0) 1 20 := ⟨by decide +kernel, rfl⟩
theorem dX12_best_20 : nx cX12_best 20 (.iload_n 2) 1 21 := ⟨by decide +kernel, rfl⟩
theorem dX12_best_21 : nx cX12_best 21 (.invokevirtual 265) 3 24 := ⟨by decide +kernel, rfl⟩
theorem dX12_best_24 : nx cX12_best 24 (.ireturn) 1 25 := ⟨by decide +kernel, rfl⟩
theorem dX12_safest_0 : nx cX12_safest 0 (.aload_n 0) 1 1 := ⟨by decide +kernel, rfl⟩
theorem dX12_safest_1 : nx cX12_safest 1 (.iload_n 1) 1 2 := ⟨by decide +kernel, rfl⟩
theorem dX12_safest_2 : nx cX12_safest 2 (.iload_n 2) 1 3 := ⟨by decide +kernel, rfl⟩
theorem dX12_safest_3 : nx cX12_safest 3 (.invokevirtual 258) 3 6 := ⟨by decide +kernel, rfl⟩
theorem dX12_safest_6 : nx cX12_safest 6 (.istore_n 3) 1 7 := ⟨by decide +kernel, rfl⟩
theorem dX12_safest_7 : nx cX12_safest 7 (.iload_n 3) 1 8 := ⟨by decide +kernel, rfl⟩
theorem dX12_safest_8 : bx cX12_safest 8 (.ifCond .ge 5) 5 13 11 := ⟨by decide +kernel, by decide, rfl⟩
theorem dX12_safest_11 : nx cX12_safest 11 (.iload_n 3) 1 12 := ⟨by decide +kernel, rfl⟩
theorem dX12_safest_12 : nx cX12_safest 12 (.ireturn) 1 13 := ⟨by decide +kernel, rfl⟩
theorem dX12_safest_13 : nx cX12_safest 13 (.aload_n 0) 1 14 := ⟨by decide +kernel, rfl⟩
theorem dX12_safest_14 : nx cX12_safest 14 (.iload_n 1) 1 15 := ⟨by decide +kernel, rfl⟩
theorem dX12_safest_15 : nx cX12_safest 15 (.iconst 1) 1 16 := ⟨by decide +kernel, rfl⟩
theorem dX12_safest_16 : nx cX12_safest 16 (.invokevirtual 261) 3 19 := ⟨by decide +kernel, rfl⟩
theorem dX12_safest_19 : nx cX12_safest 19 (.aload_n 0) 1 20 := ⟨by decide +kernel, rfl⟩
theorem dX12_safest_20 : nx cX12_safest 20 (.iload_n 2) 1 21 := ⟨by decide +kernel, rfl⟩
theorem dX12_safest_21 : nx cX12_safest 21 (.invokevirtual 265) 3 24 := ⟨by decide +kernel, rfl⟩
theorem dX12_safest_24 : nx cX12_safest 24 (.ireturn) 1 25 := ⟨by decide +kernel, rfl⟩
theorem dX12_worth_0 : nx cX12_worth 0 (.aload_n 0) 1 1 := ⟨by decide +kernel, rfl⟩
theorem dX12_worth_1 : nx cX12_worth 1 (.iload_n 1) 1 2 := ⟨by decide +kernel, rfl⟩
theorem dX12_worth_2 : nx cX12_worth 2 (.invokevirtual 167) 3 5 := ⟨by decide +kernel, rfl⟩
theorem dX12_worth_5 : bx cX12_worth 5 (.ifCond .eq 5) 5 10 8 := ⟨by decide +kernel, by decide, rfl⟩
theorem dX12_worth_8 : nx cX12_worth 8 (.iconst (-1)) 1 9 := ⟨by decide +kernel, rfl⟩
theorem dX12_worth_9 : nx cX12_worth 9 (.ireturn) 1 10 := ⟨by decide +kernel, rfl⟩
theorem dX12_worth_10 : nx cX12_worth 10 (.aload_n 0) 1 11 := ⟨by decide +kernel, rfl⟩
theorem dX12_worth_11 : nx cX12_worth 11 (.getfield 158) 3 14 := ⟨by decide +kernel, rfl⟩
theorem dX12_worth_14 : nx cX12_worth 14 (.istore_n 2) 1 15 := ⟨by decide +kernel, rfl⟩
theorem dX12_worth_15 : nx cX12_worth 15 (.aload_n 0) 1 16 := ⟨by decide +kernel, rfl⟩
theorem dX12_worth_16 : nx cX12_worth 16 (.iconst 4) 1 17 := ⟨by decide +kernel, rfl⟩
theorem dX12_worth_17 : nx cX12_worth 17 (.iconst 0) 1 18 := ⟨by decide +kernel, rfl⟩
theorem dX12_worth_18 : nx cX12_worth 18 (.invokevirtual 261) 3 21 := ⟨by decide +kernel, rfl⟩
theorem dX12_worth_21 : nx cX12_worth 21 (.aload_n 0) 1 22 := ⟨by decide +kernel, rfl⟩
theorem dX12_worth_22 : nx cX12_worth 22 (.iconst (-1)) 1 23 := ⟨by decide +kernel, rfl⟩
theorem dX12_worth_23 : nx cX12_worth 23 (.invokevirtual 265) 3 26 := ⟨by decide +kernel, rfl⟩
theorem dX12_worth_26 : nx cX12_worth 26 (.istore_n 3) 1 27 := ⟨by decide +kernel, rfl⟩
theorem dX12_worth_27 : nx cX12_worth 27 (.aload_n 0) 1 28 := ⟨by decide +kernel, rfl⟩
theorem dX12_worth_28 : nx cX12_worth 28 (.iload_n 2) 1 29 := ⟨by decide +kernel, rfl⟩
theorem dX12_worth_29 : nx cX12_worth 29 (.iconst 1) 1 30 := ⟨by decide +kernel, rfl⟩
theorem dX12_worth_30 : nx cX12_worth 30 (.iload_n 1) 1 31 := ⟨by decide +kernel, rfl⟩
theorem dX12_worth_31 : nx cX12_worth 31 (.ishl) 1 32 := ⟨by decide +kernel, rfl⟩
theorem dX12_worth_32 : nx cX12_worth 32 (.ior) 1 33 := ⟨by decide +kernel, rfl⟩
theorem dX12_worth_33 : nx cX12_worth 33 (.putfield 158) 3 36 := ⟨by decide +kernel, rfl⟩
theorem dX12_worth_36 : nx cX12_worth 36 (.aload_n 0) 1 37 := ⟨by decide +kernel, rfl⟩
theorem dX12_worth_37 : nx cX12_worth 37 (.iconst 4) 1 38 := ⟨by decide +kernel, rfl⟩
theorem dX12_worth_38 : nx cX12_worth 38 (.iconst 0) 1 39 := ⟨by decide +kernel, rfl⟩
theorem dX12_worth_39 : nx cX12_worth 39 (.invokevirtual 261) 3 42 := ⟨by decide +kernel, rfl⟩
theorem dX12_worth_42 : nx cX12_worth 42 (.aload_n 0) 1 43 := ⟨by decide +kernel, rfl⟩
theorem dX12_worth_43 : nx cX12_worth 43 (.iconst (-1)) 1 44 := ⟨by decide +kernel, rfl⟩
theorem dX12_worth_44 : nx cX12_worth 44 (.invokevirtual 265) 3 47 := ⟨by decide +kernel, rfl⟩
theorem dX12_worth_47 : nx cX12_worth 47 (.istore 4) 2 49 := ⟨by decide +kernel, rfl⟩
theorem dX12_worth_49 : nx cX12_worth 49 (.aload_n 0) 1 50 := ⟨by decide +kernel, rfl⟩
theorem dX12_worth_50 : nx cX12_worth 50 (.iload_n 2) 1 51 := ⟨by decide +kernel, rfl⟩
theorem dX12_worth_51 : nx cX12_worth 51 (.putfield 158) 3 54 := ⟨by decide +kernel, rfl⟩
theorem dX12_worth_54 : nx cX12_worth 54 (.iload_n 3) 1 55 := ⟨by decide +kernel, rfl⟩
theorem dX12_worth_55 : bx cX12_worth 55 (.ifCond .lt 8) 8 63 58 := ⟨by decide +kernel, by decide, rfl⟩
theorem dX12_worth_58 : nx cX12_worth 58 (.iload 4) 2 60 := ⟨by decide +kernel, rfl⟩
theorem dX12_worth_60 : bx cX12_worth 60 (.ifCond .ge 8) 8 68 63 := ⟨by decide +kernel, by decide, rfl⟩
theorem dX12_worth_63 : nx cX12_worth 63 (.bipush (-9)) 2 65 := ⟨by decide +kernel, rfl⟩
theorem dX12_worth_65 : bx cX12_worth 65 (.goto 7) 7 72 68 := ⟨by decide +kernel, by decide, rfl⟩
theorem dX12_worth_68 : nx cX12_worth 68 (.iload_n 3) 1 69 := ⟨by decide +kernel, rfl⟩
theorem dX12_worth_69 : nx cX12_worth 69 (.iload 4) 2 71 := ⟨by decide +kernel, rfl⟩
theorem dX12_worth_71 : nx cX12_worth 71 (.isub) 1 72 := ⟨by decide +kernel, rfl⟩
theorem dX12_worth_72 : nx cX12_worth 72 (.ireturn) 1 73 := ⟨by decide +kernel, rfl⟩
theorem dX12_reading_0 : nx cX12_reading 0 (.aload_n 0) 1 1 := ⟨by decide +kernel, rfl⟩
theorem dX12_reading_1 : nx cX12_reading 1 (.iload_n 1) 1 2 := ⟨by decide +kernel, rfl⟩
theorem dX12_reading_2 : nx cX12_reading 2 (.invokevirtual 167) 3 5 := ⟨by decide +kernel, rfl⟩
theorem dX12_reading_5 : bx cX12_reading 5 (.ifCond .eq 5) 5 10 8 := ⟨by decide +kernel, by decide, rfl⟩
theorem dX12_reading_8 : nx cX12_reading 8 (.iconst (-1)) 1 9 := ⟨by decide +kernel, rfl⟩
theorem dX12_reading_9 : nx cX12_reading 9 (.ireturn) 1 10 := ⟨by decide +kernel, rfl⟩
theorem dX12_reading_10 : nx cX12_reading 10 (.aload_n 0) 1 11 := ⟨by decide +kernel, rfl⟩
theorem dX12_reading_11 : nx cX12_reading 11 (.getfield 161) 3 14 := ⟨by decide +kernel, rfl⟩
theorem dX12_reading_14 : nx cX12_reading 14 (.bipush 8) 2 16 := ⟨by decide +kernel, rfl⟩
theorem dX12_reading_16 : bx cX12_reading 16 (.if_icmp .ne 6) 6 22 19 := ⟨by decide +kernel, by decide, rfl⟩
theorem dX12_reading_19 : nx cX12_reading 19 (.bipush (-4)) 2 21 := ⟨by decide +kernel, rfl⟩
theorem dX12_reading_21 : nx cX12_reading 21 (.ireturn) 1 22 := ⟨by decide +kernel, rfl⟩
theorem dX12_reading_22 : nx cX12_reading 22 (.aload_n 0) 1 23 := ⟨by decide +kernel, rfl⟩
theorem dX12_reading_23 : nx cX12_reading 23 (.getfield 58) 3 26 := ⟨by decide +kernel, rfl⟩
theorem dX12_reading_26 : nx cX12_reading 26 (.aload_n 0) 1 27 := ⟨by decide +kernel, rfl⟩
theorem dX12_reading_27 : nx cX12_reading 27 (.getfield 161) 3 30 := ⟨by decide +kernel, rfl⟩
theorem dX12_reading_30 : nx cX12_reading 30 (.iload_n 1) 1 31 := ⟨by decide +kernel, rfl⟩
theorem dX12_reading_31 : nx cX12_reading 31 (.iastore) 1 32 := ⟨by decide +kernel, rfl⟩
theorem dX12_reading_32 : nx cX12_reading 32 (.aload_n 0) 1 33 := ⟨by decide +kernel, rfl⟩
theorem dX12_reading_33 : nx cX12_reading 33 (.getfield 61) 3 36 := ⟨by decide +kernel, rfl⟩
theorem dX12_reading_36 : nx cX12_reading 36 (.aload_n 0) 1 37 := ⟨by decide +kernel, rfl⟩
theorem dX12_reading_37 : nx cX12_reading 37 (.getfield 161) 3 40 := ⟨by decide +kernel, rfl⟩
theorem dX12_reading_40 : nx cX12_reading 40 (.iload_n 2) 1 41 := ⟨by decide +kernel, rfl⟩
theorem dX12_reading_41 : nx cX12_reading 41 (.bastore) 1 42 := ⟨by decide +kernel, rfl⟩
theorem dX12_reading_42 : nx cX12_reading 42 (.aload_n 0) 1 43 := ⟨by decide +kernel, rfl⟩
theorem dX12_reading_43 : nx cX12_reading 43 (.dup) 1 44 := ⟨by decide +kernel, rfl⟩
theorem dX12_reading_44 : nx cX12_reading 44 (.getfield 161) 3 47 := ⟨by decide +kernel, rfl⟩
theorem dX12_reading_47 : nx cX12_reading 47 (.iconst 1) 1 48 := ⟨by decide +kernel, rfl⟩
theorem dX12_reading_48 : nx cX12_reading 48 (.iadd) 1 49 := ⟨by decide +kernel, rfl⟩
theorem dX12_reading_49 : nx cX12_reading 49 (.putfield 161) 3 52 := ⟨by decide +kernel, rfl⟩
theorem dX12_reading_52 : nx cX12_reading 52 (.aload_n 0) 1 53 := ⟨by decide +kernel, rfl⟩
theorem dX12_reading_53 : nx cX12_reading 53 (.getfield 161) 3 56 := ⟨by decide +kernel, rfl⟩
theorem dX12_reading_56 : nx cX12_reading 56 (.iconst 1) 1 57 := ⟨by decide +kernel, rfl⟩
theorem dX12_reading_57 : nx cX12_reading 57 (.isub) 1 58 := ⟨by decide +kernel, rfl⟩
theorem dX12_reading_58 : nx cX12_reading 58 (.ireturn) 1 59 := ⟨by decide +kernel, rfl⟩
theorem dX12_back_0 : nx cX12_back 0 (.iload_n 1) 1 1 := ⟨by decide +kernel, rfl⟩
theorem dX12_back_1 : nx cX12_back 1 (.i2l) 1 2 := ⟨by decide +kernel, rfl⟩
theorem dX12_back_2 : nx cX12_back 2 (.lconst 0) 1 3 := ⟨by decide +kernel, rfl⟩
theorem dX12_back_3 : nx cX12_back 3 (.aload_n 0) 1 4 := ⟨by decide +kernel, rfl⟩
theorem dX12_back_4 : nx cX12_back 4 (.getfield 161) 3 7 := ⟨by decide +kernel, rfl⟩
theorem dX12_back_7 : nx cX12_back 7 (.i2l) 1 8 := ⟨by decide +kernel, rfl⟩
theorem dX12_back_8 : nx cX12_back 8 (.invokestatic 97) 3 11 := ⟨by decide +kernel, rfl⟩
theorem dX12_back_11 : bx cX12_back 11 (.ifCond .ne 6) 6 17 14 := ⟨by decide +kernel, by decide, rfl⟩
theorem dX12_back_14 : nx cX12_back 14 (.bipush (-2)) 2 16 := ⟨by decide +kernel, rfl⟩
theorem dX12_back_16 : nx cX12_back 16 (.ireturn) 1 17 := ⟨by decide +kernel, rfl⟩
theorem dX12_back_17 : nx cX12_back 17 (.aload_n 0) 1 18 := ⟨by decide +kernel, rfl⟩
theorem dX12_back_18 : nx cX12_back 18 (.dup) 1 19 := ⟨by decide +kernel, rfl⟩
theorem dX12_back_19 : nx cX12_back 19 (.getfield 161) 3 22 := ⟨by decide +kernel, rfl⟩
theorem dX12_back_22 : nx cX12_back 22 (.iload_n 1) 1 23 := ⟨by decide +kernel, rfl⟩
theorem dX12_back_23 : nx cX12_back 23 (.isub) 1 24 := ⟨by decide +kernel, rfl⟩
theorem dX12_back_24 : nx cX12_back 24 (.putfield 161) 3 27 := ⟨by decide +kernel, rfl⟩
theorem dX12_back_27 : nx cX12_back 27 (.aload_n 0) 1 28 := ⟨by decide +kernel, rfl⟩
theorem dX12_back_28 : nx cX12_back 28 (.getfield 161) 3 31 := ⟨by decide +kernel, rfl⟩
theorem dX12_back_31 : nx cX12_back 31 (.ireturn) 1 32 := ⟨by decide +kernel, rfl⟩
theorem dX12_areSo_0 : nx cX12_areSo 0 (.aload_n 0) 1 1 := ⟨by decide +kernel, rfl⟩
theorem dX12_areSo_1 : nx cX12_areSo 1 (.iload_n 1) 1 2 := ⟨by decide +kernel, rfl⟩
theorem dX12_areSo_2 : nx cX12_areSo 2 (.invokevirtual 181) 3 5 := ⟨by decide +kernel, rfl⟩
theorem dX12_areSo_5 : nx cX12_areSo 5 (.istore_n 2) 1 6 := ⟨by decide +kernel, rfl⟩
theorem dX12_areSo_6 : nx cX12_areSo 6 (.iconst 1) 1 7 := ⟨by decide +kernel, rfl⟩
theorem dX12_areSo_7 : nx cX12_areSo 7 (.istore_n 3) 1 8 := ⟨by decide +kernel, rfl⟩
theorem dX12_areSo_8 : nx cX12_areSo 8 (.iconst 0) 1 9 := ⟨by decide +kernel, rfl⟩
theorem dX12_areSo_9 : nx cX12_areSo 9 (.istore 4) 2 11 := ⟨by decide +kernel, rfl⟩
theorem dX12_areSo_11 : nx cX12_areSo 11 (.iload 4) 2 13 := ⟨by decide +kernel, rfl⟩
theorem dX12_areSo_13 : nx cX12_areSo 13 (.aload_n 0) 1 14 := ⟨by decide +kernel, rfl⟩
theorem dX12_areSo_14 : nx cX12_areSo 14 (.getfield 161) 3 17 := ⟨by decide +kernel, rfl⟩
theorem dX12_areSo_17 : bx cX12_areSo 17 (.if_icmp .ge 67) 67 84 20 := ⟨by decide +kernel, by decide, rfl⟩
theorem dX12_areSo_20 : nx cX12_areSo 20 (.iload_n 2) 1 21 := ⟨by decide +kernel, rfl⟩
theorem dX12_areSo_21 : nx cX12_areSo 21 (.aload_n 0) 1 22 := ⟨by decide +kernel, rfl⟩
theorem dX12_areSo_22 : nx cX12_areSo 22 (.getfield 58) 3 25 := ⟨by decide +kernel, rfl⟩
theorem dX12_areSo_25 : nx cX12_areSo 25 (.iload 4) 2 27 := ⟨by decide +kernel, rfl⟩
theorem dX12_areSo_27 : nx cX12_areSo 27 (.iaload) 1 28 := ⟨by decide +kernel, rfl⟩
theorem dX12_areSo_28 : nx cX12_areSo 28 (.invokestatic 173) 3 31 := ⟨by decide +kernel, rfl⟩
theorem dX12_areSo_31 : bx cX12_areSo 31 (.ifCond .eq 22) 22 53 34 := ⟨by decide +kernel, by decide, rfl⟩
theorem dX12_areSo_34 : nx cX12_areSo 34 (.aload_n 0) 1 35 := ⟨by decide +kernel, rfl⟩
theorem dX12_areSo_35 : nx cX12_areSo 35 (.getfield 7) 3 38 := ⟨by decide +kernel, rfl⟩
theorem dX12_areSo_38 : nx cX12_areSo 38 (.aload_n 0) 1 39 := ⟨by decide +kernel, rfl⟩
theorem dX12_areSo_39 : nx cX12_areSo 39 (.getfield 58) 3 42 := ⟨by decide +kernel, rfl⟩
theorem dX12_areSo_42 : nx cX12_areSo 42 (.iload 4) 2 44 := ⟨by decide +kernel, rfl⟩
theorem dX12_areSo_44 : nx cX12_areSo 44 (.iaload) 1 45 := ⟨by decide +kernel, rfl⟩
theorem dX12_areSo_45 : nx cX12_areSo 45 (.iaload) 1 46 := ⟨by decide +kernel, rfl⟩
theorem dX12_areSo_46 : bx cX12_areSo 46 (.ifCond .le 7) 7 53 49 := ⟨by decide +kernel, by decide, rfl⟩
theorem dX12_areSo_49 : nx cX12_areSo 49 (.iconst 1) 1 50 := ⟨by decide +kernel, rfl⟩
theorem dX12_areSo_50 : bx cX12_areSo 50 (.goto 4) 4 54 53 := ⟨by decide +kernel, by decide, rfl⟩
theorem dX12_areSo_53 : nx cX12_areSo 53 (.iconst 0) 1 54 := ⟨by decide +kernel, rfl⟩
theorem dX12_areSo_54 : nx cX12_areSo 54 (.istore 5) 2 56 := ⟨by decide +kernel, rfl⟩
theorem dX12_areSo_56 : nx cX12_areSo 56 (.iload_n 3) 1 57 := ⟨by decide +kernel, rfl⟩
theorem dX12_areSo_57 : bx cX12_areSo 57 (.ifCond .eq 19) 19 76 60 := ⟨by decide +kernel, by decide, rfl⟩
theorem dX12_areSo_60 : nx cX12_areSo 60 (.iload 5) 2 62 := ⟨by decide +kernel, rfl⟩
theorem dX12_areSo_62 : nx cX12_areSo 62 (.aload_n 0) 1 63 := ⟨by decide +kernel, rfl⟩
theorem dX12_areSo_63 : nx cX12_areSo 63 (.getfield 61) 3 66 := ⟨by decide +kernel, rfl⟩
theorem dX12_areSo_66 : nx cX12_areSo 66 (.iload 4) 2 68 := ⟨by decide +kernel, rfl⟩
theorem dX12_areSo_68 : nx cX12_areSo 68 (.baload) 1 69 := ⟨by decide +kernel, rfl⟩
theorem dX12_areSo_69 : bx cX12_areSo 69 (.if_icmp .ne 7) 7 76 72 := ⟨by decide +kernel, by decide, rfl⟩
theorem dX12_areSo_72 : nx cX12_areSo 72 (.iconst 1) 1 73 := ⟨by decide +kernel, rfl⟩
theorem dX12_areSo_73 : bx cX12_areSo 73 (.goto 4) 4 77 76 := ⟨by decide +kernel, by decide, rfl⟩
theorem dX12_areSo_76 : nx cX12_areSo 76 (.iconst 0) 1 77 := ⟨by decide +kernel, rfl⟩
theorem dX12_areSo_77 : nx cX12_areSo 77 (.istore_n 3) 1 78 := ⟨by decide +kernel, rfl⟩
theorem dX12_areSo_78 : nx cX12_areSo 78 (.iinc 4 1) 3 81 := ⟨by decide +kernel, rfl⟩
theorem dX12_areSo_81 : bx cX12_areSo 81 (.goto (-70)) (-70) 11 84 := ⟨by decide +kernel, by decide, rfl⟩
theorem dX12_areSo_84 : nx cX12_areSo 84 (.iload_n 3) 1 85 := ⟨by decide +kernel, rfl⟩
theorem dX12_areSo_85 : nx cX12_areSo 85 (.ireturn) 1 86 := ⟨by decide +kernel, rfl⟩
theorem dX12_trails_0 : nx cX12_trails 0 (.iload_n 1) 1 1 := ⟨by decide +kernel, rfl⟩
theorem dX12_trails_1 : nx cX12_trails 1 (.i2l) 1 2 := ⟨by decide +kernel, rfl⟩
theorem dX12_trails_2 : nx cX12_trails 2 (.lconst 1) 1 3 := ⟨by decide +kernel, rfl⟩
theorem dX12_trails_3 : nx cX12_trails 3 (.ldc2_w 252) 3 6 := ⟨by decide +kernel, rfl⟩
theorem dX12_trails_6 : nx cX12_trails 6 (.invokestatic 97) 3 9 := ⟨by decide +kernel, rfl⟩
theorem dX12_trails_9 : bx cX12_trails 9 (.ifCond .eq 29) 29 38 12 := ⟨by decide +kernel, by decide, rfl⟩
theorem dX12_trails_12 : nx cX12_trails 12 (.iload_n 2) 1 13 := ⟨by decide +kernel, rfl⟩
theorem dX12_trails_13 : nx cX12_trails 13 (.i2l) 1 14 := ⟨by decide +kernel, rfl⟩
theorem dX12_trails_14 : nx cX12_trails 14 (.lconst 0) 1 15 := ⟨by decide +kernel, rfl⟩
theorem dX12_trails_15 : nx cX12_trails 15 (.ldc2_w 268) 3 18 := ⟨by decide +kernel, rfl⟩
theorem dX12_trails_18 : nx cX12_trails 18 (.invokestatic 97) 3 21 := ⟨by decide +kernel, rfl⟩
theorem dX12_trails_21 : bx cX12_trails 21 (.ifCond .eq 17) 17 38 24 := ⟨by decide +kernel, by decide, rfl⟩
theorem dX12_trails_24 : nx cX12_trails 24 (.iload_n 3) 1 25 := ⟨by decide +kernel, rfl⟩
theorem dX12_trails_25 : nx cX12_trails 25 (.i2l) 1 26 := ⟨by decide +kernel, rfl⟩
theorem dX12_trails_26 : nx cX12_trails 26 (.ldc2_w 254) 3 29 := ⟨by decide +kernel, rfl⟩
theorem dX12_trails_29 : nx cX12_trails 29 (.ldc2_w 256) 3 32 := ⟨by decide +kernel, rfl⟩
theorem dX12_trails_32 : nx cX12_trails 32 (.invokestatic 97) 3 35 := ⟨by decide +kernel, rfl⟩
theorem dX12_trails_35 : bx cX12_trails 35 (.ifCond .ne 6) 6 41 38 := ⟨by decide +kernel, by decide, rfl⟩
theorem dX12_trails_38 : nx cX12_trails 38 (.bipush (-2)) 2 40 := ⟨by decide +kernel, rfl⟩
theorem dX12_trails_40 : nx cX12_trails 40 (.ireturn) 1 41 := ⟨by decide +kernel, rfl⟩
theorem dX12_trails_41 : nx cX12_trails 41 (.aload_n 0) 1 42 := ⟨by decide +kernel, rfl⟩
theorem dX12_trails_42 : nx cX12_trails 42 (.getfield 101) 3 45 := ⟨by decide +kernel, rfl⟩
theorem dX12_trails_45 : bx cX12_trails 45 (.ifCond .ne 6) 6 51 48 := ⟨by decide +kernel, by decide, rfl⟩
theorem dX12_trails_48 : nx cX12_trails 48 (.bipush (-3)) 2 50 := ⟨by decide +kernel, rfl⟩
theorem dX12_trails_50 : nx cX12_trails 50 (.ireturn) 1 51 := ⟨by decide +kernel, rfl⟩
theorem dX12_trails_51 : nx cX12_trails 51 (.aload_n 0) 1 52 := ⟨by decide +kernel, rfl⟩
theorem dX12_trails_52 : nx cX12_trails 52 (.iconst 0) 1 53 := ⟨by decide +kernel, rfl⟩
theorem dX12_trails_53 : nx cX12_trails 53 (.putfield 232) 3 56 := ⟨by decide +kernel, rfl⟩
theorem dX12_trails_56 : nx cX12_trails 56 (.iconst 0) 1 57 := ⟨by decide +kernel, rfl⟩
theorem dX12_trails_57 : nx cX12_trails 57 (.istore 4) 2 59 := ⟨by decide +kernel, rfl⟩
theorem dX12_trails_59 : nx cX12_trails 59 (.iconst 1) 1 60 := ⟨by decide +kernel, rfl⟩
theorem dX12_trails_60 : nx cX12_trails 60 (.istore 5) 2 62 := ⟨by decide +kernel, rfl⟩
theorem dX12_trails_62 : nx cX12_trails 62 (.iload 5) 2 64 := ⟨by decide +kernel, rfl⟩
theorem dX12_trails_64 : nx cX12_trails 64 (.iload_n 1) 1 65 := ⟨by decide +kernel, rfl⟩
theorem dX12_trails_65 : bx cX12_trails 65 (.if_icmp .gt 60) 60 125 68 := ⟨by decide +kernel, by decide, rfl⟩
theorem dX12_trails_68 : nx cX12_trails 68 (.aload_n 0) 1 69 := ⟨by decide +kernel, rfl⟩
theorem dX12_trails_69 : nx cX12_trails 69 (.invokevirtual 239) 3 72 := ⟨by decide +kernel, rfl⟩
theorem dX12_trails_72 : nx cX12_trails 72 (.aload_n 0) 1 73 := ⟨by decide +kernel, rfl⟩
theorem dX12_trails_73 : nx cX12_trails 73 (.iload 5) 2 75 := ⟨by decide +kernel, rfl⟩
theorem dX12_trails_75 : nx cX12_trails 75 (.invokevirtual 242) 3 78 := ⟨by decide +kernel, rfl⟩
theorem dX12_trails_78 : bx cX12_trails 78 (.ifCond .eq 41) 41 119 81 := ⟨by decide +kernel, by decide, rfl⟩
theorem dX12_trails_81 : nx cX12_trails 81 (.aload_n 0) 1 82 := ⟨by decide +kernel, rfl⟩
theorem dX12_trails_82 : nx cX12_trails 82 (.iload 5) 2 84 := ⟨by decide +kernel, rfl⟩
theorem dX12_trails_84 : nx cX12_trails 84 (.invokevirtual 187) 3 87 := ⟨by decide +kernel, rfl⟩
theorem dX12_trails_87 : nx cX12_trails 87 (.iload_n 2) 1 88 := ⟨by decide +kernel, rfl⟩
theorem dX12_trails_88 : bx cX12_trails 88 (.if_icmp .gt (-16)) (-16) 72 91 := ⟨by decide +kernel, by decide, rfl⟩
theorem dX12_trails_91 : nx cX12_trails 91 (.aload_n 0) 1 92 := ⟨by decide +kernel, rfl⟩
theorem dX12_trails_92 : nx cX12_trails 92 (.iload 5) 2 94 := ⟨by decide +kernel, rfl⟩
theorem dX12_trails_94 : nx cX12_trails 94 (.invokevirtual 270) 3 97 := ⟨by decide +kernel, rfl⟩
theorem dX12_trails_97 : bx cX12_trails 97 (.ifCond .eq (-25)) (-25) 72 100 := ⟨by decide +kernel, by decide, rfl⟩
theorem dX12_trails_100 : nx cX12_trails 100 (.iinc 4 1) 3 103 := ⟨by decide +kernel, rfl⟩
theorem dX12_trails_103 : nx cX12_trails 103 (.iload 4) 2 105 := ⟨by decide +kernel, rfl⟩
theorem dX12_trails_105 : nx cX12_trails 105 (.iconst 1) 1 106 := ⟨by decide +kernel, rfl⟩
theorem dX12_trails_106 : bx cX12_trails 106 (.if_icmp .ne (-34)) (-34) 72 109 := ⟨by decide +kernel, by decide, rfl⟩
theorem dX12_trails_109 : nx cX12_trails 109 (.aload_n 0) 1 110 := ⟨by decide +kernel, rfl⟩
theorem dX12_trails_110 : nx cX12_trails 110 (.iload 5) 2 112 := ⟨by decide +kernel, rfl⟩
theorem dX12_trails_112 : nx cX12_trails 112 (.lconst 0) 1 113 := ⟨by decide +kernel, rfl⟩
theorem dX12_trails_113 : nx cX12_trails 113 (.invokevirtual 248) 3 116 := ⟨by decide +kernel, rfl⟩
theorem dX12_trails_116 : bx cX12_trails 116 (.goto (-44)) (-44) 72 119 := ⟨by decide +kernel, by decide, rfl⟩
theorem dX12_trails_119 : nx cX12_trails 119 (.iinc 5 1) 3 122 := ⟨by decide +kernel, rfl⟩
theorem dX12_trails_122 : bx cX12_trails 122 (.goto (-60)) (-60) 62 125 := ⟨by decide +kernel, by decide, rfl⟩
theorem dX12_trails_125 : nx cX12_trails 125 (.iload_n 3) 1 126 := ⟨by decide +kernel, rfl⟩
theorem dX12_trails_126 : bx cX12_trails 126 (.ifCond .ge 8) 8 134 129 := ⟨by decide +kernel, by decide, rfl⟩
theorem dX12_trails_129 : nx cX12_trails 129 (.iload 4) 2 131 := ⟨by decide +kernel, rfl⟩
theorem dX12_trails_131 : bx cX12_trails 131 (.goto 8) 8 139 134 := ⟨by decide +kernel, by decide, rfl⟩
theorem dX12_trails_134 : nx cX12_trails 134 (.aload_n 0) 1 135 := ⟨by decide +kernel, rfl⟩
theorem dX12_trails_135 : nx cX12_trails 135 (.iload_n 3) 1 136 := ⟨by decide +kernel, rfl⟩
theorem dX12_trails_136 : nx cX12_trails 136 (.invokevirtual 265) 3 139 := ⟨by decide +kernel, rfl⟩
theorem dX12_trails_139 : nx cX12_trails 139 (.ireturn) 1 140 := ⟨by decide +kernel, rfl⟩
theorem dX12_openAt_0 : nx cX12_openAt 0 (.iconst 0) 1 1 := ⟨by decide +kernel, rfl⟩
theorem dX12_openAt_1 : nx cX12_openAt 1 (.istore_n 2) 1 2 := ⟨by decide +kernel, rfl⟩
theorem dX12_openAt_2 : nx cX12_openAt 2 (.iconst 0) 1 3 := ⟨by decide +kernel, rfl⟩
theorem dX12_openAt_3 : nx cX12_openAt 3 (.istore_n 3) 1 4 := ⟨by decide +kernel, rfl⟩
theorem dX12_openAt_4 : nx cX12_openAt 4 (.iload_n 3) 1 5 := ⟨by decide +kernel, rfl⟩
theorem dX12_openAt_5 : nx cX12_openAt 5 (.aload_n 0) 1 6 := ⟨by decide +kernel, rfl⟩
theorem dX12_openAt_6 : nx cX12_openAt 6 (.getfield 101) 3 9 := ⟨by decide +kernel, rfl⟩
theorem dX12_openAt_9 : bx cX12_openAt 9 (.if_icmp .ge 26) 26 35 12 := ⟨by decide +kernel, by decide, rfl⟩
theorem dX12_openAt_12 : nx cX12_openAt 12 (.iload_n 2) 1 13 := ⟨by decide +kernel, rfl⟩
theorem dX12_openAt_13 : nx cX12_openAt 13 (.aload_n 0) 1 14 := ⟨by decide +kernel, rfl⟩
theorem dX12_openAt_14 : nx cX12_openAt 14 (.iload_n 3) 1 15 := ⟨by decide +kernel, rfl⟩
theorem dX12_openAt_15 : nx cX12_openAt 15 (.iload_n 1) 1 16 := ⟨by decide +kernel, rfl⟩
theorem dX12_openAt_16 : nx cX12_openAt 16 (.invokevirtual 196) 3 19 := ⟨by decide +kernel, rfl⟩
theorem dX12_openAt_19 : bx cX12_openAt 19 (.ifCond .ge 7) 7 26 22 := ⟨by decide +kernel, by decide, rfl⟩
theorem dX12_openAt_22 : nx cX12_openAt 22 (.iconst 0) 1 23 := ⟨by decide +kernel, rfl⟩
theorem dX12_openAt_23 : bx cX12_openAt 23 (.goto 4) 4 27 26 := ⟨by decide +kernel, by decide, rfl⟩
theorem dX12_openAt_26 : nx cX12_openAt 26 (.iconst 1) 1 27 := ⟨by decide +kernel, rfl⟩
theorem dX12_openAt_27 : nx cX12_openAt 27 (.iadd) 1 28 := ⟨by decide +kernel, rfl⟩
theorem dX12_openAt_28 : nx cX12_openAt 28 (.istore_n 2) 1 29 := ⟨by decide +kernel, rfl⟩
theorem dX12_openAt_29 : nx cX12_openAt 29 (.iinc 3 1) 3 32 := ⟨by decide +kernel, rfl⟩
theorem dX12_openAt_32 : bx cX12_openAt 32 (.goto (-28)) (-28) 4 35 := ⟨by decide +kernel, by decide, rfl⟩
theorem dX12_openAt_35 : nx cX12_openAt 35 (.iload_n 2) 1 36 := ⟨by decide +kernel, rfl⟩
theorem dX12_openAt_36 : nx cX12_openAt 36 (.ireturn) 1 37 := ⟨by decide +kernel, rfl⟩
theorem dX12_goDawdling_0 : nx cX12_goDawdling 0 (.iconst 0) 1 1 := ⟨by decide +kernel, rfl⟩
theorem dX12_goDawdling_1 : nx cX12_goDawdling 1 (.istore_n 1) 1 2 := ⟨by decide +kernel, rfl⟩
theorem dX12_goDawdling_2 : nx cX12_goDawdling 2 (.iload_n 1) 1 3 := ⟨by decide +kernel, rfl⟩
theorem dX12_goDawdling_3 : nx cX12_goDawdling 3 (.bipush 7) 2 5 := ⟨by decide +kernel, rfl⟩
theorem dX12_goDawdling_5 : bx cX12_goDawdling 5 (.if_icmp .ge 28) 28 33 8 := ⟨by decide +kernel, by decide, rfl⟩
theorem dX12_goDawdling_8 : nx cX12_goDawdling 8 (.aload_n 0) 1 9 := ⟨by decide +kernel, rfl⟩
theorem dX12_goDawdling_9 : nx cX12_goDawdling 9 (.getfield 69) 3 12 := ⟨by decide +kernel, rfl⟩
theorem dX12_goDawdling_12 : nx cX12_goDawdling 12 (.iload_n 1) 1 13 := ⟨by decide +kernel, rfl⟩
theorem dX12_goDawdling_13 : nx cX12_goDawdling 13 (.aload_n 0) 1 14 := ⟨by decide +kernel, rfl⟩
theorem dX12_goDawdling_14 : nx cX12_goDawdling 14 (.getfield 65) 3 17 := ⟨by decide +kernel, rfl⟩
theorem dX12_goDawdling_17 : nx cX12_goDawdling 17 (.iload_n 1) 1 18 := ⟨by decide +kernel, rfl⟩
theorem dX12_goDawdling_18 : nx cX12_goDawdling 18 (.laload) 1 19 := ⟨by decide +kernel, rfl⟩
theorem dX12_goDawdling_19 : nx cX12_goDawdling 19 (.lastore) 1 20 := ⟨by decide +kernel, rfl⟩
theorem dX12_goDawdling_20 : nx cX12_goDawdling 20 (.aload_n 0) 1 21 := ⟨by decide +kernel, rfl⟩
theorem dX12_goDawdling_21 : nx cX12_goDawdling 21 (.getfield 65) 3 24 := ⟨by decide +kernel, rfl⟩
theorem dX12_goDawdling_24 : nx cX12_goDawdling 24 (.iload_n 1) 1 25 := ⟨by decide +kernel, rfl⟩
theorem dX12_goDawdling_25 : nx cX12_goDawdling 25 (.lconst 0) 1 26 := ⟨by decide +kernel, rfl⟩
theorem dX12_goDawdling_26 : nx cX12_goDawdling 26 (.lastore) 1 27 := ⟨by decide +kernel, rfl⟩
theorem dX12_goDawdling_27 : nx cX12_goDawdling 27 (.iinc 1 1) 3 30 := ⟨by decide +kernel, rfl⟩
theorem dX12_goDawdling_30 : bx cX12_goDawdling 30 (.goto (-28)) (-28) 2 33 := ⟨by decide +kernel, by decide, rfl⟩
theorem dX12_goDawdling_33 : nx cX12_goDawdling 33 (.iconst 0) 1 34 := ⟨by decide +kernel, rfl⟩
theorem dX12_goDawdling_34 : nx cX12_goDawdling 34 (.istore_n 1) 1 35 := ⟨by decide +kernel, rfl⟩
theorem dX12_goDawdling_35 : nx cX12_goDawdling 35 (.iload_n 1) 1 36 := ⟨by decide +kernel, rfl⟩
theorem dX12_goDawdling_36 : nx cX12_goDawdling 36 (.aload_n 0) 1 37 := ⟨by decide +kernel, rfl⟩
theorem dX12_goDawdling_37 : nx cX12_goDawdling 37 (.getfield 94) 3 40 := ⟨by decide +kernel, rfl⟩
theorem dX12_goDawdling_40 : bx cX12_goDawdling 40 (.if_icmp .ge 90) 90 130 43 := ⟨by decide +kernel, by decide, rfl⟩
theorem dX12_goDawdling_43 : nx cX12_goDawdling 43 (.aload_n 0) 1 44 := ⟨by decide +kernel, rfl⟩
theorem dX12_goDawdling_44 : nx cX12_goDawdling 44 (.iload_n 1) 1 45 := ⟨by decide +kernel, rfl⟩
theorem dX12_goDawdling_45 : nx cX12_goDawdling 45 (.invokevirtual 273) 3 48 := ⟨by decide +kernel, rfl⟩
theorem dX12_goDawdling_48 : nx cX12_goDawdling 48 (.istore_n 2) 1 49 := ⟨by decide +kernel, rfl⟩
theorem dX12_goDawdling_49 : nx cX12_goDawdling 49 (.iload_n 2) 1 50 := ⟨by decide +kernel, rfl⟩
theorem dX12_goDawdling_50 : bx cX12_goDawdling 50 (.ifCond .ne 22) 22 72 53 := ⟨by decide +kernel, by decide, rfl⟩
theorem dX12_goDawdling_53 : nx cX12_goDawdling 53 (.aload_n 0) 1 54 := ⟨by decide +kernel, rfl⟩
theorem dX12_goDawdling_54 : nx cX12_goDawdling 54 (.getfield 65) 3 57 := ⟨by decide +kernel, rfl⟩
theorem dX12_goDawdling_57 : nx cX12_goDawdling 57 (.iload_n 1) 1 58 := ⟨by decide +kernel, rfl⟩
theorem dX12_goDawdling_58 : nx cX12_goDawdling 58 (.dup2) 1 59 := ⟨by decide +kernel, rfl⟩
theorem dX12_goDawdling_59 : nx cX12_goDawdling 59 (.laload) 1 60 := ⟨by decide +kernel, rfl⟩
theorem dX12_goDawdling_60 : nx cX12_goDawdling 60 (.aload_n 0) 1 61 := ⟨by decide +kernel, rfl⟩
theorem dX12_goDawdling_61 : nx cX12_goDawdling 61 (.getfield 69) 3 64 := ⟨by decide +kernel, rfl⟩
theorem dX12_goDawdling_64 : nx cX12_goDawdling 64 (.iload_n 1) 1 65 := ⟨by decide +kernel, rfl⟩
theorem dX12_goDawdling_65 : nx cX12_goDawdling 65 (.laload) 1 66 := ⟨by decide +kernel, rfl⟩
theorem dX12_goDawdling_66 : nx cX12_goDawdling 66 (.ldc2_w 276) 3 69 := ⟨by decide +kernel, rfl⟩
theorem dX12_goDawdling_69 : nx cX12_goDawdling 69 (.lmul) 1 70 := ⟨by decide +kernel, rfl⟩
theorem dX12_goDawdling_70 : nx cX12_goDawdling 70 (.ladd) 1 71 := ⟨by decide +kernel, rfl⟩
theorem dX12_goDawdling_71 : nx cX12_goDawdling 71 (.lastore) 1 72 := ⟨by decide +kernel, rfl⟩
theorem dX12_goDawdling_72 : nx cX12_goDawdling 72 (.iconst 0) 1 73 := ⟨by decide +kernel, rfl⟩
theorem dX12_goDawdling_73 : nx cX12_goDawdling 73 (.istore_n 3) 1 74 := ⟨by decide +kernel, rfl⟩
theorem dX12_goDawdling_74 : nx cX12_goDawdling 74 (.iload_n 3) 1 75 := ⟨by decide +kernel, rfl⟩
theorem dX12_goDawdling_75 : nx cX12_goDawdling 75 (.aload_n 0) 1 76 := ⟨by decide +kernel, rfl⟩
theorem dX12_goDawdling_76 : nx cX12_goDawdling 76 (.getfield 101) 3 79 := ⟨by decide +kernel, rfl⟩
theorem dX12_goDawdling_79 : bx cX12_goDawdling 79 (.if_icmp .ge 45) 45 124 82 := ⟨by decide +kernel, by decide, rfl⟩
theorem dX12_goDawdling_82 : nx cX12_goDawdling 82 (.aload_n 0) 1 83 := ⟨by decide +kernel, rfl⟩
theorem dX12_goDawdling_83 : nx cX12_goDawdling 83 (.iload_n 3) 1 84 := ⟨by decide +kernel, rfl⟩
theorem dX12_goDawdling_84 : nx cX12_goDawdling 84 (.iload_n 1) 1 85 := ⟨by decide +kernel, rfl⟩
theorem dX12_goDawdling_85 : nx cX12_goDawdling 85 (.invokevirtual 196) 3 88 := ⟨by decide +kernel, rfl⟩
theorem dX12_goDawdling_88 : nx cX12_goDawdling 88 (.istore 4) 2 90 := ⟨by decide +kernel, rfl⟩
theorem dX12_goDawdling_90 : nx cX12_goDawdling 90 (.iload 4) 2 92 := ⟨by decide +kernel, rfl⟩
theorem dX12_goDawdling_92 : bx cX12_goDawdling 92 (.ifCond .lt 26) 26 118 95 := ⟨by decide +kernel, by decide, rfl⟩
theorem dX12_goDawdling_95 : nx cX12_goDawdling 95 (.aload_n 0) 1 96 := ⟨by decide +kernel, rfl⟩
theorem dX12_goDawdling_96 : nx cX12_goDawdling 96 (.getfield 65) 3 99 := ⟨by decide +kernel, rfl⟩
theorem dX12_goDawdling_99 : nx cX12_goDawdling 99 (.iload 4) 2 101 := ⟨by decide +kernel, rfl⟩
theorem dX12_goDawdling_101 : nx cX12_goDawdling 101 (.dup2) 1 102 := ⟨by decide +kernel, rfl⟩
theorem dX12_goDawdling_102 : nx cX12_goDawdling 102 (.laload) 1 103 := ⟨by decide +kernel, rfl⟩
theorem dX12_goDawdling_103 : nx cX12_goDawdling 103 (.aload_n 0) 1 104 := ⟨by decide +kernel, rfl⟩
theorem dX12_goDawdling_104 : nx cX12_goDawdling 104 (.getfield 69) 3 107 := ⟨by decide +kernel, rfl⟩
theorem dX12_goDawdling_107 : nx cX12_goDawdling 107 (.iload_n 1) 1 108 := ⟨by decide +kernel, rfl⟩
theorem dX12_goDawdling_108 : nx cX12_goDawdling 108 (.laload) 1 109 := ⟨by decide +kernel, rfl⟩
theorem dX12_goDawdling_109 : nx cX12_goDawdling 109 (.sipush 2520) 3 112 := ⟨by decide +kernel, rfl⟩
theorem dX12_goDawdling_112 : nx cX12_goDawdling 112 (.iload_n 2) 1 113 := ⟨by decide +kernel, rfl⟩
theorem dX12_goDawdling_113 : nx cX12_goDawdling 113 (.idiv) 1 114 := ⟨by decide +kernel, rfl⟩
theorem dX12_goDawdling_114 : nx cX12_goDawdling 114 (.i2l) 1 115 := ⟨by decide +kernel, rfl⟩
theorem dX12_goDawdling_115 : nx cX12_goDawdling 115 (.lmul) 1 116 := ⟨by decide +kernel, rfl⟩
theorem dX12_goDawdling_116 : nx cX12_goDawdling 116 (.ladd) 1 117 := ⟨by decide +kernel, rfl⟩
theorem dX12_goDawdling_117 : nx cX12_goDawdling 117 (.lastore) 1 118 := ⟨by decide +kernel, rfl⟩
theorem dX12_goDawdling_118 : nx cX12_goDawdling 118 (.iinc 3 1) 3 121 := ⟨by decide +kernel, rfl⟩
theorem dX12_goDawdling_121 : bx cX12_goDawdling 121 (.goto (-47)) (-47) 74 124 := ⟨by decide +kernel, by decide, rfl⟩
theorem dX12_goDawdling_124 : nx cX12_goDawdling 124 (.iinc 1 1) 3 127 := ⟨by decide +kernel, rfl⟩
theorem dX12_goDawdling_127 : bx cX12_goDawdling 127 (.goto (-92)) (-92) 35 130 := ⟨by decide +kernel, by decide, rfl⟩
theorem dX12_goDawdling_130 : nx cX12_goDawdling 130 (.return_) 1 131 := ⟨by decide +kernel, rfl⟩
theorem dX12_dawdle_0 : nx cX12_dawdle 0 (.aload_n 0) 1 1 := ⟨by decide +kernel, rfl⟩
theorem dX12_dawdle_1 : nx cX12_dawdle 1 (.iload_n 2) 1 2 := ⟨by decide +kernel, rfl⟩
theorem dX12_dawdle_2 : nx cX12_dawdle 2 (.invokevirtual 178) 3 5 := ⟨by decide +kernel, rfl⟩
theorem dX12_dawdle_5 : bx cX12_dawdle 5 (.ifCond .ne 25) 25 30 8 := ⟨by decide +kernel, by decide, rfl⟩
theorem dX12_dawdle_8 : nx cX12_dawdle 8 (.iload_n 1) 1 9 := ⟨by decide +kernel, rfl⟩
theorem dX12_dawdle_9 : nx cX12_dawdle 9 (.i2l) 1 10 := ⟨by decide +kernel, rfl⟩
theorem dX12_dawdle_10 : nx cX12_dawdle 10 (.lconst 0) 1 11 := ⟨by decide +kernel, rfl⟩
theorem dX12_dawdle_11 : nx cX12_dawdle 11 (.ldc2_w 252) 3 14 := ⟨by decide +kernel, rfl⟩
theorem dX12_dawdle_14 : nx cX12_dawdle 14 (.invokestatic 97) 3 17 := ⟨by decide +kernel, rfl⟩
theorem dX12_dawdle_17 : bx cX12_dawdle 17 (.ifCond .eq 13) 13 30 20 := ⟨by decide +kernel, by decide, rfl⟩
theorem dX12_dawdle_20 : nx cX12_dawdle 20 (.iload_n 3) 1 21 := ⟨by decide +kernel, rfl⟩
theorem dX12_dawdle_21 : nx cX12_dawdle 21 (.i2l) 1 22 := ⟨by decide +kernel, rfl⟩
theorem dX12_dawdle_22 : nx cX12_dawdle 22 (.lconst 0) 1 23 := ⟨by decide +kernel, rfl⟩
theorem dX12_dawdle_23 : nx cX12_dawdle 23 (.lconst 1) 1 24 := ⟨by decide +kernel, rfl⟩
theorem dX12_dawdle_24 : nx cX12_dawdle 24 (.invokestatic 97) 3 27 := ⟨by decide +kernel, rfl⟩
theorem dX12_dawdle_27 : bx cX12_dawdle 27 (.ifCond .ne 7) 7 34 30 := ⟨by decide +kernel, by decide, rfl⟩
theorem dX12_dawdle_30 : nx cX12_dawdle 30 (.invokestatic 90) 3 33 := ⟨by decide +kernel, rfl⟩
theorem dX12_dawdle_33 : nx cX12_dawdle 33 (.lreturn) 1 34 := ⟨by decide +kernel, rfl⟩
theorem dX12_dawdle_34 : nx cX12_dawdle 34 (.lconst 1) 1 35 := ⟨by decide +kernel, rfl⟩
theorem dX12_dawdle_35 : nx cX12_dawdle 35 (.lstore 4) 2 37 := ⟨by decide +kernel, rfl⟩
theorem dX12_dawdle_37 : nx cX12_dawdle 37 (.iconst 0) 1 38 := ⟨by decide +kernel, rfl⟩
theorem dX12_dawdle_38 : nx cX12_dawdle 38 (.istore 6) 2 40 := ⟨by decide +kernel, rfl⟩
theorem dX12_dawdle_40 : nx cX12_dawdle 40 (.iload 6) 2 42 := ⟨by decide +kernel, rfl⟩
theorem dX12_dawdle_42 : nx cX12_dawdle 42 (.bipush 7) 2 44 := ⟨by decide +kernel, rfl⟩
theorem dX12_dawdle_44 : bx cX12_dawdle 44 (.if_icmp .ge 26) 26 70 47 := ⟨by decide +kernel, by decide, rfl⟩
theorem dX12_dawdle_47 : nx cX12_dawdle 47 (.aload_n 0) 1 48 := ⟨by decide +kernel, rfl⟩
theorem dX12_dawdle_48 : nx cX12_dawdle 48 (.getfield 65) 3 51 := ⟨by decide +kernel, rfl⟩
theorem dX12_dawdle_51 : nx cX12_dawdle 51 (.iload 6) 2 53 := ⟨by decide +kernel, rfl⟩
theorem dX12_dawdle_53 : nx cX12_dawdle 53 (.iload 6) 2 55 := ⟨by decide +kernel, rfl⟩
theorem dX12_dawdle_55 : bx cX12_dawdle 55 (.ifCond .ne 7) 7 62 58 := ⟨by decide +kernel, by decide, rfl⟩
theorem dX12_dawdle_58 : nx cX12_dawdle 58 (.lconst 1) 1 59 := ⟨by decide +kernel, rfl⟩
theorem dX12_dawdle_59 : bx cX12_dawdle 59 (.goto 4) 4 63 62 := ⟨by decide +kernel, by decide, rfl⟩
theorem dX12_dawdle_62 : nx cX12_dawdle 62 (.lconst 0) 1 63 := ⟨by decide +kernel, rfl⟩
theorem dX12_dawdle_63 : nx cX12_dawdle 63 (.lastore) 1 64 := ⟨by decide +kernel, rfl⟩
theorem dX12_dawdle_64 : nx cX12_dawdle 64 (.iinc 6 1) 3 67 := ⟨by decide +kernel, rfl⟩
theorem dX12_dawdle_67 : bx cX12_dawdle 67 (.goto (-27)) (-27) 40 70 := ⟨by decide +kernel, by decide, rfl⟩
theorem dX12_dawdle_70 : nx cX12_dawdle 70 (.iconst 0) 1 71 := ⟨by decide +kernel, rfl⟩
theorem dX12_dawdle_71 : nx cX12_dawdle 71 (.istore 6) 2 73 := ⟨by decide +kernel, rfl⟩
theorem dX12_dawdle_73 : nx cX12_dawdle 73 (.iload 6) 2 75 := ⟨by decide +kernel, rfl⟩
theorem dX12_dawdle_75 : nx cX12_dawdle 75 (.iload_n 1) 1 76 := ⟨by decide +kernel, rfl⟩
theorem dX12_dawdle_76 : bx cX12_dawdle 76 (.if_icmp .ge 21) 21 97 79 := ⟨by decide +kernel, by decide, rfl⟩
theorem dX12_dawdle_79 : nx cX12_dawdle 79 (.aload_n 0) 1 80 := ⟨by decide +kernel, rfl⟩
theorem dX12_dawdle_80 : nx cX12_dawdle 80 (.invokevirtual 278) 3 83 := ⟨by decide +kernel, rfl⟩
theorem dX12_dawdle_83 : nx cX12_dawdle 83 (.lload 4) 2 85 := ⟨by decide +kernel, rfl⟩
theorem dX12_dawdle_85 : nx cX12_dawdle 85 (.ldc2_w 276) 3 88 := ⟨by decide +kernel, rfl⟩
theorem dX12_dawdle_88 : nx cX12_dawdle 88 (.lmul) 1 89 := ⟨by decide +kernel, rfl⟩
theorem dX12_dawdle_89 : nx cX12_dawdle 89 (.lstore 4) 2 91 := ⟨by decide +kernel, rfl⟩
theorem dX12_dawdle_91 : nx cX12_dawdle 91 (.iinc 6 1) 3 94 := ⟨by decide +kernel, rfl⟩
theorem dX12_dawdle_94 : bx cX12_dawdle 94 (.goto (-21)) (-21) 73 97 := ⟨by decide +kernel, by decide, rfl⟩
theorem dX12_dawdle_97 : nx cX12_dawdle 97 (.aload_n 0) 1 98 := ⟨by decide +kernel, rfl⟩
theorem dX12_dawdle_98 : nx cX12_dawdle 98 (.getfield 65) 3 101 := ⟨by decide +kernel, rfl⟩
theorem dX12_dawdle_101 : nx cX12_dawdle 101 (.iload_n 2) 1 102 := ⟨by decide +kernel, rfl⟩
theorem dX12_dawdle_102 : nx cX12_dawdle 102 (.laload) 1 103 := ⟨by decide +kernel, rfl⟩
theorem dX12_dawdle_103 : nx cX12_dawdle 103 (.lload 4) 2 105 := ⟨by decide +kernel, rfl⟩
theorem dX12_dawdle_105 : nx cX12_dawdle 105 (.iload_n 3) 1 106 := ⟨by decide +kernel, rfl⟩
theorem dX12_dawdle_106 : nx cX12_dawdle 106 (.invokestatic 220) 3 109 := ⟨by decide +kernel, rfl⟩
theorem dX12_dawdle_109 : nx cX12_dawdle 109 (.lreturn) 1 110 := ⟨by decide +kernel, rfl⟩
theorem dX12_noSheet_0 : nx cX12_noSheet 0 (.iload_n 0) 1 1 := ⟨by decide +kernel, rfl⟩
theorem dX12_noSheet_1 : nx cX12_noSheet 1 (.i2l) 1 2 := ⟨by decide +kernel, rfl⟩
theorem dX12_noSheet_2 : nx cX12_noSheet 2 (.lconst 0) 1 3 := ⟨by decide +kernel, rfl⟩
theorem dX12_noSheet_3 : nx cX12_noSheet 3 (.ldc2_w 202) 3 6 := ⟨by decide +kernel, rfl⟩
theorem dX12_noSheet_6 : nx cX12_noSheet 6 (.invokestatic 97) 3 9 := ⟨by decide +kernel, rfl⟩
theorem dX12_noSheet_9 : bx cX12_noSheet 9 (.ifCond .ne 7) 7 16 12 := ⟨by decide +kernel, by decide, rfl⟩
theorem dX12_noSheet_12 : nx cX12_noSheet 12 (.iconst 1) 1 13 := ⟨by decide +kernel, rfl⟩
theorem dX12_noSheet_13 : bx cX12_noSheet 13 (.goto 4) 4 17 16 := ⟨by decide +kernel, by decide, rfl⟩
theorem dX12_noSheet_16 : nx cX12_noSheet 16 (.iconst 0) 1 17 := ⟨by decide +kernel, rfl⟩
theorem dX12_noSheet_17 : nx cX12_noSheet 17 (.ireturn) 1 18 := ⟨by decide +kernel, rfl⟩
theorem dX12_sheet_0 : nx cX12_sheet 0 (.iload_n 1) 1 1 := ⟨by decide +kernel, rfl⟩
theorem dX12_sheet_1 : nx cX12_sheet 1 (.invokestatic 133) 3 4 := ⟨by decide +kernel, rfl⟩
theorem dX12_sheet_4 : bx cX12_sheet 4 (.ifCond .eq 9) 9 13 7 := ⟨by decide +kernel, by decide, rfl⟩
theorem dX12_sheet_7 : nx cX12_sheet 7 (.aload_n 0) 1 8 := ⟨by decide +kernel, rfl⟩
theorem dX12_sheet_8 : nx cX12_sheet 8 (.iconst (-1)) 1 9 := ⟨by decide +kernel, rfl⟩
theorem dX12_sheet_9 : nx cX12_sheet 9 (.invokevirtual 137) 3 12 := ⟨by decide +kernel, rfl⟩
theorem dX12_sheet_12 : nx cX12_sheet 12 (.ireturn) 1 13 := ⟨by decide +kernel, rfl⟩
theorem dX12_sheet_13 : nx cX12_sheet 13 (.iload_n 2) 1 14 := ⟨by decide +kernel, rfl⟩
theorem dX12_sheet_14 : nx cX12_sheet 14 (.i2l) 1 15 := ⟨by decide +kernel, rfl⟩
theorem dX12_sheet_15 : nx cX12_sheet 15 (.lconst 0) 1 16 := ⟨by decide +kernel, rfl⟩
theorem dX12_sheet_16 : nx cX12_sheet 16 (.ldc2_w 140) 3 19 := ⟨by decide +kernel, rfl⟩
theorem dX12_sheet_19 : nx cX12_sheet 19 (.invokestatic 97) 3 22 := ⟨by decide +kernel, rfl⟩
theorem dX12_sheet_22 : bx cX12_sheet 22 (.ifCond .eq 9) 9 31 25 := ⟨by decide +kernel, by decide, rfl⟩
theorem dX12_sheet_25 : nx cX12_sheet 25 (.iload_n 3) 1 26 := ⟨by decide +kernel, rfl⟩
theorem dX12_sheet_26 : nx cX12_sheet 26 (.bipush 60) 2 28 := ⟨by decide +kernel, rfl⟩
theorem dX12_sheet_28 : bx cX12_sheet 28 (.if_icmp .le 10) 10 38 31 := ⟨by decide +kernel, by decide, rfl⟩
theorem dX12_sheet_31 : nx cX12_sheet 31 (.aload_n 0) 1 32 := ⟨by decide +kernel, rfl⟩
theorem dX12_sheet_32 : nx cX12_sheet 32 (.bipush (-2)) 2 34 := ⟨by decide +kernel, rfl⟩
theorem dX12_sheet_34 : nx cX12_sheet 34 (.invokevirtual 137) 3 37 := ⟨by decide +kernel, rfl⟩
theorem dX12_sheet_37 : nx cX12_sheet 37 (.ireturn) 1 38 := ⟨by decide +kernel, rfl⟩
theorem dX12_sheet_38 : nx cX12_sheet 38 (.iload_n 3) 1 39 := ⟨by decide +kernel, rfl⟩
theorem dX12_sheet_39 : bx cX12_sheet 39 (.ifCond .ge 9) 9 48 42 := ⟨by decide +kernel, by decide, rfl⟩
theorem dX12_sheet_42 : nx cX12_sheet 42 (.aload_n 0) 1 43 := ⟨by decide +kernel, rfl⟩
theorem dX12_sheet_43 : nx cX12_sheet 43 (.iconst 4) 1 44 := ⟨by decide +kernel, rfl⟩
theorem dX12_sheet_44 : nx cX12_sheet 44 (.invokevirtual 125) 3 47 := ⟨by decide +kernel, rfl⟩
theorem dX12_sheet_47 : nx cX12_sheet 47 (.ireturn) 1 48 := ⟨by decide +kernel, rfl⟩
theorem dX12_sheet_48 : nx cX12_sheet 48 (.aload_n 0) 1 49 := ⟨by decide +kernel, rfl⟩
theorem dX12_sheet_49 : nx cX12_sheet 49 (.getfield 72) 3 52 := ⟨by decide +kernel, rfl⟩
theorem dX12_sheet_52 : nx cX12_sheet 52 (.iload_n 1) 1 53 := ⟨by decide +kernel, rfl⟩
theorem dX12_sheet_53 : nx cX12_sheet 53 (.iload_n 3) 1 54 := ⟨by decide +kernel, rfl⟩
theorem dX12_sheet_54 : nx cX12_sheet 54 (.iastore) 1 55 := ⟨by decide +kernel, rfl⟩
theorem dX12_sheet_55 : nx cX12_sheet 55 (.aload_n 0) 1 56 := ⟨by decide +kernel, rfl⟩
theorem dX12_sheet_56 : nx cX12_sheet 56 (.getfield 75) 3 59 := ⟨by decide +kernel, rfl⟩
theorem dX12_sheet_59 : nx cX12_sheet 59 (.iload_n 1) 1 60 := ⟨by decide +kernel, rfl⟩
theorem dX12_sheet_60 : nx cX12_sheet 60 (.iload_n 2) 1 61 := ⟨by decide +kernel, rfl⟩
theorem dX12_sheet_61 : nx cX12_sheet 61 (.iastore) 1 62 := ⟨by decide +kernel, rfl⟩
theorem dX12_sheet_62 : nx cX12_sheet 62 (.iconst 0) 1 63 := ⟨by decide +kernel, rfl⟩
theorem dX12_sheet_63 : nx cX12_sheet 63 (.istore 4) 2 65 := ⟨by decide +kernel, rfl⟩
theorem dX12_sheet_65 : nx cX12_sheet 65 (.iload 4) 2 67 := ⟨by decide +kernel, rfl⟩
theorem dX12_sheet_67 : nx cX12_sheet 67 (.iload_n 3) 1 68 := ⟨by decide +kernel, rfl⟩
theorem dX12_sheet_68 : bx cX12_sheet 68 (.if_icmp .ge 22) 22 90 71 := ⟨by decide +kernel, by decide, rfl⟩
theorem dX12_sheet_71 : nx cX12_sheet 71 (.aload_n 0) 1 72 := ⟨by decide +kernel, rfl⟩
theorem dX12_sheet_72 : nx cX12_sheet 72 (.getfield 78) 3 75 := ⟨by decide +kernel, rfl⟩
theorem dX12_sheet_75 : nx cX12_sheet 75 (.bipush 60) 2 77 := ⟨by decide +kernel, rfl⟩
theorem dX12_sheet_77 : nx cX12_sheet 77 (.iload_n 1) 1 78 := ⟨by decide +kernel, rfl⟩
theorem dX12_sheet_78 : nx cX12_sheet 78 (.imul) 1 79 := ⟨by decide +kernel, rfl⟩
theorem dX12_sheet_79 : nx cX12_sheet 79 (.iload 4) 2 81 := ⟨by decide +kernel, rfl⟩
theorem dX12_sheet_81 : nx cX12_sheet 81 (.iadd) 1 82 := ⟨by decide +kernel, rfl⟩
theorem dX12_sheet_82 : nx cX12_sheet 82 (.iconst 0) 1 83 := ⟨by decide +kernel, rfl⟩
theorem dX12_sheet_83 : nx cX12_sheet 83 (.iastore) 1 84 := ⟨by decide +kernel, rfl⟩
theorem dX12_sheet_84 : nx cX12_sheet 84 (.iinc 4 1) 3 87 := ⟨by decide +kernel, rfl⟩
theorem dX12_sheet_87 : bx cX12_sheet 87 (.goto (-22)) (-22) 65 90 := ⟨by decide +kernel, by decide, rfl⟩
theorem dX12_sheet_90 : nx cX12_sheet 90 (.aload_n 0) 1 91 := ⟨by decide +kernel, rfl⟩
theorem dX12_sheet_91 : nx cX12_sheet 91 (.iconst 1) 1 92 := ⟨by decide +kernel, rfl⟩
theorem dX12_sheet_92 : nx cX12_sheet 92 (.invokevirtual 137) 3 95 := ⟨by decide +kernel, rfl⟩
theorem dX12_sheet_95 : nx cX12_sheet 95 (.ireturn) 1 96 := ⟨by decide +kernel, rfl⟩
theorem dX12_lose_0 : nx cX12_lose 0 (.iload_n 1) 1 1 := ⟨by decide +kernel, rfl⟩
theorem dX12_lose_1 : nx cX12_lose 1 (.invokestatic 133) 3 4 := ⟨by decide +kernel, rfl⟩
theorem dX12_lose_4 : bx cX12_lose 4 (.ifCond .eq 5) 5 9 7 := ⟨by decide +kernel, by decide, rfl⟩
theorem dX12_lose_7 : nx cX12_lose 7 (.iconst (-1)) 1 8 := ⟨by decide +kernel, rfl⟩
theorem dX12_lose_8 : nx cX12_lose 8 (.ireturn) 1 9 := ⟨by decide +kernel, rfl⟩
theorem dX12_lose_9 : nx cX12_lose 9 (.aload_n 0) 1 10 := ⟨by decide +kernel, rfl⟩
theorem dX12_lose_10 : nx cX12_lose 10 (.getfield 72) 3 13 := ⟨by decide +kernel, rfl⟩
theorem dX12_lose_13 : nx cX12_lose 13 (.iload_n 1) 1 14 := ⟨by decide +kernel, rfl⟩
theorem dX12_lose_14 : nx cX12_lose 14 (.iaload) 1 15 := ⟨by decide +kernel, rfl⟩
theorem dX12_lose_15 : bx cX12_lose 15 (.ifCond .ge 7) 7 22 18 := ⟨by decide +kernel, by decide, rfl⟩
theorem dX12_lose_18 : nx cX12_lose 18 (.iconst 0) 1 19 := ⟨by decide +kernel, rfl⟩
theorem dX12_lose_19 : bx cX12_lose 19 (.goto 4) 4 23 22 := ⟨by decide +kernel, by decide, rfl⟩
theorem dX12_lose_22 : nx cX12_lose 22 (.iconst 1) 1 23 := ⟨by decide +kernel, rfl⟩
theorem dX12_lose_23 : nx cX12_lose 23 (.istore_n 2) 1 24 := ⟨by decide +kernel, rfl⟩
theorem dX12_lose_24 : nx cX12_lose 24 (.aload_n 0) 1 25 := ⟨by decide +kernel, rfl⟩
theorem dX12_lose_25 : nx cX12_lose 25 (.getfield 72) 3 28 := ⟨by decide +kernel, rfl⟩
theorem dX12_lose_28 : nx cX12_lose 28 (.iload_n 1) 1 29 := ⟨by decide +kernel, rfl⟩
theorem dX12_lose_29 : nx cX12_lose 29 (.iconst (-1)) 1 30 := ⟨by decide +kernel, rfl⟩
theorem dX12_lose_30 : nx cX12_lose 30 (.iastore) 1 31 := ⟨by decide +kernel, rfl⟩
theorem dX12_lose_31 : nx cX12_lose 31 (.iload_n 2) 1 32 := ⟨by decide +kernel, rfl⟩
theorem dX12_lose_32 : nx cX12_lose 32 (.ireturn) 1 33 := ⟨by decide +kernel, rfl⟩
theorem dX12_noCell_0 : nx cX12_noCell 0 (.aload_n 0) 1 1 := ⟨by decide +kernel, rfl⟩
theorem dX12_noCell_1 : nx cX12_noCell 1 (.getfield 72) 3 4 := ⟨by decide +kernel, rfl⟩
theorem dX12_noCell_4 : nx cX12_noCell 4 (.iload_n 1) 1 5 := ⟨by decide +kernel, rfl⟩
theorem dX12_noCell_5 : nx cX12_noCell 5 (.iaload) 1 6 := ⟨by decide +kernel, rfl⟩
theorem dX12_noCell_6 : bx cX12_noCell 6 (.ifCond .ge 7) 7 13 9 := ⟨by decide +kernel, by decide, rfl⟩
theorem dX12_noCell_9 : nx cX12_noCell 9 (.iconst 1) 1 10 := ⟨by decide +kernel, rfl⟩
theorem dX12_noCell_10 : bx cX12_noCell 10 (.goto 26) 26 36 13 := ⟨by decide +kernel, by decide, rfl⟩
theorem dX12_noCell_13 : nx cX12_noCell 13 (.iload_n 2) 1 14 := ⟨by decide +kernel, rfl⟩
theorem dX12_noCell_14 : nx cX12_noCell 14 (.i2l) 1 15 := ⟨by decide +kernel, rfl⟩
theorem dX12_noCell_15 : nx cX12_noCell 15 (.lconst 0) 1 16 := ⟨by decide +kernel, rfl⟩
theorem dX12_noCell_16 : nx cX12_noCell 16 (.aload_n 0) 1 17 := ⟨by decide +kernel, rfl⟩
theorem dX12_noCell_17 : nx cX12_noCell 17 (.getfield 72) 3 20 := ⟨by decide +kernel, rfl⟩
theorem dX12_noCell_20 : nx cX12_noCell 20 (.iload_n 1) 1 21 := ⟨by decide +kernel, rfl⟩
theorem dX12_noCell_21 : nx cX12_noCell 21 (.iaload) 1 22 := ⟨by decide +kernel, rfl⟩
theorem dX12_noCell_22 : nx cX12_noCell 22 (.i2l) 1 23 := ⟨by decide +kernel, rfl⟩
theorem dX12_noCell_23 : nx cX12_noCell 23 (.lconst 1) 1 24 := ⟨by decide +kernel, rfl⟩
theorem dX12_noCell_24 : nx cX12_noCell 24 (.lsub) 1 25 := ⟨by decide +kernel, rfl⟩
theorem dX12_noCell_25 : nx cX12_noCell 25 (.invokestatic 97) 3 28 := ⟨by decide +kernel, rfl⟩
theorem dX12_noCell_28 : bx cX12_noCell 28 (.ifCond .eq 7) 7 35 31 := ⟨by decide +kernel, by decide, rfl⟩
theorem dX12_noCell_31 : nx cX12_noCell 31 (.iconst 0) 1 32 := ⟨by decide +kernel, rfl⟩
theorem dX12_noCell_32 : bx cX12_noCell 32 (.goto 4) 4 36 35 := ⟨by decide +kernel, by decide, rfl⟩
theorem dX12_noCell_35 : nx cX12_noCell 35 (.iconst 3) 1 36 := ⟨by decide +kernel, rfl⟩
theorem dX12_noCell_36 : nx cX12_noCell 36 (.ireturn) 1 37 := ⟨by decide +kernel, rfl⟩
theorem dX12_put_0 : nx cX12_put 0 (.iload_n 1) 1 1 := ⟨by decide +kernel, rfl⟩
theorem dX12_put_1 : nx cX12_put 1 (.invokestatic 133) 3 4 := ⟨by decide +kernel, rfl⟩
theorem dX12_put_4 : bx cX12_put 4 (.ifCond .eq 9) 9 13 7 := ⟨by decide +kernel, by decide, rfl⟩
theorem dX12_put_7 : nx cX12_put 7 (.aload_n 0) 1 8 := ⟨by decide +kernel, rfl⟩
theorem dX12_put_8 : nx cX12_put 8 (.iconst (-1)) 1 9 := ⟨by decide +kernel, rfl⟩
theorem dX12_put_9 : nx cX12_put 9 (.invokevirtual 137) 3 12 := ⟨by decide +kernel, rfl⟩
theorem dX12_put_12 : nx cX12_put 12 (.ireturn) 1 13 := ⟨by decide +kernel, rfl⟩
theorem dX12_put_13 : nx cX12_put 13 (.aload_n 0) 1 14 := ⟨by decide +kernel, rfl⟩
theorem dX12_put_14 : nx cX12_put 14 (.iload_n 1) 1 15 := ⟨by decide +kernel, rfl⟩
theorem dX12_put_15 : nx cX12_put 15 (.iload_n 2) 1 16 := ⟨by decide +kernel, rfl⟩
theorem dX12_put_16 : nx cX12_put 16 (.invokevirtual 281) 3 19 := ⟨by decide +kernel, rfl⟩
theorem dX12_put_19 : bx cX12_put 19 (.ifCond .le 14) 14 33 22 := ⟨by decide +kernel, by decide, rfl⟩
theorem dX12_put_22 : nx cX12_put 22 (.aload_n 0) 1 23 := ⟨by decide +kernel, rfl⟩
theorem dX12_put_23 : nx cX12_put 23 (.aload_n 0) 1 24 := ⟨by decide +kernel, rfl⟩
theorem dX12_put_24 : nx cX12_put 24 (.iload_n 1) 1 25 := ⟨by decide +kernel, rfl⟩
theorem dX12_put_25 : nx cX12_put 25 (.iload_n 2) 1 26 := ⟨by decide +kernel, rfl⟩
theorem dX12_put_26 : nx cX12_put 26 (.invokevirtual 281) 3 29 := ⟨by decide +kernel, rfl⟩
theorem dX12_put_29 : nx cX12_put 29 (.invokevirtual 125) 3 32 := ⟨by decide +kernel, rfl⟩
theorem dX12_put_32 : nx cX12_put 32 (.ireturn) 1 33 := ⟨by decide +kernel, rfl⟩
theorem dX12_put_33 : nx cX12_put 33 (.aload_n 0) 1 34 := ⟨by decide +kernel, rfl⟩
theorem dX12_put_34 : nx cX12_put 34 (.getfield 78) 3 37 := ⟨by decide +kernel, rfl⟩
theorem dX12_put_37 : nx cX12_put 37 (.bipush 60) 2 39 := ⟨by decide +kernel, rfl⟩
theorem dX12_put_39 : nx cX12_put 39 (.iload_n 1) 1 40 := ⟨by decide +kernel, rfl⟩
theorem dX12_put_40 : nx cX12_put 40 (.imul) 1 41 := ⟨by decide +kernel, rfl⟩
theorem dX12_put_41 : nx cX12_put 41 (.iload_n 2) 1 42 := ⟨by decide +kernel, rfl⟩
theorem dX12_put_42 : nx cX12_put 42 (.iadd) 1 43 := ⟨by decide +kernel, rfl⟩
theorem dX12_put_43 : nx cX12_put 43 (.aload_n 0) 1 44 := ⟨by decide +kernel, rfl⟩
theorem dX12_put_44 : nx cX12_put 44 (.getfield 75) 3 47 := ⟨by decide +kernel, rfl⟩
theorem dX12_put_47 : nx cX12_put 47 (.iload_n 1) 1 48 := ⟨by decide +kernel, rfl⟩
theorem dX12_put_48 : nx cX12_put 48 (.iaload) 1 49 := ⟨by decide +kernel, rfl⟩
theorem dX12_put_49 : bx cX12_put 49 (.ifCond .ne 8) 8 57 52 := ⟨by decide +kernel, by decide, rfl⟩
theorem dX12_put_52 : nx cX12_put 52 (.iload_n 3) 1 53 := ⟨by decide +kernel, rfl⟩
theorem dX12_put_53 : nx cX12_put 53 (.i2b) 1 54 := ⟨by decide +kernel, rfl⟩
theorem dX12_put_54 : bx cX12_put 54 (.goto 19) 19 73 57 := ⟨by decide +kernel, by decide, rfl⟩
theorem dX12_put_57 : nx cX12_put 57 (.aload_n 0) 1 58 := ⟨by decide +kernel, rfl⟩
theorem dX12_put_58 : nx cX12_put 58 (.getfield 75) 3 61 := ⟨by decide +kernel, rfl⟩
theorem dX12_put_61 : nx cX12_put 61 (.iload_n 1) 1 62 := ⟨by decide +kernel, rfl⟩
theorem dX12_put_62 : nx cX12_put 62 (.iaload) 1 63 := ⟨by decide +kernel, rfl⟩
theorem dX12_put_63 : nx cX12_put 63 (.iconst 1) 1 64 := ⟨by decide +kernel, rfl⟩
theorem dX12_put_64 : bx cX12_put 64 (.if_icmp .ne 8) 8 72 67 := ⟨by decide +kernel, by decide, rfl⟩
theorem dX12_put_67 : nx cX12_put 67 (.iload_n 3) 1 68 := ⟨by decide +kernel, rfl⟩
theorem dX12_put_68 : nx cX12_put 68 (.i2s) 1 69 := ⟨by decide +kernel, rfl⟩
theorem dX12_put_69 : bx cX12_put 69 (.goto 4) 4 73 72 := ⟨by decide +kernel, by decide, rfl⟩
theorem dX12_put_72 : nx cX12_put 72 (.iload_n 3) 1 73 := ⟨by decide +kernel, rfl⟩
theorem dX12_put_73 : nx cX12_put 73 (.iastore) 1 74 := ⟨by decide +kernel, rfl⟩
theorem dX12_put_74 : nx cX12_put 74 (.aload_n 0) 1 75 := ⟨by decide +kernel, rfl⟩
theorem dX12_put_75 : nx cX12_put 75 (.iconst 1) 1 76 := ⟨by decide +kernel, rfl⟩
theorem dX12_put_76 : nx cX12_put 76 (.invokevirtual 137) 3 79 := ⟨by decide +kernel, rfl⟩
theorem dX12_put_79 : nx cX12_put 79 (.ireturn) 1 80 := ⟨by decide +kernel, rfl⟩
theorem dX12_cell_0 : nx cX12_cell 0 (.aload_n 0) 1 1 := ⟨by decide +kernel, rfl⟩
theorem dX12_cell_1 : nx cX12_cell 1 (.iconst 0) 1 2 := ⟨by decide +kernel, rfl⟩
theorem dX12_cell_2 : nx cX12_cell 2 (.putfield 86) 3 5 := ⟨by decide +kernel, rfl⟩
theorem dX12_cell_5 : nx cX12_cell 5 (.iload_n 1) 1 6 := ⟨by decide +kernel, rfl⟩
theorem dX12_cell_6 : nx cX12_cell 6 (.invokestatic 133) 3 9 := ⟨by decide +kernel, rfl⟩
theorem dX12_cell_9 : bx cX12_cell 9 (.ifCond .ne 15) 15 24 12 := ⟨by decide +kernel, by decide, rfl⟩
theorem dX12_cell_12 : nx cX12_cell 12 (.iload_n 3) 1 13 := ⟨by decide +kernel, rfl⟩
theorem dX12_cell_13 : nx cX12_cell 13 (.i2l) 1 14 := ⟨by decide +kernel, rfl⟩
theorem dX12_cell_14 : nx cX12_cell 14 (.lconst 0) 1 15 := ⟨by decide +kernel, rfl⟩
theorem dX12_cell_15 : nx cX12_cell 15 (.ldc2_w 140) 3 18 := ⟨by decide +kernel, rfl⟩
theorem dX12_cell_18 : nx cX12_cell 18 (.invokestatic 97) 3 21 := ⟨by decide +kernel, rfl⟩
theorem dX12_cell_21 : bx cX12_cell 21 (.ifCond .ne 7) 7 28 24 := ⟨by decide +kernel, by decide, rfl⟩
theorem dX12_cell_24 : nx cX12_cell 24 (.invokestatic 90) 3 27 := ⟨by decide +kernel, rfl⟩
theorem dX12_cell_27 : nx cX12_cell 27 (.lreturn) 1 28 := ⟨by decide +kernel, rfl⟩
theorem dX12_cell_28 : nx cX12_cell 28 (.aload_n 0) 1 29 := ⟨by decide +kernel, rfl⟩
theorem dX12_cell_29 : nx cX12_cell 29 (.getfield 72) 3 32 := ⟨by decide +kernel, rfl⟩
theorem dX12_cell_32 : nx cX12_cell 32 (.iload_n 1) 1 33 := ⟨by decide +kernel, rfl⟩
theorem dX12_cell_33 : nx cX12_cell 33 (.iaload) 1 34 := ⟨by decide +kernel, rfl⟩
theorem dX12_cell_34 : bx cX12_cell 34 (.ifCond .lt 19) 19 53 37 := ⟨by decide +kernel, by decide, rfl⟩
theorem dX12_cell_37 : nx cX12_cell 37 (.aload_n 0) 1 38 := ⟨by decide +kernel, rfl⟩
theorem dX12_cell_38 : nx cX12_cell 38 (.getfield 75) 3 41 := ⟨by decide +kernel, rfl⟩
theorem dX12_cell_41 : nx cX12_cell 41 (.iload_n 1) 1 42 := ⟨by decide +kernel, rfl⟩
theorem dX12_cell_42 : nx cX12_cell 42 (.iaload) 1 43 := ⟨by decide +kernel, rfl⟩
theorem dX12_cell_43 : nx cX12_cell 43 (.iload_n 3) 1 44 := ⟨by decide +kernel, rfl⟩
theorem dX12_cell_44 : bx cX12_cell 44 (.if_icmp .eq 9) 9 53 47 := ⟨by decide +kernel, by decide, rfl⟩
theorem dX12_cell_47 : nx cX12_cell 47 (.aload_n 0) 1 48 := ⟨by decide +kernel, rfl⟩
theorem dX12_cell_48 : nx cX12_cell 48 (.iconst 2) 1 49 := ⟨by decide +kernel, rfl⟩
theorem dX12_cell_49 : nx cX12_cell 49 (.invokevirtual 284) 3 52 := ⟨by decide +kernel, rfl⟩
theorem dX12_cell_52 : nx cX12_cell 52 (.lreturn) 1 53 := ⟨by decide +kernel, rfl⟩
theorem dX12_cell_53 : nx cX12_cell 53 (.aload_n 0) 1 54 := ⟨by decide +kernel, rfl⟩
theorem dX12_cell_54 : nx cX12_cell 54 (.iload_n 1) 1 55 := ⟨by decide +kernel, rfl⟩
theorem dX12_cell_55 : nx cX12_cell 55 (.iload_n 2) 1 56 := ⟨by decide +kernel, rfl⟩
theorem dX12_cell_56 : nx cX12_cell 56 (.invokevirtual 281) 3 59 := ⟨by decide +kernel, rfl⟩
theorem dX12_cell_59 : bx cX12_cell 59 (.ifCond .le 16) 16 75 62 := ⟨by decide +kernel, by decide, rfl⟩
theorem dX12_cell_62 : nx cX12_cell 62 (.aload_n 0) 1 63 := ⟨by decide +kernel, rfl⟩
theorem dX12_cell_63 : nx cX12_cell 63 (.aload_n 0) 1 64 := ⟨by decide +kernel, rfl⟩
theorem dX12_cell_64 : nx cX12_cell 64 (.iload_n 1) 1 65 := ⟨by decide +kernel, rfl⟩
theorem dX12_cell_65 : nx cX12_cell 65 (.iload_n 2) 1 66 := ⟨by decide +kernel, rfl⟩
theorem dX12_cell_66 : nx cX12_cell 66 (.invokevirtual 281) 3 69 := ⟨by decide +kernel, rfl⟩
theorem dX12_cell_69 : nx cX12_cell 69 (.invokevirtual 284) 3 72 := ⟨by decide +kernel, rfl⟩
theorem dX12_cell_72 : bx cX12_cell 72 (.goto 15) 15 87 75 := ⟨by decide +kernel, by decide, rfl⟩
theorem dX12_cell_75 : nx cX12_cell 75 (.aload_n 0) 1 76 := ⟨by decide +kernel, rfl⟩
theorem dX12_cell_76 : nx cX12_cell 76 (.getfield 78) 3 79 := ⟨by decide +kernel, rfl⟩
theorem dX12_cell_79 : nx cX12_cell 79 (.bipush 60) 2 81 := ⟨by decide +kernel, rfl⟩
theorem dX12_cell_81 : nx cX12_cell 81 (.iload_n 1) 1 82 := ⟨by decide +kernel, rfl⟩
theorem dX12_cell_82 : nx cX12_cell 82 (.imul) 1 83 := ⟨by decide +kernel, rfl⟩
theorem dX12_cell_83 : nx cX12_cell 83 (.iload_n 2) 1 84 := ⟨by decide +kernel, rfl⟩
theorem dX12_cell_84 : nx cX12_cell 84 (.iadd) 1 85 := ⟨by decide +kernel, rfl⟩
theorem dX12_cell_85 : nx cX12_cell 85 (.iaload) 1 86 := ⟨by decide +kernel, rfl⟩
theorem dX12_cell_86 : nx cX12_cell 86 (.i2l) 1 87 := ⟨by decide +kernel, rfl⟩
theorem dX12_cell_87 : nx cX12_cell 87 (.lreturn) 1 88 := ⟨by decide +kernel, rfl⟩
theorem dX12_isBeyond_0 : nx cX12_isBeyond 0 (.iload_n 0) 1 1 := ⟨by decide +kernel, rfl⟩
theorem dX12_isBeyond_1 : bx cX12_isBeyond 1 (.ifCond .lt 19) 19 20 4 := ⟨by decide +kernel, by decide, rfl⟩
theorem dX12_isBeyond_4 : nx cX12_isBeyond 4 (.lload_n 1) 1 5 := ⟨by decide +kernel, rfl⟩
theorem dX12_isBeyond_5 : nx cX12_isBeyond 5 (.lconst 0) 1 6 := ⟨by decide +kernel, rfl⟩
theorem dX12_isBeyond_6 : nx cX12_isBeyond 6 (.lcmp) 1 7 := ⟨by decide +kernel, rfl⟩
theorem dX12_isBeyond_7 : bx cX12_isBeyond 7 (.ifCond .lt 13) 13 20 10 := ⟨by decide +kernel, by decide, rfl⟩
theorem dX12_isBeyond_10 : nx cX12_isBeyond 10 (.iload_n 0) 1 11 := ⟨by decide +kernel, rfl⟩
theorem dX12_isBeyond_11 : nx cX12_isBeyond 11 (.i2l) 1 12 := ⟨by decide +kernel, rfl⟩
theorem dX12_isBeyond_12 : nx cX12_isBeyond 12 (.lload_n 1) 1 13 := ⟨by decide +kernel, rfl⟩
theorem dX12_isBeyond_13 : nx cX12_isBeyond 13 (.ladd) 1 14 := ⟨by decide +kernel, rfl⟩
theorem dX12_isBeyond_14 : nx cX12_isBeyond 14 (.iload_n 3) 1 15 := ⟨by decide +kernel, rfl⟩
theorem dX12_isBeyond_15 : nx cX12_isBeyond 15 (.i2l) 1 16 := ⟨by decide +kernel, rfl⟩
theorem dX12_isBeyond_16 : nx cX12_isBeyond 16 (.lcmp) 1 17 := ⟨by decide +kernel, rfl⟩
theorem dX12_isBeyond_17 : bx cX12_isBeyond 17 (.ifCond .le 7) 7 24 20 := ⟨by decide +kernel, by decide, rfl⟩
theorem dX12_isBeyond_20 : nx cX12_isBeyond 20 (.iconst 1) 1 21 := ⟨by decide +kernel, rfl⟩
theorem dX12_isBeyond_21 : bx cX12_isBeyond 21 (.goto 4) 4 25 24 := ⟨by decide +kernel, by decide, rfl⟩
theorem dX12_isBeyond_24 : nx cX12_isBeyond 24 (.iconst 0) 1 25 := ⟨by decide +kernel, rfl⟩
theorem dX12_isBeyond_25 : nx cX12_isBeyond 25 (.ireturn) 1 26 := ⟨by decide +kernel, rfl⟩
theorem dX12_copy_0 : nx cX12_copy 0 (.iload_n 1) 1 1 := ⟨by decide +kernel, rfl⟩
theorem dX12_copy_1 : nx cX12_copy 1 (.invokestatic 133) 3 4 := ⟨by decide +kernel, rfl⟩
theorem dX12_copy_4 : bx cX12_copy 4 (.ifCond .ne 10) 10 14 7 := ⟨by decide +kernel, by decide, rfl⟩
theorem dX12_copy_7 : nx cX12_copy 7 (.iload_n 3) 1 8 := ⟨by decide +kernel, rfl⟩
theorem dX12_copy_8 : nx cX12_copy 8 (.invokestatic 133) 3 11 := ⟨by decide +kernel, rfl⟩
theorem dX12_copy_11 : bx cX12_copy 11 (.ifCond .eq 9) 9 20 14 := ⟨by decide +kernel, by decide, rfl⟩
theorem dX12_copy_14 : nx cX12_copy 14 (.aload_n 0) 1 15 := ⟨by decide +kernel, rfl⟩
theorem dX12_copy_15 : nx cX12_copy 15 (.iconst (-1)) 1 16 := ⟨by decide +kernel, rfl⟩
theorem dX12_copy_16 : nx cX12_copy 16 (.invokevirtual 137) 3 19 := ⟨by decide +kernel, rfl⟩
theorem dX12_copy_19 : nx cX12_copy 19 (.ireturn) 1 20 := ⟨by decide +kernel, rfl⟩
theorem dX12_copy_20 : nx cX12_copy 20 (.aload_n 0) 1 21 := ⟨by decide +kernel, rfl⟩
theorem dX12_copy_21 : nx cX12_copy 21 (.getfield 72) 3 24 := ⟨by decide +kernel, rfl⟩
theorem dX12_copy_24 : nx cX12_copy 24 (.iload_n 1) 1 25 := ⟨by decide +kernel, rfl⟩
theorem dX12_copy_25 : nx cX12_copy 25 (.iaload) 1 26 := ⟨by decide +kernel, rfl⟩
theorem dX12_copy_26 : bx cX12_copy 26 (.ifCond .lt 12) 12 38 29 := ⟨by decide +kernel, by decide, rfl⟩
theorem dX12_copy_29 : nx cX12_copy 29 (.aload_n 0) 1 30 := ⟨by decide +kernel, rfl⟩
theorem dX12_copy_30 : nx cX12_copy 30 (.getfield 72) 3 33 := ⟨by decide +kernel, rfl⟩
theorem dX12_copy_33 : nx cX12_copy 33 (.iload_n 3) 1 34 := ⟨by decide +kernel, rfl⟩
theorem dX12_copy_34 : nx cX12_copy 34 (.iaload) 1 35 := ⟨by decide +kernel, rfl⟩
theorem dX12_copy_35 : bx cX12_copy 35 (.ifCond .ge 9) 9 44 38 := ⟨by decide +kernel, by decide, rfl⟩
theorem dX12_copy_38 : nx cX12_copy 38 (.aload_n 0) 1 39 := ⟨by decide +kernel, rfl⟩
theorem dX12_copy_39 : nx cX12_copy 39 (.iconst 1) 1 40 := ⟨by decide +kernel, rfl⟩
theorem dX12_copy_40 : nx cX12_copy 40 (.invokevirtual 125) 3 43 := ⟨by decide +kernel, rfl⟩
theorem dX12_copy_43 : nx cX12_copy 43 (.ireturn) 1 44 := ⟨by decide +kernel, rfl⟩
theorem dX12_copy_44 : nx cX12_copy 44 (.aload_n 0) 1 45 := ⟨by decide +kernel, rfl⟩
theorem dX12_copy_45 : nx cX12_copy 45 (.getfield 75) 3 48 := ⟨by decide +kernel, rfl⟩
theorem dX12_copy_48 : nx cX12_copy 48 (.iload_n 1) 1 49 := ⟨by decide +kernel, rfl⟩
theorem dX12_copy_49 : nx cX12_copy 49 (.iaload) 1 50 := ⟨by decide +kernel, rfl⟩
theorem dX12_copy_50 : nx cX12_copy 50 (.aload_n 0) 1 51 := ⟨by decide +kernel, rfl⟩
theorem dX12_copy_51 : nx cX12_copy 51 (.getfield 75) 3 54 := ⟨by decide +kernel, rfl⟩
theorem dX12_copy_54 : nx cX12_copy 54 (.iload_n 3) 1 55 := ⟨by decide +kernel, rfl⟩
theorem dX12_copy_55 : nx cX12_copy 55 (.iaload) 1 56 := ⟨by decide +kernel, rfl⟩
theorem dX12_copy_56 : bx cX12_copy 56 (.if_icmp .eq 9) 9 65 59 := ⟨by decide +kernel, by decide, rfl⟩
theorem dX12_copy_59 : nx cX12_copy 59 (.aload_n 0) 1 60 := ⟨by decide +kernel, rfl⟩
theorem dX12_copy_60 : nx cX12_copy 60 (.iconst 2) 1 61 := ⟨by decide +kernel, rfl⟩
theorem dX12_copy_61 : nx cX12_copy 61 (.invokevirtual 125) 3 64 := ⟨by decide +kernel, rfl⟩
theorem dX12_copy_64 : nx cX12_copy 64 (.ireturn) 1 65 := ⟨by decide +kernel, rfl⟩
theorem dX12_copy_65 : nx cX12_copy 65 (.iload_n 2) 1 66 := ⟨by decide +kernel, rfl⟩
theorem dX12_copy_66 : nx cX12_copy 66 (.iload 5) 2 68 := ⟨by decide +kernel, rfl⟩
theorem dX12_copy_68 : nx cX12_copy 68 (.i2l) 1 69 := ⟨by decide +kernel, rfl⟩
theorem dX12_copy_69 : nx cX12_copy 69 (.aload_n 0) 1 70 := ⟨by decide +kernel, rfl⟩
theorem dX12_copy_70 : nx cX12_copy 70 (.getfield 72) 3 73 := ⟨by decide +kernel, rfl⟩
theorem dX12_copy_73 : nx cX12_copy 73 (.iload_n 1) 1 74 := ⟨by decide +kernel, rfl⟩
theorem dX12_copy_74 : nx cX12_copy 74 (.iaload) 1 75 := ⟨by decide +kernel, rfl⟩
theorem dX12_copy_75 : nx cX12_copy 75 (.invokestatic 129) 3 78 := ⟨by decide +kernel, rfl⟩
theorem dX12_copy_78 : bx cX12_copy 78 (.ifCond .ne 20) 20 98 81 := ⟨by decide +kernel, by decide, rfl⟩
theorem dX12_copy_81 : nx cX12_copy 81 (.iload 4) 2 83 := ⟨by decide +kernel, rfl⟩
theorem dX12_copy_83 : nx cX12_copy 83 (.iload 5) 2 85 := ⟨by decide +kernel, rfl⟩
theorem dX12_copy_85 : nx cX12_copy 85 (.i2l) 1 86 := ⟨by decide +kernel, rfl⟩
theorem dX12_copy_86 : nx cX12_copy 86 (.aload_n 0) 1 87 := ⟨by decide +kernel, rfl⟩
theorem dX12_copy_87 : nx cX12_copy 87 (.getfield 72) 3 90 := ⟨by decide +kernel, rfl⟩
theorem dX12_copy_90 : nx cX12_copy 90 (.iload_n 3) 1 91 := ⟨by decide +kernel, rfl⟩
theorem dX12_copy_91 : nx cX12_copy 91 (.iaload) 1 92 := ⟨by decide +kernel, rfl⟩
theorem dX12_copy_92 : nx cX12_copy 92 (.invokestatic 129) 3 95 := ⟨by decide +kernel, rfl⟩
theorem dX12_copy_95 : bx cX12_copy 95 (.ifCond .eq 9) 9 104 98 := ⟨by decide +kernel, by decide, rfl⟩
theorem dX12_copy_98 : nx cX12_copy 98 (.aload_n 0) 1 99 := ⟨by decide +kernel, rfl⟩
theorem dX12_copy_99 : nx cX12_copy 99 (.iconst 3) 1 100 := ⟨by decide +kernel, rfl⟩
theorem dX12_copy_100 : nx cX12_copy 100 (.invokevirtual 125) 3 103 := ⟨by decide +kernel, rfl⟩
theorem dX12_copy_103 : nx cX12_copy 103 (.ireturn) 1 104 := ⟨by decide +kernel, rfl⟩
theorem dX12_copy_104 : nx cX12_copy 104 (.iconst 0) 1 105 := ⟨by decide +kernel, rfl⟩
theorem dX12_copy_105 : nx cX12_copy 105 (.istore 6) 2 107 := ⟨by decide +kernel, rfl⟩
theorem dX12_copy_107 : nx cX12_copy 107 (.iload 6) 2 109 := ⟨by decide +kernel, rfl⟩
theorem dX12_copy_109 : nx cX12_copy 109 (.iload 5) 2 111 := ⟨by decide +kernel, rfl⟩
theorem dX12_copy_111 : bx cX12_copy 111 (.if_icmp .ge 30) 30 141 114 := ⟨by decide +kernel, by decide, rfl⟩
theorem dX12_copy_114 : nx cX12_copy 114 (.aload_n 0) 1 115 := ⟨by decide +kernel, rfl⟩
theorem dX12_copy_115 : nx cX12_copy 115 (.getfield 81) 3 118 := ⟨by decide +kernel, rfl⟩
theorem dX12_copy_118 : nx cX12_copy 118 (.iload 6) 2 120 := ⟨by decide +kernel, rfl⟩
theorem dX12_copy_120 : nx cX12_copy 120 (.aload_n 0) 1 121 := ⟨by decide +kernel, rfl⟩
theorem dX12_copy_121 : nx cX12_copy 121 (.getfield 78) 3 124 := ⟨by decide +kernel, rfl⟩
theorem dX12_copy_124 : nx cX12_copy 124 (.bipush 60) 2 126 := ⟨by decide +kernel, rfl⟩
theorem dX12_copy_126 : nx cX12_copy 126 (.iload_n 1) 1 127 := ⟨by decide +kernel, rfl⟩
theorem dX12_copy_127 : nx cX12_copy 127 (.imul) 1 128 := ⟨by decide +kernel, rfl⟩
theorem dX12_copy_128 : nx cX12_copy 128 (.iload_n 2) 1 129 := ⟨by decide +kernel, rfl⟩
theorem dX12_copy_129 : nx cX12_copy 129 (.iadd) 1 130 := ⟨by decide +kernel, rfl⟩
theorem dX12_copy_130 : nx cX12_copy 130 (.iload 6) 2 132 := ⟨by decide +kernel, rfl⟩
theorem dX12_copy_132 : nx cX12_copy 132 (.iadd) 1 133 := ⟨by decide +kernel, rfl⟩
theorem dX12_copy_133 : nx cX12_copy 133 (.iaload) 1 134 := ⟨by decide +kernel, rfl⟩
theorem dX12_copy_134 : nx cX12_copy 134 (.iastore) 1 135 := ⟨by decide +kernel, rfl⟩
theorem dX12_copy_135 : nx cX12_copy 135 (.iinc 6 1) 3 138 := ⟨by decide +kernel, rfl⟩
theorem dX12_copy_138 : bx cX12_copy 138 (.goto (-31)) (-31) 107 141 := ⟨by decide +kernel, by decide, rfl⟩
theorem dX12_copy_141 : nx cX12_copy 141 (.iconst 0) 1 142 := ⟨by decide +kernel, rfl⟩
theorem dX12_copy_142 : nx cX12_copy 142 (.istore 6) 2 144 := ⟨by decide +kernel, rfl⟩
theorem dX12_copy_144 : nx cX12_copy 144 (.iload 6) 2 146 := ⟨by decide +kernel, rfl⟩
theorem dX12_copy_146 : nx cX12_copy 146 (.iload 5) 2 148 := ⟨by decide +kernel, rfl⟩
theorem dX12_copy_148 : bx cX12_copy 148 (.if_icmp .ge 31) 31 179 151 := ⟨by decide +kernel, by decide, rfl⟩
theorem dX12_copy_151 : nx cX12_copy 151 (.aload_n 0) 1 152 := ⟨by decide +kernel, rfl⟩
theorem dX12_copy_152 : nx cX12_copy 152 (.getfield 78) 3 155 := ⟨by decide +kernel, rfl⟩
theorem dX12_copy_155 : nx cX12_copy 155 (.bipush 60) 2 157 := ⟨by decide +kernel, rfl⟩
theorem dX12_copy_157 : nx cX12_copy 157 (.iload_n 3) 1 158 := ⟨by decide +kernel, rfl⟩
theorem dX12_copy_158 : nx cX12_copy 158 (.imul) 1 159 := ⟨by decide +kernel, rfl⟩
theorem dX12_copy_159 : nx cX12_copy 159 (.iload 4) 2 161 := ⟨by decide +kernel, rfl⟩
theorem dX12_copy_161 : nx cX12_copy 161 (.iadd) 1 162 := ⟨by decide +kernel, rfl⟩
theorem dX12_copy_162 : nx cX12_copy 162 (.iload 6) 2 164 := ⟨by decide +kernel, rfl⟩
theorem dX12_copy_164 : nx cX12_copy 164 (.iadd) 1 165 := ⟨by decide +kernel, rfl⟩
theorem dX12_copy_165 : nx cX12_copy 165 (.aload_n 0) 1 166 := ⟨by decide +kernel, rfl⟩
theorem dX12_copy_166 : nx cX12_copy 166 (.getfield 81) 3 169 := ⟨by decide +kernel, rfl⟩
theorem dX12_copy_169 : nx cX12_copy 169 (.iload 6) 2 171 := ⟨by decide +kernel, rfl⟩
theorem dX12_copy_171 : nx cX12_copy 171 (.iaload) 1 172 := ⟨by decide +kernel, rfl⟩
theorem dX12_copy_172 : nx cX12_copy 172 (.iastore) 1 173 := ⟨by decide +kernel, rfl⟩
theorem dX12_copy_173 : nx cX12_copy 173 (.iinc 6 1) 3 176 := ⟨by decide +kernel, rfl⟩
theorem dX12_copy_176 : bx cX12_copy 176 (.goto (-32)) (-32) 144 179 := ⟨by decide +kernel, by decide, rfl⟩
theorem dX12_copy_179 : nx cX12_copy 179 (.aload_n 0) 1 180 := ⟨by decide +kernel, rfl⟩
theorem dX12_copy_180 : nx cX12_copy 180 (.iload 5) 2 182 := ⟨by decide +kernel, rfl⟩
theorem dX12_copy_182 : nx cX12_copy 182 (.invokevirtual 137) 3 185 := ⟨by decide +kernel, rfl⟩
theorem dX12_copy_185 : nx cX12_copy 185 (.ireturn) 1 186 := ⟨by decide +kernel, rfl⟩
theorem dX12_traced_0 : nx cX12_traced 0 (.aload_n 0) 1 1 := ⟨by decide +kernel, rfl⟩
theorem dX12_traced_1 : nx cX12_traced 1 (.bipush 31) 2 3 := ⟨by decide +kernel, rfl⟩
theorem dX12_traced_3 : nx cX12_traced 3 (.aload_n 0) 1 4 := ⟨by decide +kernel, rfl⟩
theorem dX12_traced_4 : nx cX12_traced 4 (.getfield 287) 3 7 := ⟨by decide +kernel, rfl⟩
theorem dX12_traced_7 : nx cX12_traced 7 (.imul) 1 8 := ⟨by decide +kernel, rfl⟩
theorem dX12_traced_8 : nx cX12_traced 8 (.iload_n 1) 1 9 := ⟨by decide +kernel, rfl⟩
theorem dX12_traced_9 : nx cX12_traced 9 (.iadd) 1 10 := ⟨by decide +kernel, rfl⟩
theorem dX12_traced_10 : nx cX12_traced 10 (.putfield 287) 3 13 := ⟨by decide +kernel, rfl⟩
theorem dX12_traced_13 : nx cX12_traced 13 (.return_) 1 14 := ⟨by decide +kernel, rfl⟩
theorem dX12_tell_0 : nx cX12_tell 0 (.aload_n 0) 1 1 := ⟨by decide +kernel, rfl⟩
theorem dX12_tell_1 : nx cX12_tell 1 (.iload_n 1) 1 2 := ⟨by decide +kernel, rfl⟩
theorem dX12_tell_2 : nx cX12_tell 2 (.invokevirtual 167) 3 5 := ⟨by decide +kernel, rfl⟩
theorem dX12_tell_5 : bx cX12_tell 5 (.ifCond .eq 5) 5 10 8 := ⟨by decide +kernel, by decide, rfl⟩
theorem dX12_tell_8 : nx cX12_tell 8 (.iconst (-1)) 1 9 := ⟨by decide +kernel, rfl⟩
theorem dX12_tell_9 : nx cX12_tell 9 (.ireturn) 1 10 := ⟨by decide +kernel, rfl⟩
theorem dX12_tell_10 : nx cX12_tell 10 (.aload_n 0) 1 11 := ⟨by decide +kernel, rfl⟩
theorem dX12_tell_11 : nx cX12_tell 11 (.getfield 7) 3 14 := ⟨by decide +kernel, rfl⟩
theorem dX12_tell_14 : nx cX12_tell 14 (.iload_n 1) 1 15 := ⟨by decide +kernel, rfl⟩
theorem dX12_tell_15 : nx cX12_tell 15 (.iaload) 1 16 := ⟨by decide +kernel, rfl⟩
theorem dX12_tell_16 : nx cX12_tell 16 (.istore_n 2) 1 17 := ⟨by decide +kernel, rfl⟩
theorem dX12_tell_17 : nx cX12_tell 17 (.iload_n 2) 1 18 := ⟨by decide +kernel, rfl⟩
theorem dX12_tell_18 : nx cX12_tell 18 (.iconst 2) 1 19 := ⟨by decide +kernel, rfl⟩
theorem dX12_tell_19 : bx cX12_tell 19 (.if_icmp .ne 8) 8 27 22 := ⟨by decide +kernel, by decide, rfl⟩
theorem dX12_tell_22 : nx cX12_tell 22 (.aload_n 0) 1 23 := ⟨by decide +kernel, rfl⟩
theorem dX12_tell_23 : nx cX12_tell 23 (.iconst 3) 1 24 := ⟨by decide +kernel, rfl⟩
theorem dX12_tell_24 : nx cX12_tell 24 (.invokevirtual 290) 3 27 := ⟨by decide +kernel, rfl⟩
theorem dX12_tell_27 : nx cX12_tell 27 (.iload_n 2) 1 28 := ⟨by decide +kernel, rfl⟩
theorem dX12_tell_28 : bx cX12_tell 28 (.ifCond .le 8) 8 36 31 := ⟨by decide +kernel, by decide, rfl⟩
theorem dX12_tell_31 : nx cX12_tell 31 (.aload_n 0) 1 32 := ⟨by decide +kernel, rfl⟩
theorem dX12_tell_32 : nx cX12_tell 32 (.iconst 2) 1 33 := ⟨by decide +kernel, rfl⟩
theorem dX12_tell_33 : nx cX12_tell 33 (.invokevirtual 290) 3 36 := ⟨by decide +kernel, rfl⟩
theorem dX12_tell_36 : nx cX12_tell 36 (.aload_n 0) 1 37 := ⟨by decide +kernel, rfl⟩
theorem dX12_tell_37 : nx cX12_tell 37 (.iconst 1) 1 38 := ⟨by decide +kernel, rfl⟩
theorem dX12_tell_38 : nx cX12_tell 38 (.invokevirtual 290) 3 41 := ⟨by decide +kernel, rfl⟩
theorem dX12_tell_41 : nx cX12_tell 41 (.iload_n 2) 1 42 := ⟨by decide +kernel, rfl⟩
theorem dX12_tell_42 : nx cX12_tell 42 (.iconst 2) 1 43 := ⟨by decide +kernel, rfl⟩
theorem dX12_tell_43 : bx cX12_tell 43 (.if_icmp .ne 8) 8 51 46 := ⟨by decide +kernel, by decide, rfl⟩
theorem dX12_tell_46 : nx cX12_tell 46 (.aload_n 0) 1 47 := ⟨by decide +kernel, rfl⟩
theorem dX12_tell_47 : nx cX12_tell 47 (.iconst 1) 1 48 := ⟨by decide +kernel, rfl⟩
theorem dX12_tell_48 : nx cX12_tell 48 (.invokevirtual 290) 3 51 := ⟨by decide +kernel, rfl⟩
theorem dX12_tell_51 : nx cX12_tell 51 (.aload_n 0) 1 52 := ⟨by decide +kernel, rfl⟩
theorem dX12_tell_52 : nx cX12_tell 52 (.getfield 19) 3 55 := ⟨by decide +kernel, rfl⟩
theorem dX12_tell_55 : nx cX12_tell 55 (.iload_n 1) 1 56 := ⟨by decide +kernel, rfl⟩
theorem dX12_tell_56 : nx cX12_tell 56 (.iaload) 1 57 := ⟨by decide +kernel, rfl⟩
theorem dX12_tell_57 : nx cX12_tell 57 (.istore_n 3) 1 58 := ⟨by decide +kernel, rfl⟩
theorem dX12_tell_58 : nx cX12_tell 58 (.iload_n 2) 1 59 := ⟨by decide +kernel, rfl⟩
theorem dX12_tell_59 : bx cX12_tell 59 (.ifCond .ne 7) 7 66 62 := ⟨by decide +kernel, by decide, rfl⟩
theorem dX12_tell_62 : nx cX12_tell 62 (.iload_n 3) 1 63 := ⟨by decide +kernel, rfl⟩
theorem dX12_tell_63 : bx cX12_tell 63 (.goto 21) 21 84 66 := ⟨by decide +kernel, by decide, rfl⟩
theorem dX12_tell_66 : nx cX12_tell 66 (.iload_n 2) 1 67 := ⟨by decide +kernel, rfl⟩
theorem dX12_tell_67 : nx cX12_tell 67 (.iconst 1) 1 68 := ⟨by decide +kernel, rfl⟩
theorem dX12_tell_68 : bx cX12_tell 68 (.if_icmp .ne 10) 10 78 71 := ⟨by decide +kernel, by decide, rfl⟩
theorem dX12_tell_71 : nx cX12_tell 71 (.iload_n 3) 1 72 := ⟨by decide +kernel, rfl⟩
theorem dX12_tell_72 : nx cX12_tell 72 (.bipush 100) 2 74 := ⟨by decide +kernel, rfl⟩
theorem dX12_tell_74 : nx cX12_tell 74 (.iadd) 1 75 := ⟨by decide +kernel, rfl⟩
theorem dX12_tell_75 : bx cX12_tell 75 (.goto 9) 9 84 78 := ⟨by decide +kernel, by decide, rfl⟩
theorem dX12_tell_78 : nx cX12_tell 78 (.iconst 2) 1 79 := ⟨by decide +kernel, rfl⟩
theorem dX12_tell_79 : nx cX12_tell 79 (.iload_n 3) 1 80 := ⟨by decide +kernel, rfl⟩
theorem dX12_tell_80 : nx cX12_tell 80 (.imul) 1 81 := ⟨by decide +kernel, rfl⟩
theorem dX12_tell_81 : nx cX12_tell 81 (.bipush 100) 2 83 := ⟨by decide +kernel, rfl⟩
theorem dX12_tell_83 : nx cX12_tell 83 (.iadd) 1 84 := ⟨by decide +kernel, rfl⟩
theorem dX12_tell_84 : nx cX12_tell 84 (.ireturn) 1 85 := ⟨by decide +kernel, rfl⟩
theorem dX12_sing_0 : nx cX12_sing 0 (.aload_n 0) 1 1 := ⟨by decide +kernel, rfl⟩
theorem dX12_sing_1 : nx cX12_sing 1 (.iload_n 1) 1 2 := ⟨by decide +kernel, rfl⟩
theorem dX12_sing_2 : nx cX12_sing 2 (.invokevirtual 167) 3 5 := ⟨by decide +kernel, rfl⟩
theorem dX12_sing_5 : bx cX12_sing 5 (.ifCond .eq 5) 5 10 8 := ⟨by decide +kernel, by decide, rfl⟩
theorem dX12_sing_8 : nx cX12_sing 8 (.iconst (-1)) 1 9 := ⟨by decide +kernel, rfl⟩
theorem dX12_sing_9 : nx cX12_sing 9 (.ireturn) 1 10 := ⟨by decide +kernel, rfl⟩
theorem dX12_sing_10 : nx cX12_sing 10 (.aload_n 0) 1 11 := ⟨by decide +kernel, rfl⟩
theorem dX12_sing_11 : nx cX12_sing 11 (.aload_n 0) 1 12 := ⟨by decide +kernel, rfl⟩
theorem dX12_sing_12 : nx cX12_sing 12 (.getfield 7) 3 15 := ⟨by decide +kernel, rfl⟩
theorem dX12_sing_15 : nx cX12_sing 15 (.iload_n 1) 1 16 := ⟨by decide +kernel, rfl⟩
theorem dX12_sing_16 : nx cX12_sing 16 (.iaload) 1 17 := ⟨by decide +kernel, rfl⟩
theorem dX12_sing_17 : nx cX12_sing 17 (.iconst 2) 1 18 := ⟨by decide +kernel, rfl⟩
theorem dX12_sing_18 : bx cX12_sing 18 (.if_icmp .ne 7) 7 25 21 := ⟨by decide +kernel, by decide, rfl⟩
theorem dX12_sing_21 : nx cX12_sing 21 (.iconst 5) 1 22 := ⟨by decide +kernel, rfl⟩
theorem dX12_sing_22 : bx cX12_sing 22 (.goto 4) 4 26 25 := ⟨by decide +kernel, by decide, rfl⟩
theorem dX12_sing_25 : nx cX12_sing 25 (.iconst 4) 1 26 := ⟨by decide +kernel, rfl⟩
theorem dX12_sing_26 : nx cX12_sing 26 (.invokevirtual 290) 3 29 := ⟨by decide +kernel, rfl⟩
theorem dX12_sing_29 : nx cX12_sing 29 (.aload_n 0) 1 30 := ⟨by decide +kernel, rfl⟩
theorem dX12_sing_30 : nx cX12_sing 30 (.getfield 7) 3 33 := ⟨by decide +kernel, rfl⟩
theorem dX12_sing_33 : nx cX12_sing 33 (.iload_n 1) 1 34 := ⟨by decide +kernel, rfl⟩
theorem dX12_sing_34 : nx cX12_sing 34 (.iaload) 1 35 := ⟨by decide +kernel, rfl⟩
theorem dX12_sing_35 : nx cX12_sing 35 (.iconst 2) 1 36 := ⟨by decide +kernel, rfl⟩
theorem dX12_sing_36 : bx cX12_sing 36 (.if_icmp .ne 8) 8 44 39 := ⟨by decide +kernel, by decide, rfl⟩
theorem dX12_sing_39 : nx cX12_sing 39 (.bipush 40) 2 41 := ⟨by decide +kernel, rfl⟩
theorem dX12_sing_41 : bx cX12_sing 41 (.goto 4) 4 45 44 := ⟨by decide +kernel, by decide, rfl⟩
theorem dX12_sing_44 : nx cX12_sing 44 (.iload_n 1) 1 45 := ⟨by decide +kernel, rfl⟩
theorem dX12_sing_45 : nx cX12_sing 45 (.ireturn) 1 46 := ⟨by decide +kernel, rfl⟩
theorem dX12_as_0 : nx cX12_as 0 (.aload_n 0) 1 1 := ⟨by decide +kernel, rfl⟩
theorem dX12_as_1 : nx cX12_as 1 (.iload_n 1) 1 2 := ⟨by decide +kernel, rfl⟩
theorem dX12_as_2 : nx cX12_as 2 (.invokevirtual 167) 3 5 := ⟨by decide +kernel, rfl⟩
theorem dX12_as_5 : bx cX12_as 5 (.ifCond .eq 9) 9 14 8 := ⟨by decide +kernel, by decide, rfl⟩
theorem dX12_as_8 : nx cX12_as 8 (.aload_n 0) 1 9 := ⟨by decide +kernel, rfl⟩
theorem dX12_as_9 : nx cX12_as 9 (.iconst (-1)) 1 10 := ⟨by decide +kernel, rfl⟩
theorem dX12_as_10 : nx cX12_as 10 (.invokevirtual 137) 3 13 := ⟨by decide +kernel, rfl⟩
theorem dX12_as_13 : nx cX12_as 13 (.ireturn) 1 14 := ⟨by decide +kernel, rfl⟩
theorem dX12_as_14 : nx cX12_as 14 (.iload_n 2) 1 15 := ⟨by decide +kernel, rfl⟩
theorem dX12_as_15 : nx cX12_as 15 (.i2l) 1 16 := ⟨by decide +kernel, rfl⟩
theorem dX12_as_16 : nx cX12_as 16 (.lconst 0) 1 17 := ⟨by decide +kernel, rfl⟩
theorem dX12_as_17 : nx cX12_as 17 (.ldc2_w 140) 3 20 := ⟨by decide +kernel, rfl⟩
theorem dX12_as_20 : nx cX12_as 20 (.invokestatic 97) 3 23 := ⟨by decide +kernel, rfl⟩
theorem dX12_as_23 : bx cX12_as 23 (.ifCond .ne 10) 10 33 26 := ⟨by decide +kernel, by decide, rfl⟩
theorem dX12_as_26 : nx cX12_as 26 (.aload_n 0) 1 27 := ⟨by decide +kernel, rfl⟩
theorem dX12_as_27 : nx cX12_as 27 (.bipush (-2)) 2 29 := ⟨by decide +kernel, rfl⟩
theorem dX12_as_29 : nx cX12_as 29 (.invokevirtual 137) 3 32 := ⟨by decide +kernel, rfl⟩
theorem dX12_as_32 : nx cX12_as 32 (.ireturn) 1 33 := ⟨by decide +kernel, rfl⟩
theorem dX12_as_33 : nx cX12_as 33 (.aload_n 0) 1 34 := ⟨by decide +kernel, rfl⟩
theorem dX12_as_34 : nx cX12_as 34 (.getfield 7) 3 37 := ⟨by decide +kernel, rfl⟩
theorem dX12_as_37 : nx cX12_as 37 (.iload_n 1) 1 38 := ⟨by decide +kernel, rfl⟩
theorem dX12_as_38 : nx cX12_as 38 (.iaload) 1 39 := ⟨by decide +kernel, rfl⟩
theorem dX12_as_39 : nx cX12_as 39 (.iload_n 2) 1 40 := ⟨by decide +kernel, rfl⟩
theorem dX12_as_40 : bx cX12_as 40 (.if_icmp .lt 11) 11 51 43 := ⟨by decide +kernel, by decide, rfl⟩
theorem dX12_as_43 : nx cX12_as 43 (.aload_n 0) 1 44 := ⟨by decide +kernel, rfl⟩
theorem dX12_as_44 : nx cX12_as 44 (.iconst 1) 1 45 := ⟨by decide +kernel, rfl⟩
theorem dX12_as_45 : nx cX12_as 45 (.invokevirtual 137) 3 48 := ⟨by decide +kernel, rfl⟩
theorem dX12_as_48 : bx cX12_as 48 (.goto 8) 8 56 51 := ⟨by decide +kernel, by decide, rfl⟩
theorem dX12_as_51 : nx cX12_as 51 (.aload_n 0) 1 52 := ⟨by decide +kernel, rfl⟩
theorem dX12_as_52 : nx cX12_as 52 (.iconst 2) 1 53 := ⟨by decide +kernel, rfl⟩
theorem dX12_as_53 : nx cX12_as 53 (.invokevirtual 125) 3 56 := ⟨by decide +kernel, rfl⟩
theorem dX12_as_56 : nx cX12_as 56 (.ireturn) 1 57 := ⟨by decide +kernel, rfl⟩
theorem dX12_trace_0 : nx cX12_trace 0 (.aload_n 0) 1 1 := ⟨by decide +kernel, rfl⟩
theorem dX12_trace_1 : nx cX12_trace 1 (.getfield 287) 3 4 := ⟨by decide +kernel, rfl⟩
theorem dX12_trace_4 : nx cX12_trace 4 (.ireturn) 1 5 := ⟨by decide +kernel, rfl⟩
theorem dX12_fault_0 : nx cX12_fault 0 (.aload_n 0) 1 1 := ⟨by decide +kernel, rfl⟩
theorem dX12_fault_1 : nx cX12_fault 1 (.getfield 86) 3 4 := ⟨by decide +kernel, rfl⟩
theorem dX12_fault_4 : nx cX12_fault 4 (.ireturn) 1 5 := ⟨by decide +kernel, rfl⟩
theorem dX12_many_0 : nx cX12_many 0 (.iload_n 1) 1 1 := ⟨by decide +kernel, rfl⟩
theorem dX12_many_1 : nx cX12_many 1 (.tableswitch 60 0 4 #[35, 40, 45, 50, 55]) 35 36 := ⟨by decide +kernel, rfl⟩
theorem dX12_many_36 : nx cX12_many 36 (.aload_n 0) 1 37 := ⟨by decide +kernel, rfl⟩
theorem dX12_many_37 : nx cX12_many 37 (.getfield 94) 3 40 := ⟨by decide +kernel, rfl⟩
theorem dX12_many_40 : nx cX12_many 40 (.ireturn) 1 41 := ⟨by decide +kernel, rfl⟩
theorem dX12_many_41 : nx cX12_many 41 (.aload_n 0) 1 42 := ⟨by decide +kernel, rfl⟩
theorem dX12_many_42 : nx cX12_many 42 (.getfield 101) 3 45 := ⟨by decide +kernel, rfl⟩
theorem dX12_many_45 : nx cX12_many 45 (.ireturn) 1 46 := ⟨by decide +kernel, rfl⟩
theorem dX12_many_46 : nx cX12_many 46 (.aload_n 0) 1 47 := ⟨by decide +kernel, rfl⟩
theorem dX12_many_47 : nx cX12_many 47 (.getfield 149) 3 50 := ⟨by decide +kernel, rfl⟩
theorem dX12_many_50 : nx cX12_many 50 (.ireturn) 1 51 := ⟨by decide +kernel, rfl⟩
theorem dX12_many_51 : nx cX12_many 51 (.aload_n 0) 1 52 := ⟨by decide +kernel, rfl⟩
theorem dX12_many_52 : nx cX12_many 52 (.getfield 152) 3 55 := ⟨by decide +kernel, rfl⟩
theorem dX12_many_55 : nx cX12_many 55 (.ireturn) 1 56 := ⟨by decide +kernel, rfl⟩
theorem dX12_many_56 : nx cX12_many 56 (.aload_n 0) 1 57 := ⟨by decide +kernel, rfl⟩
theorem dX12_many_57 : nx cX12_many 57 (.getfield 161) 3 60 := ⟨by decide +kernel, rfl⟩
theorem dX12_many_60 : nx cX12_many 60 (.ireturn) 1 61 := ⟨by decide +kernel, rfl⟩
theorem dX12_many_61 : nx cX12_many 61 (.bipush (-2)) 2 63 := ⟨by decide +kernel, rfl⟩
theorem dX12_many_63 : nx cX12_many 63 (.ireturn) 1 64 := ⟨by decide +kernel, rfl⟩
theorem dJ9_min_7cf53_0 : nx cJ9_min_7cf53 0 (.iload_n 0) 1 1 := ⟨by decide +kernel, rfl⟩
theorem dJ9_min_7cf53_1 : nx cJ9_min_7cf53 1 (.iload_n 1) 1 2 := ⟨by decide +kernel, rfl⟩
theorem dJ9_min_7cf53_2 : bx cJ9_min_7cf53 2 (.if_icmp .gt 7) 7 9 5 := ⟨by decide +kernel, by decide, rfl⟩
theorem dJ9_min_7cf53_5 : nx cJ9_min_7cf53 5 (.iload_n 0) 1 6 := ⟨by decide +kernel, rfl⟩
theorem dJ9_min_7cf53_6 : bx cJ9_min_7cf53 6 (.goto 4) 4 10 9 := ⟨by decide +kernel, by decide, rfl⟩
theorem dJ9_min_7cf53_9 : nx cJ9_min_7cf53 9 (.iload_n 1) 1 10 := ⟨by decide +kernel, rfl⟩
theorem dJ9_min_7cf53_10 : nx cJ9_min_7cf53 10 (.ireturn) 1 11 := ⟨by decide +kernel, rfl⟩
theorem dJ7_fill_d0a16_0 : nx cJ7_fill_d0a16 0 (.iconst 0) 1 1 := ⟨by decide +kernel, rfl⟩
theorem dJ7_fill_d0a16_1 : nx cJ7_fill_d0a16 1 (.istore_n 3) 1 2 := ⟨by decide +kernel, rfl⟩
theorem dJ7_fill_d0a16_2 : nx cJ7_fill_d0a16 2 (.aload_n 0) 1 3 := ⟨by decide +kernel, rfl⟩
theorem dJ7_fill_d0a16_3 : nx cJ7_fill_d0a16 3 (.arraylength) 1 4 := ⟨by decide +kernel, rfl⟩
theorem dJ7_fill_d0a16_4 : nx cJ7_fill_d0a16 4 (.istore 4) 2 6 := ⟨by decide +kernel, rfl⟩
theorem dJ7_fill_d0a16_6 : nx cJ7_fill_d0a16 6 (.iload_n 3) 1 7 := ⟨by decide +kernel, rfl⟩
theorem dJ7_fill_d0a16_7 : nx cJ7_fill_d0a16 7 (.iload 4) 2 9 := ⟨by decide +kernel, rfl⟩
theorem dJ7_fill_d0a16_9 : bx cJ7_fill_d0a16 9 (.if_icmp .ge 13) 13 22 12 := ⟨by decide +kernel, by decide, rfl⟩
theorem dJ7_fill_d0a16_12 : nx cJ7_fill_d0a16 12 (.aload_n 0) 1 13 := ⟨by decide +kernel, rfl⟩
theorem dJ7_fill_d0a16_13 : nx cJ7_fill_d0a16 13 (.iload_n 3) 1 14 := ⟨by decide +kernel, rfl⟩
theorem dJ7_fill_d0a16_14 : nx cJ7_fill_d0a16 14 (.lload_n 1) 1 15 := ⟨by decide +kernel, rfl⟩
theorem dJ7_fill_d0a16_15 : nx cJ7_fill_d0a16 15 (.lastore) 1 16 := ⟨by decide +kernel, rfl⟩
theorem dJ7_fill_d0a16_16 : nx cJ7_fill_d0a16 16 (.iinc 3 1) 3 19 := ⟨by decide +kernel, rfl⟩
theorem dJ7_fill_d0a16_19 : bx cJ7_fill_d0a16 19 (.goto (-13)) (-13) 6 22 := ⟨by decide +kernel, by decide, rfl⟩
theorem dJ7_fill_d0a16_22 : nx cJ7_fill_d0a16 22 (.return_) 1 23 := ⟨by decide +kernel, rfl⟩
theorem dJ7_fill_53178_0 : nx cJ7_fill_53178 0 (.iconst 0) 1 1 := ⟨by decide +kernel, rfl⟩
theorem dJ7_fill_53178_1 : nx cJ7_fill_53178 1 (.istore_n 2) 1 2 := ⟨by decide +kernel, rfl⟩
theorem dJ7_fill_53178_2 : nx cJ7_fill_53178 2 (.aload_n 0) 1 3 := ⟨by decide +kernel, rfl⟩
theorem dJ7_fill_53178_3 : nx cJ7_fill_53178 3 (.arraylength) 1 4 := ⟨by decide +kernel, rfl⟩
theorem dJ7_fill_53178_4 : nx cJ7_fill_53178 4 (.istore_n 3) 1 5 := ⟨by decide +kernel, rfl⟩
theorem dJ7_fill_53178_5 : nx cJ7_fill_53178 5 (.iload_n 2) 1 6 := ⟨by decide +kernel, rfl⟩
theorem dJ7_fill_53178_6 : nx cJ7_fill_53178 6 (.iload_n 3) 1 7 := ⟨by decide +kernel, rfl⟩
theorem dJ7_fill_53178_7 : bx cJ7_fill_53178 7 (.if_icmp .ge 13) 13 20 10 := ⟨by decide +kernel, by decide, rfl⟩
theorem dJ7_fill_53178_10 : nx cJ7_fill_53178 10 (.aload_n 0) 1 11 := ⟨by decide +kernel, rfl⟩
theorem dJ7_fill_53178_11 : nx cJ7_fill_53178 11 (.iload_n 2) 1 12 := ⟨by decide +kernel, rfl⟩
theorem dJ7_fill_53178_12 : nx cJ7_fill_53178 12 (.iload_n 1) 1 13 := ⟨by decide +kernel, rfl⟩
theorem dJ7_fill_53178_13 : nx cJ7_fill_53178 13 (.iastore) 1 14 := ⟨by decide +kernel, rfl⟩
theorem dJ7_fill_53178_14 : nx cJ7_fill_53178 14 (.iinc 2 1) 3 17 := ⟨by decide +kernel, rfl⟩
theorem dJ7_fill_53178_17 : bx cJ7_fill_53178 17 (.goto (-12)) (-12) 5 20 := ⟨by decide +kernel, by decide, rfl⟩
theorem dJ7_fill_53178_20 : nx cJ7_fill_53178 20 (.return_) 1 21 := ⟨by decide +kernel, rfl⟩
end
section
theorem dL_law_0 : nx cL_law 0 (.new 7) 3 3 := ⟨by decide +kernel, rfl⟩
theorem dL_law_3 : nx cL_law 3 (.dup) 1 4 := ⟨by decide +kernel, rfl⟩
theorem dL_law_4 : nx cL_law 4 (.invokespecial 9) 3 7 := ⟨by decide +kernel, rfl⟩
theorem dL_law_7 : nx cL_law 7 (.astore_n 1) 1 8 := ⟨by decide +kernel, rfl⟩
theorem dL_law_8 : nx cL_law 8 (.new 10) 3 11 := ⟨by decide +kernel, rfl⟩
theorem dL_law_11 : nx cL_law 11 (.dup) 1 12 := ⟨by decide +kernel, rfl⟩
theorem dL_law_12 : nx cL_law 12 (.invokespecial 12) 3 15 := ⟨by decide +kernel, rfl⟩
theorem dL_law_15 : nx cL_law 15 (.astore_n 2) 1 16 := ⟨by decide +kernel, rfl⟩
theorem dL_law_16 : nx cL_law 16 (.iconst 0) 1 17 := ⟨by decide +kernel, rfl⟩
theorem dL_law_17 : nx cL_law 17 (.istore_n 3) 1 18 := ⟨by decide +kernel, rfl⟩
theorem dL_law_18 : nx cL_law 18 (.iload_n 3) 1 19 := ⟨by decide +kernel, rfl⟩
theorem dL_law_19 : nx cL_law 19 (.aload_n 0) 1 20 := ⟨by decide +kernel, rfl⟩
theorem dL_law_20 : nx cL_law 20 (.arraylength) 1 21 := ⟨by decide +kernel, rfl⟩
theorem dL_law_21 : nx cL_law 21 (.bipush 6) 2 23 := ⟨by decide +kernel, rfl⟩
theorem dL_law_23 : nx cL_law 23 (.isub) 1 24 := ⟨by decide +kernel, rfl⟩
theorem dL_law_24 : bx cL_law 24 (.if_icmp .gt 1111) 1111 1135 27 := ⟨by decide +kernel, by decide, rfl⟩
theorem dL_law_27 : nx cL_law 27 (.aload_n 0) 1 28 := ⟨by decide +kernel, rfl⟩
theorem dL_law_28 : nx cL_law 28 (.iload_n 3) 1 29 := ⟨by decide +kernel, rfl⟩
theorem dL_law_29 : nx cL_law 29 (.iaload) 1 30 := ⟨by decide +kernel, rfl⟩
theorem dL_law_30 : nx cL_law 30 (.bipush 31) 2 32 := ⟨by decide +kernel, rfl⟩
theorem dL_law_32 : nx cL_law 32 (.iand) 1 33 := ⟨by decide +kernel, rfl⟩
theorem dL_law_33 : nx cL_law 33 (.tableswitch 1096 0 27 #[127, 180, 213, 236, 259, 282, 331, 394, 458, 481, 504, 537, 570, 593, 642, 665, 708, 752, 795, 818, 861, 905, 968, 991, 1014, 1047, 1060, 1073]) 127 160 := ⟨by decide +kernel, rfl⟩
theorem dL_law_160 : nx cL_law 160 (.aload_n 1) 1 161 := ⟨by decide +kernel, rfl⟩
theorem dL_law_161 : nx cL_law 161 (.aload_n 0) 1 162 := ⟨by decide +kernel, rfl⟩
theorem dL_law_162 : nx cL_law 162 (.iload_n 3) 1 163 := ⟨by decide +kernel, rfl⟩
theorem dL_law_163 : nx cL_law 163 (.iconst 1) 1 164 := ⟨by decide +kernel, rfl⟩
theorem dL_law_164 : nx cL_law 164 (.iadd) 1 165 := ⟨by decide +kernel, rfl⟩
theorem dL_law_165 : nx cL_law 165 (.iaload) 1 166 := ⟨by decide +kernel, rfl⟩
theorem dL_law_166 : nx cL_law 166 (.aload_n 0) 1 167 := ⟨by decide +kernel, rfl⟩
theorem dL_law_167 : nx cL_law 167 (.iload_n 3) 1 168 := ⟨by decide +kernel, rfl⟩
theorem dL_law_168 : nx cL_law 168 (.iconst 2) 1 169 := ⟨by decide +kernel, rfl⟩
theorem dL_law_169 : nx cL_law 169 (.iadd) 1 170 := ⟨by decide +kernel, rfl⟩
theorem dL_law_170 : nx cL_law 170 (.iaload) 1 171 := ⟨by decide +kernel, rfl⟩
theorem dL_law_171 : nx cL_law 171 (.aload_n 0) 1 172 := ⟨by decide +kernel, rfl⟩
theorem dL_law_172 : nx cL_law 172 (.iload_n 3) 1 173 := ⟨by decide +kernel, rfl⟩
theorem dL_law_173 : nx cL_law 173 (.iconst 3) 1 174 := ⟨by decide +kernel, rfl⟩
theorem dL_law_174 : nx cL_law 174 (.iadd) 1 175 := ⟨by decide +kernel, rfl⟩
theorem dL_law_175 : nx cL_law 175 (.iaload) 1 176 := ⟨by decide +kernel, rfl⟩
theorem dL_law_176 : nx cL_law 176 (.aload_n 0) 1 177 := ⟨by decide +kernel, rfl⟩
theorem dL_law_177 : nx cL_law 177 (.iload_n 3) 1 178 := ⟨by decide +kernel, rfl⟩
theorem dL_law_178 : nx cL_law 178 (.iconst 4) 1 179 := ⟨by decide +kernel, rfl⟩
theorem dL_law_179 : nx cL_law 179 (.iadd) 1 180 := ⟨by decide +kernel, rfl⟩
theorem dL_law_180 : nx cL_law 180 (.iaload) 1 181 := ⟨by decide +kernel, rfl⟩
theorem dL_law_181 : nx cL_law 181 (.invokevirtual 13) 3 184 := ⟨by decide +kernel, rfl⟩
theorem dL_law_184 : nx cL_law 184 (.aload_n 2) 1 185 := ⟨by decide +kernel, rfl⟩
theorem dL_law_185 : nx cL_law 185 (.aload_n 0) 1 186 := ⟨by decide +kernel, rfl⟩
theorem dL_law_186 : nx cL_law 186 (.iload_n 3) 1 187 := ⟨by decide +kernel, rfl⟩
theorem dL_law_187 : nx cL_law 187 (.iconst 1) 1 188 := ⟨by decide +kernel, rfl⟩
theorem dL_law_188 : nx cL_law 188 (.iadd) 1 189 := ⟨by decide +kernel, rfl⟩
theorem dL_law_189 : nx cL_law 189 (.iaload) 1 190 := ⟨by decide +kernel, rfl⟩
theorem dL_law_190 : nx cL_law 190 (.aload_n 0) 1 191 := ⟨by decide +kernel, rfl⟩
theorem dL_law_191 : nx cL_law 191 (.iload_n 3) 1 192 := ⟨by decide +kernel, rfl⟩
theorem dL_law_192 : nx cL_law 192 (.iconst 2) 1 193 := ⟨by decide +kernel, rfl⟩
theorem dL_law_193 : nx cL_law 193 (.iadd) 1 194 := ⟨by decide +kernel, rfl⟩
theorem dL_law_194 : nx cL_law 194 (.iaload) 1 195 := ⟨by decide +kernel, rfl⟩
theorem dL_law_195 : nx cL_law 195 (.aload_n 0) 1 196 := ⟨by decide +kernel, rfl⟩
theorem dL_law_196 : nx cL_law 196 (.iload_n 3) 1 197 := ⟨by decide +kernel, rfl⟩
theorem dL_law_197 : nx cL_law 197 (.iconst 3) 1 198 := ⟨by decide +kernel, rfl⟩
theorem dL_law_198 : nx cL_law 198 (.iadd) 1 199 := ⟨by decide +kernel, rfl⟩
theorem dL_law_199 : nx cL_law 199 (.iaload) 1 200 := ⟨by decide +kernel, rfl⟩
theorem dL_law_200 : nx cL_law 200 (.aload_n 0) 1 201 := ⟨by decide +kernel, rfl⟩
theorem dL_law_201 : nx cL_law 201 (.iload_n 3) 1 202 := ⟨by decide +kernel, rfl⟩
theorem dL_law_202 : nx cL_law 202 (.iconst 4) 1 203 := ⟨by decide +kernel, rfl⟩
theorem dL_law_203 : nx cL_law 203 (.iadd) 1 204 := ⟨by decide +kernel, rfl⟩
theorem dL_law_204 : nx cL_law 204 (.iaload) 1 205 := ⟨by decide +kernel, rfl⟩
theorem dL_law_205 : nx cL_law 205 (.invokevirtual 17) 3 208 := ⟨by decide +kernel, rfl⟩
theorem dL_law_208 : bx cL_law 208 (.if_icmp .eq 921) 921 1129 211 := ⟨by decide +kernel, by decide, rfl⟩
theorem dL_law_211 : nx cL_law 211 (.iconst 0) 1 212 := ⟨by decide +kernel, rfl⟩
theorem dL_law_212 : nx cL_law 212 (.ireturn) 1 213 := ⟨by decide +kernel, rfl⟩
theorem dL_law_213 : nx cL_law 213 (.aload_n 1) 1 214 := ⟨by decide +kernel, rfl⟩
theorem dL_law_214 : nx cL_law 214 (.aload_n 0) 1 215 := ⟨by decide +kernel, rfl⟩
theorem dL_law_215 : nx cL_law 215 (.iload_n 3) 1 216 := ⟨by decide +kernel, rfl⟩
theorem dL_law_216 : nx cL_law 216 (.iconst 1) 1 217 := ⟨by decide +kernel, rfl⟩
theorem dL_law_217 : nx cL_law 217 (.iadd) 1 218 := ⟨by decide +kernel, rfl⟩
theorem dL_law_218 : nx cL_law 218 (.iaload) 1 219 := ⟨by decide +kernel, rfl⟩
theorem dL_law_219 : nx cL_law 219 (.aload_n 0) 1 220 := ⟨by decide +kernel, rfl⟩
theorem dL_law_220 : nx cL_law 220 (.iload_n 3) 1 221 := ⟨by decide +kernel, rfl⟩
theorem dL_law_221 : nx cL_law 221 (.iconst 2) 1 222 := ⟨by decide +kernel, rfl⟩
theorem dL_law_222 : nx cL_law 222 (.iadd) 1 223 := ⟨by decide +kernel, rfl⟩
theorem dL_law_223 : nx cL_law 223 (.iaload) 1 224 := ⟨by decide +kernel, rfl⟩
theorem dL_law_224 : nx cL_law 224 (.invokevirtual 18) 3 227 := ⟨by decide +kernel, rfl⟩
theorem dL_law_227 : nx cL_law 227 (.aload_n 2) 1 228 := ⟨by decide +kernel, rfl⟩
theorem dL_law_228 : nx cL_law 228 (.aload_n 0) 1 229 := ⟨by decide +kernel, rfl⟩
theorem dL_law_229 : nx cL_law 229 (.iload_n 3) 1 230 := ⟨by decide +kernel, rfl⟩
theorem dL_law_230 : nx cL_law 230 (.iconst 1) 1 231 := ⟨by decide +kernel, rfl⟩
theorem dL_law_231 : nx cL_law 231 (.iadd) 1 232 := ⟨by decide +kernel, rfl⟩
theorem dL_law_232 : nx cL_law 232 (.iaload) 1 233 := ⟨by decide +kernel, rfl⟩
theorem dL_law_233 : nx cL_law 233 (.aload_n 0) 1 234 := ⟨by decide +kernel, rfl⟩
theorem dL_law_234 : nx cL_law 234 (.iload_n 3) 1 235 := ⟨by decide +kernel, rfl⟩
theorem dL_law_235 : nx cL_law 235 (.iconst 2) 1 236 := ⟨by decide +kernel, rfl⟩
theorem dL_law_236 : nx cL_law 236 (.iadd) 1 237 := ⟨by decide +kernel, rfl⟩
theorem dL_law_237 : nx cL_law 237 (.iaload) 1 238 := ⟨by decide +kernel, rfl⟩
theorem dL_law_238 : nx cL_law 238 (.invokevirtual 22) 3 241 := ⟨by decide +kernel, rfl⟩
theorem dL_law_241 : bx cL_law 241 (.if_icmp .eq 888) 888 1129 244 := ⟨by decide +kernel, by decide, rfl⟩
theorem dL_law_244 : nx cL_law 244 (.iconst 0) 1 245 := ⟨by decide +kernel, rfl⟩
theorem dL_law_245 : nx cL_law 245 (.ireturn) 1 246 := ⟨by decide +kernel, rfl⟩
theorem dL_law_246 : nx cL_law 246 (.aload_n 1) 1 247 := ⟨by decide +kernel, rfl⟩
theorem dL_law_247 : nx cL_law 247 (.aload_n 0) 1 248 := ⟨by decide +kernel, rfl⟩
theorem dL_law_248 : nx cL_law 248 (.iload_n 3) 1 249 := ⟨by decide +kernel, rfl⟩
theorem dL_law_249 : nx cL_law 249 (.iconst 1) 1 250 := ⟨by decide +kernel, rfl⟩
theorem dL_law_250 : nx cL_law 250 (.iadd) 1 251 := ⟨by decide +kernel, rfl⟩
theorem dL_law_251 : nx cL_law 251 (.iaload) 1 252 := ⟨by decide +kernel, rfl⟩
theorem dL_law_252 : nx cL_law 252 (.invokevirtual 23) 3 255 := ⟨by decide +kernel, rfl⟩
theorem dL_law_255 : nx cL_law 255 (.aload_n 2) 1 256 := ⟨by decide +kernel, rfl⟩
theorem dL_law_256 : nx cL_law 256 (.aload_n 0) 1 257 := ⟨by decide +kernel, rfl⟩
theorem dL_law_257 : nx cL_law 257 (.iload_n 3) 1 258 := ⟨by decide +kernel, rfl⟩
theorem dL_law_258 : nx cL_law 258 (.iconst 1) 1 259 := ⟨by decide +kernel, rfl⟩
theorem dL_law_259 : nx cL_law 259 (.iadd) 1 260 := ⟨by decide +kernel, rfl⟩
theorem dL_law_260 : nx cL_law 260 (.iaload) 1 261 := ⟨by decide +kernel, rfl⟩
theorem dL_law_261 : nx cL_law 261 (.invokevirtual 27) 3 264 := ⟨by decide +kernel, rfl⟩
theorem dL_law_264 : bx cL_law 264 (.if_icmp .eq 865) 865 1129 267 := ⟨by decide +kernel, by decide, rfl⟩
theorem dL_law_267 : nx cL_law 267 (.iconst 0) 1 268 := ⟨by decide +kernel, rfl⟩
theorem dL_law_268 : nx cL_law 268 (.ireturn) 1 269 := ⟨by decide +kernel, rfl⟩
theorem dL_law_269 : nx cL_law 269 (.aload_n 1) 1 270 := ⟨by decide +kernel, rfl⟩
theorem dL_law_270 : nx cL_law 270 (.aload_n 0) 1 271 := ⟨by decide +kernel, rfl⟩
theorem dL_law_271 : nx cL_law 271 (.iload_n 3) 1 272 := ⟨by decide +kernel, rfl⟩
theorem dL_law_272 : nx cL_law 272 (.iconst 1) 1 273 := ⟨by decide +kernel, rfl⟩
theorem dL_law_273 : nx cL_law 273 (.iadd) 1 274 := ⟨by decide +kernel, rfl⟩
theorem dL_law_274 : nx cL_law 274 (.iaload) 1 275 := ⟨by decide +kernel, rfl⟩
theorem dL_law_275 : nx cL_law 275 (.invokevirtual 28) 3 278 := ⟨by decide +kernel, rfl⟩
theorem dL_law_278 : nx cL_law 278 (.aload_n 2) 1 279 := ⟨by decide +kernel, rfl⟩
theorem dL_law_279 : nx cL_law 279 (.aload_n 0) 1 280 := ⟨by decide +kernel, rfl⟩
theorem dL_law_280 : nx cL_law 280 (.iload_n 3) 1 281 := ⟨by decide +kernel, rfl⟩
theorem dL_law_281 : nx cL_law 281 (.iconst 1) 1 282 := ⟨by decide +kernel, rfl⟩
theorem dL_law_282 : nx cL_law 282 (.iadd) 1 283 := ⟨by decide +kernel, rfl⟩
theorem dL_law_283 : nx cL_law 283 (.iaload) 1 284 := ⟨by decide +kernel, rfl⟩
theorem dL_law_284 : nx cL_law 284 (.invokevirtual 31) 3 287 := ⟨by decide +kernel, rfl⟩
theorem dL_law_287 : bx cL_law 287 (.if_icmp .eq 842) 842 1129 290 := ⟨by decide +kernel, by decide, rfl⟩
theorem dL_law_290 : nx cL_law 290 (.iconst 0) 1 291 := ⟨by decide +kernel, rfl⟩
theorem dL_law_291 : nx cL_law 291 (.ireturn) 1 292 := ⟨by decide +kernel, rfl⟩
theorem dL_law_292 : nx cL_law 292 (.aload_n 1) 1 293 := ⟨by decide +kernel, rfl⟩
theorem dL_law_293 : nx cL_law 293 (.aload_n 0) 1 294 := ⟨by decide +kernel, rfl⟩
theorem dL_law_294 : nx cL_law 294 (.iload_n 3) 1 295 := ⟨by decide +kernel, rfl⟩
theorem dL_law_295 : nx cL_law 295 (.iconst 1) 1 296 := ⟨by decide +kernel, rfl⟩
theorem dL_law_296 : nx cL_law 296 (.iadd) 1 297 := ⟨by decide +kernel, rfl⟩
theorem dL_law_297 : nx cL_law 297 (.iaload) 1 298 := ⟨by decide +kernel, rfl⟩
theorem dL_law_298 : nx cL_law 298 (.invokevirtual 32) 3 301 := ⟨by decide +kernel, rfl⟩
theorem dL_law_301 : nx cL_law 301 (.aload_n 2) 1 302 := ⟨by decide +kernel, rfl⟩
theorem dL_law_302 : nx cL_law 302 (.aload_n 0) 1 303 := ⟨by decide +kernel, rfl⟩
theorem dL_law_303 : nx cL_law 303 (.iload_n 3) 1 304 := ⟨by decide +kernel, rfl⟩
theorem dL_law_304 : nx cL_law 304 (.iconst 1) 1 305 := ⟨by decide +kernel, rfl⟩
theorem dL_law_305 : nx cL_law 305 (.iadd) 1 306 := ⟨by decide +kernel, rfl⟩
theorem dL_law_306 : nx cL_law 306 (.iaload) 1 307 := ⟨by decide +kernel, rfl⟩
theorem dL_law_307 : nx cL_law 307 (.invokevirtual 35) 3 310 := ⟨by decide +kernel, rfl⟩
theorem dL_law_310 : bx cL_law 310 (.if_icmp .eq 819) 819 1129 313 := ⟨by decide +kernel, by decide, rfl⟩
theorem dL_law_313 : nx cL_law 313 (.iconst 0) 1 314 := ⟨by decide +kernel, rfl⟩
theorem dL_law_314 : nx cL_law 314 (.ireturn) 1 315 := ⟨by decide +kernel, rfl⟩
theorem dL_law_315 : nx cL_law 315 (.aload_n 1) 1 316 := ⟨by decide +kernel, rfl⟩
theorem dL_law_316 : nx cL_law 316 (.aload_n 0) 1 317 := ⟨by decide +kernel, rfl⟩
theorem dL_law_317 : nx cL_law 317 (.iload_n 3) 1 318 := ⟨by decide +kernel, rfl⟩
theorem dL_law_318 : nx cL_law 318 (.iconst 1) 1 319 := ⟨by decide +kernel, rfl⟩
theorem dL_law_319 : nx cL_law 319 (.iadd) 1 320 := ⟨by decide +kernel, rfl⟩
theorem dL_law_320 : nx cL_law 320 (.iaload) 1 321 := ⟨by decide +kernel, rfl⟩
theorem dL_law_321 : nx cL_law 321 (.aload_n 0) 1 322 := ⟨by decide +kernel, rfl⟩
theorem dL_law_322 : nx cL_law 322 (.iload_n 3) 1 323 := ⟨by decide +kernel, rfl⟩
theorem dL_law_323 : nx cL_law 323 (.iconst 2) 1 324 := ⟨by decide +kernel, rfl⟩
theorem dL_law_324 : nx cL_law 324 (.iadd) 1 325 := ⟨by decide +kernel, rfl⟩
theorem dL_law_325 : nx cL_law 325 (.iaload) 1 326 := ⟨by decide +kernel, rfl⟩
theorem dL_law_326 : bx cL_law 326 (.ifCond .eq 7) 7 333 329 := ⟨by decide +kernel, by decide, rfl⟩
theorem dL_law_329 : nx cL_law 329 (.iconst 1) 1 330 := ⟨by decide +kernel, rfl⟩
theorem dL_law_330 : bx cL_law 330 (.goto 4) 4 334 333 := ⟨by decide +kernel, by decide, rfl⟩
theorem dL_law_333 : nx cL_law 333 (.iconst 0) 1 334 := ⟨by decide +kernel, rfl⟩
theorem dL_law_334 : nx cL_law 334 (.invokevirtual 36) 3 337 := ⟨by decide +kernel, rfl⟩
theorem dL_law_337 : nx cL_law 337 (.aload_n 2) 1 338 := ⟨by decide +kernel, rfl⟩
theorem dL_law_338 : nx cL_law 338 (.aload_n 0) 1 339 := ⟨by decide +kernel, rfl⟩
theorem dL_law_339 : nx cL_law 339 (.iload_n 3) 1 340 := ⟨by decide +kernel, rfl⟩
theorem dL_law_340 : nx cL_law 340 (.iconst 1) 1 341 := ⟨by decide +kernel, rfl⟩
theorem dL_law_341 : nx cL_law 341 (.iadd) 1 342 := ⟨by decide +kernel, rfl⟩
theorem dL_law_342 : nx cL_law 342 (.iaload) 1 343 := ⟨by decide +kernel, rfl⟩
theorem dL_law_343 : nx cL_law 343 (.aload_n 0) 1 344 := ⟨by decide +kernel, rfl⟩
theorem dL_law_344 : nx cL_law 344 (.iload_n 3) 1 345 := ⟨by decide +kernel, rfl⟩
theorem dL_law_345 : nx cL_law 345 (.iconst 2) 1 346 := ⟨by decide +kernel, rfl⟩
theorem dL_law_346 : nx cL_law 346 (.iadd) 1 347 := ⟨by decide +kernel, rfl⟩
theorem dL_law_347 : nx cL_law 347 (.iaload) 1 348 := ⟨by decide +kernel, rfl⟩
theorem dL_law_348 : bx cL_law 348 (.ifCond .eq 7) 7 355 351 := ⟨by decide +kernel, by decide, rfl⟩
theorem dL_law_351 : nx cL_law 351 (.iconst 1) 1 352 := ⟨by decide +kernel, rfl⟩
theorem dL_law_352 : bx cL_law 352 (.goto 4) 4 356 355 := ⟨by decide +kernel, by decide, rfl⟩
theorem dL_law_355 : nx cL_law 355 (.iconst 0) 1 356 := ⟨by decide +kernel, rfl⟩
theorem dL_law_356 : nx cL_law 356 (.invokevirtual 40) 3 359 := ⟨by decide +kernel, rfl⟩
theorem dL_law_359 : bx cL_law 359 (.if_icmp .eq 770) 770 1129 362 := ⟨by decide +kernel, by decide, rfl⟩
theorem dL_law_362 : nx cL_law 362 (.iconst 0) 1 363 := ⟨by decide +kernel, rfl⟩
theorem dL_law_363 : nx cL_law 363 (.ireturn) 1 364 := ⟨by decide +kernel, rfl⟩
theorem dL_law_364 : nx cL_law 364 (.aload_n 1) 1 365 := ⟨by decide +kernel, rfl⟩
theorem dL_law_365 : nx cL_law 365 (.aload_n 0) 1 366 := ⟨by decide +kernel, rfl⟩
theorem dL_law_366 : nx cL_law 366 (.iload_n 3) 1 367 := ⟨by decide +kernel, rfl⟩
theorem dL_law_367 : nx cL_law 367 (.iconst 1) 1 368 := ⟨by decide +kernel, rfl⟩
theorem dL_law_368 : nx cL_law 368 (.iadd) 1 369 := ⟨by decide +kernel, rfl⟩
theorem dL_law_369 : nx cL_law 369 (.iaload) 1 370 := ⟨by decide +kernel, rfl⟩
theorem dL_law_370 : nx cL_law 370 (.aload_n 0) 1 371 := ⟨by decide +kernel, rfl⟩
theorem dL_law_371 : nx cL_law 371 (.iload_n 3) 1 372 := ⟨by decide +kernel, rfl⟩
theorem dL_law_372 : nx cL_law 372 (.iconst 2) 1 373 := ⟨by decide +kernel, rfl⟩
theorem dL_law_373 : nx cL_law 373 (.iadd) 1 374 := ⟨by decide +kernel, rfl⟩
theorem dL_law_374 : nx cL_law 374 (.iaload) 1 375 := ⟨by decide +kernel, rfl⟩
theorem dL_law_375 : nx cL_law 375 (.aload_n 0) 1 376 := ⟨by decide +kernel, rfl⟩
theorem dL_law_376 : nx cL_law 376 (.iload_n 3) 1 377 := ⟨by decide +kernel, rfl⟩
theorem dL_law_377 : nx cL_law 377 (.iconst 3) 1 378 := ⟨by decide +kernel, rfl⟩
theorem dL_law_378 : nx cL_law 378 (.iadd) 1 379 := ⟨by decide +kernel, rfl⟩
theorem dL_law_379 : nx cL_law 379 (.iaload) 1 380 := ⟨by decide +kernel, rfl⟩
theorem dL_law_380 : nx cL_law 380 (.aload_n 0) 1 381 := ⟨by decide +kernel, rfl⟩
theorem dL_law_381 : nx cL_law 381 (.iload_n 3) 1 382 := ⟨by decide +kernel, rfl⟩
theorem dL_law_382 : nx cL_law 382 (.iconst 4) 1 383 := ⟨by decide +kernel, rfl⟩
theorem dL_law_383 : nx cL_law 383 (.iadd) 1 384 := ⟨by decide +kernel, rfl⟩
theorem dL_law_384 : nx cL_law 384 (.iaload) 1 385 := ⟨by decide +kernel, rfl⟩
theorem dL_law_385 : nx cL_law 385 (.aload_n 0) 1 386 := ⟨by decide +kernel, rfl⟩
theorem dL_law_386 : nx cL_law 386 (.iload_n 3) 1 387 := ⟨by decide +kernel, rfl⟩
theorem dL_law_387 : nx cL_law 387 (.iconst 5) 1 388 := ⟨by decide +kernel, rfl⟩
theorem dL_law_388 : nx cL_law 388 (.iadd) 1 389 := ⟨by decide +kernel, rfl⟩
theorem dL_law_389 : nx cL_law 389 (.iaload) 1 390 := ⟨by decide +kernel, rfl⟩
theorem dL_law_390 : nx cL_law 390 (.invokevirtual 41) 3 393 := ⟨by decide +kernel, rfl⟩
theorem dL_law_393 : nx cL_law 393 (.aload_n 2) 1 394 := ⟨by decide +kernel, rfl⟩
theorem dL_law_394 : nx cL_law 394 (.aload_n 0) 1 395 := ⟨by decide +kernel, rfl⟩
theorem dL_law_395 : nx cL_law 395 (.iload_n 3) 1 396 := ⟨by decide +kernel, rfl⟩
theorem dL_law_396 : nx cL_law 396 (.iconst 1) 1 397 := ⟨by decide +kernel, rfl⟩
theorem dL_law_397 : nx cL_law 397 (.iadd) 1 398 := ⟨by decide +kernel, rfl⟩
theorem dL_law_398 : nx cL_law 398 (.iaload) 1 399 := ⟨by decide +kernel, rfl⟩
theorem dL_law_399 : nx cL_law 399 (.aload_n 0) 1 400 := ⟨by decide +kernel, rfl⟩
theorem dL_law_400 : nx cL_law 400 (.iload_n 3) 1 401 := ⟨by decide +kernel, rfl⟩
theorem dL_law_401 : nx cL_law 401 (.iconst 2) 1 402 := ⟨by decide +kernel, rfl⟩
theorem dL_law_402 : nx cL_law 402 (.iadd) 1 403 := ⟨by decide +kernel, rfl⟩
theorem dL_law_403 : nx cL_law 403 (.iaload) 1 404 := ⟨by decide +kernel, rfl⟩
theorem dL_law_404 : nx cL_law 404 (.aload_n 0) 1 405 := ⟨by decide +kernel, rfl⟩
theorem dL_law_405 : nx cL_law 405 (.iload_n 3) 1 406 := ⟨by decide +kernel, rfl⟩
theorem dL_law_406 : nx cL_law 406 (.iconst 3) 1 407 := ⟨by decide +kernel, rfl⟩
theorem dL_law_407 : nx cL_law 407 (.iadd) 1 408 := ⟨by decide +kernel, rfl⟩
theorem dL_law_408 : nx cL_law 408 (.iaload) 1 409 := ⟨by decide +kernel, rfl⟩
theorem dL_law_409 : nx cL_law 409 (.aload_n 0) 1 410 := ⟨by decide +kernel, rfl⟩
theorem dL_law_410 : nx cL_law 410 (.iload_n 3) 1 411 := ⟨by decide +kernel, rfl⟩
theorem dL_law_411 : nx cL_law 411 (.iconst 4) 1 412 := ⟨by decide +kernel, rfl⟩
theorem dL_law_412 : nx cL_law 412 (.iadd) 1 413 := ⟨by decide +kernel, rfl⟩
theorem dL_law_413 : nx cL_law 413 (.iaload) 1 414 := ⟨by decide +kernel, rfl⟩
theorem dL_law_414 : nx cL_law 414 (.aload_n 0) 1 415 := ⟨by decide +kernel, rfl⟩
theorem dL_law_415 : nx cL_law 415 (.iload_n 3) 1 416 := ⟨by decide +kernel, rfl⟩
theorem dL_law_416 : nx cL_law 416 (.iconst 5) 1 417 := ⟨by decide +kernel, rfl⟩
theorem dL_law_417 : nx cL_law 417 (.iadd) 1 418 := ⟨by decide +kernel, rfl⟩
theorem dL_law_418 : nx cL_law 418 (.iaload) 1 419 := ⟨by decide +kernel, rfl⟩
theorem dL_law_419 : nx cL_law 419 (.invokevirtual 45) 3 422 := ⟨by decide +kernel, rfl⟩
theorem dL_law_422 : bx cL_law 422 (.if_icmp .eq 707) 707 1129 425 := ⟨by decide +kernel, by decide, rfl⟩
theorem dL_law_425 : nx cL_law 425 (.iconst 0) 1 426 := ⟨by decide +kernel, rfl⟩
theorem dL_law_426 : nx cL_law 426 (.ireturn) 1 427 := ⟨by decide +kernel, rfl⟩
theorem dL_law_427 : nx cL_law 427 (.aload_n 1) 1 428 := ⟨by decide +kernel, rfl⟩
theorem dL_law_428 : nx cL_law 428 (.aload_n 0) 1 429 := ⟨by decide +kernel, rfl⟩
theorem dL_law_429 : nx cL_law 429 (.iload_n 3) 1 430 := ⟨by decide +kernel, rfl⟩
theorem dL_law_430 : nx cL_law 430 (.iconst 1) 1 431 := ⟨by decide +kernel, rfl⟩
theorem dL_law_431 : nx cL_law 431 (.iadd) 1 432 := ⟨by decide +kernel, rfl⟩
theorem dL_law_432 : nx cL_law 432 (.iaload) 1 433 := ⟨by decide +kernel, rfl⟩
theorem dL_law_433 : nx cL_law 433 (.aload_n 0) 1 434 := ⟨by decide +kernel, rfl⟩
theorem dL_law_434 : nx cL_law 434 (.iload_n 3) 1 435 := ⟨by decide +kernel, rfl⟩
theorem dL_law_435 : nx cL_law 435 (.iconst 2) 1 436 := ⟨by decide +kernel, rfl⟩
theorem dL_law_436 : nx cL_law 436 (.iadd) 1 437 := ⟨by decide +kernel, rfl⟩
theorem dL_law_437 : nx cL_law 437 (.iaload) 1 438 := ⟨by decide +kernel, rfl⟩
theorem dL_law_438 : nx cL_law 438 (.aload_n 0) 1 439 := ⟨by decide +kernel, rfl⟩
theorem dL_law_439 : nx cL_law 439 (.iload_n 3) 1 440 := ⟨by decide +kernel, rfl⟩
theorem dL_law_440 : nx cL_law 440 (.iconst 3) 1 441 := ⟨by decide +kernel, rfl⟩
theorem dL_law_441 : nx cL_law 441 (.iadd) 1 442 := ⟨by decide +kernel, rfl⟩
theorem dL_law_442 : nx cL_law 442 (.iaload) 1 443 := ⟨by decide +kernel, rfl⟩
theorem dL_law_443 : nx cL_law 443 (.aload_n 0) 1 444 := ⟨by decide +kernel, rfl⟩
theorem dL_law_444 : nx cL_law 444 (.iload_n 3) 1 445 := ⟨by decide +kernel, rfl⟩
theorem dL_law_445 : nx cL_law 445 (.iconst 4) 1 446 := ⟨by decide +kernel, rfl⟩
theorem dL_law_446 : nx cL_law 446 (.iadd) 1 447 := ⟨by decide +kernel, rfl⟩
theorem dL_law_447 : nx cL_law 447 (.iaload) 1 448 := ⟨by decide +kernel, rfl⟩
theorem dL_law_448 : nx cL_law 448 (.aload_n 0) 1 449 := ⟨by decide +kernel, rfl⟩
theorem dL_law_449 : nx cL_law 449 (.iload_n 3) 1 450 := ⟨by decide +kernel, rfl⟩
theorem dL_law_450 : nx cL_law 450 (.iconst 5) 1 451 := ⟨by decide +kernel, rfl⟩
theorem dL_law_451 : nx cL_law 451 (.iadd) 1 452 := ⟨by decide +kernel, rfl⟩
theorem dL_law_452 : nx cL_law 452 (.iaload) 1 453 := ⟨by decide +kernel, rfl⟩
theorem dL_law_453 : nx cL_law 453 (.invokevirtual 46) 3 456 := ⟨by decide +kernel, rfl⟩
theorem dL_law_456 : nx cL_law 456 (.aload_n 2) 1 457 := ⟨by decide +kernel, rfl⟩
theorem dL_law_457 : nx cL_law 457 (.aload_n 0) 1 458 := ⟨by decide +kernel, rfl⟩
theorem dL_law_458 : nx cL_law 458 (.iload_n 3) 1 459 := ⟨by decide +kernel, rfl⟩
theorem dL_law_459 : nx cL_law 459 (.iconst 1) 1 460 := ⟨by decide +kernel, rfl⟩
theorem dL_law_460 : nx cL_law 460 (.iadd) 1 461 := ⟨by decide +kernel, rfl⟩
theorem dL_law_461 : nx cL_law 461 (.iaload) 1 462 := ⟨by decide +kernel, rfl⟩
theorem dL_law_462 : nx cL_law 462 (.aload_n 0) 1 463 := ⟨by decide +kernel, rfl⟩
theorem dL_law_463 : nx cL_law 463 (.iload_n 3) 1 464 := ⟨by decide +kernel, rfl⟩
theorem dL_law_464 : nx cL_law 464 (.iconst 2) 1 465 := ⟨by decide +kernel, rfl⟩
theorem dL_law_465 : nx cL_law 465 (.iadd) 1 466 := ⟨by decide +kernel, rfl⟩
theorem dL_law_466 : nx cL_law 466 (.iaload) 1 467 := ⟨by decide +kernel, rfl⟩
theorem dL_law_467 : nx cL_law 467 (.aload_n 0) 1 468 := ⟨by decide +kernel, rfl⟩
theorem dL_law_468 : nx cL_law 468 (.iload_n 3) 1 469 := ⟨by decide +kernel, rfl⟩
theorem dL_law_469 : nx cL_law 469 (.iconst 3) 1 470 := ⟨by decide +kernel, rfl⟩
theorem dL_law_470 : nx cL_law 470 (.iadd) 1 471 := ⟨by decide +kernel, rfl⟩
theorem dL_law_471 : nx cL_law 471 (.iaload) 1 472 := ⟨by decide +kernel, rfl⟩
theorem dL_law_472 : nx cL_law 472 (.aload_n 0) 1 473 := ⟨by decide +kernel, rfl⟩
theorem dL_law_473 : nx cL_law 473 (.iload_n 3) 1 474 := ⟨by decide +kernel, rfl⟩
theorem dL_law_474 : nx cL_law 474 (.iconst 4) 1 475 := ⟨by decide +kernel, rfl⟩
theorem dL_law_475 : nx cL_law 475 (.iadd) 1 476 := ⟨by decide +kernel, rfl⟩
theorem dL_law_476 : nx cL_law 476 (.iaload) 1 477 := ⟨by decide +kernel, rfl⟩
theorem dL_law_477 : nx cL_law 477 (.aload_n 0) 1 478 := ⟨by decide +kernel, rfl⟩
theorem dL_law_478 : nx cL_law 478 (.iload_n 3) 1 479 := ⟨by decide +kernel, rfl⟩
theorem dL_law_479 : nx cL_law 479 (.iconst 5) 1 480 := ⟨by decide +kernel, rfl⟩
theorem dL_law_480 : nx cL_law 480 (.iadd) 1 481 := ⟨by decide +kernel, rfl⟩
theorem dL_law_481 : nx cL_law 481 (.iaload) 1 482 := ⟨by decide +kernel, rfl⟩
theorem dL_law_482 : nx cL_law 482 (.invokevirtual 50) 3 485 := ⟨by decide +kernel, rfl⟩
theorem dL_law_485 : nx cL_law 485 (.lcmp) 1 486 := ⟨by decide +kernel, rfl⟩
theorem dL_law_486 : bx cL_law 486 (.ifCond .eq 643) 643 1129 489 := ⟨by decide +kernel, by decide, rfl⟩
theorem dL_law_489 : nx cL_law 489 (.iconst 0) 1 490 := ⟨by decide +kernel, rfl⟩
theorem dL_law_490 : nx cL_law 490 (.ireturn) 1 491 := ⟨by decide +kernel, rfl⟩
theorem dL_law_491 : nx cL_law 491 (.aload_n 1) 1 492 := ⟨by decide +kernel, rfl⟩
theorem dL_law_492 : nx cL_law 492 (.aload_n 0) 1 493 := ⟨by decide +kernel, rfl⟩
theorem dL_law_493 : nx cL_law 493 (.iload_n 3) 1 494 := ⟨by decide +kernel, rfl⟩
theorem dL_law_494 : nx cL_law 494 (.iconst 1) 1 495 := ⟨by decide +kernel, rfl⟩
theorem dL_law_495 : nx cL_law 495 (.iadd) 1 496 := ⟨by decide +kernel, rfl⟩
theorem dL_law_496 : nx cL_law 496 (.iaload) 1 497 := ⟨by decide +kernel, rfl⟩
theorem dL_law_497 : nx cL_law 497 (.invokevirtual 51) 3 500 := ⟨by decide +kernel, rfl⟩
theorem dL_law_500 : nx cL_law 500 (.aload_n 2) 1 501 := ⟨by decide +kernel, rfl⟩
theorem dL_law_501 : nx cL_law 501 (.aload_n 0) 1 502 := ⟨by decide +kernel, rfl⟩
theorem dL_law_502 : nx cL_law 502 (.iload_n 3) 1 503 := ⟨by decide +kernel, rfl⟩
theorem dL_law_503 : nx cL_law 503 (.iconst 1) 1 504 := ⟨by decide +kernel, rfl⟩
theorem dL_law_504 : nx cL_law 504 (.iadd) 1 505 := ⟨by decide +kernel, rfl⟩
theorem dL_law_505 : nx cL_law 505 (.iaload) 1 506 := ⟨by decide +kernel, rfl⟩
theorem dL_law_506 : nx cL_law 506 (.invokevirtual 54) 3 509 := ⟨by decide +kernel, rfl⟩
theorem dL_law_509 : bx cL_law 509 (.if_icmp .eq 620) 620 1129 512 := ⟨by decide +kernel, by decide, rfl⟩
theorem dL_law_512 : nx cL_law 512 (.iconst 0) 1 513 := ⟨by decide +kernel, rfl⟩
theorem dL_law_513 : nx cL_law 513 (.ireturn) 1 514 := ⟨by decide +kernel, rfl⟩
theorem dL_law_514 : nx cL_law 514 (.aload_n 1) 1 515 := ⟨by decide +kernel, rfl⟩
theorem dL_law_515 : nx cL_law 515 (.aload_n 0) 1 516 := ⟨by decide +kernel, rfl⟩
theorem dL_law_516 : nx cL_law 516 (.iload_n 3) 1 517 := ⟨by decide +kernel, rfl⟩
theorem dL_law_517 : nx cL_law 517 (.iconst 1) 1 518 := ⟨by decide +kernel, rfl⟩
theorem dL_law_518 : nx cL_law 518 (.iadd) 1 519 := ⟨by decide +kernel, rfl⟩
theorem dL_law_519 : nx cL_law 519 (.iaload) 1 520 := ⟨by decide +kernel, rfl⟩
theorem dL_law_520 : nx cL_law 520 (.invokevirtual 55) 3 523 := ⟨by decide +kernel, rfl⟩
theorem dL_law_523 : nx cL_law 523 (.aload_n 2) 1 524 := ⟨by decide +kernel, rfl⟩
theorem dL_law_524 : nx cL_law 524 (.aload_n 0) 1 525 := ⟨by decide +kernel, rfl⟩
theorem dL_law_525 : nx cL_law 525 (.iload_n 3) 1 526 := ⟨by decide +kernel, rfl⟩
theorem dL_law_526 : nx cL_law 526 (.iconst 1) 1 527 := ⟨by decide +kernel, rfl⟩
theorem dL_law_527 : nx cL_law 527 (.iadd) 1 528 := ⟨by decide +kernel, rfl⟩
theorem dL_law_528 : nx cL_law 528 (.iaload) 1 529 := ⟨by decide +kernel, rfl⟩
theorem dL_law_529 : nx cL_law 529 (.invokevirtual 58) 3 532 := ⟨by decide +kernel, rfl⟩
theorem dL_law_532 : bx cL_law 532 (.if_icmp .eq 597) 597 1129 535 := ⟨by decide +kernel, by decide, rfl⟩
theorem dL_law_535 : nx cL_law 535 (.iconst 0) 1 536 := ⟨by decide +kernel, rfl⟩
theorem dL_law_536 : nx cL_law 536 (.ireturn) 1 537 := ⟨by decide +kernel, rfl⟩
theorem dL_law_537 : nx cL_law 537 (.aload_n 1) 1 538 := ⟨by decide +kernel, rfl⟩
theorem dL_law_538 : nx cL_law 538 (.aload_n 0) 1 539 := ⟨by decide +kernel, rfl⟩
theorem dL_law_539 : nx cL_law 539 (.iload_n 3) 1 540 := ⟨by decide +kernel, rfl⟩
theorem dL_law_540 : nx cL_law 540 (.iconst 1) 1 541 := ⟨by decide +kernel, rfl⟩
theorem dL_law_541 : nx cL_law 541 (.iadd) 1 542 := ⟨by decide +kernel, rfl⟩
theorem dL_law_542 : nx cL_law 542 (.iaload) 1 543 := ⟨by decide +kernel, rfl⟩
theorem dL_law_543 : nx cL_law 543 (.aload_n 0) 1 544 := ⟨by decide +kernel, rfl⟩
theorem dL_law_544 : nx cL_law 544 (.iload_n 3) 1 545 := ⟨by decide +kernel, rfl⟩
theorem dL_law_545 : nx cL_law 545 (.iconst 2) 1 546 := ⟨by decide +kernel, rfl⟩
theorem dL_law_546 : nx cL_law 546 (.iadd) 1 547 := ⟨by decide +kernel, rfl⟩
theorem dL_law_547 : nx cL_law 547 (.iaload) 1 548 := ⟨by decide +kernel, rfl⟩
theorem dL_law_548 : nx cL_law 548 (.invokevirtual 59) 3 551 := ⟨by decide +kernel, rfl⟩
theorem dL_law_551 : nx cL_law 551 (.aload_n 2) 1 552 := ⟨by decide +kernel, rfl⟩
theorem dL_law_552 : nx cL_law 552 (.aload_n 0) 1 553 := ⟨by decide +kernel, rfl⟩
theorem dL_law_553 : nx cL_law 553 (.iload_n 3) 1 554 := ⟨by decide +kernel, rfl⟩
theorem dL_law_554 : nx cL_law 554 (.iconst 1) 1 555 := ⟨by decide +kernel, rfl⟩
theorem dL_law_555 : nx cL_law 555 (.iadd) 1 556 := ⟨by decide +kernel, rfl⟩
theorem dL_law_556 : nx cL_law 556 (.iaload) 1 557 := ⟨by decide +kernel, rfl⟩
theorem dL_law_557 : nx cL_law 557 (.aload_n 0) 1 558 := ⟨by decide +kernel, rfl⟩
theorem dL_law_558 : nx cL_law 558 (.iload_n 3) 1 559 := ⟨by decide +kernel, rfl⟩
theorem dL_law_559 : nx cL_law 559 (.iconst 2) 1 560 := ⟨by decide +kernel, rfl⟩
theorem dL_law_560 : nx cL_law 560 (.iadd) 1 561 := ⟨by decide +kernel, rfl⟩
theorem dL_law_561 : nx cL_law 561 (.iaload) 1 562 := ⟨by decide +kernel, rfl⟩
theorem dL_law_562 : nx cL_law 562 (.invokevirtual 62) 3 565 := ⟨by decide +kernel, rfl⟩
theorem dL_law_565 : bx cL_law 565 (.if_icmp .eq 564) 564 1129 568 := ⟨by decide +kernel, by decide, rfl⟩
theorem dL_law_568 : nx cL_law 568 (.iconst 0) 1 569 := ⟨by decide +kernel, rfl⟩
theorem dL_law_569 : nx cL_law 569 (.ireturn) 1 570 := ⟨by decide +kernel, rfl⟩
theorem dL_law_570 : nx cL_law 570 (.aload_n 1) 1 571 := ⟨by decide +kernel, rfl⟩
theorem dL_law_571 : nx cL_law 571 (.aload_n 0) 1 572 := ⟨by decide +kernel, rfl⟩
theorem dL_law_572 : nx cL_law 572 (.iload_n 3) 1 573 := ⟨by decide +kernel, rfl⟩
theorem dL_law_573 : nx cL_law 573 (.iconst 1) 1 574 := ⟨by decide +kernel, rfl⟩
theorem dL_law_574 : nx cL_law 574 (.iadd) 1 575 := ⟨by decide +kernel, rfl⟩
theorem dL_law_575 : nx cL_law 575 (.iaload) 1 576 := ⟨by decide +kernel, rfl⟩
theorem dL_law_576 : nx cL_law 576 (.aload_n 0) 1 577 := ⟨by decide +kernel, rfl⟩
theorem dL_law_577 : nx cL_law 577 (.iload_n 3) 1 578 := ⟨by decide +kernel, rfl⟩
theorem dL_law_578 : nx cL_law 578 (.iconst 2) 1 579 := ⟨by decide +kernel, rfl⟩
theorem dL_law_579 : nx cL_law 579 (.iadd) 1 580 := ⟨by decide +kernel, rfl⟩
theorem dL_law_580 : nx cL_law 580 (.iaload) 1 581 := ⟨by decide +kernel, rfl⟩
theorem dL_law_581 : nx cL_law 581 (.invokevirtual 63) 3 584 := ⟨by decide +kernel, rfl⟩
theorem dL_law_584 : nx cL_law 584 (.aload_n 2) 1 585 := ⟨by decide +kernel, rfl⟩
theorem dL_law_585 : nx cL_law 585 (.aload_n 0) 1 586 := ⟨by decide +kernel, rfl⟩
theorem dL_law_586 : nx cL_law 586 (.iload_n 3) 1 587 := ⟨by decide +kernel, rfl⟩
theorem dL_law_587 : nx cL_law 587 (.iconst 1) 1 588 := ⟨by decide +kernel, rfl⟩
theorem dL_law_588 : nx cL_law 588 (.iadd) 1 589 := ⟨by decide +kernel, rfl⟩
theorem dL_law_589 : nx cL_law 589 (.iaload) 1 590 := ⟨by decide +kernel, rfl⟩
theorem dL_law_590 : nx cL_law 590 (.aload_n 0) 1 591 := ⟨by decide +kernel, rfl⟩
theorem dL_law_591 : nx cL_law 591 (.iload_n 3) 1 592 := ⟨by decide +kernel, rfl⟩
theorem dL_law_592 : nx cL_law 592 (.iconst 2) 1 593 := ⟨by decide +kernel, rfl⟩
theorem dL_law_593 : nx cL_law 593 (.iadd) 1 594 := ⟨by decide +kernel, rfl⟩
theorem dL_law_594 : nx cL_law 594 (.iaload) 1 595 := ⟨by decide +kernel, rfl⟩
theorem dL_law_595 : nx cL_law 595 (.invokevirtual 66) 3 598 := ⟨by decide +kernel, rfl⟩
theorem dL_law_598 : bx cL_law 598 (.if_icmp .eq 531) 531 1129 601 := ⟨by decide +kernel, by decide, rfl⟩
theorem dL_law_601 : nx cL_law 601 (.iconst 0) 1 602 := ⟨by decide +kernel, rfl⟩
theorem dL_law_602 : nx cL_law 602 (.ireturn) 1 603 := ⟨by decide +kernel, rfl⟩
theorem dL_law_603 : nx cL_law 603 (.aload_n 1) 1 604 := ⟨by decide +kernel, rfl⟩
theorem dL_law_604 : nx cL_law 604 (.aload_n 0) 1 605 := ⟨by decide +kernel, rfl⟩
theorem dL_law_605 : nx cL_law 605 (.iload_n 3) 1 606 := ⟨by decide +kernel, rfl⟩
theorem dL_law_606 : nx cL_law 606 (.iconst 1) 1 607 := ⟨by decide +kernel, rfl⟩
theorem dL_law_607 : nx cL_law 607 (.iadd) 1 608 := ⟨by decide +kernel, rfl⟩
theorem dL_law_608 : nx cL_law 608 (.iaload) 1 609 := ⟨by decide +kernel, rfl⟩
theorem dL_law_609 : nx cL_law 609 (.invokevirtual 67) 3 612 := ⟨by decide +kernel, rfl⟩
theorem dL_law_612 : nx cL_law 612 (.aload_n 2) 1 613 := ⟨by decide +kernel, rfl⟩
theorem dL_law_613 : nx cL_law 613 (.aload_n 0) 1 614 := ⟨by decide +kernel, rfl⟩
theorem dL_law_614 : nx cL_law 614 (.iload_n 3) 1 615 := ⟨by decide +kernel, rfl⟩
theorem dL_law_615 : nx cL_law 615 (.iconst 1) 1 616 := ⟨by decide +kernel, rfl⟩
theorem dL_law_616 : nx cL_law 616 (.iadd) 1 617 := ⟨by decide +kernel, rfl⟩
theorem dL_law_617 : nx cL_law 617 (.iaload) 1 618 := ⟨by decide +kernel, rfl⟩
theorem dL_law_618 : nx cL_law 618 (.invokevirtual 70) 3 621 := ⟨by decide +kernel, rfl⟩
theorem dL_law_621 : bx cL_law 621 (.if_icmp .eq 508) 508 1129 624 := ⟨by decide +kernel, by decide, rfl⟩
theorem dL_law_624 : nx cL_law 624 (.iconst 0) 1 625 := ⟨by decide +kernel, rfl⟩
theorem dL_law_625 : nx cL_law 625 (.ireturn) 1 626 := ⟨by decide +kernel, rfl⟩
theorem dL_law_626 : nx cL_law 626 (.aload_n 1) 1 627 := ⟨by decide +kernel, rfl⟩
theorem dL_law_627 : nx cL_law 627 (.aload_n 0) 1 628 := ⟨by decide +kernel, rfl⟩
theorem dL_law_628 : nx cL_law 628 (.iload_n 3) 1 629 := ⟨by decide +kernel, rfl⟩
theorem dL_law_629 : nx cL_law 629 (.iconst 1) 1 630 := ⟨by decide +kernel, rfl⟩
theorem dL_law_630 : nx cL_law 630 (.iadd) 1 631 := ⟨by decide +kernel, rfl⟩
theorem dL_law_631 : nx cL_law 631 (.iaload) 1 632 := ⟨by decide +kernel, rfl⟩
theorem dL_law_632 : nx cL_law 632 (.aload_n 0) 1 633 := ⟨by decide +kernel, rfl⟩
theorem dL_law_633 : nx cL_law 633 (.iload_n 3) 1 634 := ⟨by decide +kernel, rfl⟩
theorem dL_law_634 : nx cL_law 634 (.iconst 2) 1 635 := ⟨by decide +kernel, rfl⟩
theorem dL_law_635 : nx cL_law 635 (.iadd) 1 636 := ⟨by decide +kernel, rfl⟩
theorem dL_law_636 : nx cL_law 636 (.iaload) 1 637 := ⟨by decide +kernel, rfl⟩
theorem dL_law_637 : bx cL_law 637 (.ifCond .eq 7) 7 644 640 := ⟨by decide +kernel, by decide, rfl⟩
theorem dL_law_640 : nx cL_law 640 (.iconst 1) 1 641 := ⟨by decide +kernel, rfl⟩
theorem dL_law_641 : bx cL_law 641 (.goto 4) 4 645 644 := ⟨by decide +kernel, by decide, rfl⟩
theorem dL_law_644 : nx cL_law 644 (.iconst 0) 1 645 := ⟨by decide +kernel, rfl⟩
theorem dL_law_645 : nx cL_law 645 (.invokevirtual 71) 3 648 := ⟨by decide +kernel, rfl⟩
theorem dL_law_648 : nx cL_law 648 (.aload_n 2) 1 649 := ⟨by decide +kernel, rfl⟩
theorem dL_law_649 : nx cL_law 649 (.aload_n 0) 1 650 := ⟨by decide +kernel, rfl⟩
theorem dL_law_650 : nx cL_law 650 (.iload_n 3) 1 651 := ⟨by decide +kernel, rfl⟩
theorem dL_law_651 : nx cL_law 651 (.iconst 1) 1 652 := ⟨by decide +kernel, rfl⟩
theorem dL_law_652 : nx cL_law 652 (.iadd) 1 653 := ⟨by decide +kernel, rfl⟩
theorem dL_law_653 : nx cL_law 653 (.iaload) 1 654 := ⟨by decide +kernel, rfl⟩
theorem dL_law_654 : nx cL_law 654 (.aload_n 0) 1 655 := ⟨by decide +kernel, rfl⟩
theorem dL_law_655 : nx cL_law 655 (.iload_n 3) 1 656 := ⟨by decide +kernel, rfl⟩
theorem dL_law_656 : nx cL_law 656 (.iconst 2) 1 657 := ⟨by decide +kernel, rfl⟩
theorem dL_law_657 : nx cL_law 657 (.iadd) 1 658 := ⟨by decide +kernel, rfl⟩
theorem dL_law_658 : nx cL_law 658 (.iaload) 1 659 := ⟨by decide +kernel, rfl⟩
theorem dL_law_659 : bx cL_law 659 (.ifCond .eq 7) 7 666 662 := ⟨by decide +kernel, by decide, rfl⟩
theorem dL_law_662 : nx cL_law 662 (.iconst 1) 1 663 := ⟨by decide +kernel, rfl⟩
theorem dL_law_663 : bx cL_law 663 (.goto 4) 4 667 666 := ⟨by decide +kernel, by decide, rfl⟩
theorem dL_law_666 : nx cL_law 666 (.iconst 0) 1 667 := ⟨by decide +kernel, rfl⟩
theorem dL_law_667 : nx cL_law 667 (.invokevirtual 74) 3 670 := ⟨by decide +kernel, rfl⟩
theorem dL_law_670 : bx cL_law 670 (.if_icmp .eq 459) 459 1129 673 := ⟨by decide +kernel, by decide, rfl⟩
theorem dL_law_673 : nx cL_law 673 (.iconst 0) 1 674 := ⟨by decide +kernel, rfl⟩
theorem dL_law_674 : nx cL_law 674 (.ireturn) 1 675 := ⟨by decide +kernel, rfl⟩
theorem dL_law_675 : nx cL_law 675 (.aload_n 1) 1 676 := ⟨by decide +kernel, rfl⟩
theorem dL_law_676 : nx cL_law 676 (.aload_n 0) 1 677 := ⟨by decide +kernel, rfl⟩
theorem dL_law_677 : nx cL_law 677 (.iload_n 3) 1 678 := ⟨by decide +kernel, rfl⟩
theorem dL_law_678 : nx cL_law 678 (.iconst 1) 1 679 := ⟨by decide +kernel, rfl⟩
theorem dL_law_679 : nx cL_law 679 (.iadd) 1 680 := ⟨by decide +kernel, rfl⟩
theorem dL_law_680 : nx cL_law 680 (.iaload) 1 681 := ⟨by decide +kernel, rfl⟩
theorem dL_law_681 : nx cL_law 681 (.invokevirtual 75) 3 684 := ⟨by decide +kernel, rfl⟩
theorem dL_law_684 : nx cL_law 684 (.aload_n 2) 1 685 := ⟨by decide +kernel, rfl⟩
theorem dL_law_685 : nx cL_law 685 (.aload_n 0) 1 686 := ⟨by decide +kernel, rfl⟩
theorem dL_law_686 : nx cL_law 686 (.iload_n 3) 1 687 := ⟨by decide +kernel, rfl⟩
theorem dL_law_687 : nx cL_law 687 (.iconst 1) 1 688 := ⟨by decide +kernel, rfl⟩
theorem dL_law_688 : nx cL_law 688 (.iadd) 1 689 := ⟨by decide +kernel, rfl⟩
theorem dL_law_689 : nx cL_law 689 (.iaload) 1 690 := ⟨by decide +kernel, rfl⟩
theorem dL_law_690 : nx cL_law 690 (.invokevirtual 78) 3 693 := ⟨by decide +kernel, rfl⟩
theorem dL_law_693 : bx cL_law 693 (.if_icmp .eq 436) 436 1129 696 := ⟨by decide +kernel, by decide, rfl⟩
theorem dL_law_696 : nx cL_law 696 (.iconst 0) 1 697 := ⟨by decide +kernel, rfl⟩
theorem dL_law_697 : nx cL_law 697 (.ireturn) 1 698 := ⟨by decide +kernel, rfl⟩
theorem dL_law_698 : nx cL_law 698 (.aload_n 1) 1 699 := ⟨by decide +kernel, rfl⟩
theorem dL_law_699 : nx cL_law 699 (.aload_n 0) 1 700 := ⟨by decide +kernel, rfl⟩
theorem dL_law_700 : nx cL_law 700 (.iload_n 3) 1 701 := ⟨by decide +kernel, rfl⟩
theorem dL_law_701 : nx cL_law 701 (.iconst 1) 1 702 := ⟨by decide +kernel, rfl⟩
theorem dL_law_702 : nx cL_law 702 (.iadd) 1 703 := ⟨by decide +kernel, rfl⟩
theorem dL_law_703 : nx cL_law 703 (.iaload) 1 704 := ⟨by decide +kernel, rfl⟩
theorem dL_law_704 : nx cL_law 704 (.aload_n 0) 1 705 := ⟨by decide +kernel, rfl⟩
theorem dL_law_705 : nx cL_law 705 (.iload_n 3) 1 706 := ⟨by decide +kernel, rfl⟩
theorem dL_law_706 : nx cL_law 706 (.iconst 2) 1 707 := ⟨by decide +kernel, rfl⟩
theorem dL_law_707 : nx cL_law 707 (.iadd) 1 708 := ⟨by decide +kernel, rfl⟩
theorem dL_law_708 : nx cL_law 708 (.iaload) 1 709 := ⟨by decide +kernel, rfl⟩
theorem dL_law_709 : nx cL_law 709 (.aload_n 0) 1 710 := ⟨by decide +kernel, rfl⟩
theorem dL_law_710 : nx cL_law 710 (.iload_n 3) 1 711 := ⟨by decide +kernel, rfl⟩
theorem dL_law_711 : nx cL_law 711 (.iconst 3) 1 712 := ⟨by decide +kernel, rfl⟩
theorem dL_law_712 : nx cL_law 712 (.iadd) 1 713 := ⟨by decide +kernel, rfl⟩
theorem dL_law_713 : nx cL_law 713 (.iaload) 1 714 := ⟨by decide +kernel, rfl⟩
theorem dL_law_714 : nx cL_law 714 (.invokevirtual 79) 3 717 := ⟨by decide +kernel, rfl⟩
theorem dL_law_717 : nx cL_law 717 (.aload_n 2) 1 718 := ⟨by decide +kernel, rfl⟩
theorem dL_law_718 : nx cL_law 718 (.aload_n 0) 1 719 := ⟨by decide +kernel, rfl⟩
theorem dL_law_719 : nx cL_law 719 (.iload_n 3) 1 720 := ⟨by decide +kernel, rfl⟩
theorem dL_law_720 : nx cL_law 720 (.iconst 1) 1 721 := ⟨by decide +kernel, rfl⟩
theorem dL_law_721 : nx cL_law 721 (.iadd) 1 722 := ⟨by decide +kernel, rfl⟩
theorem dL_law_722 : nx cL_law 722 (.iaload) 1 723 := ⟨by decide +kernel, rfl⟩
theorem dL_law_723 : nx cL_law 723 (.aload_n 0) 1 724 := ⟨by decide +kernel, rfl⟩
theorem dL_law_724 : nx cL_law 724 (.iload_n 3) 1 725 := ⟨by decide +kernel, rfl⟩
theorem dL_law_725 : nx cL_law 725 (.iconst 2) 1 726 := ⟨by decide +kernel, rfl⟩
theorem dL_law_726 : nx cL_law 726 (.iadd) 1 727 := ⟨by decide +kernel, rfl⟩
theorem dL_law_727 : nx cL_law 727 (.iaload) 1 728 := ⟨by decide +kernel, rfl⟩
theorem dL_law_728 : nx cL_law 728 (.aload_n 0) 1 729 := ⟨by decide +kernel, rfl⟩
theorem dL_law_729 : nx cL_law 729 (.iload_n 3) 1 730 := ⟨by decide +kernel, rfl⟩
theorem dL_law_730 : nx cL_law 730 (.iconst 3) 1 731 := ⟨by decide +kernel, rfl⟩
theorem dL_law_731 : nx cL_law 731 (.iadd) 1 732 := ⟨by decide +kernel, rfl⟩
theorem dL_law_732 : nx cL_law 732 (.iaload) 1 733 := ⟨by decide +kernel, rfl⟩
theorem dL_law_733 : nx cL_law 733 (.invokevirtual 83) 3 736 := ⟨by decide +kernel, rfl⟩
theorem dL_law_736 : bx cL_law 736 (.if_icmp .eq 393) 393 1129 739 := ⟨by decide +kernel, by decide, rfl⟩
theorem dL_law_739 : nx cL_law 739 (.iconst 0) 1 740 := ⟨by decide +kernel, rfl⟩
theorem dL_law_740 : nx cL_law 740 (.ireturn) 1 741 := ⟨by decide +kernel, rfl⟩
theorem dL_law_741 : nx cL_law 741 (.aload_n 1) 1 742 := ⟨by decide +kernel, rfl⟩
theorem dL_law_742 : nx cL_law 742 (.aload_n 0) 1 743 := ⟨by decide +kernel, rfl⟩
theorem dL_law_743 : nx cL_law 743 (.iload_n 3) 1 744 := ⟨by decide +kernel, rfl⟩
theorem dL_law_744 : nx cL_law 744 (.iconst 1) 1 745 := ⟨by decide +kernel, rfl⟩
theorem dL_law_745 : nx cL_law 745 (.iadd) 1 746 := ⟨by decide +kernel, rfl⟩
theorem dL_law_746 : nx cL_law 746 (.iaload) 1 747 := ⟨by decide +kernel, rfl⟩
theorem dL_law_747 : nx cL_law 747 (.aload_n 0) 1 748 := ⟨by decide +kernel, rfl⟩
theorem dL_law_748 : nx cL_law 748 (.iload_n 3) 1 749 := ⟨by decide +kernel, rfl⟩
theorem dL_law_749 : nx cL_law 749 (.iconst 2) 1 750 := ⟨by decide +kernel, rfl⟩
theorem dL_law_750 : nx cL_law 750 (.iadd) 1 751 := ⟨by decide +kernel, rfl⟩
theorem dL_law_751 : nx cL_law 751 (.iaload) 1 752 := ⟨by decide +kernel, rfl⟩
theorem dL_law_752 : nx cL_law 752 (.aload_n 0) 1 753 := ⟨by decide +kernel, rfl⟩
theorem dL_law_753 : nx cL_law 753 (.iload_n 3) 1 754 := ⟨by decide +kernel, rfl⟩
theorem dL_law_754 : nx cL_law 754 (.iconst 3) 1 755 := ⟨by decide +kernel, rfl⟩
theorem dL_law_755 : nx cL_law 755 (.iadd) 1 756 := ⟨by decide +kernel, rfl⟩
theorem dL_law_756 : nx cL_law 756 (.iaload) 1 757 := ⟨by decide +kernel, rfl⟩
theorem dL_law_757 : nx cL_law 757 (.invokevirtual 84) 3 760 := ⟨by decide +kernel, rfl⟩
theorem dL_law_760 : nx cL_law 760 (.aload_n 2) 1 761 := ⟨by decide +kernel, rfl⟩
theorem dL_law_761 : nx cL_law 761 (.aload_n 0) 1 762 := ⟨by decide +kernel, rfl⟩
theorem dL_law_762 : nx cL_law 762 (.iload_n 3) 1 763 := ⟨by decide +kernel, rfl⟩
theorem dL_law_763 : nx cL_law 763 (.iconst 1) 1 764 := ⟨by decide +kernel, rfl⟩
theorem dL_law_764 : nx cL_law 764 (.iadd) 1 765 := ⟨by decide +kernel, rfl⟩
theorem dL_law_765 : nx cL_law 765 (.iaload) 1 766 := ⟨by decide +kernel, rfl⟩
theorem dL_law_766 : nx cL_law 766 (.aload_n 0) 1 767 := ⟨by decide +kernel, rfl⟩
theorem dL_law_767 : nx cL_law 767 (.iload_n 3) 1 768 := ⟨by decide +kernel, rfl⟩
theorem dL_law_768 : nx cL_law 768 (.iconst 2) 1 769 := ⟨by decide +kernel, rfl⟩
theorem dL_law_769 : nx cL_law 769 (.iadd) 1 770 := ⟨by decide +kernel, rfl⟩
theorem dL_law_770 : nx cL_law 770 (.iaload) 1 771 := ⟨by decide +kernel, rfl⟩
theorem dL_law_771 : nx cL_law 771 (.aload_n 0) 1 772 := ⟨by decide +kernel, rfl⟩
theorem dL_law_772 : nx cL_law 772 (.iload_n 3) 1 773 := ⟨by decide +kernel, rfl⟩
theorem dL_law_773 : nx cL_law 773 (.iconst 3) 1 774 := ⟨by decide +kernel, rfl⟩
theorem dL_law_774 : nx cL_law 774 (.iadd) 1 775 := ⟨by decide +kernel, rfl⟩
theorem dL_law_775 : nx cL_law 775 (.iaload) 1 776 := ⟨by decide +kernel, rfl⟩
theorem dL_law_776 : nx cL_law 776 (.invokevirtual 88) 3 779 := ⟨by decide +kernel, rfl⟩
theorem dL_law_779 : nx cL_law 779 (.lcmp) 1 780 := ⟨by decide +kernel, rfl⟩
theorem dL_law_780 : bx cL_law 780 (.ifCond .eq 349) 349 1129 783 := ⟨by decide +kernel, by decide, rfl⟩
theorem dL_law_783 : nx cL_law 783 (.iconst 0) 1 784 := ⟨by decide +kernel, rfl⟩
theorem dL_law_784 : nx cL_law 784 (.ireturn) 1 785 := ⟨by decide +kernel, rfl⟩
theorem dL_law_785 : nx cL_law 785 (.aload_n 1) 1 786 := ⟨by decide +kernel, rfl⟩
theorem dL_law_786 : nx cL_law 786 (.aload_n 0) 1 787 := ⟨by decide +kernel, rfl⟩
theorem dL_law_787 : nx cL_law 787 (.iload_n 3) 1 788 := ⟨by decide +kernel, rfl⟩
theorem dL_law_788 : nx cL_law 788 (.iconst 1) 1 789 := ⟨by decide +kernel, rfl⟩
theorem dL_law_789 : nx cL_law 789 (.iadd) 1 790 := ⟨by decide +kernel, rfl⟩
theorem dL_law_790 : nx cL_law 790 (.iaload) 1 791 := ⟨by decide +kernel, rfl⟩
theorem dL_law_791 : nx cL_law 791 (.aload_n 0) 1 792 := ⟨by decide +kernel, rfl⟩
theorem dL_law_792 : nx cL_law 792 (.iload_n 3) 1 793 := ⟨by decide +kernel, rfl⟩
theorem dL_law_793 : nx cL_law 793 (.iconst 2) 1 794 := ⟨by decide +kernel, rfl⟩
theorem dL_law_794 : nx cL_law 794 (.iadd) 1 795 := ⟨by decide +kernel, rfl⟩
theorem dL_law_795 : nx cL_law 795 (.iaload) 1 796 := ⟨by decide +kernel, rfl⟩
theorem dL_law_796 : nx cL_law 796 (.aload_n 0) 1 797 := ⟨by decide +kernel, rfl⟩
theorem dL_law_797 : nx cL_law 797 (.iload_n 3) 1 798 := ⟨by decide +kernel, rfl⟩
theorem dL_law_798 : nx cL_law 798 (.iconst 3) 1 799 := ⟨by decide +kernel, rfl⟩
theorem dL_law_799 : nx cL_law 799 (.iadd) 1 800 := ⟨by decide +kernel, rfl⟩
theorem dL_law_800 : nx cL_law 800 (.iaload) 1 801 := ⟨by decide +kernel, rfl⟩
theorem dL_law_801 : nx cL_law 801 (.invokevirtual 89) 3 804 := ⟨by decide +kernel, rfl⟩
theorem dL_law_804 : nx cL_law 804 (.aload_n 2) 1 805 := ⟨by decide +kernel, rfl⟩
theorem dL_law_805 : nx cL_law 805 (.aload_n 0) 1 806 := ⟨by decide +kernel, rfl⟩
theorem dL_law_806 : nx cL_law 806 (.iload_n 3) 1 807 := ⟨by decide +kernel, rfl⟩
theorem dL_law_807 : nx cL_law 807 (.iconst 1) 1 808 := ⟨by decide +kernel, rfl⟩
theorem dL_law_808 : nx cL_law 808 (.iadd) 1 809 := ⟨by decide +kernel, rfl⟩
theorem dL_law_809 : nx cL_law 809 (.iaload) 1 810 := ⟨by decide +kernel, rfl⟩
theorem dL_law_810 : nx cL_law 810 (.aload_n 0) 1 811 := ⟨by decide +kernel, rfl⟩
theorem dL_law_811 : nx cL_law 811 (.iload_n 3) 1 812 := ⟨by decide +kernel, rfl⟩
theorem dL_law_812 : nx cL_law 812 (.iconst 2) 1 813 := ⟨by decide +kernel, rfl⟩
theorem dL_law_813 : nx cL_law 813 (.iadd) 1 814 := ⟨by decide +kernel, rfl⟩
theorem dL_law_814 : nx cL_law 814 (.iaload) 1 815 := ⟨by decide +kernel, rfl⟩
theorem dL_law_815 : nx cL_law 815 (.aload_n 0) 1 816 := ⟨by decide +kernel, rfl⟩
theorem dL_law_816 : nx cL_law 816 (.iload_n 3) 1 817 := ⟨by decide +kernel, rfl⟩
theorem dL_law_817 : nx cL_law 817 (.iconst 3) 1 818 := ⟨by decide +kernel, rfl⟩
theorem dL_law_818 : nx cL_law 818 (.iadd) 1 819 := ⟨by decide +kernel, rfl⟩
theorem dL_law_819 : nx cL_law 819 (.iaload) 1 820 := ⟨by decide +kernel, rfl⟩
theorem dL_law_820 : nx cL_law 820 (.invokevirtual 92) 3 823 := ⟨by decide +kernel, rfl⟩
theorem dL_law_823 : bx cL_law 823 (.if_icmp .eq 306) 306 1129 826 := ⟨by decide +kernel, by decide, rfl⟩
theorem dL_law_826 : nx cL_law 826 (.iconst 0) 1 827 := ⟨by decide +kernel, rfl⟩
theorem dL_law_827 : nx cL_law 827 (.ireturn) 1 828 := ⟨by decide +kernel, rfl⟩
theorem dL_law_828 : nx cL_law 828 (.aload_n 1) 1 829 := ⟨by decide +kernel, rfl⟩
theorem dL_law_829 : nx cL_law 829 (.aload_n 0) 1 830 := ⟨by decide +kernel, rfl⟩
theorem dL_law_830 : nx cL_law 830 (.iload_n 3) 1 831 := ⟨by decide +kernel, rfl⟩
theorem dL_law_831 : nx cL_law 831 (.iconst 1) 1 832 := ⟨by decide +kernel, rfl⟩
theorem dL_law_832 : nx cL_law 832 (.iadd) 1 833 := ⟨by decide +kernel, rfl⟩
theorem dL_law_833 : nx cL_law 833 (.iaload) 1 834 := ⟨by decide +kernel, rfl⟩
theorem dL_law_834 : nx cL_law 834 (.invokevirtual 93) 3 837 := ⟨by decide +kernel, rfl⟩
theorem dL_law_837 : nx cL_law 837 (.aload_n 2) 1 838 := ⟨by decide +kernel, rfl⟩
theorem dL_law_838 : nx cL_law 838 (.aload_n 0) 1 839 := ⟨by decide +kernel, rfl⟩
theorem dL_law_839 : nx cL_law 839 (.iload_n 3) 1 840 := ⟨by decide +kernel, rfl⟩
theorem dL_law_840 : nx cL_law 840 (.iconst 1) 1 841 := ⟨by decide +kernel, rfl⟩
theorem dL_law_841 : nx cL_law 841 (.iadd) 1 842 := ⟨by decide +kernel, rfl⟩
theorem dL_law_842 : nx cL_law 842 (.iaload) 1 843 := ⟨by decide +kernel, rfl⟩
theorem dL_law_843 : nx cL_law 843 (.invokevirtual 96) 3 846 := ⟨by decide +kernel, rfl⟩
theorem dL_law_846 : bx cL_law 846 (.if_icmp .eq 283) 283 1129 849 := ⟨by decide +kernel, by decide, rfl⟩
theorem dL_law_849 : nx cL_law 849 (.iconst 0) 1 850 := ⟨by decide +kernel, rfl⟩
theorem dL_law_850 : nx cL_law 850 (.ireturn) 1 851 := ⟨by decide +kernel, rfl⟩
theorem dL_law_851 : nx cL_law 851 (.aload_n 1) 1 852 := ⟨by decide +kernel, rfl⟩
theorem dL_law_852 : nx cL_law 852 (.aload_n 0) 1 853 := ⟨by decide +kernel, rfl⟩
theorem dL_law_853 : nx cL_law 853 (.iload_n 3) 1 854 := ⟨by decide +kernel, rfl⟩
theorem dL_law_854 : nx cL_law 854 (.iconst 1) 1 855 := ⟨by decide +kernel, rfl⟩
theorem dL_law_855 : nx cL_law 855 (.iadd) 1 856 := ⟨by decide +kernel, rfl⟩
theorem dL_law_856 : nx cL_law 856 (.iaload) 1 857 := ⟨by decide +kernel, rfl⟩
theorem dL_law_857 : nx cL_law 857 (.aload_n 0) 1 858 := ⟨by decide +kernel, rfl⟩
theorem dL_law_858 : nx cL_law 858 (.iload_n 3) 1 859 := ⟨by decide +kernel, rfl⟩
theorem dL_law_859 : nx cL_law 859 (.iconst 2) 1 860 := ⟨by decide +kernel, rfl⟩
theorem dL_law_860 : nx cL_law 860 (.iadd) 1 861 := ⟨by decide +kernel, rfl⟩
theorem dL_law_861 : nx cL_law 861 (.iaload) 1 862 := ⟨by decide +kernel, rfl⟩
theorem dL_law_862 : nx cL_law 862 (.aload_n 0) 1 863 := ⟨by decide +kernel, rfl⟩
theorem dL_law_863 : nx cL_law 863 (.iload_n 3) 1 864 := ⟨by decide +kernel, rfl⟩
theorem dL_law_864 : nx cL_law 864 (.iconst 3) 1 865 := ⟨by decide +kernel, rfl⟩
theorem dL_law_865 : nx cL_law 865 (.iadd) 1 866 := ⟨by decide +kernel, rfl⟩
theorem dL_law_866 : nx cL_law 866 (.iaload) 1 867 := ⟨by decide +kernel, rfl⟩
theorem dL_law_867 : nx cL_law 867 (.invokevirtual 97) 3 870 := ⟨by decide +kernel, rfl⟩
theorem dL_law_870 : nx cL_law 870 (.aload_n 2) 1 871 := ⟨by decide +kernel, rfl⟩
theorem dL_law_871 : nx cL_law 871 (.aload_n 0) 1 872 := ⟨by decide +kernel, rfl⟩
theorem dL_law_872 : nx cL_law 872 (.iload_n 3) 1 873 := ⟨by decide +kernel, rfl⟩
theorem dL_law_873 : nx cL_law 873 (.iconst 1) 1 874 := ⟨by decide +kernel, rfl⟩
theorem dL_law_874 : nx cL_law 874 (.iadd) 1 875 := ⟨by decide +kernel, rfl⟩
theorem dL_law_875 : nx cL_law 875 (.iaload) 1 876 := ⟨by decide +kernel, rfl⟩
theorem dL_law_876 : nx cL_law 876 (.aload_n 0) 1 877 := ⟨by decide +kernel, rfl⟩
theorem dL_law_877 : nx cL_law 877 (.iload_n 3) 1 878 := ⟨by decide +kernel, rfl⟩
theorem dL_law_878 : nx cL_law 878 (.iconst 2) 1 879 := ⟨by decide +kernel, rfl⟩
theorem dL_law_879 : nx cL_law 879 (.iadd) 1 880 := ⟨by decide +kernel, rfl⟩
theorem dL_law_880 : nx cL_law 880 (.iaload) 1 881 := ⟨by decide +kernel, rfl⟩
theorem dL_law_881 : nx cL_law 881 (.aload_n 0) 1 882 := ⟨by decide +kernel, rfl⟩
theorem dL_law_882 : nx cL_law 882 (.iload_n 3) 1 883 := ⟨by decide +kernel, rfl⟩
theorem dL_law_883 : nx cL_law 883 (.iconst 3) 1 884 := ⟨by decide +kernel, rfl⟩
theorem dL_law_884 : nx cL_law 884 (.iadd) 1 885 := ⟨by decide +kernel, rfl⟩
theorem dL_law_885 : nx cL_law 885 (.iaload) 1 886 := ⟨by decide +kernel, rfl⟩
theorem dL_law_886 : nx cL_law 886 (.invokevirtual 100) 3 889 := ⟨by decide +kernel, rfl⟩
theorem dL_law_889 : bx cL_law 889 (.if_icmp .eq 240) 240 1129 892 := ⟨by decide +kernel, by decide, rfl⟩
theorem dL_law_892 : nx cL_law 892 (.iconst 0) 1 893 := ⟨by decide +kernel, rfl⟩
theorem dL_law_893 : nx cL_law 893 (.ireturn) 1 894 := ⟨by decide +kernel, rfl⟩
theorem dL_law_894 : nx cL_law 894 (.aload_n 1) 1 895 := ⟨by decide +kernel, rfl⟩
theorem dL_law_895 : nx cL_law 895 (.aload_n 0) 1 896 := ⟨by decide +kernel, rfl⟩
theorem dL_law_896 : nx cL_law 896 (.iload_n 3) 1 897 := ⟨by decide +kernel, rfl⟩
theorem dL_law_897 : nx cL_law 897 (.iconst 1) 1 898 := ⟨by decide +kernel, rfl⟩
theorem dL_law_898 : nx cL_law 898 (.iadd) 1 899 := ⟨by decide +kernel, rfl⟩
theorem dL_law_899 : nx cL_law 899 (.iaload) 1 900 := ⟨by decide +kernel, rfl⟩
theorem dL_law_900 : nx cL_law 900 (.aload_n 0) 1 901 := ⟨by decide +kernel, rfl⟩
theorem dL_law_901 : nx cL_law 901 (.iload_n 3) 1 902 := ⟨by decide +kernel, rfl⟩
theorem dL_law_902 : nx cL_law 902 (.iconst 2) 1 903 := ⟨by decide +kernel, rfl⟩
theorem dL_law_903 : nx cL_law 903 (.iadd) 1 904 := ⟨by decide +kernel, rfl⟩
theorem dL_law_904 : nx cL_law 904 (.iaload) 1 905 := ⟨by decide +kernel, rfl⟩
theorem dL_law_905 : nx cL_law 905 (.aload_n 0) 1 906 := ⟨by decide +kernel, rfl⟩
theorem dL_law_906 : nx cL_law 906 (.iload_n 3) 1 907 := ⟨by decide +kernel, rfl⟩
theorem dL_law_907 : nx cL_law 907 (.iconst 3) 1 908 := ⟨by decide +kernel, rfl⟩
theorem dL_law_908 : nx cL_law 908 (.iadd) 1 909 := ⟨by decide +kernel, rfl⟩
theorem dL_law_909 : nx cL_law 909 (.iaload) 1 910 := ⟨by decide +kernel, rfl⟩
theorem dL_law_910 : nx cL_law 910 (.invokevirtual 101) 3 913 := ⟨by decide +kernel, rfl⟩
theorem dL_law_913 : nx cL_law 913 (.aload_n 2) 1 914 := ⟨by decide +kernel, rfl⟩
theorem dL_law_914 : nx cL_law 914 (.aload_n 0) 1 915 := ⟨by decide +kernel, rfl⟩
theorem dL_law_915 : nx cL_law 915 (.iload_n 3) 1 916 := ⟨by decide +kernel, rfl⟩
theorem dL_law_916 : nx cL_law 916 (.iconst 1) 1 917 := ⟨by decide +kernel, rfl⟩
theorem dL_law_917 : nx cL_law 917 (.iadd) 1 918 := ⟨by decide +kernel, rfl⟩
theorem dL_law_918 : nx cL_law 918 (.iaload) 1 919 := ⟨by decide +kernel, rfl⟩
theorem dL_law_919 : nx cL_law 919 (.aload_n 0) 1 920 := ⟨by decide +kernel, rfl⟩
theorem dL_law_920 : nx cL_law 920 (.iload_n 3) 1 921 := ⟨by decide +kernel, rfl⟩
theorem dL_law_921 : nx cL_law 921 (.iconst 2) 1 922 := ⟨by decide +kernel, rfl⟩
theorem dL_law_922 : nx cL_law 922 (.iadd) 1 923 := ⟨by decide +kernel, rfl⟩
theorem dL_law_923 : nx cL_law 923 (.iaload) 1 924 := ⟨by decide +kernel, rfl⟩
theorem dL_law_924 : nx cL_law 924 (.aload_n 0) 1 925 := ⟨by decide +kernel, rfl⟩
theorem dL_law_925 : nx cL_law 925 (.iload_n 3) 1 926 := ⟨by decide +kernel, rfl⟩
theorem dL_law_926 : nx cL_law 926 (.iconst 3) 1 927 := ⟨by decide +kernel, rfl⟩
theorem dL_law_927 : nx cL_law 927 (.iadd) 1 928 := ⟨by decide +kernel, rfl⟩
theorem dL_law_928 : nx cL_law 928 (.iaload) 1 929 := ⟨by decide +kernel, rfl⟩
theorem dL_law_929 : nx cL_law 929 (.invokevirtual 104) 3 932 := ⟨by decide +kernel, rfl⟩
theorem dL_law_932 : nx cL_law 932 (.lcmp) 1 933 := ⟨by decide +kernel, rfl⟩
theorem dL_law_933 : bx cL_law 933 (.ifCond .eq 196) 196 1129 936 := ⟨by decide +kernel, by decide, rfl⟩
theorem dL_law_936 : nx cL_law 936 (.iconst 0) 1 937 := ⟨by decide +kernel, rfl⟩
theorem dL_law_937 : nx cL_law 937 (.ireturn) 1 938 := ⟨by decide +kernel, rfl⟩
theorem dL_law_938 : nx cL_law 938 (.aload_n 1) 1 939 := ⟨by decide +kernel, rfl⟩
theorem dL_law_939 : nx cL_law 939 (.aload_n 0) 1 940 := ⟨by decide +kernel, rfl⟩
theorem dL_law_940 : nx cL_law 940 (.iload_n 3) 1 941 := ⟨by decide +kernel, rfl⟩
theorem dL_law_941 : nx cL_law 941 (.iconst 1) 1 942 := ⟨by decide +kernel, rfl⟩
theorem dL_law_942 : nx cL_law 942 (.iadd) 1 943 := ⟨by decide +kernel, rfl⟩
theorem dL_law_943 : nx cL_law 943 (.iaload) 1 944 := ⟨by decide +kernel, rfl⟩
theorem dL_law_944 : nx cL_law 944 (.aload_n 0) 1 945 := ⟨by decide +kernel, rfl⟩
theorem dL_law_945 : nx cL_law 945 (.iload_n 3) 1 946 := ⟨by decide +kernel, rfl⟩
theorem dL_law_946 : nx cL_law 946 (.iconst 2) 1 947 := ⟨by decide +kernel, rfl⟩
theorem dL_law_947 : nx cL_law 947 (.iadd) 1 948 := ⟨by decide +kernel, rfl⟩
theorem dL_law_948 : nx cL_law 948 (.iaload) 1 949 := ⟨by decide +kernel, rfl⟩
theorem dL_law_949 : nx cL_law 949 (.aload_n 0) 1 950 := ⟨by decide +kernel, rfl⟩
theorem dL_law_950 : nx cL_law 950 (.iload_n 3) 1 951 := ⟨by decide +kernel, rfl⟩
theorem dL_law_951 : nx cL_law 951 (.iconst 3) 1 952 := ⟨by decide +kernel, rfl⟩
theorem dL_law_952 : nx cL_law 952 (.iadd) 1 953 := ⟨by decide +kernel, rfl⟩
theorem dL_law_953 : nx cL_law 953 (.iaload) 1 954 := ⟨by decide +kernel, rfl⟩
theorem dL_law_954 : nx cL_law 954 (.aload_n 0) 1 955 := ⟨by decide +kernel, rfl⟩
theorem dL_law_955 : nx cL_law 955 (.iload_n 3) 1 956 := ⟨by decide +kernel, rfl⟩
theorem dL_law_956 : nx cL_law 956 (.iconst 4) 1 957 := ⟨by decide +kernel, rfl⟩
theorem dL_law_957 : nx cL_law 957 (.iadd) 1 958 := ⟨by decide +kernel, rfl⟩
theorem dL_law_958 : nx cL_law 958 (.iaload) 1 959 := ⟨by decide +kernel, rfl⟩
theorem dL_law_959 : nx cL_law 959 (.aload_n 0) 1 960 := ⟨by decide +kernel, rfl⟩
theorem dL_law_960 : nx cL_law 960 (.iload_n 3) 1 961 := ⟨by decide +kernel, rfl⟩
theorem dL_law_961 : nx cL_law 961 (.iconst 5) 1 962 := ⟨by decide +kernel, rfl⟩
theorem dL_law_962 : nx cL_law 962 (.iadd) 1 963 := ⟨by decide +kernel, rfl⟩
theorem dL_law_963 : nx cL_law 963 (.iaload) 1 964 := ⟨by decide +kernel, rfl⟩
theorem dL_law_964 : nx cL_law 964 (.invokevirtual 105) 3 967 := ⟨by decide +kernel, rfl⟩
theorem dL_law_967 : nx cL_law 967 (.aload_n 2) 1 968 := ⟨by decide +kernel, rfl⟩
theorem dL_law_968 : nx cL_law 968 (.aload_n 0) 1 969 := ⟨by decide +kernel, rfl⟩
theorem dL_law_969 : nx cL_law 969 (.iload_n 3) 1 970 := ⟨by decide +kernel, rfl⟩
theorem dL_law_970 : nx cL_law 970 (.iconst 1) 1 971 := ⟨by decide +kernel, rfl⟩
theorem dL_law_971 : nx cL_law 971 (.iadd) 1 972 := ⟨by decide +kernel, rfl⟩
theorem dL_law_972 : nx cL_law 972 (.iaload) 1 973 := ⟨by decide +kernel, rfl⟩
theorem dL_law_973 : nx cL_law 973 (.aload_n 0) 1 974 := ⟨by decide +kernel, rfl⟩
theorem dL_law_974 : nx cL_law 974 (.iload_n 3) 1 975 := ⟨by decide +kernel, rfl⟩
theorem dL_law_975 : nx cL_law 975 (.iconst 2) 1 976 := ⟨by decide +kernel, rfl⟩
theorem dL_law_976 : nx cL_law 976 (.iadd) 1 977 := ⟨by decide +kernel, rfl⟩
theorem dL_law_977 : nx cL_law 977 (.iaload) 1 978 := ⟨by decide +kernel, rfl⟩
theorem dL_law_978 : nx cL_law 978 (.aload_n 0) 1 979 := ⟨by decide +kernel, rfl⟩
theorem dL_law_979 : nx cL_law 979 (.iload_n 3) 1 980 := ⟨by decide +kernel, rfl⟩
theorem dL_law_980 : nx cL_law 980 (.iconst 3) 1 981 := ⟨by decide +kernel, rfl⟩
theorem dL_law_981 : nx cL_law 981 (.iadd) 1 982 := ⟨by decide +kernel, rfl⟩
theorem dL_law_982 : nx cL_law 982 (.iaload) 1 983 := ⟨by decide +kernel, rfl⟩
theorem dL_law_983 : nx cL_law 983 (.aload_n 0) 1 984 := ⟨by decide +kernel, rfl⟩
theorem dL_law_984 : nx cL_law 984 (.iload_n 3) 1 985 := ⟨by decide +kernel, rfl⟩
theorem dL_law_985 : nx cL_law 985 (.iconst 4) 1 986 := ⟨by decide +kernel, rfl⟩
theorem dL_law_986 : nx cL_law 986 (.iadd) 1 987 := ⟨by decide +kernel, rfl⟩
theorem dL_law_987 : nx cL_law 987 (.iaload) 1 988 := ⟨by decide +kernel, rfl⟩
theorem dL_law_988 : nx cL_law 988 (.aload_n 0) 1 989 := ⟨by decide +kernel, rfl⟩
theorem dL_law_989 : nx cL_law 989 (.iload_n 3) 1 990 := ⟨by decide +kernel, rfl⟩
theorem dL_law_990 : nx cL_law 990 (.iconst 5) 1 991 := ⟨by decide +kernel, rfl⟩
theorem dL_law_991 : nx cL_law 991 (.iadd) 1 992 := ⟨by decide +kernel, rfl⟩
theorem dL_law_992 : nx cL_law 992 (.iaload) 1 993 := ⟨by decide +kernel, rfl⟩
theorem dL_law_993 : nx cL_law 993 (.invokevirtual 108) 3 996 := ⟨by decide +kernel, rfl⟩
theorem dL_law_996 : bx cL_law 996 (.if_icmp .eq 133) 133 1129 999 := ⟨by decide +kernel, by decide, rfl⟩
theorem dL_law_999 : nx cL_law 999 (.iconst 0) 1 1000 := ⟨by decide +kernel, rfl⟩
theorem dL_law_1000 : nx cL_law 1000 (.ireturn) 1 1001 := ⟨by decide +kernel, rfl⟩
theorem dL_law_1001 : nx cL_law 1001 (.aload_n 1) 1 1002 := ⟨by decide +kernel, rfl⟩
theorem dL_law_1002 : nx cL_law 1002 (.aload_n 0) 1 1003 := ⟨by decide +kernel, rfl⟩
theorem dL_law_1003 : nx cL_law 1003 (.iload_n 3) 1 1004 := ⟨by decide +kernel, rfl⟩
theorem dL_law_1004 : nx cL_law 1004 (.iconst 1) 1 1005 := ⟨by decide +kernel, rfl⟩
theorem dL_law_1005 : nx cL_law 1005 (.iadd) 1 1006 := ⟨by decide +kernel, rfl⟩
theorem dL_law_1006 : nx cL_law 1006 (.iaload) 1 1007 := ⟨by decide +kernel, rfl⟩
theorem dL_law_1007 : nx cL_law 1007 (.invokevirtual 109) 3 1010 := ⟨by decide +kernel, rfl⟩
theorem dL_law_1010 : nx cL_law 1010 (.aload_n 2) 1 1011 := ⟨by decide +kernel, rfl⟩
theorem dL_law_1011 : nx cL_law 1011 (.aload_n 0) 1 1012 := ⟨by decide +kernel, rfl⟩
theorem dL_law_1012 : nx cL_law 1012 (.iload_n 3) 1 1013 := ⟨by decide +kernel, rfl⟩
theorem dL_law_1013 : nx cL_law 1013 (.iconst 1) 1 1014 := ⟨by decide +kernel, rfl⟩
theorem dL_law_1014 : nx cL_law 1014 (.iadd) 1 1015 := ⟨by decide +kernel, rfl⟩
theorem dL_law_1015 : nx cL_law 1015 (.iaload) 1 1016 := ⟨by decide +kernel, rfl⟩
theorem dL_law_1016 : nx cL_law 1016 (.invokevirtual 112) 3 1019 := ⟨by decide +kernel, rfl⟩
theorem dL_law_1019 : bx cL_law 1019 (.if_icmp .eq 110) 110 1129 1022 := ⟨by decide +kernel, by decide, rfl⟩
theorem dL_law_1022 : nx cL_law 1022 (.iconst 0) 1 1023 := ⟨by decide +kernel, rfl⟩
theorem dL_law_1023 : nx cL_law 1023 (.ireturn) 1 1024 := ⟨by decide +kernel, rfl⟩
theorem dL_law_1024 : nx cL_law 1024 (.aload_n 1) 1 1025 := ⟨by decide +kernel, rfl⟩
theorem dL_law_1025 : nx cL_law 1025 (.aload_n 0) 1 1026 := ⟨by decide +kernel, rfl⟩
theorem dL_law_1026 : nx cL_law 1026 (.iload_n 3) 1 1027 := ⟨by decide +kernel, rfl⟩
theorem dL_law_1027 : nx cL_law 1027 (.iconst 1) 1 1028 := ⟨by decide +kernel, rfl⟩
theorem dL_law_1028 : nx cL_law 1028 (.iadd) 1 1029 := ⟨by decide +kernel, rfl⟩
theorem dL_law_1029 : nx cL_law 1029 (.iaload) 1 1030 := ⟨by decide +kernel, rfl⟩
theorem dL_law_1030 : nx cL_law 1030 (.invokevirtual 113) 3 1033 := ⟨by decide +kernel, rfl⟩
theorem dL_law_1033 : nx cL_law 1033 (.aload_n 2) 1 1034 := ⟨by decide +kernel, rfl⟩
theorem dL_law_1034 : nx cL_law 1034 (.aload_n 0) 1 1035 := ⟨by decide +kernel, rfl⟩
theorem dL_law_1035 : nx cL_law 1035 (.iload_n 3) 1 1036 := ⟨by decide +kernel, rfl⟩
theorem dL_law_1036 : nx cL_law 1036 (.iconst 1) 1 1037 := ⟨by decide +kernel, rfl⟩
theorem dL_law_1037 : nx cL_law 1037 (.iadd) 1 1038 := ⟨by decide +kernel, rfl⟩
theorem dL_law_1038 : nx cL_law 1038 (.iaload) 1 1039 := ⟨by decide +kernel, rfl⟩
theorem dL_law_1039 : nx cL_law 1039 (.invokevirtual 116) 3 1042 := ⟨by decide +kernel, rfl⟩
theorem dL_law_1042 : bx cL_law 1042 (.if_icmp .eq 87) 87 1129 1045 := ⟨by decide +kernel, by decide, rfl⟩
theorem dL_law_1045 : nx cL_law 1045 (.iconst 0) 1 1046 := ⟨by decide +kernel, rfl⟩
theorem dL_law_1046 : nx cL_law 1046 (.ireturn) 1 1047 := ⟨by decide +kernel, rfl⟩
theorem dL_law_1047 : nx cL_law 1047 (.aload_n 1) 1 1048 := ⟨by decide +kernel, rfl⟩
theorem dL_law_1048 : nx cL_law 1048 (.aload_n 0) 1 1049 := ⟨by decide +kernel, rfl⟩
theorem dL_law_1049 : nx cL_law 1049 (.iload_n 3) 1 1050 := ⟨by decide +kernel, rfl⟩
theorem dL_law_1050 : nx cL_law 1050 (.iconst 1) 1 1051 := ⟨by decide +kernel, rfl⟩
theorem dL_law_1051 : nx cL_law 1051 (.iadd) 1 1052 := ⟨by decide +kernel, rfl⟩
theorem dL_law_1052 : nx cL_law 1052 (.iaload) 1 1053 := ⟨by decide +kernel, rfl⟩
theorem dL_law_1053 : nx cL_law 1053 (.aload_n 0) 1 1054 := ⟨by decide +kernel, rfl⟩
theorem dL_law_1054 : nx cL_law 1054 (.iload_n 3) 1 1055 := ⟨by decide +kernel, rfl⟩
theorem dL_law_1055 : nx cL_law 1055 (.iconst 2) 1 1056 := ⟨by decide +kernel, rfl⟩
theorem dL_law_1056 : nx cL_law 1056 (.iadd) 1 1057 := ⟨by decide +kernel, rfl⟩
theorem dL_law_1057 : nx cL_law 1057 (.iaload) 1 1058 := ⟨by decide +kernel, rfl⟩
theorem dL_law_1058 : nx cL_law 1058 (.invokevirtual 117) 3 1061 := ⟨by decide +kernel, rfl⟩
theorem dL_law_1061 : nx cL_law 1061 (.aload_n 2) 1 1062 := ⟨by decide +kernel, rfl⟩
theorem dL_law_1062 : nx cL_law 1062 (.aload_n 0) 1 1063 := ⟨by decide +kernel, rfl⟩
theorem dL_law_1063 : nx cL_law 1063 (.iload_n 3) 1 1064 := ⟨by decide +kernel, rfl⟩
theorem dL_law_1064 : nx cL_law 1064 (.iconst 1) 1 1065 := ⟨by decide +kernel, rfl⟩
theorem dL_law_1065 : nx cL_law 1065 (.iadd) 1 1066 := ⟨by decide +kernel, rfl⟩
theorem dL_law_1066 : nx cL_law 1066 (.iaload) 1 1067 := ⟨by decide +kernel, rfl⟩
theorem dL_law_1067 : nx cL_law 1067 (.aload_n 0) 1 1068 := ⟨by decide +kernel, rfl⟩
theorem dL_law_1068 : nx cL_law 1068 (.iload_n 3) 1 1069 := ⟨by decide +kernel, rfl⟩
theorem dL_law_1069 : nx cL_law 1069 (.iconst 2) 1 1070 := ⟨by decide +kernel, rfl⟩
theorem dL_law_1070 : nx cL_law 1070 (.iadd) 1 1071 := ⟨by decide +kernel, rfl⟩
theorem dL_law_1071 : nx cL_law 1071 (.iaload) 1 1072 := ⟨by decide +kernel, rfl⟩
theorem dL_law_1072 : nx cL_law 1072 (.invokevirtual 120) 3 1075 := ⟨by decide +kernel, rfl⟩
theorem dL_law_1075 : bx cL_law 1075 (.if_icmp .eq 54) 54 1129 1078 := ⟨by decide +kernel, by decide, rfl⟩
theorem dL_law_1078 : nx cL_law 1078 (.iconst 0) 1 1079 := ⟨by decide +kernel, rfl⟩
theorem dL_law_1079 : nx cL_law 1079 (.ireturn) 1 1080 := ⟨by decide +kernel, rfl⟩
theorem dL_law_1080 : nx cL_law 1080 (.aload_n 1) 1 1081 := ⟨by decide +kernel, rfl⟩
theorem dL_law_1081 : nx cL_law 1081 (.invokevirtual 121) 3 1084 := ⟨by decide +kernel, rfl⟩
theorem dL_law_1084 : nx cL_law 1084 (.aload_n 2) 1 1085 := ⟨by decide +kernel, rfl⟩
theorem dL_law_1085 : nx cL_law 1085 (.invokevirtual 125) 3 1088 := ⟨by decide +kernel, rfl⟩
theorem dL_law_1088 : bx cL_law 1088 (.if_icmp .eq 41) 41 1129 1091 := ⟨by decide +kernel, by decide, rfl⟩
theorem dL_law_1091 : nx cL_law 1091 (.iconst 0) 1 1092 := ⟨by decide +kernel, rfl⟩
theorem dL_law_1092 : nx cL_law 1092 (.ireturn) 1 1093 := ⟨by decide +kernel, rfl⟩
theorem dL_law_1093 : nx cL_law 1093 (.aload_n 1) 1 1094 := ⟨by decide +kernel, rfl⟩
theorem dL_law_1094 : nx cL_law 1094 (.invokevirtual 126) 3 1097 := ⟨by decide +kernel, rfl⟩
theorem dL_law_1097 : nx cL_law 1097 (.aload_n 2) 1 1098 := ⟨by decide +kernel, rfl⟩
theorem dL_law_1098 : nx cL_law 1098 (.invokevirtual 129) 3 1101 := ⟨by decide +kernel, rfl⟩
theorem dL_law_1101 : bx cL_law 1101 (.if_icmp .eq 28) 28 1129 1104 := ⟨by decide +kernel, by decide, rfl⟩
theorem dL_law_1104 : nx cL_law 1104 (.iconst 0) 1 1105 := ⟨by decide +kernel, rfl⟩
theorem dL_law_1105 : nx cL_law 1105 (.ireturn) 1 1106 := ⟨by decide +kernel, rfl⟩
theorem dL_law_1106 : nx cL_law 1106 (.aload_n 1) 1 1107 := ⟨by decide +kernel, rfl⟩
theorem dL_law_1107 : nx cL_law 1107 (.aload_n 0) 1 1108 := ⟨by decide +kernel, rfl⟩
theorem dL_law_1108 : nx cL_law 1108 (.iload_n 3) 1 1109 := ⟨by decide +kernel, rfl⟩
theorem dL_law_1109 : nx cL_law 1109 (.iconst 1) 1 1110 := ⟨by decide +kernel, rfl⟩
theorem dL_law_1110 : nx cL_law 1110 (.iadd) 1 1111 := ⟨by decide +kernel, rfl⟩
theorem dL_law_1111 : nx cL_law 1111 (.iaload) 1 1112 := ⟨by decide +kernel, rfl⟩
theorem dL_law_1112 : nx cL_law 1112 (.invokevirtual 130) 3 1115 := ⟨by decide +kernel, rfl⟩
theorem dL_law_1115 : nx cL_law 1115 (.aload_n 2) 1 1116 := ⟨by decide +kernel, rfl⟩
theorem dL_law_1116 : nx cL_law 1116 (.aload_n 0) 1 1117 := ⟨by decide +kernel, rfl⟩
theorem dL_law_1117 : nx cL_law 1117 (.iload_n 3) 1 1118 := ⟨by decide +kernel, rfl⟩
theorem dL_law_1118 : nx cL_law 1118 (.iconst 1) 1 1119 := ⟨by decide +kernel, rfl⟩
theorem dL_law_1119 : nx cL_law 1119 (.iadd) 1 1120 := ⟨by decide +kernel, rfl⟩
theorem dL_law_1120 : nx cL_law 1120 (.iaload) 1 1121 := ⟨by decide +kernel, rfl⟩
theorem dL_law_1121 : nx cL_law 1121 (.invokevirtual 133) 3 1124 := ⟨by decide +kernel, rfl⟩
theorem dL_law_1124 : bx cL_law 1124 (.if_icmp .eq 5) 5 1129 1127 := ⟨by decide +kernel, by decide, rfl⟩
theorem dL_law_1127 : nx cL_law 1127 (.iconst 0) 1 1128 := ⟨by decide +kernel, rfl⟩
theorem dL_law_1128 : nx cL_law 1128 (.ireturn) 1 1129 := ⟨by decide +kernel, rfl⟩
theorem dL_law_1129 : nx cL_law 1129 (.iinc 3 6) 3 1132 := ⟨by decide +kernel, rfl⟩
theorem dL_law_1132 : bx cL_law 1132 (.goto (-1114)) (-1114) 18 1135 := ⟨by decide +kernel, by decide, rfl⟩
theorem dL_law_1135 : nx cL_law 1135 (.iconst 1) 1 1136 := ⟨by decide +kernel, rfl⟩
theorem dL_law_1136 : nx cL_law 1136 (.ireturn) 1 1137 := ⟨by decide +kernel, rfl⟩
end
section
/-! ===== the store, the values, how they stand for the machine's ===== -/
/-- a cell of the store: an array (its kind, its length, what it holds) or an object (its class' number, its fields); a reference is a place of the store -/
abbrev aE : Type := (Nat × vp_A) ⊕ (Nat × List Value)
abbrev aS : Type := List aE
/-- the script's address, and the addresses of the store's places -/
abbrev aA : Type := Nat × List Nat
abbrev aL : Type := List (Option Value)
def mv (L : aA) (v : Value) : Option Value := match v with
  | .ref i => (L.2[i]?).map Value.ref
  | .retAddr _ => some (.ref L.1)
  | w => some w
def mq (L : aA) (r r' : Option Nat) : Prop := match r with
  | none => r' = none
  | some i => ∃ a, L.2[i]? = some a ∧ r' = some a
def er (cA : Nat → ClassId) (L : aA) (e : aE) (e' : va_E) : Prop := match e with
  | .inl (t, n, .inr (.inr (.inr (.inr f)))) => ∃ f' : Nat → Option Nat, e' = .inl (cA t, n, .inr (.inr (.inr (.inr f')))) ∧ ∀ j, mq L (f j) (f' j)
  | .inl (t, n, .inl f) => e' = .inl (cA t, n, .inl f)
  | .inl (t, n, .inr (.inl f)) => e' = .inl (cA t, n, .inr (.inl f))
  | .inl (t, n, .inr (.inr (.inl f))) => e' = .inl (cA t, n, .inr (.inr (.inl f)))
  | .inl (t, n, .inr (.inr (.inr (.inl f)))) => e' = .inl (cA t, n, .inr (.inr (.inr (.inl f))))
  | .inr (ci, fs) => ∃ fs', e' = .inr (ci, fs') ∧ fs.map (mv L) = fs'.map some
def rel (cA : Nat → ClassId) (L : aA) (S : aS) (ws : va_W) : Prop := ws.map (fun q => q.1) = L.2 ∧ ws.length = S.length ∧ ∀ (i : Nat) (e : aE), S[i]? = some e → ∃ (a : Nat) (e' : va_E), ws[i]? = some (a, e') ∧ er cA L e e'
def sr (L : aA) (st st' : List Value) : Prop := st.map (mv L) = st'.map some
theorem sr_cons {L : aA} {v : Value} {st st' : List Value} (h : sr L (v :: st) st') : ∃ v' r, st' = v' :: r ∧ mv L v = some v' ∧ sr L st r := by
  cases st' with
  | nil => simp [sr] at h
  | cons w r =>
    simp only [sr, List.map_cons, List.cons.injEq] at h
    exact ⟨w, r, rfl, h.1, h.2⟩
theorem sr_int {L : aA} {x : Int32} {st st' : List Value} (h : sr L (.int x :: st) st') : ∃ r, st' = .int x :: r ∧ sr L st r := by
  obtain ⟨v', r, rfl, h1, h2⟩ := sr_cons h
  cases Option.some.inj h1
  exact ⟨r, rfl, h2⟩
theorem sr_long {L : aA} {x : Int64} {st st' : List Value} (h : sr L (.long x :: st) st') : ∃ r, st' = .long x :: r ∧ sr L st r := by
  obtain ⟨v', r, rfl, h1, h2⟩ := sr_cons h
  cases Option.some.inj h1
  exact ⟨r, rfl, h2⟩
theorem sr_null {L : aA} {st st' : List Value} (h : sr L (.null :: st) st') : ∃ r, st' = .null :: r ∧ sr L st r := by
  obtain ⟨v', r, rfl, h1, h2⟩ := sr_cons h
  cases Option.some.inj h1
  exact ⟨r, rfl, h2⟩
theorem sr_scr {L : aA} {k : Nat} {st st' : List Value} (h : sr L (.retAddr k :: st) st') : ∃ r, st' = .ref L.1 :: r ∧ sr L st r := by
  obtain ⟨v', r, rfl, h1, h2⟩ := sr_cons h
  cases Option.some.inj h1
  exact ⟨r, rfl, h2⟩
theorem mv_ref {L : aA} {i : Nat} {v : Value} (h : mv L (.ref i) = some v) : ∃ a, L.2[i]? = some a ∧ v = .ref a := by
  simp only [mv, Option.map_eq_some_iff] at h
  obtain ⟨a, h1, h2⟩ := h
  exact ⟨a, h1, h2.symm⟩
theorem sr_ref {L : aA} {i : Nat} {st st' : List Value} (h : sr L (.ref i :: st) st') : ∃ a r, st' = .ref a :: r ∧ L.2[i]? = some a ∧ sr L st r := by
  obtain ⟨v', r, rfl, h1, h2⟩ := sr_cons h
  obtain ⟨a, h3, rfl⟩ := mv_ref h1
  exact ⟨a, r, rfl, h3, h2⟩
theorem sr_push {L : aA} {v v' : Value} {st st' : List Value} (hv : mv L v = some v') (h : sr L st st') : sr L (v :: st) (v' :: st') := by
  simp only [sr, List.map_cons, hv]
  rw [show List.map (mv L) st = List.map some st' from h]
theorem sr_nil {L : aA} {st' : List Value} (h : sr L [] st') : st' = [] := by
  cases st' with
  | nil => rfl
  | cons w r => simp [sr] at h
theorem sr_nil0 {L : aA} : sr L [] [] := rfl
theorem sr_app {L : aA} {a b : List Value} {st' : List Value} (h : sr L (a ++ b) st') : ∃ a' b', st' = a' ++ b' ∧ sr L a a' ∧ sr L b b' := by
  induction a generalizing st' with
  | nil => exact ⟨[], st', rfl, rfl, h⟩
  | cons v a ih =>
    obtain ⟨v', r, rfl, h1, h2⟩ := sr_cons h
    obtain ⟨a', b', rfl, h3, h4⟩ := ih h2
    exact ⟨v' :: a', b', rfl, sr_push h1 h3, h4⟩
theorem sr_appI {L : aA} {a b a' b' : List Value} (h1 : sr L a a') (h2 : sr L b b') : sr L (a ++ b) (a' ++ b') := by
  simp only [sr, List.map_append]
  rw [show List.map (mv L) a = List.map some a' from h1, show List.map (mv L) b = List.map some b' from h2]
theorem sr_rev {L : aA} {a a' : List Value} (h : sr L a a') : sr L a.reverse a'.reverse := by
  simp only [sr, List.map_reverse]
  rw [show List.map (mv L) a = List.map some a' from h]
theorem sr_len {L : aA} {a a' : List Value} (h : sr L a a') : a'.length = a.length := by
  have := congrArg List.length h
  simpa using this.symm
theorem mv_cat {L : aA} {v v' : Value} (h : mv L v = some v') : v'.category = v.category := by
  cases v with
  | ref i => obtain ⟨a, -, rfl⟩ := mv_ref h; rfl
  | retAddr k => cases Option.some.inj h; rfl
  | _ => cases Option.some.inj h; rfl
theorem sr_cat {L : aA} {a a' : List Value} (h : sr L a a') : (a'.map fun v => v.category) = a.map fun v => v.category := by
  induction a generalizing a' with
  | nil => rw [sr_nil h]
  | cons v a ih =>
    obtain ⟨v', r, rfl, h1, h2⟩ := sr_cons h
    simp only [List.map_cons, mv_cat h1, ih h2]
theorem mv_ex {L : aA} {M : List Nat} {v v' : Value} (h : mv L v = some v') : mv (L.1, L.2 ++ M) v = some v' := by
  cases v with
  | ref i =>
    obtain ⟨a, h1, rfl⟩ := mv_ref h
    have hl := (List.getElem?_eq_some_iff.mp h1).1
    simp only [mv, List.getElem?_append_left hl, h1, Option.map_some]
  | retAddr k => exact h
  | _ => exact h
theorem sr_ex {L : aA} {M : List Nat} {st st' : List Value} (h : sr L st st') : sr (L.1, L.2 ++ M) st st' := by
  induction st generalizing st' with
  | nil => rw [sr_nil h]; rfl
  | cons v st ih =>
    obtain ⟨v', r, rfl, h1, h2⟩ := sr_cons h
    exact sr_push (mv_ex h1) (ih h2)
theorem mq_ex {L : aA} {M : List Nat} {r r' : Option Nat} (h : mq L r r') : mq (L.1, L.2 ++ M) r r' := by
  cases r with
  | none => exact h
  | some i =>
    obtain ⟨a, h1, h2⟩ := h
    have hl := (List.getElem?_eq_some_iff.mp h1).1
    exact ⟨a, by rw [List.getElem?_append_left hl]; exact h1, h2⟩
theorem er_ex {cA : Nat → ClassId} {L : aA} {M : List Nat} {e : aE} {e' : va_E} (h : er cA L e e') : er cA (L.1, L.2 ++ M) e e' := by
  rcases e with ⟨t, n, f | f | f | f | f⟩ | ⟨ci, fs⟩
  · exact h
  · exact h
  · exact h
  · exact h
  · obtain ⟨f', h1, h2⟩ := h
    exact ⟨f', h1, fun j => mq_ex (h2 j)⟩
  · obtain ⟨fs', h1, h2⟩ := h
    exact ⟨fs', h1, sr_ex (L := L) h2⟩
theorem rel_get {cA : Nat → ClassId} {L : aA} {S : aS} {ws : va_W} (h : rel cA L S ws) {i : Nat} {e : aE} (he : S[i]? = some e) : ∃ (a : Nat) (e' : va_E), ws[i]? = some (a, e') ∧ er cA L e e' ∧ L.2[i]? = some a := by
  obtain ⟨a, e', h1, h2⟩ := h.2.2 i e he
  refine ⟨a, e', h1, h2, ?_⟩
  rw [← h.1, List.getElem?_map, h1]
  rfl
theorem rel_lt {cA : Nat → ClassId} {L : aA} {S : aS} {ws : va_W} (h : rel cA L S ws) {i a : Nat} (ha : L.2[i]? = some a) : i < S.length := by
  have h1 := (List.getElem?_eq_some_iff.mp ha).1
  rw [← h.1, List.length_map] at h1
  rw [← h.2.1]
  exact h1
theorem rel_set {cA : Nat → ClassId} {L : aA} {S : aS} {ws : va_W} (h : rel cA L S ws) {i a : Nat} {e : aE} {e0 e' : va_E} (h0 : ws[i]? = some (a, e0)) (he : er cA L e e') : rel cA L (S.set i e) (ws.set i (a, e')) := by
  obtain ⟨h1, h2, h3⟩ := h
  have hl : i < ws.length := (List.getElem?_eq_some_iff.mp h0).1
  refine ⟨?_, by simp [h2], fun j e2 hj => ?_⟩
  · rw [← h1]
    apply List.ext_getElem?
    intro j
    simp only [List.getElem?_map]
    by_cases hij : i = j
    · subst hij
      rw [List.getElem?_set_self hl, h0]
      rfl
    · rw [List.getElem?_set_ne hij]
  · by_cases hij : i = j
    · subst hij
      rw [List.getElem?_set_self (by rw [← h2]; exact hl)] at hj
      cases hj
      exact ⟨a, e', List.getElem?_set_self hl, he⟩
    · rw [List.getElem?_set_ne hij] at hj
      rw [List.getElem?_set_ne hij]
      exact h3 j e2 hj
theorem rel_push {cA : Nat → ClassId} {L : aA} {S : aS} {ws : va_W} (h : rel cA L S ws) {q : Nat} {e : aE} {e' : va_E} (he : er cA (L.1, L.2 ++ [q]) e e') : rel cA (L.1, L.2 ++ [q]) (S ++ [e]) (ws ++ [(q, e')]) := by
  obtain ⟨h1, h2, h3⟩ := h
  refine ⟨by simp [h1], by simp [h2], fun j e2 hj => ?_⟩
  by_cases hl : j < S.length
  · rw [List.getElem?_append_left hl] at hj
    obtain ⟨a, e3, h4, h5⟩ := h3 j e2 hj
    exact ⟨a, e3, by rw [List.getElem?_append_left (by rw [h2]; exact hl)]; exact h4, er_ex h5⟩
  · rw [List.getElem?_append_right (by omega)] at hj
    have hz : j - S.length < 1 := (List.getElem?_eq_some_iff.mp hj).1
    have hj0 : j = S.length := by omega
    subst hj0
    rw [Nat.sub_self] at hj
    cases hj
    exact ⟨q, e', by rw [← h2, List.getElem?_append_right (Nat.le_refl _), Nat.sub_self]; rfl, he⟩
theorem rel_new {cA : Nat → ClassId} {L : aA} {S : aS} {ws : va_W} (h : rel cA L S ws) (q : Nat) : (L.2 ++ [q])[S.length]? = some q := by
  have : S.length = L.2.length := by rw [← h.2.1, ← h.1, List.length_map]
  rw [this, List.getElem?_append_right (Nat.le_refl _), Nat.sub_self]
  rfl
/-! ===== the locals ===== -/
def aset1 : aL → Nat → Value → Option aL
  | [], _, _ => none
  | x :: r, i, v => match i with
    | 0 => some (some v :: r)
    | i' + 1 => match aset1 r i' v with
      | none => none
      | some r' => match i', x with
        | 0, some (.long _) => some (none :: r')
        | 0, some (.double _) => some (none :: r')
        | _, y => some (y :: r')
def aset2 : aL → Nat → Value → Option aL
  | [], _, _ => none
  | x :: r, i, v => match i with
    | 0 => match r with
      | [] => none
      | _ :: r2 => some (some v :: none :: r2)
    | i' + 1 => match aset2 r i' v with
      | none => none
      | some r' => match i', x with
        | 0, some (.long _) => some (none :: r')
        | 0, some (.double _) => some (none :: r')
        | _, y => some (y :: r')
theorem acat {w : Value} (h : w.category = 2) : (∃ x, w = .long x) ∨ ∃ x, w = .double x := by
  cases w <;> simp [Value.category] at h <;> simp
theorem aset1_ok : ∀ (la : aL) (i : Nat) (v : Value) (la' : aL), aset1 la i v = some la' → la'.length = la.length ∧ i < la.length ∧ la'[i]? = some (some v) ∧ ∀ (j : Nat) (w : Value), j ≠ i → la'[j]? = some (some w) → la[j]? = some (some w) ∧ ¬ (j + 1 = i ∧ w.category = 2)
  | [], i, v, la', h => by simp [aset1] at h
  | x :: r, 0, v, la', h => by
    simp only [aset1, Option.some.injEq] at h
    subst h
    refine ⟨rfl, by simp, rfl, fun j w hj hw => ?_⟩
    cases j with
    | zero => exact absurd rfl hj
    | succ j => exact ⟨hw, by omega⟩
  | x :: r, i + 1, v, la', h => by
    simp only [aset1] at h
    cases hr : aset1 r i v with
    | none => rw [hr] at h; simp at h
    | some r' =>
      rw [hr] at h
      obtain ⟨e1, e2, e3, e4⟩ := aset1_ok r i v r' hr
      have fin : ∀ y : Option Value, la' = y :: r' → (∀ w, y = some w → x = some w ∧ ¬ (i = 0 ∧ w.category = 2)) → la'.length = (x :: r).length ∧ i + 1 < (x :: r).length ∧ la'[i + 1]? = some (some v) ∧ ∀ (j : Nat) (w : Value), j ≠ i + 1 → la'[j]? = some (some w) → (x :: r)[j]? = some (some w) ∧ ¬ (j + 1 = i + 1 ∧ w.category = 2) := by
        intro y hy hx
        subst hy
        refine ⟨by simp [e1], by simp [e2], by simpa using e3, fun j w hj hw => ?_⟩
        cases j with
        | zero =>
          simp only [List.getElem?_cons_zero, Option.some.injEq] at hw
          obtain ⟨h1, h2⟩ := hx w hw
          exact ⟨by simp [h1], fun q => h2 ⟨by omega, q.2⟩⟩
        | succ j =>
          simp only [List.getElem?_cons_succ] at hw
          obtain ⟨h1, h2⟩ := e4 j w (by omega) hw
          exact ⟨by simpa using h1, fun q => h2 ⟨by omega, q.2⟩⟩
      dsimp only at h
      split at h
      · cases h; exact fin none rfl (fun w hw => by cases hw)
      · cases h; exact fin none rfl (fun w hw => by cases hw)
      · rename_i n1 n2
        cases h
        refine fin _ rfl (fun w hw => ⟨hw, fun q => ?_⟩)
        obtain ⟨q1, q2⟩ := q
        subst q1
        rcases acat q2 with ⟨z, rfl⟩ | ⟨z, rfl⟩
        · exact n1 z rfl hw
        · exact n2 z rfl hw
theorem aset2_ok : ∀ (la : aL) (i : Nat) (v : Value) (la' : aL), aset2 la i v = some la' → la'.length = la.length ∧ i + 1 < la.length ∧ la'[i]? = some (some v) ∧ ∀ (j : Nat) (w : Value), j ≠ i → la'[j]? = some (some w) → la[j]? = some (some w) ∧ j ≠ i + 1 ∧ ¬ (j + 1 = i ∧ w.category = 2)
  | [], i, v, la', h => by simp [aset2] at h
  | [x], 0, v, la', h => by simp [aset2] at h
  | x :: y :: r, 0, v, la', h => by
    simp only [aset2, Option.some.injEq] at h
    subst h
    refine ⟨rfl, by simp, rfl, fun j w hj hw => ?_⟩
    match j, hj, hw with
    | 0, hj, _ => exact absurd rfl hj
    | 1, _, hw => simp at hw
    | j + 2, _, hw => exact ⟨by simpa using hw, by omega, by omega⟩
  | x :: r, i + 1, v, la', h => by
    simp only [aset2] at h
    cases hr : aset2 r i v with
    | none => rw [hr] at h; simp at h
    | some r' =>
      rw [hr] at h
      obtain ⟨e1, e2, e3, e4⟩ := aset2_ok r i v r' hr
      have fin : ∀ y : Option Value, la' = y :: r' → (∀ w, y = some w → x = some w ∧ ¬ (i = 0 ∧ w.category = 2)) → la'.length = (x :: r).length ∧ i + 1 + 1 < (x :: r).length ∧ la'[i + 1]? = some (some v) ∧ ∀ (j : Nat) (w : Value), j ≠ i + 1 → la'[j]? = some (some w) → (x :: r)[j]? = some (some w) ∧ j ≠ i + 1 + 1 ∧ ¬ (j + 1 = i + 1 ∧ w.category = 2) := by
        intro y hy hx
        subst hy
        refine ⟨by simp [e1], by simp; omega, by simpa using e3, fun j w hj hw => ?_⟩
        cases j with
        | zero =>
          simp only [List.getElem?_cons_zero, Option.some.injEq] at hw
          obtain ⟨h1, h2⟩ := hx w hw
          exact ⟨by simp [h1], by omega, fun q => h2 ⟨by omega, q.2⟩⟩
        | succ j =>
          simp only [List.getElem?_cons_succ] at hw
          obtain ⟨h1, h2, h3⟩ := e4 j w (by omega) hw
          exact ⟨by simpa using h1, by omega, fun q => h3 ⟨by omega, q.2⟩⟩
      dsimp only at h
      split at h
      · cases h; exact fin none rfl (fun w hw => by cases hw)
      · cases h; exact fin none rfl (fun w hw => by cases hw)
      · rename_i n1 n2
        cases h
        refine fin _ rfl (fun w hw => ⟨hw, fun q => ?_⟩)
        obtain ⟨q1, q2⟩ := q
        subst q1
        rcases acat q2 with ⟨z, rfl⟩ | ⟨z, rfl⟩
        · exact n1 z rfl hw
        · exact n2 z rfl hw
def lr (L : aA) (la : aL) (ls : Array Slot) (nL : Nat) : Prop := la.length = nL ∧ ∃ lc : List (Nat × Value), lv_has ls nL lc ∧ ∀ (i : Nat) (v : Value), la[i]? = some (some v) → ∃ v', mv L v = some v' ∧ (i, v') ∈ lc
theorem lr_get {L : aA} {la : aL} {ls : Array Slot} {nL i : Nat} {v : Value} (h : lr L la ls nL) (hv : la[i]? = some (some v)) : ∃ v', mv L v = some v' ∧ ls[i]? = some (.val v') := by
  obtain ⟨-, lc, h1, h2⟩ := h
  obtain ⟨v', h3, h4⟩ := h2 i v hv
  exact ⟨v', h3, h1.2.2 _ h4⟩
theorem lr_ex {L : aA} {M : List Nat} {la : aL} {ls : Array Slot} {nL : Nat} (h : lr L la ls nL) : lr (L.1, L.2 ++ M) la ls nL := by
  obtain ⟨h0, lc, h1, h2⟩ := h
  refine ⟨h0, lc, h1, fun i v hv => ?_⟩
  obtain ⟨v', h3, h4⟩ := h2 i v hv
  exact ⟨v', mv_ex h3, h4⟩
theorem lr_set1 {L : aA} {la la' : aL} {nL i : Nat} {v v' : Value} {lc : List (Nat × Value)} (h0 : la.length = nL) (h2 : ∀ (i : Nat) (v : Value), la[i]? = some (some v) → ∃ v', mv L v = some v' ∧ (i, v') ∈ lc) (hs : aset1 la i v = some la') (hv : mv L v = some v') {ls' : Array Slot} (h : lv_has ls' nL ((i, v') :: lc.filter (fun q => !(q.1 == i) && !(q.1 + 1 == i && q.2.category == 2)))) : lr L la' ls' nL := by
  obtain ⟨e1, e2, e3, e4⟩ := aset1_ok _ _ _ _ hs
  refine ⟨e1.trans h0, _, h, fun j w hw => ?_⟩
  by_cases hj : j = i
  · subst hj
    rw [e3] at hw
    cases hw
    exact ⟨v', hv, List.mem_cons_self⟩
  · obtain ⟨h3, h4⟩ := e4 j w hj hw
    obtain ⟨w', h5, h6⟩ := h2 j w h3
    refine ⟨w', h5, List.mem_cons_of_mem _ (List.mem_filter.mpr ⟨h6, ?_⟩)⟩
    simp only [Bool.and_eq_true, Bool.not_eq_true', beq_eq_false_iff_ne, ne_eq, Bool.and_eq_false_iff, mv_cat h5]
    refine ⟨hj, ?_⟩
    by_cases q : j + 1 = i
    · exact Or.inr (fun z => h4 ⟨q, z⟩)
    · exact Or.inl q
theorem lr_set2 {L : aA} {la la' : aL} {nL i : Nat} {v v' : Value} {lc : List (Nat × Value)} (h0 : la.length = nL) (h2 : ∀ (i : Nat) (v : Value), la[i]? = some (some v) → ∃ v', mv L v = some v' ∧ (i, v') ∈ lc) (hs : aset2 la i v = some la') (hv : mv L v = some v') {ls' : Array Slot} (h : lv_has ls' nL ((i, v') :: lc.filter (fun q => !(q.1 == i) && (!(q.1 == i + 1) && !(q.1 + 1 == i && q.2.category == 2))))) : lr L la' ls' nL := by
  obtain ⟨e1, e2, e3, e4⟩ := aset2_ok _ _ _ _ hs
  refine ⟨e1.trans h0, _, h, fun j w hw => ?_⟩
  by_cases hj : j = i
  · subst hj
    rw [e3] at hw
    cases hw
    exact ⟨v', hv, List.mem_cons_self⟩
  · obtain ⟨h3, h3b, h4⟩ := e4 j w hj hw
    obtain ⟨w', h5, h6⟩ := h2 j w h3
    refine ⟨w', h5, List.mem_cons_of_mem _ (List.mem_filter.mpr ⟨h6, ?_⟩)⟩
    simp only [Bool.and_eq_true, Bool.not_eq_true', beq_eq_false_iff_ne, ne_eq, Bool.and_eq_false_iff, mv_cat h5]
    refine ⟨hj, h3b, ?_⟩
    by_cases q : j + 1 = i
    · exact Or.inr (fun z => h4 ⟨q, z⟩)
    · exact Or.inl q
/-- the locals with which a method begins -/
def arep : Nat → Option aL
  | 0 => some []
  | n + 1 => match arep n with
    | none => none
    | some r => some (none :: r)
def aini : List Value → Nat → Option aL
  | [], n => arep n
  | v :: r, n => match v, n with
    | _, 0 => none
    | .long x, n + 1 => match n with
      | 0 => none
      | n2 + 1 => match aini r n2 with
        | none => none
        | some t => some (some (.long x) :: none :: t)
    | .double x, n + 1 => match n with
      | 0 => none
      | n2 + 1 => match aini r n2 with
        | none => none
        | some t => some (some (.double x) :: none :: t)
    | w, n + 1 => match aini r n with
      | none => none
      | some t => some (some w :: t)
theorem arep_ok : ∀ (n : Nat) (la : aL), arep n = some la → la.length = n ∧ ∀ (i : Nat) (v : Value), la[i]? ≠ some (some v)
  | 0, la, h => by cases h; exact ⟨rfl, fun i v => by simp⟩
  | n + 1, la, h => by
    simp only [arep] at h
    cases hr : arep n with
    | none => rw [hr] at h; cases h
    | some r =>
      rw [hr] at h
      cases h
      obtain ⟨e1, e2⟩ := arep_ok n r hr
      refine ⟨by simp [e1], fun i v => ?_⟩
      cases i with
      | zero => simp
      | succ i => simpa using e2 i v
theorem aini_ok {L : aA} : ∀ (as as' : List Value) (n o : Nat) (la : aL), sr L as as' → aini as n = some la → la.length = n ∧ (lg_sl as').length ≤ n ∧ ∀ (i : Nat) (v : Value), la[i]? = some (some v) → ∃ v', mv L v = some v' ∧ (o + i, v') ∈ lv_args o as'
  | [], as', n, o, la, hs, h => by
    rw [sr_nil hs]
    obtain ⟨e1, e2⟩ := arep_ok n la h
    exact ⟨e1, by simp [lg_sl], fun i v hv => absurd hv (e2 i v)⟩
  | v :: r, as', n, o, la, hs, h => by
    obtain ⟨v', r', rfl, hv, hr⟩ := sr_cons hs
    have two : ∀ n2 t, v.category = 2 → n = n2 + 2 → aini r n2 = some t → la = some v :: none :: t → la.length = n ∧ (lg_sl (v' :: r')).length ≤ n ∧ ∀ (i : Nat) (w : Value), la[i]? = some (some w) → ∃ w', mv L w = some w' ∧ (o + i, w') ∈ lv_args o (v' :: r') := by
      intro n2 t hc hn ht hla
      have hc' : v'.category = 2 := by rw [mv_cat hv]; exact hc
      obtain ⟨e1, e2, e3⟩ := aini_ok r r' n2 (o + 2) t hr ht
      subst hla
      refine ⟨by simp [e1, hn], ?_, fun i w hw => ?_⟩
      · have : lg_sl (v' :: r') = [.val v', .second] ++ lg_sl r' := by simp [lg_sl, hc']
        rw [this, List.length_append]
        simp only [List.length_cons, List.length_nil]
        omega
      · simp only [lv_args, if_pos hc']
        match i, hw with
        | 0, hw =>
          simp only [List.getElem?_cons_zero, Option.some.injEq] at hw
          subst hw
          exact ⟨v', hv, List.mem_cons_self⟩
        | 1, hw => simp at hw
        | i + 2, hw =>
          simp only [List.getElem?_cons_succ] at hw
          obtain ⟨w', h5, h6⟩ := e3 i w hw
          exact ⟨w', h5, List.mem_cons_of_mem _ (by rw [show o + (i + 2) = o + 2 + i by omega]; exact h6)⟩
    have one : ∀ n2 t, ¬ v.category = 2 → n = n2 + 1 → aini r n2 = some t → la = some v :: t → la.length = n ∧ (lg_sl (v' :: r')).length ≤ n ∧ ∀ (i : Nat) (w : Value), la[i]? = some (some w) → ∃ w', mv L w = some w' ∧ (o + i, w') ∈ lv_args o (v' :: r') := by
      intro n2 t hc hn ht hla
      have hc' : ¬ v'.category = 2 := by rw [mv_cat hv]; exact hc
      obtain ⟨e1, e2, e3⟩ := aini_ok r r' n2 (o + 1) t hr ht
      subst hla
      refine ⟨by simp [e1, hn], ?_, fun i w hw => ?_⟩
      · have : lg_sl (v' :: r') = [.val v'] ++ lg_sl r' := by simp [lg_sl, hc']
        rw [this, List.length_append]
        simp only [List.length_cons, List.length_nil]
        omega
      · simp only [lv_args, if_neg hc']
        match i, hw with
        | 0, hw =>
          simp only [List.getElem?_cons_zero, Option.some.injEq] at hw
          subst hw
          exact ⟨v', hv, List.mem_cons_self⟩
        | i + 1, hw =>
          simp only [List.getElem?_cons_succ] at hw
          obtain ⟨w', h5, h6⟩ := e3 i w hw
          exact ⟨w', h5, List.mem_cons_of_mem _ (by rw [show o + (i + 1) = o + 1 + i by omega]; exact h6)⟩
    cases n with
    | zero => cases v <;> simp [aini] at h
    | succ n =>
      cases v with
      | long x =>
        cases n with
        | zero => simp [aini] at h
        | succ n2 =>
          simp only [aini] at h
          cases ht : aini r n2 with
          | none => rw [ht] at h; cases h
          | some t => rw [ht] at h; cases h; exact two n2 t rfl rfl ht rfl
      | double x =>
        cases n with
        | zero => simp [aini] at h
        | succ n2 =>
          simp only [aini] at h
          cases ht : aini r n2 with
          | none => rw [ht] at h; cases h
          | some t => rw [ht] at h; cases h; exact two n2 t rfl rfl ht rfl
      | int x =>
        simp only [aini] at h
        cases ht : aini r n with
        | none => rw [ht] at h; cases h
        | some t => rw [ht] at h; cases h; exact one n t (by simp [Value.category]) rfl ht rfl
      | float x =>
        simp only [aini] at h
        cases ht : aini r n with
        | none => rw [ht] at h; cases h
        | some t => rw [ht] at h; cases h; exact one n t (by simp [Value.category]) rfl ht rfl
      | null =>
        simp only [aini] at h
        cases ht : aini r n with
        | none => rw [ht] at h; cases h
        | some t => rw [ht] at h; cases h; exact one n t (by simp [Value.category]) rfl ht rfl
      | ref x =>
        simp only [aini] at h
        cases ht : aini r n with
        | none => rw [ht] at h; cases h
        | some t => rw [ht] at h; cases h; exact one n t (by simp [Value.category]) rfl ht rfl
      | retAddr x =>
        simp only [aini] at h
        cases ht : aini r n with
        | none => rw [ht] at h; cases h
        | some t => rw [ht] at h; cases h; exact one n t (by simp [Value.category]) rfl ht rfl
/-! ===== small functions that are evaluated ===== -/
def pops : Nat → List Value → List Value → Option (List Value × List Value)
  | 0, st, acc => some (acc, st)
  | n + 1, st, acc => match st with
    | [] => none
    | v :: r => pops n r (v :: acc)
theorem pops_ok : ∀ (n : Nat) (st acc r rest : List Value), pops n st acc = some (r, rest) → ∃ as, r = as ++ acc ∧ as.length = n ∧ st = as.reverse ++ rest
  | 0, st, acc, r, rest, h => by
    simp only [pops, Option.some.injEq, Prod.mk.injEq] at h
    exact ⟨[], by simp [h.1], rfl, by simp [h.2]⟩
  | n + 1, [], acc, r, rest, h => by simp [pops] at h
  | n + 1, v :: st, acc, r, rest, h => by
    simp only [pops] at h
    obtain ⟨as, h1, h2, h3⟩ := pops_ok n st (v :: acc) r rest h
    exact ⟨as ++ [v], by simp [h1], by simp [h2], by simp [h3]⟩
def lset : List Value → Nat → Value → Option (List Value)
  | [], _, _ => none
  | x :: r, i, v => match i with
    | 0 => some (v :: r)
    | i' + 1 => match lset r i' v with
      | none => none
      | some r' => some (x :: r')
theorem lset_ok : ∀ (fs : List Value) (k : Nat) (v : Value) (fs' : List Value), lset fs k v = some fs' → k < fs.length ∧ fs' = fs.set k v
  | [], k, v, fs', h => by simp [lset] at h
  | x :: r, 0, v, fs', h => by simp only [lset, Option.some.injEq] at h; subst h; exact ⟨by simp, rfl⟩
  | x :: r, k + 1, v, fs', h => by
    simp only [lset] at h
    cases hr : lset r k v with
    | none => rw [hr] at h; cases h
    | some r' =>
      rw [hr] at h
      cases h
      obtain ⟨h1, h2⟩ := lset_ok r k v r' hr
      exact ⟨by simp [h1], by simp [h2]⟩
def pu (v : Option Value) (st : List Value) : List Value := match v with
  | none => st
  | some w => w :: st
end
section
/-! ===== the words, the context, the judgement ===== -/
def BIG : List Cond := lw_tbl.filter goodWord
theorem big_good : GoodIn BIG BIG := fun w hw => ⟨hw, good_of_word (List.mem_filter.mp hw).2⟩
theorem big_of {w : Cond} (h : w ∈ lw_tbl) (g : goodWord w = true) : w ∈ BIG := List.mem_filter.mpr ⟨h, g⟩
def atys (cA : Nat → ClassId) : List (ClassId × FieldType) := [(cA 0, .int), (cA 1, .long), (cA 2, .boolean), (cA 3, .object "HomeByFour$Sheet"), (cA 4, .object "HomeByFour$Stretch"), (cA 5, .object "HomeByFour$Walk")]
def aAO : List String := ["HomeByFour$Sheet", "HomeByFour$Stretch", "HomeByFour$Walk"]
def aNC : List (String × String) := [("HomeByFour$Stretch", "HomeByFour$Muddy"), ("HomeByFour$Stretch", "HomeByFour$Steep"), ("HomeByFour$Muddy", "HomeByFour$Steep")]
def aCA : List (String × String) := [("HomeByFour$Steep", "HomeByFour$Muddy"), ("HomeByFour$Muddy", "HomeByFour$Stretch"), ("HomeByFour$Steep", "HomeByFour$Stretch")]
def aNE : List (String × Nat × MethodName × String) := [("HomeByFour", 27, yX10_init, "HomeByFour"), ("HomeByFour$Search", 17, yX10_init, "HomeByFour"), ("HomeByFour", 55, yX9_init, "HomeByFour"), ("HomeByFour$Text", 60, yX11_isWithin, "HomeByFour"), ("HomeByFour$Quickest", 62, yX11_isWithin, "HomeByFour"), ("HomeByFour$Search", 137, yX11_powerOf, "HomeByFour"), ("HomeByFour$Dawdling", 40, yX11_isWithin, "HomeByFour")]
def EX (D : va_G) (cA : Nat → ClassId) (U : State) : Prop := va_K D vwCl (atys cA) U ∧ (∀ C ∈ aAO, va_AO C U) ∧ (∀ q ∈ aNC, va_Nc q.1 q.2 U) ∧ (∀ q ∈ aCA, va_Nw (.castable q.1 q.2) U) ∧ ∀ q ∈ aNE, va_Nw (.methodLinkNest q.1 q.2.1 q.2.2.1 q.2.2.2) U
theorem EX.warm {D : va_G} {cA : Nat → ClassId} {s U : State} (hW : s.WarmedH U.vm) (h : EX D cA s) : EX D cA U :=
  ⟨va_K.moved hW.alike h.1, fun C hC => va_AO.moved hW.alike (h.2.1 C hC), fun q hq => va_Nc.moved hW.alike (h.2.2.1 q hq), fun q hq => va_Nw.warmC hW (h.2.2.2.1 q hq), fun q hq => va_Nw.warmM hW (h.2.2.2.2 q hq)⟩
theorem EX.same {D : va_G} {cA : Nat → ClassId} {s U : State} (hv : s.vm = U.vm) (h : EX D cA s) : EX D cA U :=
  have ha : s.vm.Alike U.vm := by rw [hv]; exact Vm.Alike.refl _
  ⟨va_K.moved ha h.1, fun C hC => va_AO.moved ha (h.2.1 C hC), fun q hq => va_Nc.moved ha (h.2.2.1 q hq), fun q hq => va_Nw.same rfl hv (h.2.2.2.1 q hq), fun q hq => va_Nw.same rfl hv (h.2.2.2.2 q hq)⟩
/-- the machine's side of a method's run: all that does not move -/
def Cx (mi : MI) (d : Nat) (p : Program) (R : Room) (s : State) (m : MethodId) (args : Array Value) (meth : Method) (c : Code) (D : va_G) (cA : Nat → ClassId) : Prop :=
  p.tables.exec = Jvm.exec ∧ c.code = mi.2.1 ∧ meth.sig.returnType = mi.2.2.2 ∧ c.maxLocals = mi.2.2.1 ∧ s.vm.findClass mi.1.cls = some m.cls ∧ (∀ w ∈ BIG, w.before args s = true) ∧ meth.locks = false ∧ meth.name = mi.1.name ∧ EX D cA s ∧ d ≤ R.frames ∧ 60 * d ≤ R.locals
def Wd (D : va_G) (cA : Nat → ClassId) (A : Nat → Prop) (s : State) (L : aA) (S : aS) (ws : va_W) (H : Heap) (locs : List Loc) : Prop :=
  rel cA L S ws ∧ va_P D vwCl ws H ∧ va_D A ws ∧ va_S A s.heap H locs ∧ ∀ q : Nat, s.heap.size ≤ q → A q
def xr (X : Option (Nat × (Nat → Int32))) (L : aA) (A : Nat → Prop) (s : State) : Prop := ∀ n xs, X = some (n, xs) → va_X L.1 n xs s s.heap ∧ L.1 < s.heap.size ∧ ¬ A L.1
/-- at a return: what comes back -/
def RT (mi : MI) (L : aA) (v : Option Value) (m : MethodId) (g : JFrame) : Prop := ∃ (pc : Nat) (ls : Array Slot),
  (∃ (x : Int32) (ty : FieldType), v = some (.int x) ∧ mi.2.2.2 = some ty ∧ narrow ty (.int x) = .int x ∧ decode mi.2.1 pc = .ok (.ireturn, 1) ∧ g = F0 m pc ls [.int x]) ∨
  (∃ x : Int64, v = some (.long x) ∧ mi.2.2.2 = some .long ∧ decode mi.2.1 pc = .ok (.lreturn, 1) ∧ g = F0 m pc ls [.long x]) ∨
  (∃ (w w' : Value) (n : String), v = some w ∧ mv L w = some w' ∧ (w' = .null ∨ ∃ a, w' = .ref a) ∧ mi.2.2.2 = some (.object n) ∧ decode mi.2.1 pc = .ok (.areturn, 1) ∧ g = F0 m pc ls [w']) ∨
  (v = none ∧ mi.2.2.2 = none ∧ decode mi.2.1 pc = .ok (.return_, 1) ∧ g = F0 m pc ls [])
def Kn (mi : MI) (p : Program) (l : Launch) (e : Env) (R : Room) (s : State) (m : MethodId) (args : Array Value) (below : List Frame) (meth : Method) (c : Code) (D : va_G) (cA : Nat → ClassId) (A : Nat → Prop) (L : aA) (Q : Option Value → aS → Prop) (Qf : State → Prop) : Prop :=
  ∀ (v : Option Value) (S' : aS) (M : List Nat) (ws' : va_W) (H' : Heap) (locs' : List Loc) (cells' slots' : Nat) (g : JFrame), Q v S' → Wd D cA A s (L.1, L.2 ++ M) S' ws' H' locs' → cells' ≤ R.cells → slots' ≤ R.slots → RT mi (L.1, L.2 ++ M) v m g → W p l e R s m args below meth c H' locs' cells' slots' Qf g
theorem Kn.ex {mi : MI} {p : Program} {l : Launch} {e : Env} {R : Room} {s : State} {m : MethodId} {args : Array Value} {below : List Frame} {meth : Method} {c : Code} {D : va_G} {cA : Nat → ClassId} {A : Nat → Prop} {L : aA} {Q : Option Value → aS → Prop} {Qf : State → Prop} (h : Kn mi p l e R s m args below meth c D cA A L Q Qf) (M : List Nat) : Kn mi p l e R s m args below meth c D cA A (L.1, L.2 ++ M) Q Qf := by
  intro v S' M2 ws' H' locs' cells' slots' g h1 h2 h3 h4 h5
  refine h v S' (M ++ M2) ws' H' locs' cells' slots' g h1 ?_ h3 h4 ?_
  · rw [← List.append_assoc]; exact h2
  · rw [← List.append_assoc]; exact h5
/-- THE JUDGEMENT: a frame at pc, with locals la and stack st over the store S, comes to a return with Q -/
def Ev (X : Option (Nat × (Nat → Int32))) (mi : MI) (d b pc : Nat) (la : aL) (st : List Value) (S : aS) (Q : Option Value → aS → Prop) : Prop :=
  ∀ (p : Program) (l : Launch) (e : Env) (R : Room) (s : State) (m : MethodId) (args : Array Value) (below : List Frame) (meth : Method) (c : Code) (D : va_G) (cA : Nat → ClassId) (A : Nat → Prop) (L : aA) (ws : va_W) (H : Heap) (locs : List Loc) (cells slots : Nat) (Qf : State → Prop) (ls : Array Slot) (st' : List Value),
    Cx mi d p R s m args meth c D cA → xr X L A s → Wd D cA A s L S ws H locs → lr L la ls mi.2.2.1 → sr L st st' → cells + b ≤ R.cells → slots + 300 * b ≤ R.slots → Kn mi p l e R s m args below meth c D cA A L Q Qf →
    W p l e R s m args below meth c H locs cells slots Qf (F0 m pc ls st')
section EVR
variable {X : Option (Nat × (Nat → Int32))} {mi : MI} {d b pc pc2 : Nat} {la la2 : aL} {st : List Value} {S : aS} {Q : Option Value → aS → Prop}

theorem Ev_iconst {n : Int} {v : Int32} (hd : nx mi.2.1 pc (.iconst n) 1 pc2) (hv : Int32.ofInt n = v) (k : Ev X mi d b pc2 la ((.int v) :: st) S Q) : Ev X mi d b pc la (st) S Q := by
  intro p l e R s m args below meth c D cA A L ws H locs cells slots Qf ls st' hC hX hW hl hs hc hq hK
  obtain ⟨hd, rfl⟩ := hd
  exact lv_iconst hC.1 hC.2.1 hd hv (k p l e R s m args below meth c D cA A L ws H locs cells slots Qf ls _ hC hX hW hl (sr_push rfl hs) hc hq hK)
theorem Ev_bipush {n : Int} {v : Int32} (hd : nx mi.2.1 pc (.bipush n) 2 pc2) (hv : (Int8.ofInt n).toInt32 = v) (k : Ev X mi d b pc2 la ((.int v) :: st) S Q) : Ev X mi d b pc la (st) S Q := by
  intro p l e R s m args below meth c D cA A L ws H locs cells slots Qf ls st' hC hX hW hl hs hc hq hK
  obtain ⟨hd, rfl⟩ := hd
  exact lv_bipush hC.1 hC.2.1 hd hv (k p l e R s m args below meth c D cA A L ws H locs cells slots Qf ls _ hC hX hW hl (sr_push rfl hs) hc hq hK)
theorem Ev_sipush {n : Int} {v : Int32} (hd : nx mi.2.1 pc (.sipush n) 3 pc2) (hv : (Int16.ofInt n).toInt32 = v) (k : Ev X mi d b pc2 la ((.int v) :: st) S Q) : Ev X mi d b pc la (st) S Q := by
  intro p l e R s m args below meth c D cA A L ws H locs cells slots Qf ls st' hC hX hW hl hs hc hq hK
  obtain ⟨hd, rfl⟩ := hd
  exact lv_sipush hC.1 hC.2.1 hd hv (k p l e R s m args below meth c D cA A L ws H locs cells slots Qf ls _ hC hX hW hl (sr_push rfl hs) hc hq hK)
theorem Ev_lconst {n : Fin 2} {v : Int64} (hd : nx mi.2.1 pc (.lconst n) 1 pc2) (hv : Int64.ofNat (n : Nat) = v) (k : Ev X mi d b pc2 la ((.long v) :: st) S Q) : Ev X mi d b pc la (st) S Q := by
  intro p l e R s m args below meth c D cA A L ws H locs cells slots Qf ls st' hC hX hW hl hs hc hq hK
  obtain ⟨hd, rfl⟩ := hd
  exact lv_lconst hC.1 hC.2.1 hd hv (k p l e R s m args below meth c D cA A L ws H locs cells slots Qf ls _ hC hX hW hl (sr_push rfl hs) hc hq hK)
theorem Ev_null  (hd : nx mi.2.1 pc (.aconst_null) 1 pc2)  (k : Ev X mi d b pc2 la ((.null) :: st) S Q) : Ev X mi d b pc la (st) S Q := by
  intro p l e R s m args below meth c D cA A L ws H locs cells slots Qf ls st' hC hX hW hl hs hc hq hK
  obtain ⟨hd, rfl⟩ := hd
  exact lv_null hC.1 hC.2.1 hd  (k p l e R s m args below meth c D cA A L ws H locs cells slots Qf ls _ hC hX hW hl (sr_push rfl hs) hc hq hK)
theorem Ev_iadd {x y : Int32} (hd : nx mi.2.1 pc (.iadd) 1 pc2)  (k : Ev X mi d b pc2 la ((.int (x + y)) :: st) S Q) : Ev X mi d b pc la (.int y :: .int x :: st) S Q := by
  intro p l e R s m args below meth c D cA A L ws H locs cells slots Qf ls st' hC hX hW hl hs hc hq hK
  obtain ⟨r_y, rfl, hs1⟩ := sr_int hs
  obtain ⟨r_x, rfl, hs2⟩ := sr_int hs1
  obtain ⟨hd, rfl⟩ := hd
  exact lv_iadd hC.1 hC.2.1 hd  (k p l e R s m args below meth c D cA A L ws H locs cells slots Qf ls _ hC hX hW hl (sr_push rfl hs2) hc hq hK)
theorem Ev_isub {x y : Int32} (hd : nx mi.2.1 pc (.isub) 1 pc2)  (k : Ev X mi d b pc2 la ((.int (x - y)) :: st) S Q) : Ev X mi d b pc la (.int y :: .int x :: st) S Q := by
  intro p l e R s m args below meth c D cA A L ws H locs cells slots Qf ls st' hC hX hW hl hs hc hq hK
  obtain ⟨r_y, rfl, hs1⟩ := sr_int hs
  obtain ⟨r_x, rfl, hs2⟩ := sr_int hs1
  obtain ⟨hd, rfl⟩ := hd
  exact lv_isub hC.1 hC.2.1 hd  (k p l e R s m args below meth c D cA A L ws H locs cells slots Qf ls _ hC hX hW hl (sr_push rfl hs2) hc hq hK)
theorem Ev_imul {x y : Int32} (hd : nx mi.2.1 pc (.imul) 1 pc2)  (k : Ev X mi d b pc2 la ((.int (x * y)) :: st) S Q) : Ev X mi d b pc la (.int y :: .int x :: st) S Q := by
  intro p l e R s m args below meth c D cA A L ws H locs cells slots Qf ls st' hC hX hW hl hs hc hq hK
  obtain ⟨r_y, rfl, hs1⟩ := sr_int hs
  obtain ⟨r_x, rfl, hs2⟩ := sr_int hs1
  obtain ⟨hd, rfl⟩ := hd
  exact lv_imul hC.1 hC.2.1 hd  (k p l e R s m args below meth c D cA A L ws H locs cells slots Qf ls _ hC hX hW hl (sr_push rfl hs2) hc hq hK)
theorem Ev_iand {x y : Int32} (hd : nx mi.2.1 pc (.iand) 1 pc2)  (k : Ev X mi d b pc2 la ((.int (x &&& y)) :: st) S Q) : Ev X mi d b pc la (.int y :: .int x :: st) S Q := by
  intro p l e R s m args below meth c D cA A L ws H locs cells slots Qf ls st' hC hX hW hl hs hc hq hK
  obtain ⟨r_y, rfl, hs1⟩ := sr_int hs
  obtain ⟨r_x, rfl, hs2⟩ := sr_int hs1
  obtain ⟨hd, rfl⟩ := hd
  exact lv_iand hC.1 hC.2.1 hd  (k p l e R s m args below meth c D cA A L ws H locs cells slots Qf ls _ hC hX hW hl (sr_push rfl hs2) hc hq hK)
theorem Ev_ior {x y : Int32} (hd : nx mi.2.1 pc (.ior) 1 pc2)  (k : Ev X mi d b pc2 la ((.int (x ||| y)) :: st) S Q) : Ev X mi d b pc la (.int y :: .int x :: st) S Q := by
  intro p l e R s m args below meth c D cA A L ws H locs cells slots Qf ls st' hC hX hW hl hs hc hq hK
  obtain ⟨r_y, rfl, hs1⟩ := sr_int hs
  obtain ⟨r_x, rfl, hs2⟩ := sr_int hs1
  obtain ⟨hd, rfl⟩ := hd
  exact lv_ior hC.1 hC.2.1 hd  (k p l e R s m args below meth c D cA A L ws H locs cells slots Qf ls _ hC hX hW hl (sr_push rfl hs2) hc hq hK)
theorem Ev_ixor {x y : Int32} (hd : nx mi.2.1 pc (.ixor) 1 pc2)  (k : Ev X mi d b pc2 la ((.int (x ^^^ y)) :: st) S Q) : Ev X mi d b pc la (.int y :: .int x :: st) S Q := by
  intro p l e R s m args below meth c D cA A L ws H locs cells slots Qf ls st' hC hX hW hl hs hc hq hK
  obtain ⟨r_y, rfl, hs1⟩ := sr_int hs
  obtain ⟨r_x, rfl, hs2⟩ := sr_int hs1
  obtain ⟨hd, rfl⟩ := hd
  exact lv_ixor hC.1 hC.2.1 hd  (k p l e R s m args below meth c D cA A L ws H locs cells slots Qf ls _ hC hX hW hl (sr_push rfl hs2) hc hq hK)
theorem Ev_ishl {x y : Int32} (hd : nx mi.2.1 pc (.ishl) 1 pc2)  (k : Ev X mi d b pc2 la ((.int (x <<< (y &&& 31))) :: st) S Q) : Ev X mi d b pc la (.int y :: .int x :: st) S Q := by
  intro p l e R s m args below meth c D cA A L ws H locs cells slots Qf ls st' hC hX hW hl hs hc hq hK
  obtain ⟨r_y, rfl, hs1⟩ := sr_int hs
  obtain ⟨r_x, rfl, hs2⟩ := sr_int hs1
  obtain ⟨hd, rfl⟩ := hd
  exact lv_ishl hC.1 hC.2.1 hd  (k p l e R s m args below meth c D cA A L ws H locs cells slots Qf ls _ hC hX hW hl (sr_push rfl hs2) hc hq hK)
theorem Ev_ishr {x y : Int32} (hd : nx mi.2.1 pc (.ishr) 1 pc2)  (k : Ev X mi d b pc2 la ((.int (x >>> (y &&& 31))) :: st) S Q) : Ev X mi d b pc la (.int y :: .int x :: st) S Q := by
  intro p l e R s m args below meth c D cA A L ws H locs cells slots Qf ls st' hC hX hW hl hs hc hq hK
  obtain ⟨r_y, rfl, hs1⟩ := sr_int hs
  obtain ⟨r_x, rfl, hs2⟩ := sr_int hs1
  obtain ⟨hd, rfl⟩ := hd
  exact lv_ishr hC.1 hC.2.1 hd  (k p l e R s m args below meth c D cA A L ws H locs cells slots Qf ls _ hC hX hW hl (sr_push rfl hs2) hc hq hK)
theorem Ev_idiv {x y : Int32} (hd : nx mi.2.1 pc (.idiv) 1 pc2) (hne : ¬ y = 0) (k : Ev X mi d b pc2 la ((.int (x / y)) :: st) S Q) : Ev X mi d b pc la (.int y :: .int x :: st) S Q := by
  intro p l e R s m args below meth c D cA A L ws H locs cells slots Qf ls st' hC hX hW hl hs hc hq hK
  obtain ⟨r_y, rfl, hs1⟩ := sr_int hs
  obtain ⟨r_x, rfl, hs2⟩ := sr_int hs1
  obtain ⟨hd, rfl⟩ := hd
  exact lv_idiv hC.1 hC.2.1 hd hne (k p l e R s m args below meth c D cA A L ws H locs cells slots Qf ls _ hC hX hW hl (sr_push rfl hs2) hc hq hK)
theorem Ev_irem {x y : Int32} (hd : nx mi.2.1 pc (.irem) 1 pc2) (hne : ¬ y = 0) (k : Ev X mi d b pc2 la ((.int (x - x / y * y)) :: st) S Q) : Ev X mi d b pc la (.int y :: .int x :: st) S Q := by
  intro p l e R s m args below meth c D cA A L ws H locs cells slots Qf ls st' hC hX hW hl hs hc hq hK
  obtain ⟨r_y, rfl, hs1⟩ := sr_int hs
  obtain ⟨r_x, rfl, hs2⟩ := sr_int hs1
  obtain ⟨hd, rfl⟩ := hd
  exact lv_irem hC.1 hC.2.1 hd hne (k p l e R s m args below meth c D cA A L ws H locs cells slots Qf ls _ hC hX hW hl (sr_push rfl hs2) hc hq hK)
theorem Ev_ladd {x y : Int64} (hd : nx mi.2.1 pc (.ladd) 1 pc2)  (k : Ev X mi d b pc2 la ((.long (x + y)) :: st) S Q) : Ev X mi d b pc la (.long y :: .long x :: st) S Q := by
  intro p l e R s m args below meth c D cA A L ws H locs cells slots Qf ls st' hC hX hW hl hs hc hq hK
  obtain ⟨r_y, rfl, hs1⟩ := sr_long hs
  obtain ⟨r_x, rfl, hs2⟩ := sr_long hs1
  obtain ⟨hd, rfl⟩ := hd
  exact lv_ladd hC.1 hC.2.1 hd  (k p l e R s m args below meth c D cA A L ws H locs cells slots Qf ls _ hC hX hW hl (sr_push rfl hs2) hc hq hK)
theorem Ev_lsub {x y : Int64} (hd : nx mi.2.1 pc (.lsub) 1 pc2)  (k : Ev X mi d b pc2 la ((.long (x - y)) :: st) S Q) : Ev X mi d b pc la (.long y :: .long x :: st) S Q := by
  intro p l e R s m args below meth c D cA A L ws H locs cells slots Qf ls st' hC hX hW hl hs hc hq hK
  obtain ⟨r_y, rfl, hs1⟩ := sr_long hs
  obtain ⟨r_x, rfl, hs2⟩ := sr_long hs1
  obtain ⟨hd, rfl⟩ := hd
  exact lv_lsub hC.1 hC.2.1 hd  (k p l e R s m args below meth c D cA A L ws H locs cells slots Qf ls _ hC hX hW hl (sr_push rfl hs2) hc hq hK)
theorem Ev_lmul {x y : Int64} (hd : nx mi.2.1 pc (.lmul) 1 pc2)  (k : Ev X mi d b pc2 la ((.long (x * y)) :: st) S Q) : Ev X mi d b pc la (.long y :: .long x :: st) S Q := by
  intro p l e R s m args below meth c D cA A L ws H locs cells slots Qf ls st' hC hX hW hl hs hc hq hK
  obtain ⟨r_y, rfl, hs1⟩ := sr_long hs
  obtain ⟨r_x, rfl, hs2⟩ := sr_long hs1
  obtain ⟨hd, rfl⟩ := hd
  exact lv_lmul hC.1 hC.2.1 hd  (k p l e R s m args below meth c D cA A L ws H locs cells slots Qf ls _ hC hX hW hl (sr_push rfl hs2) hc hq hK)
theorem Ev_ldiv {x y : Int64} (hd : nx mi.2.1 pc (.ldiv) 1 pc2) (hne : ¬ y = 0) (k : Ev X mi d b pc2 la ((.long (x / y)) :: st) S Q) : Ev X mi d b pc la (.long y :: .long x :: st) S Q := by
  intro p l e R s m args below meth c D cA A L ws H locs cells slots Qf ls st' hC hX hW hl hs hc hq hK
  obtain ⟨r_y, rfl, hs1⟩ := sr_long hs
  obtain ⟨r_x, rfl, hs2⟩ := sr_long hs1
  obtain ⟨hd, rfl⟩ := hd
  exact lv_ldiv hC.1 hC.2.1 hd hne (k p l e R s m args below meth c D cA A L ws H locs cells slots Qf ls _ hC hX hW hl (sr_push rfl hs2) hc hq hK)
theorem Ev_lrem {x y : Int64} (hd : nx mi.2.1 pc (.lrem) 1 pc2) (hne : ¬ y = 0) (k : Ev X mi d b pc2 la ((.long (x - x / y * y)) :: st) S Q) : Ev X mi d b pc la (.long y :: .long x :: st) S Q := by
  intro p l e R s m args below meth c D cA A L ws H locs cells slots Qf ls st' hC hX hW hl hs hc hq hK
  obtain ⟨r_y, rfl, hs1⟩ := sr_long hs
  obtain ⟨r_x, rfl, hs2⟩ := sr_long hs1
  obtain ⟨hd, rfl⟩ := hd
  exact lv_lrem hC.1 hC.2.1 hd hne (k p l e R s m args below meth c D cA A L ws H locs cells slots Qf ls _ hC hX hW hl (sr_push rfl hs2) hc hq hK)
theorem Ev_lcmp {x y : Int64} (hd : nx mi.2.1 pc (.lcmp) 1 pc2)  (k : Ev X mi d b pc2 la ((.int (lg_cmp x y)) :: st) S Q) : Ev X mi d b pc la (.long y :: .long x :: st) S Q := by
  intro p l e R s m args below meth c D cA A L ws H locs cells slots Qf ls st' hC hX hW hl hs hc hq hK
  obtain ⟨r_y, rfl, hs1⟩ := sr_long hs
  obtain ⟨r_x, rfl, hs2⟩ := sr_long hs1
  obtain ⟨hd, rfl⟩ := hd
  exact W.lcmp hC.1 hC.2.1 hd  (k p l e R s m args below meth c D cA A L ws H locs cells slots Qf ls _ hC hX hW hl (sr_push rfl hs2) hc hq hK)
theorem Ev_i2l {x : Int32} (hd : nx mi.2.1 pc (.i2l) 1 pc2)  (k : Ev X mi d b pc2 la ((.long x.toInt64) :: st) S Q) : Ev X mi d b pc la (.int x :: st) S Q := by
  intro p l e R s m args below meth c D cA A L ws H locs cells slots Qf ls st' hC hX hW hl hs hc hq hK
  obtain ⟨r_x, rfl, hs1⟩ := sr_int hs
  obtain ⟨hd, rfl⟩ := hd
  exact lv_i2l hC.1 hC.2.1 hd rfl (k p l e R s m args below meth c D cA A L ws H locs cells slots Qf ls _ hC hX hW hl (sr_push rfl hs1) hc hq hK)
theorem Ev_l2i {x : Int64} (hd : nx mi.2.1 pc (.l2i) 1 pc2)  (k : Ev X mi d b pc2 la ((.int x.toInt32) :: st) S Q) : Ev X mi d b pc la (.long x :: st) S Q := by
  intro p l e R s m args below meth c D cA A L ws H locs cells slots Qf ls st' hC hX hW hl hs hc hq hK
  obtain ⟨r_x, rfl, hs1⟩ := sr_long hs
  obtain ⟨hd, rfl⟩ := hd
  exact lv_l2i hC.1 hC.2.1 hd rfl (k p l e R s m args below meth c D cA A L ws H locs cells slots Qf ls _ hC hX hW hl (sr_push rfl hs1) hc hq hK)
theorem Ev_i2b {x : Int32} (hd : nx mi.2.1 pc (.i2b) 1 pc2)  (k : Ev X mi d b pc2 la ((.int x.toInt8.toInt32) :: st) S Q) : Ev X mi d b pc la (.int x :: st) S Q := by
  intro p l e R s m args below meth c D cA A L ws H locs cells slots Qf ls st' hC hX hW hl hs hc hq hK
  obtain ⟨r_x, rfl, hs1⟩ := sr_int hs
  obtain ⟨hd, rfl⟩ := hd
  exact lv_i2b hC.1 hC.2.1 hd rfl (k p l e R s m args below meth c D cA A L ws H locs cells slots Qf ls _ hC hX hW hl (sr_push rfl hs1) hc hq hK)
theorem Ev_i2s {x : Int32} (hd : nx mi.2.1 pc (.i2s) 1 pc2)  (k : Ev X mi d b pc2 la ((.int x.toInt16.toInt32) :: st) S Q) : Ev X mi d b pc la (.int x :: st) S Q := by
  intro p l e R s m args below meth c D cA A L ws H locs cells slots Qf ls st' hC hX hW hl hs hc hq hK
  obtain ⟨r_x, rfl, hs1⟩ := sr_int hs
  obtain ⟨hd, rfl⟩ := hd
  exact lv_i2s hC.1 hC.2.1 hd rfl (k p l e R s m args below meth c D cA A L ws H locs cells slots Qf ls _ hC hX hW hl (sr_push rfl hs1) hc hq hK)
theorem Ev_ldc {idx : Nat} {v : Int32} (hd : nx mi.2.1 pc (.ldc idx) 2 pc2) (hw : Cond.constant mi.1.cls idx v ∈ BIG) (k : Ev X mi d b pc2 la (.int v :: st) S Q) : Ev X mi d b pc la st S Q := by
  intro p l e R s m args below meth c D cA A L ws H locs cells slots Qf ls st' hC hX hW hl hs hc hq hK
  obtain ⟨hd, rfl⟩ := hd
  exact lv_ldc hC.1 hC.2.1 hC.2.2.2.2.1 (hC.2.2.2.2.2.1 _ hw) hd (k p l e R s m args below meth c D cA A L ws H locs cells slots Qf ls _ hC hX hW hl (sr_push rfl hs) hc hq hK)
theorem Ev_ldc2 {idx : Nat} {v : Int64} (hd : nx mi.2.1 pc (.ldc2_w idx) 3 pc2) (hw : Cond.constantLong mi.1.cls idx v ∈ BIG) (k : Ev X mi d b pc2 la (.long v :: st) S Q) : Ev X mi d b pc la st S Q := by
  intro p l e R s m args below meth c D cA A L ws H locs cells slots Qf ls st' hC hX hW hl hs hc hq hK
  obtain ⟨hd, rfl⟩ := hd
  exact lv_ldc2 hC.1 hC.2.1 hC.2.2.2.2.1 (hC.2.2.2.2.2.1 _ hw) hd (k p l e R s m args below meth c D cA A L ws H locs cells slots Qf ls _ hC hX hW hl (sr_push rfl hs) hc hq hK)
theorem Ev_iload_n {j : Fin 4} {x : Int32} (hd : nx mi.2.1 pc (.iload_n j) 1 pc2) (hv : la[(j : Nat)]? = some (some (.int x))) (k : Ev X mi d b pc2 la (.int x :: st) S Q) : Ev X mi d b pc la st S Q := by
  intro p l e R s m args below meth c D cA A L ws H locs cells slots Qf ls st' hC hX hW hl hs hc hq hK
  obtain ⟨hd, rfl⟩ := hd
  obtain ⟨v', h1, h2⟩ := lr_get hl hv
  cases Option.some.inj h1
  exact lv_iload_n hC.1 hC.2.1 hd rfl h2 (k p l e R s m args below meth c D cA A L ws H locs cells slots Qf ls _ hC hX hW hl (sr_push rfl hs) hc hq hK)
theorem Ev_iload {j : Nat} {x : Int32} (hd : nx mi.2.1 pc (.iload j) 2 pc2) (hv : la[j]? = some (some (.int x))) (k : Ev X mi d b pc2 la (.int x :: st) S Q) : Ev X mi d b pc la st S Q := by
  intro p l e R s m args below meth c D cA A L ws H locs cells slots Qf ls st' hC hX hW hl hs hc hq hK
  obtain ⟨hd, rfl⟩ := hd
  obtain ⟨v', h1, h2⟩ := lr_get hl hv
  cases Option.some.inj h1
  exact lv_iload hC.1 hC.2.1 hd h2 (k p l e R s m args below meth c D cA A L ws H locs cells slots Qf ls _ hC hX hW hl (sr_push rfl hs) hc hq hK)
theorem Ev_lload_n {j : Fin 4} {x : Int64} (hd : nx mi.2.1 pc (.lload_n j) 1 pc2) (hv : la[(j : Nat)]? = some (some (.long x))) (k : Ev X mi d b pc2 la (.long x :: st) S Q) : Ev X mi d b pc la st S Q := by
  intro p l e R s m args below meth c D cA A L ws H locs cells slots Qf ls st' hC hX hW hl hs hc hq hK
  obtain ⟨hd, rfl⟩ := hd
  obtain ⟨v', h1, h2⟩ := lr_get hl hv
  cases Option.some.inj h1
  exact lv_lload_n hC.1 hC.2.1 hd rfl h2 (k p l e R s m args below meth c D cA A L ws H locs cells slots Qf ls _ hC hX hW hl (sr_push rfl hs) hc hq hK)
theorem Ev_lload {j : Nat} {x : Int64} (hd : nx mi.2.1 pc (.lload j) 2 pc2) (hv : la[j]? = some (some (.long x))) (k : Ev X mi d b pc2 la (.long x :: st) S Q) : Ev X mi d b pc la st S Q := by
  intro p l e R s m args below meth c D cA A L ws H locs cells slots Qf ls st' hC hX hW hl hs hc hq hK
  obtain ⟨hd, rfl⟩ := hd
  obtain ⟨v', h1, h2⟩ := lr_get hl hv
  cases Option.some.inj h1
  exact lv_lload hC.1 hC.2.1 hd h2 (k p l e R s m args below meth c D cA A L ws H locs cells slots Qf ls _ hC hX hW hl (sr_push rfl hs) hc hq hK)
theorem Ev_aload_n {j : Fin 4} {x : Nat} (hd : nx mi.2.1 pc (.aload_n j) 1 pc2) (hv : la[(j : Nat)]? = some (some (.ref x))) (k : Ev X mi d b pc2 la (.ref x :: st) S Q) : Ev X mi d b pc la st S Q := by
  intro p l e R s m args below meth c D cA A L ws H locs cells slots Qf ls st' hC hX hW hl hs hc hq hK
  obtain ⟨hd, rfl⟩ := hd
  obtain ⟨v', h1, h2⟩ := lr_get hl hv
  have h3 := h1
  obtain ⟨a, h1b, rfl⟩ := mv_ref h1
  exact lv_aload_n hC.1 hC.2.1 hd rfl h2 (k p l e R s m args below meth c D cA A L ws H locs cells slots Qf ls _ hC hX hW hl (sr_push h3 hs) hc hq hK)
theorem Ev_aload {j : Nat} {x : Nat} (hd : nx mi.2.1 pc (.aload j) 2 pc2) (hv : la[j]? = some (some (.ref x))) (k : Ev X mi d b pc2 la (.ref x :: st) S Q) : Ev X mi d b pc la st S Q := by
  intro p l e R s m args below meth c D cA A L ws H locs cells slots Qf ls st' hC hX hW hl hs hc hq hK
  obtain ⟨hd, rfl⟩ := hd
  obtain ⟨v', h1, h2⟩ := lr_get hl hv
  have h3 := h1
  obtain ⟨a, h1b, rfl⟩ := mv_ref h1
  exact lv_aload hC.1 hC.2.1 hd h2 (k p l e R s m args below meth c D cA A L ws H locs cells slots Qf ls _ hC hX hW hl (sr_push h3 hs) hc hq hK)
theorem Ev_aload_nN {j : Fin 4}  (hd : nx mi.2.1 pc (.aload_n j) 1 pc2) (hv : la[(j : Nat)]? = some (some (.null))) (k : Ev X mi d b pc2 la (.null :: st) S Q) : Ev X mi d b pc la st S Q := by
  intro p l e R s m args below meth c D cA A L ws H locs cells slots Qf ls st' hC hX hW hl hs hc hq hK
  obtain ⟨hd, rfl⟩ := hd
  obtain ⟨v', h1, h2⟩ := lr_get hl hv
  have h3 := h1
  cases Option.some.inj h1
  exact lv_aload_nN hC.1 hC.2.1 hd rfl h2 (k p l e R s m args below meth c D cA A L ws H locs cells slots Qf ls _ hC hX hW hl (sr_push h3 hs) hc hq hK)
theorem Ev_aloadN {j : Nat}  (hd : nx mi.2.1 pc (.aload j) 2 pc2) (hv : la[j]? = some (some (.null))) (k : Ev X mi d b pc2 la (.null :: st) S Q) : Ev X mi d b pc la st S Q := by
  intro p l e R s m args below meth c D cA A L ws H locs cells slots Qf ls st' hC hX hW hl hs hc hq hK
  obtain ⟨hd, rfl⟩ := hd
  obtain ⟨v', h1, h2⟩ := lr_get hl hv
  have h3 := h1
  cases Option.some.inj h1
  exact lv_aloadN hC.1 hC.2.1 hd h2 (k p l e R s m args below meth c D cA A L ws H locs cells slots Qf ls _ hC hX hW hl (sr_push h3 hs) hc hq hK)
theorem Ev_aload_nX {j : Fin 4} {x : Nat} (hd : nx mi.2.1 pc (.aload_n j) 1 pc2) (hv : la[(j : Nat)]? = some (some (.retAddr x))) (k : Ev X mi d b pc2 la (.retAddr x :: st) S Q) : Ev X mi d b pc la st S Q := by
  intro p l e R s m args below meth c D cA A L ws H locs cells slots Qf ls st' hC hX hW hl hs hc hq hK
  obtain ⟨hd, rfl⟩ := hd
  obtain ⟨v', h1, h2⟩ := lr_get hl hv
  have h3 := h1
  cases Option.some.inj h1
  exact lv_aload_n hC.1 hC.2.1 hd rfl h2 (k p l e R s m args below meth c D cA A L ws H locs cells slots Qf ls _ hC hX hW hl (sr_push h3 hs) hc hq hK)
theorem Ev_aloadX {j : Nat} {x : Nat} (hd : nx mi.2.1 pc (.aload j) 2 pc2) (hv : la[j]? = some (some (.retAddr x))) (k : Ev X mi d b pc2 la (.retAddr x :: st) S Q) : Ev X mi d b pc la st S Q := by
  intro p l e R s m args below meth c D cA A L ws H locs cells slots Qf ls st' hC hX hW hl hs hc hq hK
  obtain ⟨hd, rfl⟩ := hd
  obtain ⟨v', h1, h2⟩ := lr_get hl hv
  have h3 := h1
  cases Option.some.inj h1
  exact lv_aload hC.1 hC.2.1 hd h2 (k p l e R s m args below meth c D cA A L ws H locs cells slots Qf ls _ hC hX hW hl (sr_push h3 hs) hc hq hK)
theorem Ev_istore_n {j : Fin 4} {x : Int32} (hd : nx mi.2.1 pc (.istore_n j) 1 pc2) (ha : aset1 la (j : Nat) (.int x) = some la2) (k : Ev X mi d b pc2 la2 st S Q) : Ev X mi d b pc la (.int x :: st) S Q := by
  intro p l e R s m args below meth c D cA A L ws H locs cells slots Qf ls st' hC hX hW hl hs hc hq hK
  obtain ⟨r_x, rfl, hs1⟩ := sr_int hs
  obtain ⟨hd, rfl⟩ := hd
  obtain ⟨h0, lc, h1, h2⟩ := hl
  have hn := (aset1_ok _ _ _ _ ha).2.1
  exact lv_istore_n hC.1 hC.2.1 hd rfl h1 (by rw [← h0]; exact hn) rfl (fun ls2 hl2 => k p l e R s m args below meth c D cA A L ws H locs cells slots Qf ls2 _ hC hX hW (lr_set1 h0 h2 ha rfl hl2) hs1 hc hq hK)
theorem Ev_istore {j : Nat} {x : Int32} (hd : nx mi.2.1 pc (.istore j) 2 pc2) (ha : aset1 la (j : Nat) (.int x) = some la2) (k : Ev X mi d b pc2 la2 st S Q) : Ev X mi d b pc la (.int x :: st) S Q := by
  intro p l e R s m args below meth c D cA A L ws H locs cells slots Qf ls st' hC hX hW hl hs hc hq hK
  obtain ⟨r_x, rfl, hs1⟩ := sr_int hs
  obtain ⟨hd, rfl⟩ := hd
  obtain ⟨h0, lc, h1, h2⟩ := hl
  have hn := (aset1_ok _ _ _ _ ha).2.1
  exact lv_istore hC.1 hC.2.1 hd h1 (by rw [← h0]; exact hn) rfl (fun ls2 hl2 => k p l e R s m args below meth c D cA A L ws H locs cells slots Qf ls2 _ hC hX hW (lr_set1 h0 h2 ha rfl hl2) hs1 hc hq hK)
theorem Ev_lstore_n {j : Fin 4} {x : Int64} (hd : nx mi.2.1 pc (.lstore_n j) 1 pc2) (ha : aset2 la (j : Nat) (.long x) = some la2) (k : Ev X mi d b pc2 la2 st S Q) : Ev X mi d b pc la (.long x :: st) S Q := by
  intro p l e R s m args below meth c D cA A L ws H locs cells slots Qf ls st' hC hX hW hl hs hc hq hK
  obtain ⟨r_x, rfl, hs1⟩ := sr_long hs
  obtain ⟨hd, rfl⟩ := hd
  obtain ⟨h0, lc, h1, h2⟩ := hl
  have hn := (aset2_ok _ _ _ _ ha).2.1
  exact lv_lstore_n hC.1 hC.2.1 hd rfl h1 (by rw [← h0]; exact hn) rfl (fun ls2 hl2 => k p l e R s m args below meth c D cA A L ws H locs cells slots Qf ls2 _ hC hX hW (lr_set2 h0 h2 ha rfl hl2) hs1 hc hq hK)
theorem Ev_lstore {j : Nat} {x : Int64} (hd : nx mi.2.1 pc (.lstore j) 2 pc2) (ha : aset2 la (j : Nat) (.long x) = some la2) (k : Ev X mi d b pc2 la2 st S Q) : Ev X mi d b pc la (.long x :: st) S Q := by
  intro p l e R s m args below meth c D cA A L ws H locs cells slots Qf ls st' hC hX hW hl hs hc hq hK
  obtain ⟨r_x, rfl, hs1⟩ := sr_long hs
  obtain ⟨hd, rfl⟩ := hd
  obtain ⟨h0, lc, h1, h2⟩ := hl
  have hn := (aset2_ok _ _ _ _ ha).2.1
  exact lv_lstore hC.1 hC.2.1 hd h1 (by rw [← h0]; exact hn) rfl (fun ls2 hl2 => k p l e R s m args below meth c D cA A L ws H locs cells slots Qf ls2 _ hC hX hW (lr_set2 h0 h2 ha rfl hl2) hs1 hc hq hK)
theorem Ev_astore_n {j : Fin 4} {x : Nat} (hd : nx mi.2.1 pc (.astore_n j) 1 pc2) (ha : aset1 la (j : Nat) (.ref x) = some la2) (k : Ev X mi d b pc2 la2 st S Q) : Ev X mi d b pc la (.ref x :: st) S Q := by
  intro p l e R s m args below meth c D cA A L ws H locs cells slots Qf ls st' hC hX hW hl hs hc hq hK
  obtain ⟨a, r_x, rfl, hax, hs1⟩ := sr_ref hs
  obtain ⟨hd, rfl⟩ := hd
  obtain ⟨h0, lc, h1, h2⟩ := hl
  have hn := (aset1_ok _ _ _ _ ha).2.1
  exact lv_astore_n hC.1 hC.2.1 hd rfl h1 (by rw [← h0]; exact hn) rfl (fun ls2 hl2 => k p l e R s m args below meth c D cA A L ws H locs cells slots Qf ls2 _ hC hX hW (lr_set1 h0 h2 ha (by simp only [mv, hax, Option.map_some]) hl2) hs1 hc hq hK)
theorem Ev_astore {j : Nat} {x : Nat} (hd : nx mi.2.1 pc (.astore j) 2 pc2) (ha : aset1 la (j : Nat) (.ref x) = some la2) (k : Ev X mi d b pc2 la2 st S Q) : Ev X mi d b pc la (.ref x :: st) S Q := by
  intro p l e R s m args below meth c D cA A L ws H locs cells slots Qf ls st' hC hX hW hl hs hc hq hK
  obtain ⟨a, r_x, rfl, hax, hs1⟩ := sr_ref hs
  obtain ⟨hd, rfl⟩ := hd
  obtain ⟨h0, lc, h1, h2⟩ := hl
  have hn := (aset1_ok _ _ _ _ ha).2.1
  exact lv_astore hC.1 hC.2.1 hd h1 (by rw [← h0]; exact hn) rfl (fun ls2 hl2 => k p l e R s m args below meth c D cA A L ws H locs cells slots Qf ls2 _ hC hX hW (lr_set1 h0 h2 ha (by simp only [mv, hax, Option.map_some]) hl2) hs1 hc hq hK)
theorem Ev_astore_nN {j : Fin 4}  (hd : nx mi.2.1 pc (.astore_n j) 1 pc2) (ha : aset1 la (j : Nat) (.null) = some la2) (k : Ev X mi d b pc2 la2 st S Q) : Ev X mi d b pc la (.null :: st) S Q := by
  intro p l e R s m args below meth c D cA A L ws H locs cells slots Qf ls st' hC hX hW hl hs hc hq hK
  obtain ⟨r_x, rfl, hs1⟩ := sr_null hs
  obtain ⟨hd, rfl⟩ := hd
  obtain ⟨h0, lc, h1, h2⟩ := hl
  have hn := (aset1_ok _ _ _ _ ha).2.1
  exact lv_astore_nN hC.1 hC.2.1 hd rfl h1 (by rw [← h0]; exact hn) rfl (fun ls2 hl2 => k p l e R s m args below meth c D cA A L ws H locs cells slots Qf ls2 _ hC hX hW (lr_set1 h0 h2 ha rfl hl2) hs1 hc hq hK)
theorem Ev_astoreN {j : Nat}  (hd : nx mi.2.1 pc (.astore j) 2 pc2) (ha : aset1 la (j : Nat) (.null) = some la2) (k : Ev X mi d b pc2 la2 st S Q) : Ev X mi d b pc la (.null :: st) S Q := by
  intro p l e R s m args below meth c D cA A L ws H locs cells slots Qf ls st' hC hX hW hl hs hc hq hK
  obtain ⟨r_x, rfl, hs1⟩ := sr_null hs
  obtain ⟨hd, rfl⟩ := hd
  obtain ⟨h0, lc, h1, h2⟩ := hl
  have hn := (aset1_ok _ _ _ _ ha).2.1
  exact lv_astoreN hC.1 hC.2.1 hd h1 (by rw [← h0]; exact hn) rfl (fun ls2 hl2 => k p l e R s m args below meth c D cA A L ws H locs cells slots Qf ls2 _ hC hX hW (lr_set1 h0 h2 ha rfl hl2) hs1 hc hq hK)
theorem Ev_iinc {j : Nat} {n : Int} {x v : Int32} (hd : nx mi.2.1 pc (.iinc j n) 3 pc2) (hv : la[j]? = some (some (.int x))) (hn2 : x + Int32.ofInt n = v) (ha : aset1 la j (.int v) = some la2) (k : Ev X mi d b pc2 la2 st S Q) : Ev X mi d b pc la st S Q := by
  intro p l e R s m args below meth c D cA A L ws H locs cells slots Qf ls st' hC hX hW hl hs hc hq hK
  obtain ⟨hd, rfl⟩ := hd
  obtain ⟨h0, lc, h1, h2⟩ := hl
  have hn := (aset1_ok _ _ _ _ ha).2.1
  obtain ⟨v', h3, h4⟩ := h2 j _ hv
  cases Option.some.inj h3
  obtain ⟨i, hi⟩ := List.getElem?_of_mem h4
  exact lv_iinc (k := i) hC.1 hC.2.1 hd h1 hi hn2 (by rw [← h0]; exact hn) rfl (fun ls2 hl2 => k p l e R s m args below meth c D cA A L ws H locs cells slots Qf ls2 _ hC hX hW (lr_set1 h0 h2 ha rfl hl2) hs hc hq hK)
theorem Ev_dup {v : Value} (hd : nx mi.2.1 pc .dup 1 pc2) (hc1 : v.category = 1) (k : Ev X mi d b pc2 la (v :: v :: st) S Q) : Ev X mi d b pc la (v :: st) S Q := by
  intro p l e R s m args below meth c D cA A L ws H locs cells slots Qf ls st' hC hX hW hl hs hc hq hK
  obtain ⟨v', r, rfl, h1, hs1⟩ := sr_cons hs
  obtain ⟨hd, rfl⟩ := hd
  exact lv_dup hC.1 hC.2.1 hd (by rw [mv_cat h1]; exact hc1) (k p l e R s m args below meth c D cA A L ws H locs cells slots Qf ls _ hC hX hW hl (sr_push h1 (sr_push h1 hs1)) hc hq hK)
theorem Ev_dup2 {v u : Value} (hd : nx mi.2.1 pc .dup2 1 pc2) (hc1 : v.category = 1) (hc2 : u.category = 1) (k : Ev X mi d b pc2 la (v :: u :: v :: u :: st) S Q) : Ev X mi d b pc la (v :: u :: st) S Q := by
  intro p l e R s m args below meth c D cA A L ws H locs cells slots Qf ls st' hC hX hW hl hs hc hq hK
  obtain ⟨v', r, rfl, h1, hs1⟩ := sr_cons hs
  obtain ⟨u', r, rfl, h2, hs2⟩ := sr_cons hs1
  obtain ⟨hd, rfl⟩ := hd
  exact lv_dup2_11 hC.1 hC.2.1 hd (by rw [mv_cat h1]; exact hc1) (by rw [mv_cat h2]; exact hc2) (k p l e R s m args below meth c D cA A L ws H locs cells slots Qf ls _ hC hX hW hl (sr_push h1 (sr_push h2 (sr_push h1 (sr_push h2 hs2)))) hc hq hK)
theorem Ev_if_eq {x : Int32} {off : Int} {tg : Nat} (hd : bx mi.2.1 pc (.ifCond .eq off) off tg pc2) (kt : x = 0 → Ev X mi d b tg la st S Q) (kf : ¬ x = 0 → Ev X mi d b pc2 la st S Q) : Ev X mi d b pc la (.int x :: st) S Q := by
  intro p l e R s m args below meth c D cA A L ws H locs cells slots Qf ls st' hC hX hW hl hs hc hq hK
  obtain ⟨r_x, rfl, hs1⟩ := sr_int hs
  obtain ⟨hd, ht, rfl⟩ := hd
  exact lv_if_eq hC.1 hC.2.1 hd ht (fun h => (kt h p l e R s m args below meth c D cA A L ws H locs cells slots Qf ls _ hC hX hW hl hs1 hc hq hK)) (fun h => (kf h p l e R s m args below meth c D cA A L ws H locs cells slots Qf ls _ hC hX hW hl hs1 hc hq hK))
theorem Ev_icmp_eq {x y : Int32} {off : Int} {tg : Nat} (hd : bx mi.2.1 pc (.if_icmp .eq off) off tg pc2) (kt : x = y → Ev X mi d b tg la st S Q) (kf : ¬ x = y → Ev X mi d b pc2 la st S Q) : Ev X mi d b pc la (.int y :: .int x :: st) S Q := by
  intro p l e R s m args below meth c D cA A L ws H locs cells slots Qf ls st' hC hX hW hl hs hc hq hK
  obtain ⟨r_y, rfl, hs1⟩ := sr_int hs
  obtain ⟨r_x, rfl, hs2⟩ := sr_int hs1
  obtain ⟨hd, ht, rfl⟩ := hd
  exact lv_icmp_eq hC.1 hC.2.1 hd ht (fun h => (kt h p l e R s m args below meth c D cA A L ws H locs cells slots Qf ls _ hC hX hW hl hs2 hc hq hK)) (fun h => (kf h p l e R s m args below meth c D cA A L ws H locs cells slots Qf ls _ hC hX hW hl hs2 hc hq hK))
theorem Ev_if_ne {x : Int32} {off : Int} {tg : Nat} (hd : bx mi.2.1 pc (.ifCond .ne off) off tg pc2) (kt : ¬ x = 0 → Ev X mi d b tg la st S Q) (kf : x = 0 → Ev X mi d b pc2 la st S Q) : Ev X mi d b pc la (.int x :: st) S Q := by
  intro p l e R s m args below meth c D cA A L ws H locs cells slots Qf ls st' hC hX hW hl hs hc hq hK
  obtain ⟨r_x, rfl, hs1⟩ := sr_int hs
  obtain ⟨hd, ht, rfl⟩ := hd
  exact lv_if_ne hC.1 hC.2.1 hd ht (fun h => (kt h p l e R s m args below meth c D cA A L ws H locs cells slots Qf ls _ hC hX hW hl hs1 hc hq hK)) (fun h => (kf h p l e R s m args below meth c D cA A L ws H locs cells slots Qf ls _ hC hX hW hl hs1 hc hq hK))
theorem Ev_icmp_ne {x y : Int32} {off : Int} {tg : Nat} (hd : bx mi.2.1 pc (.if_icmp .ne off) off tg pc2) (kt : ¬ x = y → Ev X mi d b tg la st S Q) (kf : x = y → Ev X mi d b pc2 la st S Q) : Ev X mi d b pc la (.int y :: .int x :: st) S Q := by
  intro p l e R s m args below meth c D cA A L ws H locs cells slots Qf ls st' hC hX hW hl hs hc hq hK
  obtain ⟨r_y, rfl, hs1⟩ := sr_int hs
  obtain ⟨r_x, rfl, hs2⟩ := sr_int hs1
  obtain ⟨hd, ht, rfl⟩ := hd
  exact lv_icmp_ne hC.1 hC.2.1 hd ht (fun h => (kt h p l e R s m args below meth c D cA A L ws H locs cells slots Qf ls _ hC hX hW hl hs2 hc hq hK)) (fun h => (kf h p l e R s m args below meth c D cA A L ws H locs cells slots Qf ls _ hC hX hW hl hs2 hc hq hK))
theorem Ev_if_lt {x : Int32} {off : Int} {tg : Nat} (hd : bx mi.2.1 pc (.ifCond .lt off) off tg pc2) (kt : x < 0 → Ev X mi d b tg la st S Q) (kf : ¬ x < 0 → Ev X mi d b pc2 la st S Q) : Ev X mi d b pc la (.int x :: st) S Q := by
  intro p l e R s m args below meth c D cA A L ws H locs cells slots Qf ls st' hC hX hW hl hs hc hq hK
  obtain ⟨r_x, rfl, hs1⟩ := sr_int hs
  obtain ⟨hd, ht, rfl⟩ := hd
  exact lv_if_lt hC.1 hC.2.1 hd ht (fun h => (kt h p l e R s m args below meth c D cA A L ws H locs cells slots Qf ls _ hC hX hW hl hs1 hc hq hK)) (fun h => (kf h p l e R s m args below meth c D cA A L ws H locs cells slots Qf ls _ hC hX hW hl hs1 hc hq hK))
theorem Ev_icmp_lt {x y : Int32} {off : Int} {tg : Nat} (hd : bx mi.2.1 pc (.if_icmp .lt off) off tg pc2) (kt : x < y → Ev X mi d b tg la st S Q) (kf : ¬ x < y → Ev X mi d b pc2 la st S Q) : Ev X mi d b pc la (.int y :: .int x :: st) S Q := by
  intro p l e R s m args below meth c D cA A L ws H locs cells slots Qf ls st' hC hX hW hl hs hc hq hK
  obtain ⟨r_y, rfl, hs1⟩ := sr_int hs
  obtain ⟨r_x, rfl, hs2⟩ := sr_int hs1
  obtain ⟨hd, ht, rfl⟩ := hd
  exact lv_icmp_lt hC.1 hC.2.1 hd ht (fun h => (kt h p l e R s m args below meth c D cA A L ws H locs cells slots Qf ls _ hC hX hW hl hs2 hc hq hK)) (fun h => (kf h p l e R s m args below meth c D cA A L ws H locs cells slots Qf ls _ hC hX hW hl hs2 hc hq hK))
theorem Ev_if_ge {x : Int32} {off : Int} {tg : Nat} (hd : bx mi.2.1 pc (.ifCond .ge off) off tg pc2) (kt : 0 ≤ x → Ev X mi d b tg la st S Q) (kf : ¬ 0 ≤ x → Ev X mi d b pc2 la st S Q) : Ev X mi d b pc la (.int x :: st) S Q := by
  intro p l e R s m args below meth c D cA A L ws H locs cells slots Qf ls st' hC hX hW hl hs hc hq hK
  obtain ⟨r_x, rfl, hs1⟩ := sr_int hs
  obtain ⟨hd, ht, rfl⟩ := hd
  exact lv_if_ge hC.1 hC.2.1 hd ht (fun h => (kt h p l e R s m args below meth c D cA A L ws H locs cells slots Qf ls _ hC hX hW hl hs1 hc hq hK)) (fun h => (kf h p l e R s m args below meth c D cA A L ws H locs cells slots Qf ls _ hC hX hW hl hs1 hc hq hK))
theorem Ev_icmp_ge {x y : Int32} {off : Int} {tg : Nat} (hd : bx mi.2.1 pc (.if_icmp .ge off) off tg pc2) (kt : y ≤ x → Ev X mi d b tg la st S Q) (kf : ¬ y ≤ x → Ev X mi d b pc2 la st S Q) : Ev X mi d b pc la (.int y :: .int x :: st) S Q := by
  intro p l e R s m args below meth c D cA A L ws H locs cells slots Qf ls st' hC hX hW hl hs hc hq hK
  obtain ⟨r_y, rfl, hs1⟩ := sr_int hs
  obtain ⟨r_x, rfl, hs2⟩ := sr_int hs1
  obtain ⟨hd, ht, rfl⟩ := hd
  exact lv_icmp_ge hC.1 hC.2.1 hd ht (fun h => (kt h p l e R s m args below meth c D cA A L ws H locs cells slots Qf ls _ hC hX hW hl hs2 hc hq hK)) (fun h => (kf h p l e R s m args below meth c D cA A L ws H locs cells slots Qf ls _ hC hX hW hl hs2 hc hq hK))
theorem Ev_if_gt {x : Int32} {off : Int} {tg : Nat} (hd : bx mi.2.1 pc (.ifCond .gt off) off tg pc2) (kt : 0 < x → Ev X mi d b tg la st S Q) (kf : ¬ 0 < x → Ev X mi d b pc2 la st S Q) : Ev X mi d b pc la (.int x :: st) S Q := by
  intro p l e R s m args below meth c D cA A L ws H locs cells slots Qf ls st' hC hX hW hl hs hc hq hK
  obtain ⟨r_x, rfl, hs1⟩ := sr_int hs
  obtain ⟨hd, ht, rfl⟩ := hd
  exact lv_if_gt hC.1 hC.2.1 hd ht (fun h => (kt h p l e R s m args below meth c D cA A L ws H locs cells slots Qf ls _ hC hX hW hl hs1 hc hq hK)) (fun h => (kf h p l e R s m args below meth c D cA A L ws H locs cells slots Qf ls _ hC hX hW hl hs1 hc hq hK))
theorem Ev_icmp_gt {x y : Int32} {off : Int} {tg : Nat} (hd : bx mi.2.1 pc (.if_icmp .gt off) off tg pc2) (kt : y < x → Ev X mi d b tg la st S Q) (kf : ¬ y < x → Ev X mi d b pc2 la st S Q) : Ev X mi d b pc la (.int y :: .int x :: st) S Q := by
  intro p l e R s m args below meth c D cA A L ws H locs cells slots Qf ls st' hC hX hW hl hs hc hq hK
  obtain ⟨r_y, rfl, hs1⟩ := sr_int hs
  obtain ⟨r_x, rfl, hs2⟩ := sr_int hs1
  obtain ⟨hd, ht, rfl⟩ := hd
  exact lv_icmp_gt hC.1 hC.2.1 hd ht (fun h => (kt h p l e R s m args below meth c D cA A L ws H locs cells slots Qf ls _ hC hX hW hl hs2 hc hq hK)) (fun h => (kf h p l e R s m args below meth c D cA A L ws H locs cells slots Qf ls _ hC hX hW hl hs2 hc hq hK))
theorem Ev_if_le {x : Int32} {off : Int} {tg : Nat} (hd : bx mi.2.1 pc (.ifCond .le off) off tg pc2) (kt : x ≤ 0 → Ev X mi d b tg la st S Q) (kf : ¬ x ≤ 0 → Ev X mi d b pc2 la st S Q) : Ev X mi d b pc la (.int x :: st) S Q := by
  intro p l e R s m args below meth c D cA A L ws H locs cells slots Qf ls st' hC hX hW hl hs hc hq hK
  obtain ⟨r_x, rfl, hs1⟩ := sr_int hs
  obtain ⟨hd, ht, rfl⟩ := hd
  exact lv_if_le hC.1 hC.2.1 hd ht (fun h => (kt h p l e R s m args below meth c D cA A L ws H locs cells slots Qf ls _ hC hX hW hl hs1 hc hq hK)) (fun h => (kf h p l e R s m args below meth c D cA A L ws H locs cells slots Qf ls _ hC hX hW hl hs1 hc hq hK))
theorem Ev_icmp_le {x y : Int32} {off : Int} {tg : Nat} (hd : bx mi.2.1 pc (.if_icmp .le off) off tg pc2) (kt : x ≤ y → Ev X mi d b tg la st S Q) (kf : ¬ x ≤ y → Ev X mi d b pc2 la st S Q) : Ev X mi d b pc la (.int y :: .int x :: st) S Q := by
  intro p l e R s m args below meth c D cA A L ws H locs cells slots Qf ls st' hC hX hW hl hs hc hq hK
  obtain ⟨r_y, rfl, hs1⟩ := sr_int hs
  obtain ⟨r_x, rfl, hs2⟩ := sr_int hs1
  obtain ⟨hd, ht, rfl⟩ := hd
  exact lv_icmp_le hC.1 hC.2.1 hd ht (fun h => (kt h p l e R s m args below meth c D cA A L ws H locs cells slots Qf ls _ hC hX hW hl hs2 hc hq hK)) (fun h => (kf h p l e R s m args below meth c D cA A L ws H locs cells slots Qf ls _ hC hX hW hl hs2 hc hq hK))
theorem Ev_goto {off : Int} {tg : Nat} (hd : bx mi.2.1 pc (.goto off) off tg pc2) (k : Ev X mi d b tg la st S Q) : Ev X mi d b pc la st S Q := by
  intro p l e R s m args below meth c D cA A L ws H locs cells slots Qf ls st' hC hX hW hl hs hc hq hK
  obtain ⟨hd, ht, rfl⟩ := hd
  exact lv_goto hC.1 hC.2.1 hd ht (k p l e R s m args below meth c D cA A L ws H locs cells slots Qf ls _ hC hX hW hl hs hc hq hK)
theorem Ev_ifnull {x : Nat} {off : Int} {tg : Nat} (hd : bx mi.2.1 pc (.ifnull off) off tg pc2) (k : Ev X mi d b pc2 la st S Q) : Ev X mi d b pc la (.ref x :: st) S Q := by
  intro p l e R s m args below meth c D cA A L ws H locs cells slots Qf ls st' hC hX hW hl hs hc hq hK
  obtain ⟨a, r_x, rfl, hax, hs1⟩ := sr_ref hs
  obtain ⟨hd, ht, rfl⟩ := hd
  exact lv_ifnull hC.1 hC.2.1 hd (k p l e R s m args below meth c D cA A L ws H locs cells slots Qf ls _ hC hX hW hl hs1 hc hq hK)
theorem Ev_ifnullN {off : Int} {tg : Nat} (hd : bx mi.2.1 pc (.ifnull off) off tg pc2) (k : Ev X mi d b tg la st S Q) : Ev X mi d b pc la (.null :: st) S Q := by
  intro p l e R s m args below meth c D cA A L ws H locs cells slots Qf ls st' hC hX hW hl hs hc hq hK
  obtain ⟨r_x, rfl, hs1⟩ := sr_null hs
  obtain ⟨hd, ht, rfl⟩ := hd
  exact lv_ifnullN hC.1 hC.2.1 hd ht (k p l e R s m args below meth c D cA A L ws H locs cells slots Qf ls _ hC hX hW hl hs1 hc hq hK)
theorem Ev_ifnonnull {x : Nat} {off : Int} {tg : Nat} (hd : bx mi.2.1 pc (.ifnonnull off) off tg pc2) (k : Ev X mi d b tg la st S Q) : Ev X mi d b pc la (.ref x :: st) S Q := by
  intro p l e R s m args below meth c D cA A L ws H locs cells slots Qf ls st' hC hX hW hl hs hc hq hK
  obtain ⟨a, r_x, rfl, hax, hs1⟩ := sr_ref hs
  obtain ⟨hd, ht, rfl⟩ := hd
  exact lv_ifnonnull hC.1 hC.2.1 hd ht (k p l e R s m args below meth c D cA A L ws H locs cells slots Qf ls _ hC hX hW hl hs1 hc hq hK)
theorem Ev_ifnonnullN {off : Int} {tg : Nat} (hd : bx mi.2.1 pc (.ifnonnull off) off tg pc2) (k : Ev X mi d b pc2 la st S Q) : Ev X mi d b pc la (.null :: st) S Q := by
  intro p l e R s m args below meth c D cA A L ws H locs cells slots Qf ls st' hC hX hW hl hs hc hq hK
  obtain ⟨r_x, rfl, hs1⟩ := sr_null hs
  obtain ⟨hd, ht, rfl⟩ := hd
  exact lv_ifnonnullN hC.1 hC.2.1 hd (k p l e R s m args below meth c D cA A L ws H locs cells slots Qf ls _ hC hX hW hl hs1 hc hq hK)
/-- a switch over a row of numbers from lo on: x is the i-th, or none -/
theorem Ev_tableIn {dflt lo hi : Int} {offs : Array Int} {len : Nat} {x : Int32} {off : Int} {tg : Nat} (i : Nat) (hd : nx mi.2.1 pc (.tableswitch dflt lo hi offs) len pc2) (hxi : x.toInt = lo + (i : Int)) (h2 : lo + (i : Int) ≤ hi) (ho : offs[i]? = some off) (ht : (pc : Int) + off = (tg : Int)) (k : Ev X mi d b tg la st S Q) : Ev X mi d b pc la (.int x :: st) S Q := by
  intro p l e R s m args below meth c D cA A L ws H locs cells slots Qf ls st' hC hX hW hl hs hc hq hK
  obtain ⟨r_x, rfl, hs1⟩ := sr_int hs
  exact lv_tableIn hC.1 hC.2.1 hd.1 (by omega) (by omega) (by rw [hxi, show lo + (i : Int) - lo = (i : Int) by omega]; exact ho) ht (k p l e R s m args below meth c D cA A L ws H locs cells slots Qf ls _ hC hX hW hl hs1 hc hq hK)
theorem Ev_tableOut {dflt lo hi : Int} {offs : Array Int} {len : Nat} {x : Int32} {tg : Nat} (hd : nx mi.2.1 pc (.tableswitch dflt lo hi offs) len pc2) (h : x.toInt < lo ∨ hi < x.toInt) (ht : (pc : Int) + dflt = (tg : Int)) (k : Ev X mi d b tg la st S Q) : Ev X mi d b pc la (.int x :: st) S Q := by
  intro p l e R s m args below meth c D cA A L ws H locs cells slots Qf ls st' hC hX hW hl hs hc hq hK
  obtain ⟨r_x, rfl, hs1⟩ := sr_int hs
  exact lv_tableOut hC.1 hC.2.1 hd.1 h ht (k p l e R s m args below meth c D cA A L ws H locs cells slots Qf ls _ hC hX hW hl hs1 hc hq hK)
theorem Ev_lookup {dflt : Int} {ps : Array (Int × Int)} {len : Nat} {x : Int32} {off : Int} {tg : Nat} (hd : nx mi.2.1 pc (.lookupswitch dflt ps) len pc2) (hp : (ps.toList.zip (ps.toList.drop 1)).all (fun (a, next) => a.1 < next.1) = true) (ho : Op.lookupswitch.offset ps.toList dflt x.toInt = off) (ht : (pc : Int) + off = (tg : Int)) (k : Ev X mi d b tg la st S Q) : Ev X mi d b pc la (.int x :: st) S Q := by
  intro p l e R s m args below meth c D cA A L ws H locs cells slots Qf ls st' hC hX hW hl hs hc hq hK
  obtain ⟨r_x, rfl, hs1⟩ := sr_int hs
  exact lv_lookup hC.1 hC.2.1 hd.1 hp ho ht (k p l e R s m args below meth c D cA A L ws H locs cells slots Qf ls _ hC hX hW hl hs1 hc hq hK)
/-- a name for what is on the stack -/
theorem Ev_topi {x y : Int32} (h : x = y) (k : Ev X mi d b pc la (.int y :: st) S Q) : Ev X mi d b pc la (.int x :: st) S Q := by rw [h]; exact k
theorem Ev_topl {x y : Int64} (h : x = y) (k : Ev X mi d b pc la (.long y :: st) S Q) : Ev X mi d b pc la (.long x :: st) S Q := by rw [h]; exact k
theorem Ev_mono {Q2 : Option Value → aS → Prop} (h : ∀ v S2, Q v S2 → Q2 v S2) (k : Ev X mi d b pc la st S Q) : Ev X mi d b pc la st S Q2 := by
  intro p l e R s m args below meth c D cA A L ws H locs cells slots Qf ls st' hC hX hW hl hs hc hq hK
  exact k p l e R s m args below meth c D cA A L ws H locs cells slots Qf ls _ hC hX hW hl hs hc hq (fun v S' M ws' H' locs' cells' slots' g h1 => hK v S' M ws' H' locs' cells' slots' g (h v S' h1))
/-- returns -/
theorem Ev_iret {x : Int32} {ty : FieldType} (hd : nx mi.2.1 pc .ireturn 1 pc2) (hr : mi.2.2.2 = some ty) (hn : narrow ty (.int x) = .int x) (k : Q (some (.int x)) S) : Ev X mi d b pc la [.int x] S Q := by
  intro p l e R s m args below meth c D cA A L ws H locs cells slots Qf ls st' hC hX hW hl hs hc hq hK
  obtain ⟨r_x, rfl, hs1⟩ := sr_int hs
  rw [sr_nil hs1]
  refine hK _ S [] ws H locs cells slots _ k ?_ (by omega) (by omega) ⟨pc, ls, Or.inl ⟨x, ty, rfl, hr, hn, hd.1, rfl⟩⟩
  rw [List.append_nil]; exact hW
theorem Ev_lret {x : Int64} (hd : nx mi.2.1 pc .lreturn 1 pc2) (hr : mi.2.2.2 = some .long) (k : Q (some (.long x)) S) : Ev X mi d b pc la [.long x] S Q := by
  intro p l e R s m args below meth c D cA A L ws H locs cells slots Qf ls st' hC hX hW hl hs hc hq hK
  obtain ⟨r_x, rfl, hs1⟩ := sr_long hs
  rw [sr_nil hs1]
  refine hK _ S [] ws H locs cells slots _ k ?_ (by omega) (by omega) ⟨pc, ls, Or.inr (Or.inl ⟨x, rfl, hr, hd.1, rfl⟩)⟩
  rw [List.append_nil]; exact hW
theorem Ev_aret {i : Nat} {n : String} (hd : nx mi.2.1 pc .areturn 1 pc2) (hr : mi.2.2.2 = some (.object n)) (k : Q (some (.ref i)) S) : Ev X mi d b pc la [.ref i] S Q := by
  intro p l e R s m args below meth c D cA A L ws H locs cells slots Qf ls st' hC hX hW hl hs hc hq hK
  obtain ⟨a, r_x, rfl, hax, hs1⟩ := sr_ref hs
  rw [sr_nil hs1]
  refine hK _ S [] ws H locs cells slots _ k ?_ (by omega) (by omega) ⟨pc, ls, Or.inr (Or.inr (Or.inl ⟨_, .ref a, n, rfl, ?_, Or.inr ⟨a, rfl⟩, hr, hd.1, rfl⟩))⟩
  · rw [List.append_nil]; exact hW
  · simp only [mv, List.append_nil, hax, Option.map_some]
theorem Ev_aretN {n : String} (hd : nx mi.2.1 pc .areturn 1 pc2) (hr : mi.2.2.2 = some (.object n)) (k : Q (some .null) S) : Ev X mi d b pc la [.null] S Q := by
  intro p l e R s m args below meth c D cA A L ws H locs cells slots Qf ls st' hC hX hW hl hs hc hq hK
  obtain ⟨r_x, rfl, hs1⟩ := sr_null hs
  rw [sr_nil hs1]
  refine hK _ S [] ws H locs cells slots _ k ?_ (by omega) (by omega) ⟨pc, ls, Or.inr (Or.inr (Or.inl ⟨_, .null, n, rfl, rfl, Or.inl rfl, hr, hd.1, rfl⟩))⟩
  rw [List.append_nil]; exact hW
theorem Ev_vret (hd : nx mi.2.1 pc .return_ 1 pc2) (hr : mi.2.2.2 = none) (k : Q none S) : Ev X mi d b pc la [] S Q := by
  intro p l e R s m args below meth c D cA A L ws H locs cells slots Qf ls st' hC hX hW hl hs hc hq hK
  rw [sr_nil hs]
  refine hK _ S [] ws H locs cells slots _ k ?_ (by omega) (by omega) ⟨pc, ls, Or.inr (Or.inr (Or.inr ⟨rfl, hr, hd.1, rfl⟩))⟩
  rw [List.append_nil]; exact hW
end EVR
end
section
/-! ===== the classes, their fields ===== -/
def okW (ws : List Cond) : Bool := ws.all (fun w => decide (w ∈ lw_tbl) && goodWord w)
theorem okW_in {ws : List Cond} (h : okW ws = true) : ∀ w ∈ ws, w ∈ BIG := by
  intro w hw
  have h1 := List.all_eq_true.mp h w hw
  simp only [Bool.and_eq_true, decide_eq_true_eq] at h1
  exact big_of h1.1 h1.2
theorem okB {w : Cond} (h : okW [w] = true) : w ∈ BIG := okW_in h w List.mem_cons_self
set_option maxRecDepth 20000 in
theorem inB0 : ∀ w ∈ wsX00, w ∈ BIG := okW_in (by decide +kernel)
set_option maxRecDepth 20000 in
theorem inB1 : ∀ w ∈ wsX10, w ∈ BIG := okW_in (by decide +kernel)
set_option maxRecDepth 20000 in
theorem inB2 : ∀ w ∈ wsX20, w ∈ BIG := okW_in (by decide +kernel)
set_option maxRecDepth 20000 in
theorem inB3 : ∀ w ∈ wsX30, w ∈ BIG := okW_in (by decide +kernel)
set_option maxRecDepth 20000 in
theorem inB4 : ∀ w ∈ wsX40, w ∈ BIG := okW_in (by decide +kernel)
set_option maxRecDepth 20000 in
theorem inB5 : ∀ w ∈ wsX50, w ∈ BIG := okW_in (by decide +kernel)
set_option maxRecDepth 20000 in
theorem inB6 : ∀ w ∈ wsX60, w ∈ BIG := okW_in (by decide +kernel)
set_option maxRecDepth 20000 in
theorem inB7 : ∀ w ∈ wsX70, w ∈ BIG := okW_in (by decide +kernel)
set_option maxRecDepth 20000 in
theorem inB8 : ∀ w ∈ wsX80, w ∈ BIG := okW_in (by decide +kernel)
set_option maxRecDepth 20000 in
theorem inB9 : ∀ w ∈ wsX90, w ∈ BIG := okW_in (by decide +kernel)
set_option maxRecDepth 20000 in
theorem inB10 : ∀ w ∈ wsX100, w ∈ BIG := okW_in (by decide +kernel)
set_option maxRecDepth 20000 in
theorem inB11 : ∀ w ∈ wsX110, w ∈ BIG := okW_in (by decide +kernel)
set_option maxRecDepth 20000 in
theorem inB12 : ∀ w ∈ wsX120, w ∈ BIG := okW_in (by decide +kernel)
theorem cl_ok {ci : Nat} {C : String} {T : u_T} {N : Nat} (h : vwCl[ci]? = some (C, T, N)) : (∀ w ∈ u_ws C T N, w ∈ BIG) ∧ (∃ ty0 : Nat → FieldType, ∀ k, k < N → parseFieldDescriptor (T k).2.2.1 = some (ty0 k)) ∧ (∀ a, a < N → ∀ b, b < N → a ≠ b → (T a).2.1 ≠ (T b).2.1) := by
  match ci, h with
  | 0, h => cases h; exact ⟨inB0, ⟨tyX0, tyX0_ok⟩, nmX0⟩
  | 1, h => cases h; exact ⟨inB1, ⟨tyX1, tyX1_ok⟩, nmX1⟩
  | 2, h => cases h; exact ⟨inB2, ⟨tyX2, tyX2_ok⟩, nmX2⟩
  | 3, h => cases h; exact ⟨inB3, ⟨tyX3, tyX3_ok⟩, nmX3⟩
  | 4, h => cases h; exact ⟨inB4, ⟨tyX4, tyX4_ok⟩, nmX4⟩
  | 5, h => cases h; exact ⟨inB5, ⟨tyX5, tyX5_ok⟩, nmX5⟩
  | 6, h => cases h; exact ⟨inB6, ⟨tyX6, tyX6_ok⟩, nmX6⟩
  | 7, h => cases h; exact ⟨inB7, ⟨tyX7, tyX7_ok⟩, nmX7⟩
  | 8, h => cases h; exact ⟨inB8, ⟨tyX8, tyX8_ok⟩, nmX8⟩
  | 9, h => cases h; exact ⟨inB9, ⟨tyX9, tyX9_ok⟩, nmX9⟩
  | 10, h => cases h; exact ⟨inB10, ⟨tyX10, tyX10_ok⟩, nmX10⟩
  | 11, h => cases h; exact ⟨inB11, ⟨tyX11, tyX11_ok⟩, nmX11⟩
  | 12, h => cases h; exact ⟨inB12, ⟨tyX12, tyX12_ok⟩, nmX12⟩
  | n + 13, h => simp [vwCl] at h
theorem obj_inst : Cond.instanceMethod objectInit ∈ BIG := okW_in (ws := [_]) (by decide +kernel) _ List.mem_cons_self
theorem cpy_nat : Cond.native arraycopyName ∈ BIG := okW_in (ws := [_]) (by decide +kernel) _ List.mem_cons_self
theorem cpy_sta : Cond.static arraycopyName ∈ BIG := okW_in (ws := [_]) (by decide +kernel) _ List.mem_cons_self
theorem cpy_ini : Cond.initialized "java/lang/System" ∈ BIG := okW_in (ws := [_]) (by decide +kernel) _ List.mem_cons_self
theorem obj_code : Cond.code objectInit ⟨#[0xb1]⟩ 1 none ∈ BIG := big_of (by decide +kernel) rfl
/-- the pool's entry idx of the class own is field k of an object of class ci; its type; whether it is final, and then of own -/
def FR (own : String) (idx ci k : Nat) (ty : FieldType) (fin : Bool) : Prop := ∃ (C : String) (T : u_T) (N : Nat) (ref : String), vwCl[ci]? = some (C, T, N) ∧ k < N ∧ Cond.fieldLink own idx ref (T k).2.1 (T k).2.2.1 ∈ BIG ∧ (ref = (T k).1 ∨ Cond.sameField ref (T k).1 (T k).2.1 (T k).2.2.1 ∈ BIG) ∧ parseFieldDescriptor (T k).2.2.1 = some ty ∧ (T k).2.2.2 = fin ∧ (fin = true → (T k).1 = own)
/-- for reading alone -/
def FG (own : String) (idx ci k : Nat) : Prop := ∃ (C : String) (T : u_T) (N : Nat) (ref : String), vwCl[ci]? = some (C, T, N) ∧ k < N ∧ Cond.fieldLink own idx ref (T k).2.1 (T k).2.2.1 ∈ BIG ∧ (ref = (T k).1 ∨ Cond.sameField ref (T k).1 (T k).2.1 (T k).2.2.1 ∈ BIG)
theorem fs_get {L : aA} {fs fs' : List Value} (h : fs.map (mv L) = fs'.map some) {k : Nat} {v : Value} (hv : fs[k]? = some v) : ∃ v', fs'[k]? = some v' ∧ mv L v = some v' := by
  have h1 := congrArg (fun z : List (Option Value) => z[k]?) h
  simp only [List.getElem?_map, hv, Option.map_some] at h1
  cases h2 : fs'[k]? with
  | none => rw [h2] at h1; simp at h1
  | some v' => rw [h2] at h1; exact ⟨v', rfl, Option.some.inj h1⟩
theorem fs_set {L : aA} {fs fs' : List Value} (h : fs.map (mv L) = fs'.map some) {k : Nat} {v v' : Value} (hv : mv L v = some v') : (fs.set k v).map (mv L) = (fs'.set k v').map some := by
  rw [List.map_set, List.map_set, h, hv]
theorem mv_fit {L : aA} {v v' : Value} {ty : FieldType} (h : mv L v = some v') (hn : narrow ty v = v) (hf : fits ty v = true) : narrow ty v' = v' ∧ fits ty v' = true := by
  cases v with
  | ref i =>
    obtain ⟨a, -, rfl⟩ := mv_ref h
    cases ty <;> simp [fits, narrow] at hf ⊢
  | retAddr k => cases ty <;> simp [fits] at hf
  | _ => cases Option.some.inj h; exact ⟨hn, hf⟩
section EVH
variable {X : Option (Nat × (Nat → Int32))} {mi : MI} {d b pc pc2 : Nat} {la la2 : aL} {st : List Value} {S : aS} {Q : Option Value → aS → Prop}
theorem Ev_get {a ci j idx : Nat} {fs : List Value} {v : Value} (hd : nx mi.2.1 pc (.getfield idx) 3 pc2) (hf : FG mi.1.cls idx ci j) (ho : S[a]? = some (.inr (ci, fs))) (hv : fs[j]? = some v) (k : Ev X mi d b pc2 la (v :: st) S Q) : Ev X mi d b pc la (.ref a :: st) S Q := by
  intro p l e R s m args below meth c D cA A L ws H locs cells slots Qf ls st' hC hX hW hl hs hc hq hK
  obtain ⟨a1, r1, rfl, hax, hs1⟩ := sr_ref hs
  obtain ⟨hd, rfl⟩ := hd
  obtain ⟨C, T, N, ref, f1, f2, f3, f4⟩ := hf
  obtain ⟨a2, e', g1, g2, g3⟩ := rel_get hW.1 ho
  cases hax.symm.trans g3
  obtain ⟨fs', rfl, g4⟩ := g2
  obtain ⟨v', g5, g6⟩ := fs_get g4 hv
  have hts := hC.2.2.2.2.2.1
  refine va_get (D := D) (ci := ci) hC.1 hC.2.1 hts (cl_ok f1).1 hC.2.2.2.2.1 hC.2.2.2.2.2.2.2.2.1.1 hW.2.1 a g1 f1 j f2 (hts _ f3) ?_ g5 hd (k p l e R s m args below meth c D cA A L ws H locs cells slots Qf ls _ hC hX hW hl (sr_push g6 hs1) hc hq hK)
  rcases f4 with rfl | f4
  · exact fun _ h => h
  · exact fun z h => u_same (hts _ f4) z h
theorem Ev_put {a ci j idx : Nat} {fs fs2 : List Value} {v : Value} {ty : FieldType} (hd : nx mi.2.1 pc (.putfield idx) 3 pc2) (hf : FR mi.1.cls idx ci j ty false) (ho : S[a]? = some (.inr (ci, fs))) (hs2 : lset fs j v = some fs2) (hn : narrow ty v = v) (hfi : fits ty v = true) (k : Ev X mi d b pc2 la st (S.set a (.inr (ci, fs2))) Q) : Ev X mi d b pc la (v :: .ref a :: st) S Q := by
  intro p l e R s m args below meth c D cA A L ws H locs cells slots Qf ls st' hC hX hW hl hs hc hq hK
  obtain ⟨v', r0, rfl, hv, hs0⟩ := sr_cons hs
  obtain ⟨a1, r1, rfl, hax, hs1⟩ := sr_ref hs0
  obtain ⟨hd, rfl⟩ := hd
  obtain ⟨C, T, N, ref, f1, f2, f3, f4, f5, f6, -⟩ := hf
  obtain ⟨a2, e', g1, g2, g3⟩ := rel_get hW.1 ho
  cases hax.symm.trans g3
  obtain ⟨fs', rfl, g4⟩ := g2
  obtain ⟨hl2, rfl⟩ := lset_ok _ _ _ _ hs2
  obtain ⟨c1, ⟨ty0, c2⟩, c3⟩ := cl_ok f1
  obtain ⟨n1, n2⟩ := mv_fit hv hn hfi
  have hts := hC.2.2.2.2.2.1
  have hlen : fs'.length = fs.length := by have := congrArg List.length g4; simpa using this.symm
  refine va_put (D := D) (ci := ci) hC.1 hC.2.1 hts c1 ty0 c2 c3 hC.2.2.2.2.1 hC.2.2.2.2.2.2.2.2.1.1 hW.2.1 hW.2.2.1 hW.2.2.2.1 a g1 f1 j f2 (hts _ f3) ?_ f6 f5 n1 n2 (by rw [hlen]; exact hl2) hd (fun H1 locs1 h1 h2 h3 => k p l e R s m args below meth c D cA A L _ H1 locs1 cells slots Qf ls _ hC hX ⟨rel_set hW.1 g1 ⟨_, rfl, fs_set g4 hv⟩, h1, h2, h3, hW.2.2.2.2⟩ hl hs1 hc hq hK)
  rcases f4 with rfl | f4
  · exact fun _ h => h
  · exact fun z h => u_same (hts _ f4) z h
/-- a final field, in its class' own constructor -/
theorem Ev_putF {a ci j idx : Nat} {fs fs2 : List Value} {v : Value} {ty : FieldType} (hd : nx mi.2.1 pc (.putfield idx) 3 pc2) (hf : FR mi.1.cls idx ci j ty true) (hin : mi.1.name = "<init>") (ho : S[a]? = some (.inr (ci, fs))) (hs2 : lset fs j v = some fs2) (hn : narrow ty v = v) (hfi : fits ty v = true) (k : Ev X mi d b pc2 la st (S.set a (.inr (ci, fs2))) Q) : Ev X mi d b pc la (v :: .ref a :: st) S Q := by
  intro p l e R s m args below meth c D cA A L ws H locs cells slots Qf ls st' hC hX hW hl hs hc hq hK
  obtain ⟨v', r0, rfl, hv, hs0⟩ := sr_cons hs
  obtain ⟨a1, r1, rfl, hax, hs1⟩ := sr_ref hs0
  obtain ⟨hd, rfl⟩ := hd
  obtain ⟨C, T, N, ref, f1, f2, f3, f4, f5, f6, f7⟩ := hf
  obtain ⟨a2, e', g1, g2, g3⟩ := rel_get hW.1 ho
  cases hax.symm.trans g3
  obtain ⟨fs', rfl, g4⟩ := g2
  obtain ⟨hl2, rfl⟩ := lset_ok _ _ _ _ hs2
  obtain ⟨c1, ⟨ty0, c2⟩, c3⟩ := cl_ok f1
  obtain ⟨n1, n2⟩ := mv_fit hv hn hfi
  have hts := hC.2.2.2.2.2.1
  have hlen : fs'.length = fs.length := by have := congrArg List.length g4; simpa using this.symm
  refine va_putF (D := D) (ci := ci) hC.1 hC.2.1 hts c1 ty0 c2 c3 hC.2.2.2.2.1 hC.2.2.2.2.2.2.2.2.1.1 hW.2.1 hW.2.2.1 hW.2.2.2.1 a g1 f1 j f2 (hts _ f3) ?_ f6 (by rw [hC.2.2.2.2.2.2.2.1]; exact hin) (f7 rfl) f5 n1 n2 (by rw [hlen]; exact hl2) hd (fun H1 locs1 h1 h2 h3 => k p l e R s m args below meth c D cA A L _ H1 locs1 cells slots Qf ls _ hC hX ⟨rel_set hW.1 g1 ⟨_, rfl, fs_set g4 hv⟩, h1, h2, h3, hW.2.2.2.2⟩ hl hs1 hc hq hK)
  rcases f4 with rfl | f4
  · exact fun _ h => h
  · exact fun z h => u_same (hts _ f4) z h
theorem Ev_iaload {a n : Nat} {f : Nat → Int32} {i : Int32} (hd : nx mi.2.1 pc (.iaload) 1 pc2) (ho : S[a]? = some (.inl (0, n, .inl f))) (hin : vp_in i n) (k : Ev X mi d b pc2 la (.int (f i.toNatClampNeg) :: st) S Q) : Ev X mi d b pc la (.int i :: .ref a :: st) S Q := by
  intro p l e R s m args below meth c D cA A L ws H locs cells slots Qf ls st' hC hX hW hl hs hc hq hK
  obtain ⟨r0, rfl, hs0⟩ := sr_int hs
  obtain ⟨a1, r1, rfl, hax, hs1⟩ := sr_ref hs0
  obtain ⟨hd, rfl⟩ := hd
  obtain ⟨a2, e', g1, g2, g3⟩ := rel_get hW.1 ho
  cases hax.symm.trans g3
  cases g2
  exact va_iald (D := D) hC.1 hC.2.1 hC.2.2.2.2.2.2.2.2.1.1 hW.2.1 a 0 g1 rfl hin hd (k p l e R s m args below meth c D cA A L ws H locs cells slots Qf ls _ hC hX hW hl (sr_push rfl hs1) hc hq hK)
theorem Ev_zaload {a n : Nat} {f : Nat → Int32} {i : Int32} (hd : nx mi.2.1 pc (.baload) 1 pc2) (ho : S[a]? = some (.inl (2, n, .inl f))) (hin : vp_in i n) (k : Ev X mi d b pc2 la (.int (f i.toNatClampNeg) :: st) S Q) : Ev X mi d b pc la (.int i :: .ref a :: st) S Q := by
  intro p l e R s m args below meth c D cA A L ws H locs cells slots Qf ls st' hC hX hW hl hs hc hq hK
  obtain ⟨r0, rfl, hs0⟩ := sr_int hs
  obtain ⟨a1, r1, rfl, hax, hs1⟩ := sr_ref hs0
  obtain ⟨hd, rfl⟩ := hd
  obtain ⟨a2, e', g1, g2, g3⟩ := rel_get hW.1 ho
  cases hax.symm.trans g3
  cases g2
  exact va_zald (D := D) hC.1 hC.2.1 hC.2.2.2.2.2.2.2.2.1.1 hW.2.1 a 2 g1 rfl hin hd (k p l e R s m args below meth c D cA A L ws H locs cells slots Qf ls _ hC hX hW hl (sr_push rfl hs1) hc hq hK)
theorem Ev_laload {a n : Nat} {f : Nat → Int64} {i : Int32} (hd : nx mi.2.1 pc (.laload) 1 pc2) (ho : S[a]? = some (.inl (1, n, .inr (.inl f)))) (hin : vp_in i n) (k : Ev X mi d b pc2 la (.long (f i.toNatClampNeg) :: st) S Q) : Ev X mi d b pc la (.int i :: .ref a :: st) S Q := by
  intro p l e R s m args below meth c D cA A L ws H locs cells slots Qf ls st' hC hX hW hl hs hc hq hK
  obtain ⟨r0, rfl, hs0⟩ := sr_int hs
  obtain ⟨a1, r1, rfl, hax, hs1⟩ := sr_ref hs0
  obtain ⟨hd, rfl⟩ := hd
  obtain ⟨a2, e', g1, g2, g3⟩ := rel_get hW.1 ho
  cases hax.symm.trans g3
  cases g2
  exact va_lald (D := D) hC.1 hC.2.1 hC.2.2.2.2.2.2.2.2.1.1 hW.2.1 a 1 g1 rfl hin hd (k p l e R s m args below meth c D cA A L ws H locs cells slots Qf ls _ hC hX hW hl (sr_push rfl hs1) hc hq hK)
theorem Ev_iastore {a n : Nat} {f : Nat → Int32} {i : Int32} {x : Int32} (hd : nx mi.2.1 pc (.iastore) 1 pc2) (ho : S[a]? = some (.inl (0, n, .inl f))) (hin : vp_in i n) (k : Ev X mi d b pc2 la st (S.set a (.inl (0, n, .inl (upd f i.toNatClampNeg x)))) Q) : Ev X mi d b pc la (.int x :: .int i :: .ref a :: st) S Q := by
  intro p l e R s m args below meth c D cA A L ws H locs cells slots Qf ls st' hC hX hW hl hs hc hq hK
  obtain ⟨r9, rfl, hs9⟩ := sr_int hs
  obtain ⟨r0, rfl, hs0⟩ := sr_int hs9
  obtain ⟨a1, r1, rfl, hax, hs1⟩ := sr_ref hs0
  obtain ⟨hd, rfl⟩ := hd
  obtain ⟨a2, e', g1, g2, g3⟩ := rel_get hW.1 ho
  cases hax.symm.trans g3
  cases g2
  exact va_iast (D := D) hC.1 hC.2.1 hC.2.2.2.2.2.2.2.2.1.1 hW.2.1 hW.2.2.1 hW.2.2.2.1 a 0 g1 rfl hin hd (fun H1 locs1 h1 h2 h3 => k p l e R s m args below meth c D cA A L _ H1 locs1 cells slots Qf ls _ hC hX ⟨rel_set hW.1 g1 rfl, h1, h2, h3, hW.2.2.2.2⟩ hl hs1 hc hq hK)
theorem Ev_zastore {a n : Nat} {f : Nat → Int32} {i : Int32} {x : Int32} (hd : nx mi.2.1 pc (.bastore) 1 pc2) (ho : S[a]? = some (.inl (2, n, .inl f))) (hin : vp_in i n) (k : Ev X mi d b pc2 la st (S.set a (.inl (2, n, .inl (upd f i.toNatClampNeg (vp_nar .boolean x))))) Q) : Ev X mi d b pc la (.int x :: .int i :: .ref a :: st) S Q := by
  intro p l e R s m args below meth c D cA A L ws H locs cells slots Qf ls st' hC hX hW hl hs hc hq hK
  obtain ⟨r9, rfl, hs9⟩ := sr_int hs
  obtain ⟨r0, rfl, hs0⟩ := sr_int hs9
  obtain ⟨a1, r1, rfl, hax, hs1⟩ := sr_ref hs0
  obtain ⟨hd, rfl⟩ := hd
  obtain ⟨a2, e', g1, g2, g3⟩ := rel_get hW.1 ho
  cases hax.symm.trans g3
  cases g2
  exact va_zast (D := D) hC.1 hC.2.1 hC.2.2.2.2.2.2.2.2.1.1 hW.2.1 hW.2.2.1 hW.2.2.2.1 a 2 g1 rfl hin hd (fun H1 locs1 h1 h2 h3 => k p l e R s m args below meth c D cA A L _ H1 locs1 cells slots Qf ls _ hC hX ⟨rel_set hW.1 g1 rfl, h1, h2, h3, hW.2.2.2.2⟩ hl hs1 hc hq hK)
theorem Ev_lastore {a n : Nat} {f : Nat → Int64} {i : Int32} {x : Int64} (hd : nx mi.2.1 pc (.lastore) 1 pc2) (ho : S[a]? = some (.inl (1, n, .inr (.inl f)))) (hin : vp_in i n) (k : Ev X mi d b pc2 la st (S.set a (.inl (1, n, .inr (.inl (vp_updL f i.toNatClampNeg x))))) Q) : Ev X mi d b pc la (.long x :: .int i :: .ref a :: st) S Q := by
  intro p l e R s m args below meth c D cA A L ws H locs cells slots Qf ls st' hC hX hW hl hs hc hq hK
  obtain ⟨r9, rfl, hs9⟩ := sr_long hs
  obtain ⟨r0, rfl, hs0⟩ := sr_int hs9
  obtain ⟨a1, r1, rfl, hax, hs1⟩ := sr_ref hs0
  obtain ⟨hd, rfl⟩ := hd
  obtain ⟨a2, e', g1, g2, g3⟩ := rel_get hW.1 ho
  cases hax.symm.trans g3
  cases g2
  exact va_last (D := D) hC.1 hC.2.1 hC.2.2.2.2.2.2.2.2.1.1 hW.2.1 hW.2.2.1 hW.2.2.2.1 a 1 g1 rfl hin hd (fun H1 locs1 h1 h2 h3 => k p l e R s m args below meth c D cA A L _ H1 locs1 cells slots Qf ls _ hC hX ⟨rel_set hW.1 g1 rfl, h1, h2, h3, hW.2.2.2.2⟩ hl hs1 hc hq hK)
theorem mq_rf {L : aA} {r r' : Option Nat} (h : mq L r r') : mv L (va_rf r) = some (va_rf r') := by
  cases r with
  | none => rw [show r' = none from h]; rfl
  | some i =>
    obtain ⟨a, h1, rfl⟩ := h
    show (L.2[i]?).map Value.ref = _
    rw [h1]
    rfl
theorem Ev_aaload {a n t : Nat} {f : Nat → Option Nat} {i : Int32} (hd : nx mi.2.1 pc .aaload 1 pc2) (ho : S[a]? = some (.inl (t, n, .inr (.inr (.inr (.inr f)))))) (ht : t = 3 ∨ t = 4 ∨ t = 5) (hin : vp_in i n) (k : Ev X mi d b pc2 la (va_rf (f i.toNatClampNeg) :: st) S Q) : Ev X mi d b pc la (.int i :: .ref a :: st) S Q := by
  intro p l e R s m args below meth c D cA A L ws H locs cells slots Qf ls st' hC hX hW hl hs hc hq hK
  obtain ⟨r0, rfl, hs0⟩ := sr_int hs
  obtain ⟨a1, r1, rfl, hax, hs1⟩ := sr_ref hs0
  obtain ⟨hd, rfl⟩ := hd
  obtain ⟨a2, e', g1, g2, g3⟩ := rel_get hW.1 ho
  cases hax.symm.trans g3
  obtain ⟨f', rfl, g4⟩ := g2
  have hk := k p l e R s m args below meth c D cA A L ws H locs cells slots Qf ls _ hC hX hW hl (sr_push (mq_rf (g4 i.toNatClampNeg)) hs1) hc hq hK
  rcases ht with rfl | rfl | rfl
  · exact va_aldq (D := D) hC.1 hC.2.1 hC.2.2.2.2.2.2.2.2.1.1 hW.2.1 a 3 g1 rfl hin hd hk
  · exact va_aldq (D := D) hC.1 hC.2.1 hC.2.2.2.2.2.2.2.2.1.1 hW.2.1 a 4 g1 rfl hin hd hk
  · exact va_aldq (D := D) hC.1 hC.2.1 hC.2.2.2.2.2.2.2.2.1.1 hW.2.1 a 5 g1 rfl hin hd hk
/-- what may be put into a row of kind t: an object of class ci -/
def AS (t ci : Nat) : Prop := ∃ (C : String) (T : u_T) (N : Nat) (E : String), vwCl[ci]? = some (C, T, N) ∧ (atys (fun _ => 0))[t]? = some (0, .object E) ∧ (C = E ∨ (C, E) ∈ aCA)
theorem Ev_aastore {a n t ci v : Nat} {vs : List Value} {f : Nat → Option Nat} {i : Int32} (hd : nx mi.2.1 pc .aastore 1 pc2) (ho : S[a]? = some (.inl (t, n, .inr (.inr (.inr (.inr f)))))) (hv : S[v]? = some (.inr (ci, vs))) (has : AS t ci) (hin : vp_in i n) (k : Ev X mi d b pc2 la st (S.set a (.inl (t, n, .inr (.inr (.inr (.inr (va_up f i.toNatClampNeg (some v)))))))) Q) : Ev X mi d b pc la (.ref v :: .int i :: .ref a :: st) S Q := by
  intro p l e R s m args below meth c D cA A L ws H locs cells slots Qf ls st' hC hX hW hl hs hc hq hK
  obtain ⟨v1, r9, rfl, hvx, hs9⟩ := sr_ref hs
  obtain ⟨r0, rfl, hs0⟩ := sr_int hs9
  obtain ⟨a1, r1, rfl, hax, hs1⟩ := sr_ref hs0
  obtain ⟨hd, rfl⟩ := hd
  obtain ⟨a2, e', g1, g2, g3⟩ := rel_get hW.1 ho
  cases hax.symm.trans g3
  obtain ⟨f', rfl, g4⟩ := g2
  obtain ⟨v2, ev', q1, q2, q3⟩ := rel_get hW.1 hv
  cases hvx.symm.trans q3
  obtain ⟨vs', rfl, q4⟩ := q2
  obtain ⟨C, T, N, E, c1, c2, c3⟩ := has
  have hEX := hC.2.2.2.2.2.2.2.2.1
  have ht : (atys cA)[t]? = some (cA t, .object E) := by
    match t, c2 with
    | 0, c2 => cases c2
    | 1, c2 => cases c2
    | 2, c2 => cases c2
    | 3, c2 => cases c2; rfl
    | 4, c2 => cases c2; rfl
    | 5, c2 => cases c2; rfl
    | n + 6, c2 => simp [atys] at c2
  have hany : va_Any E s H v1 := by
    refine va_rAny hEX.1 hW.2.1 q1 c1 (fun comp c0 h1 h2 => ?_)
    rcases c3 with rfl | c3
    · cases h1.symm.trans h2
      exact va_assign (hEX.1.1 ci _ c1).2 |> fun z => by
        have := (hEX.1.1 ci _ c1).2.1
        cases h2.symm.trans this
        exact z
    · obtain ⟨c9, t9, f1, f2, f3⟩ := Cond.castable_spec (va_Nw.use (A := args) rfl (hEX.2.2.2.1 _ c3))
      cases h2.symm.trans f1
      cases h1.symm.trans f2
      exact f3
  refine va_astqM (D := D) hC.1 hC.2.1 hEX.1 hW.2.1 hW.2.2.1 hW.2.2.2.1 a t g1 ht hany hin hd (fun H1 locs1 h1 h2 h3 => k p l e R s m args below meth c D cA A L _ H1 locs1 cells slots Qf ls _ hC hX ⟨rel_set hW.1 g1 ⟨_, rfl, fun j => ?_⟩, h1, h2, h3, hW.2.2.2.2⟩ hl hs1 hc hq hK)
  by_cases hj : j = i.toNatClampNeg
  · subst hj
    simp only [va_up, if_pos]
    exact ⟨v1, hvx, rfl⟩
  · simp only [va_up, if_neg hj]
    exact g4 j
theorem Ev_alen {a t n : Nat} {x : vp_A} {z : Int32} (hd : nx mi.2.1 pc .arraylength 1 pc2) (ho : S[a]? = some (.inl (t, x))) (ht : t < 6) (hn : x.1 = n) (hz : Int32.ofNat n = z) (k : Ev X mi d b pc2 la (.int z :: st) S Q) : Ev X mi d b pc la (.ref a :: st) S Q := by
  intro p l e R s m args below meth c D cA A L ws H locs cells slots Qf ls st' hC hX hW hl hs hc hq hK
  obtain ⟨a1, r1, rfl, hax, hs1⟩ := sr_ref hs
  obtain ⟨hd, rfl⟩ := hd
  obtain ⟨a2, e', g1, g2, g3⟩ := rel_get hW.1 ho
  cases hax.symm.trans g3
  have he : ∃ x2 : vp_A, e' = .inl (cA t, x2) ∧ x2.1 = x.1 := by
    obtain ⟨nx1, f | f | f | f | f⟩ := x
    · cases g2; exact ⟨_, rfl, rfl⟩
    · cases g2; exact ⟨_, rfl, rfl⟩
    · cases g2; exact ⟨_, rfl, rfl⟩
    · cases g2; exact ⟨_, rfl, rfl⟩
    · obtain ⟨f', rfl, -⟩ := g2; exact ⟨_, rfl, rfl⟩
  obtain ⟨x2, rfl, hx2⟩ := he
  have hk := k p l e R s m args below meth c D cA A L ws H locs cells slots Qf ls _ hC hX hW hl (sr_push (v := .int z) (v' := .int z) rfl hs1) hc hq hK
  have ht : ∃ ty, (atys cA)[t]? = some (cA t, ty) := by
    match t, ht with
    | 0, _ => exact ⟨_, rfl⟩
    | 1, _ => exact ⟨_, rfl⟩
    | 2, _ => exact ⟨_, rfl⟩
    | 3, _ => exact ⟨_, rfl⟩
    | 4, _ => exact ⟨_, rfl⟩
    | 5, _ => exact ⟨_, rfl⟩
    | n + 6, h => omega
  obtain ⟨ty, ht⟩ := ht
  exact va_alen (D := D) hC.1 hC.2.1 hC.2.2.2.2.2.2.2.2.1.1 hW.2.1 a t g1 ht (by rw [hx2, hn]; exact hz) hd hk
/-- the script -/
theorem Ev_sld {n q : Nat} {xs : Nat → Int32} {i : Int32} (hx : X = some (n, xs)) (hd : nx mi.2.1 pc .iaload 1 pc2) (hin : vp_in i n) (k : Ev X mi d b pc2 la (.int (xs i.toNatClampNeg) :: st) S Q) : Ev X mi d b pc la (.int i :: .retAddr q :: st) S Q := by
  intro p l e R s m args below meth c D cA A L ws H locs cells slots Qf ls st' hC hX hW hl hs hc hq hK
  obtain ⟨r0, rfl, hs0⟩ := sr_int hs
  obtain ⟨r1, rfl, hs1⟩ := sr_scr hs0
  obtain ⟨hd, rfl⟩ := hd
  obtain ⟨x1, x2, x3⟩ := hX n xs hx
  exact va_sld hC.1 hC.2.1 x1 x2 x3 hW.2.2.2.1 hin hd (k p l e R s m args below meth c D cA A L ws H locs cells slots Qf ls _ hC hX hW hl (sr_push rfl hs1) hc hq hK)
theorem Ev_slen {n q : Nat} {xs : Nat → Int32} (hx : X = some (n, xs)) (hd : nx mi.2.1 pc .arraylength 1 pc2) (k : Ev X mi d b pc2 la (.int (Int32.ofNat n) :: st) S Q) : Ev X mi d b pc la (.retAddr q :: st) S Q := by
  intro p l e R s m args below meth c D cA A L ws H locs cells slots Qf ls st' hC hX hW hl hs hc hq hK
  obtain ⟨r1, rfl, hs1⟩ := sr_scr hs
  obtain ⟨hd, rfl⟩ := hd
  obtain ⟨x1, x2, x3⟩ := hX n xs hx
  exact va_slen hC.1 hC.2.1 x1 x2 x3 hW.2.2.2.1 hd (k p l e R s m args below meth c D cA A L ws H locs cells slots Qf ls _ hC hX hW hl (sr_push rfl hs1) hc hq hK)
/-- new objects -/
def NR (own : String) (idx ci : Nat) (fs : List Value) : Prop := ∃ (C : String) (T : u_T) (N : Nat) (ty : Nat → FieldType), vwCl[ci]? = some (C, T, N) ∧ Cond.classLink own idx C ∈ BIG ∧ Cond.instantiable C N ∈ BIG ∧ Cond.initialized C ∈ BIG ∧ (∀ k, k < N → parseFieldDescriptor (T k).2.2.1 = some (ty k)) ∧ (∀ j, j < N → defaultValue (ty j) = vp_V fs j) ∧ N ≤ 300 ∧ fs.all (fun v => match v with | .ref _ => false | .retAddr _ => false | _ => true) = true
theorem fs_plain {L : aA} {fs : List Value} (h : fs.all (fun v => match v with | .ref _ => false | .retAddr _ => false | _ => true) = true) : fs.map (mv L) = fs.map some := by
  apply List.map_congr_left
  intro v hv
  have := List.all_eq_true.mp h v hv
  cases v <;> first | rfl | simp at this
theorem Ev_new {ci idx : Nat} {fs : List Value} (hd : nx mi.2.1 pc (.new idx) 3 pc2) (hn : NR mi.1.cls idx ci fs) (k : Ev X mi d b pc2 la (.ref S.length :: st) (S ++ [.inr (ci, fs)]) Q) : Ev X mi d (b + 1) pc la st S Q := by
  intro p l e R s m args below meth c D cA A L ws H locs cells slots Qf ls st' hC hX hW hl hs hc hq hK
  obtain ⟨hd, rfl⟩ := hd
  obtain ⟨C, T, N, ty, c1, c2, c3, c4, c5, c6, c7, c8⟩ := hn
  have hts := hC.2.2.2.2.2.1
  refine va_new (D := D) (ci := ci) hC.1 hC.2.1 hts (cl_ok c1).1 ty c5 hC.2.2.2.2.1 (hts _ c2) (hts _ c3) (hts _ c4) hC.2.2.2.2.2.2.2.2.1.1 hW.2.1 hW.2.2.1 hW.2.2.2.1 hW.2.2.2.2 c1 c6 (by omega) (by omega) hd (fun q H1 h1 h2 h3 => ?_)
  refine k p l e R s m args below meth c D cA A (L.1, L.2 ++ [q]) _ H1 locs (cells + 1) (slots + N) Qf ls _ hC hX ⟨rel_push hW.1 ⟨_, rfl, fs_plain c8⟩, h1, h2, h3, hW.2.2.2.2⟩ (lr_ex hl) (sr_push ?_ (sr_ex hs)) (by omega) (by omega) (hK.ex [q])
  simp only [mv, rel_new hW.1 q, Option.map_some]
theorem ac_eq {cA : Nat → ClassId} {U : State} {D : va_G} {tys : List (ClassId × FieldType)} {t : Nat} {c1 : ClassId} {ty : FieldType} (hK : va_K D vwCl (tys ++ [(c1, ty)]) U) (hA : va_K D vwCl (atys cA) U) (ht : (atys cA)[t]? = some (cA t, ty)) (hty : ty = .int ∨ ty = .long ∨ ty = .boolean ∨ ∃ C, ty = .object C) : c1 = cA t := by
  have h1 := (hK.2 tys.length (c1, ty) (by simp)).2
  have h2 := (hA.2 t _ ht).2
  rcases hty with rfl | rfl | rfl | ⟨C, rfl⟩
  · exact Option.some.inj (h1.symm.trans h2)
  · exact Option.some.inj (h1.symm.trans h2)
  · exact Option.some.inj (h1.symm.trans h2)
  · obtain ⟨_, _, _, _, _, f1⟩ := h1
    obtain ⟨_, _, _, _, _, f2⟩ := h2
    exact Option.some.inj (f1.symm.trans f2)
theorem Ev_newarr_int {n : Int32} {N : Nat} (hd : nx mi.2.1 pc (.newarray .int) 2 pc2) (hw : Cond.arrayClass .int ∈ BIG) (hn : ¬ n < 0) (hN : n.toNatClampNeg = N) (hN2 : N ≤ 300) (k : Ev X mi d b pc2 la (.ref S.length :: st) (S ++ [.inl (0, N, .inl (fun _ => 0))]) Q) : Ev X mi d (b + 1) pc la (.int n :: st) S Q := by
  intro p l e R s m args below meth c D cA A L ws H locs cells slots Qf ls st' hC hX hW hl hs hc hq hK
  obtain ⟨r0, rfl, hs0⟩ := sr_int hs
  obtain ⟨hd, rfl⟩ := hd
  have hts := hC.2.2.2.2.2.1
  have hby : N * componentBytes .int ≤ 536870912 := by
    have h9 : componentBytes .int ≤ 8 := by decide
    have h8 := Nat.mul_le_mul hN2 h9
    omega
  refine va_newa (D := D) (atype := .int) (ty := .int) (a0 := (N, .inl (fun _ => 0))) (N' := N) hC.1 hC.2.1 (hts _ hw) rfl hC.2.2.2.2.2.2.2.2.1.1 hW.2.1 hW.2.2.1 hW.2.2.2.1 hW.2.2.2.2 (fun _ => rfl) hn hN hby (by omega) (by omega) hd (fun q c1 H1 h0 h1 h2 h3 => ?_)
  obtain rfl := ac_eq (t := 0) h0 hC.2.2.2.2.2.2.2.2.1.1 rfl (Or.inl rfl)
  refine k p l e R s m args below meth c D cA A (L.1, L.2 ++ [q]) _ H1 locs (cells + 1) (slots + N) Qf ls _ hC hX ⟨rel_push hW.1 rfl, h1, h2, h3, hW.2.2.2.2⟩ (lr_ex hl) (sr_push ?_ (sr_ex hs0)) (by omega) (by omega) (hK.ex [q])
  simp only [mv, rel_new hW.1 q, Option.map_some]
theorem Ev_newarr_long {n : Int32} {N : Nat} (hd : nx mi.2.1 pc (.newarray .long) 2 pc2) (hw : Cond.arrayClass .long ∈ BIG) (hn : ¬ n < 0) (hN : n.toNatClampNeg = N) (hN2 : N ≤ 300) (k : Ev X mi d b pc2 la (.ref S.length :: st) (S ++ [.inl (1, N, .inr (.inl (fun _ => 0)))]) Q) : Ev X mi d (b + 1) pc la (.int n :: st) S Q := by
  intro p l e R s m args below meth c D cA A L ws H locs cells slots Qf ls st' hC hX hW hl hs hc hq hK
  obtain ⟨r0, rfl, hs0⟩ := sr_int hs
  obtain ⟨hd, rfl⟩ := hd
  have hts := hC.2.2.2.2.2.1
  have hby : N * componentBytes .long ≤ 536870912 := by
    have h9 : componentBytes .long ≤ 8 := by decide
    have h8 := Nat.mul_le_mul hN2 h9
    omega
  refine va_newa (D := D) (atype := .long) (ty := .long) (a0 := (N, .inr (.inl (fun _ => 0)))) (N' := N) hC.1 hC.2.1 (hts _ hw) rfl hC.2.2.2.2.2.2.2.2.1.1 hW.2.1 hW.2.2.1 hW.2.2.2.1 hW.2.2.2.2 (fun _ => rfl) hn hN hby (by omega) (by omega) hd (fun q c1 H1 h0 h1 h2 h3 => ?_)
  obtain rfl := ac_eq (t := 1) h0 hC.2.2.2.2.2.2.2.2.1.1 rfl (Or.inr (Or.inl rfl))
  refine k p l e R s m args below meth c D cA A (L.1, L.2 ++ [q]) _ H1 locs (cells + 1) (slots + N) Qf ls _ hC hX ⟨rel_push hW.1 rfl, h1, h2, h3, hW.2.2.2.2⟩ (lr_ex hl) (sr_push ?_ (sr_ex hs0)) (by omega) (by omega) (hK.ex [q])
  simp only [mv, rel_new hW.1 q, Option.map_some]
theorem Ev_newarr_bool {n : Int32} {N : Nat} (hd : nx mi.2.1 pc (.newarray .boolean) 2 pc2) (hw : Cond.arrayClass .boolean ∈ BIG) (hn : ¬ n < 0) (hN : n.toNatClampNeg = N) (hN2 : N ≤ 300) (k : Ev X mi d b pc2 la (.ref S.length :: st) (S ++ [.inl (2, N, .inl (fun _ => 0))]) Q) : Ev X mi d (b + 1) pc la (.int n :: st) S Q := by
  intro p l e R s m args below meth c D cA A L ws H locs cells slots Qf ls st' hC hX hW hl hs hc hq hK
  obtain ⟨r0, rfl, hs0⟩ := sr_int hs
  obtain ⟨hd, rfl⟩ := hd
  have hts := hC.2.2.2.2.2.1
  have hby : N * componentBytes .boolean ≤ 536870912 := by
    have h9 : componentBytes .boolean ≤ 8 := by decide
    have h8 := Nat.mul_le_mul hN2 h9
    omega
  refine va_newa (D := D) (atype := .boolean) (ty := .boolean) (a0 := (N, .inl (fun _ => 0))) (N' := N) hC.1 hC.2.1 (hts _ hw) rfl hC.2.2.2.2.2.2.2.2.1.1 hW.2.1 hW.2.2.1 hW.2.2.2.1 hW.2.2.2.2 (fun _ => rfl) hn hN hby (by omega) (by omega) hd (fun q c1 H1 h0 h1 h2 h3 => ?_)
  obtain rfl := ac_eq (t := 2) h0 hC.2.2.2.2.2.2.2.2.1.1 rfl (Or.inr (Or.inr (Or.inl rfl)))
  refine k p l e R s m args below meth c D cA A (L.1, L.2 ++ [q]) _ H1 locs (cells + 1) (slots + N) Qf ls _ hC hX ⟨rel_push hW.1 rfl, h1, h2, h3, hW.2.2.2.2⟩ (lr_ex hl) (sr_push ?_ (sr_ex hs0)) (by omega) (by omega) (hK.ex [q])
  simp only [mv, rel_new hW.1 q, Option.map_some]
theorem Ev_anewarr {n : Int32} {N idx t : Nat} {C : String} (hd : nx mi.2.1 pc (.anewarray idx) 3 pc2) (hw : Cond.classLink mi.1.cls idx C ∈ BIG) (hao : C ∈ aAO) (ht : ∀ cA : Nat → ClassId, (atys cA)[t]? = some (cA t, .object C)) (hn : ¬ n < 0) (hN : n.toNatClampNeg = N) (hN2 : N ≤ 300) (k : Ev X mi d b pc2 la (.ref S.length :: st) (S ++ [.inl (t, N, .inr (.inr (.inr (.inr (fun _ => none)))))]) Q) : Ev X mi d (b + 1) pc la (.int n :: st) S Q := by
  intro p l e R s m args below meth c D cA A L ws H locs cells slots Qf ls st' hC hX hW hl hs hc hq hK
  obtain ⟨r0, rfl, hs0⟩ := sr_int hs
  obtain ⟨hd, rfl⟩ := hd
  have hts := hC.2.2.2.2.2.1
  have hEX := hC.2.2.2.2.2.2.2.2.1
  refine va_newq (D := D) (N' := N) hC.1 hC.2.1 hC.2.2.2.2.1 (hts _ hw) (hEX.2.1 C hao) hEX.1 hW.2.1 hW.2.2.1 hW.2.2.2.1 hW.2.2.2.2 hn hN (by omega) (by omega) (by omega) hd (fun q c1 H1 h0 h1 h2 h3 => ?_)
  obtain rfl := ac_eq (t := t) h0 hEX.1 (ht cA) (Or.inr (Or.inr (Or.inr ⟨C, rfl⟩)))
  refine k p l e R s m args below meth c D cA A (L.1, L.2 ++ [q]) _ H1 locs (cells + 1) (slots + N) Qf ls _ hC hX ⟨rel_push hW.1 ⟨_, rfl, fun _ => rfl⟩, h1, h2, h3, hW.2.2.2.2⟩ (lr_ex hl) (sr_push ?_ (sr_ex hs0)) (by omega) (by omega) (hK.ex [q])
  simp only [mv, rel_new hW.1 q, Option.map_some]
/-- instanceof of an object of class ci -/
def IR (own : String) (idx ci : Nat) (r : Int32) : Prop := ∃ (C : String) (T : u_T) (N : Nat) (nm : String), vwCl[ci]? = some (C, T, N) ∧ Cond.classLink own idx nm ∈ BIG ∧ ((r = 1 ∧ (C = nm ∨ (C, nm) ∈ aCA)) ∨ (r = 0 ∧ (C, nm) ∈ aNC))
theorem Ev_inst {a ci idx : Nat} {fs : List Value} {r : Int32} (hd : nx mi.2.1 pc (.instanceof idx) 3 pc2) (hi : IR mi.1.cls idx ci r) (ho : S[a]? = some (.inr (ci, fs))) (k : Ev X mi d b pc2 la (.int r :: st) S Q) : Ev X mi d b pc la (.ref a :: st) S Q := by
  intro p l e R s m args below meth c D cA A L ws H locs cells slots Qf ls st' hC hX hW hl hs hc hq hK
  obtain ⟨a1, r1, rfl, hax, hs1⟩ := sr_ref hs
  obtain ⟨hd, rfl⟩ := hd
  obtain ⟨C, T, N, nm, c1, c2, c3⟩ := hi
  obtain ⟨a2, e', g1, g2, g3⟩ := rel_get hW.1 ho
  cases hax.symm.trans g3
  obtain ⟨fs', rfl, g4⟩ := g2
  have hts := hC.2.2.2.2.2.1
  have hEX := hC.2.2.2.2.2.2.2.2.1
  have hr := va_recv hEX.1 hW.2.1 c1 g1
  have hk := k p l e R s m args below meth c D cA A L ws H locs cells slots Qf ls _ hC hX hW hl (sr_push (v := .int r) (v' := .int r) rfl hs1) hc hq hK
  rcases c3 with ⟨rfl, rfl | c3⟩ | ⟨rfl, c3⟩
  · exact va_instS hC.1 hC.2.1 hC.2.2.2.2.1 (hts _ c2) (hEX.1.1 ci _ c1).2 hr hd hk
  · exact va_instY hC.1 hC.2.1 hC.2.2.2.2.1 (hts _ c2) (hEX.2.2.2.1 _ c3) hr hd hk
  · exact va_instNo hC.1 hC.2.1 hC.2.2.2.2.1 (hts _ c2) (hEX.2.2.1 _ c3) hr hd hk
/-- Object's own constructor -/
theorem Ev_objInit {a idx : Nat} (hd : nx mi.2.1 pc (.invokespecial idx) 3 pc2) (hw : Cond.methodLink mi.1.cls idx objectInit ∈ BIG) (h8 : (st.map fun v => v.category).sum ≤ 8) (k : Ev X mi (d + 1) b pc2 la st S Q) : Ev X mi (d + 1) b pc la (.ref a :: st) S Q := by
  intro p l e R s m args below meth c D cA A L ws H locs cells slots Qf ls st' hC hX hW hl hs hc hq hK
  obtain ⟨a1, r1, rfl, hax, hs1⟩ := sr_ref hs
  obtain ⟨hd, rfl⟩ := hd
  have hts := hC.2.2.2.2.2.1
  have hfr := hC.2.2.2.2.2.2.2.2.2.1
  have hlo := hC.2.2.2.2.2.2.2.2.2.2
  obtain ⟨h0, lc, h1, h2⟩ := id hl
  refine W.objInit hC.1 hC.2.1 hC.2.2.2.2.1 (hts _ hw) (hts _ obj_inst) (hts _ obj_code) rfl (by rw [hC.2.2.2.1]; exact h1.1) rfl hd (by omega) ?_ (k p l e R s m args below meth c D cA A L ws H locs cells slots Qf ls _ hC hX hW hl hs1 hc hq hK)
  have h9 := lv_room (m := m) (pc := pc) (ls := ls) (rest := .ref a1 :: r1) (st := r1) (by rw [sr_cat hs1]; exact h8)
  omega
/-- System.arraycopy between rows of ints, or of longs (perhaps the same) -/
theorem Ev_copyi {a a0 n0 n1 idx : Nat} {f g : Nat → Int32} {sp dp n : Int32} (hd : nx mi.2.1 pc (.invokestatic idx) 3 pc2) (hw : Cond.methodLink mi.1.cls idx arraycopyName ∈ BIG) (h8 : (st.map fun v => v.category).sum ≤ 8) (ho0 : S[a0]? = some (.inl (0, n0, .inl f))) (ho1 : S[a]? = some (.inl (0, n1, .inl g))) (h1 : ¬ sp < 0) (h2 : ¬ dp < 0) (h3 : ¬ n < 0) (h4 : sp.toNatClampNeg + n.toNatClampNeg ≤ n0) (h5 : dp.toNatClampNeg + n.toNatClampNeg ≤ n1) (k : Ev X mi (d + 1) b pc2 la st (S.set a (.inl (0, n1, .inl (va_cpy f g sp.toNatClampNeg dp.toNatClampNeg n.toNatClampNeg)))) Q) : Ev X mi (d + 1) b pc la (.int n :: .int dp :: .ref a :: .int sp :: .ref a0 :: st) S Q := by
  intro p l e R s m args below meth c D cA A L ws H locs cells slots Qf ls st' hC hX hW hl hs hc hq hK
  obtain ⟨r0, rfl, hs0⟩ := sr_int hs
  obtain ⟨r1, rfl, hs1⟩ := sr_int hs0
  obtain ⟨b1, r2, rfl, hax, hs2⟩ := sr_ref hs1
  obtain ⟨r3, rfl, hs3⟩ := sr_int hs2
  obtain ⟨b0, r4, rfl, hax0, hs4⟩ := sr_ref hs3
  obtain ⟨hd, rfl⟩ := hd
  obtain ⟨a2, e', g1, g2, g3⟩ := rel_get hW.1 ho1
  cases hax.symm.trans g3
  cases g2
  obtain ⟨a3, e', g1b, g2b, g3b⟩ := rel_get hW.1 ho0
  cases hax0.symm.trans g3b
  cases g2b
  have hts := hC.2.2.2.2.2.1
  have hfr := hC.2.2.2.2.2.2.2.2.2.1
  have hlo := hC.2.2.2.2.2.2.2.2.2.2
  obtain ⟨h0, lc, hl1, hl2⟩ := id hl
  refine va_copyi (D := D) hC.1 hC.2.1 (by rw [hC.2.2.2.1]; exact hl1.1.symm) hC.2.2.2.2.1 (hts _ hw) (hts _ cpy_nat) (hts _ cpy_sta) (hts _ cpy_ini) hC.2.2.2.2.2.2.2.2.1.1 hW.2.1 hW.2.2.1 hW.2.2.2.1 a0 a 0 0 (ty := .int) g1b g1 rfl rfl rfl h1 h2 h3 h4 h5 (fun _ _ => rfl) (by omega) ?_ hd (fun H1 locs1 z1 z2 z3 => k p l e R s m args below meth c D cA A L _ H1 locs1 cells slots Qf ls _ hC hX ⟨rel_set hW.1 g1 rfl, z1, z2, z3, hW.2.2.2.2⟩ hl hs4 hc hq hK)
  rw [sr_cat hs4]
  have : nativeFrameWords "java/lang/System" "arraycopy" 5 + 11 ≤ 52 := by decide +kernel
  omega
theorem Ev_copyl {a a0 n0 n1 idx : Nat} {f g : Nat → Int64} {sp dp n : Int32} (hd : nx mi.2.1 pc (.invokestatic idx) 3 pc2) (hw : Cond.methodLink mi.1.cls idx arraycopyName ∈ BIG) (h8 : (st.map fun v => v.category).sum ≤ 8) (ho0 : S[a0]? = some (.inl (1, n0, .inr (.inl f)))) (ho1 : S[a]? = some (.inl (1, n1, .inr (.inl g)))) (h1 : ¬ sp < 0) (h2 : ¬ dp < 0) (h3 : ¬ n < 0) (h4 : sp.toNatClampNeg + n.toNatClampNeg ≤ n0) (h5 : dp.toNatClampNeg + n.toNatClampNeg ≤ n1) (k : Ev X mi (d + 1) b pc2 la st (S.set a (.inl (1, n1, .inr (.inl (va_cpy f g sp.toNatClampNeg dp.toNatClampNeg n.toNatClampNeg))))) Q) : Ev X mi (d + 1) b pc la (.int n :: .int dp :: .ref a :: .int sp :: .ref a0 :: st) S Q := by
  intro p l e R s m args below meth c D cA A L ws H locs cells slots Qf ls st' hC hX hW hl hs hc hq hK
  obtain ⟨r0, rfl, hs0⟩ := sr_int hs
  obtain ⟨r1, rfl, hs1⟩ := sr_int hs0
  obtain ⟨b1, r2, rfl, hax, hs2⟩ := sr_ref hs1
  obtain ⟨r3, rfl, hs3⟩ := sr_int hs2
  obtain ⟨b0, r4, rfl, hax0, hs4⟩ := sr_ref hs3
  obtain ⟨hd, rfl⟩ := hd
  obtain ⟨a2, e', g1, g2, g3⟩ := rel_get hW.1 ho1
  cases hax.symm.trans g3
  cases g2
  obtain ⟨a3, e', g1b, g2b, g3b⟩ := rel_get hW.1 ho0
  cases hax0.symm.trans g3b
  cases g2b
  have hts := hC.2.2.2.2.2.1
  have hfr := hC.2.2.2.2.2.2.2.2.2.1
  have hlo := hC.2.2.2.2.2.2.2.2.2.2
  obtain ⟨h0, lc, hl1, hl2⟩ := id hl
  refine va_copyl (D := D) hC.1 hC.2.1 (by rw [hC.2.2.2.1]; exact hl1.1.symm) hC.2.2.2.2.1 (hts _ hw) (hts _ cpy_nat) (hts _ cpy_sta) (hts _ cpy_ini) hC.2.2.2.2.2.2.2.2.1.1 hW.2.1 hW.2.2.1 hW.2.2.2.1 a0 a 1 1 (ty := .long) g1b g1 rfl rfl rfl h1 h2 h3 h4 h5 (fun _ _ => rfl) (by omega) ?_ hd (fun H1 locs1 z1 z2 z3 => k p l e R s m args below meth c D cA A L _ H1 locs1 cells slots Qf ls _ hC hX ⟨rel_set hW.1 g1 rfl, z1, z2, z3, hW.2.2.2.2⟩ hl hs4 hc hq hK)
  rw [sr_cat hs4]
  have : nativeFrameWords "java/lang/System" "arraycopy" 5 + 11 ≤ 52 := by decide +kernel
  omega
end EVH
end
section
/-! ===== methods, calls ===== -/
def ov (L : aA) (v v' : Option Value) : Prop := match v with
  | none => v' = none
  | some u => ∃ u', mv L u = some u' ∧ v' = some u'
def PM (D : va_G) (cA : Nat → ClassId) (L : aA) (ws : va_W) (sz : Nat) (Q : Option Value → aS → Prop) : State → Outcome → State → Prop := fun st oc t =>
  (∃ (v v' : Option Value) (S' : aS) (M : List Nat) (ws' : va_W), oc = .returned v' ∧ Q v S' ∧ ov (L.1, L.2 ++ M) v v' ∧ rel cA (L.1, L.2 ++ M) S' ws' ∧ va_P D vwCl ws' t.heap ∧ va_D (va_A ws sz) ws') ∧ va_F (va_A ws sz) st t
abbrev rmOf (d b : Nat) : Room := { frames := d, cells := b, slots := 300 * b, locals := 60 * d }
abbrev wsOf (mi : MI) : List Cond := Cond.code mi.1 mi.2.1 mi.2.2.1 mi.2.2.2 :: BIG
def pcOf (D : va_G) (cA : Nat → ClassId) (ws : va_W) (as : List Value) (sz : Nat) : Array Value → State → Prop := va_Pc as (fun U => U.heap.size = sz ∧ va_P D vwCl ws U.heap ∧ va_D (fun _ => True) ws ∧ EX D cA U)
/-- A METHOD'S RUN: called with as over the store S it comes back with Q; d calls deep at most, b cells more at most -/
def Mth (mi : MI) (d b : Nat) (as : List Value) (S : aS) (Q : Option Value → aS → Prop) : Prop :=
  ∀ (l : Launch) (D : va_G) (cA : Nat → ClassId) (L : aA) (ws : va_W) (as' : List Value) (sz : Nat), rel cA L S ws → sr L as as' →
    Met l mi.1 (wsOf mi) (rmOf d b) (pcOf D cA ws as' sz) (fun _ => PM D cA L ws sz Q) b (300 * b) (va_A ws sz)
theorem Mth.mono {mi : MI} {d b : Nat} {as : List Value} {S : aS} {Q Q2 : Option Value → aS → Prop} (h : ∀ v S2, Q v S2 → Q2 v S2) (k : Mth mi d b as S Q) : Mth mi d b as S Q2 := by
  intro l D cA L ws as' sz h1 h2 p e ha hc hk s m args below hf hfit hheap hT
  obtain ⟨t, o, z1, z2, z3, ⟨⟨⟨v, v', S', M, ws', q1, q2, q3⟩, q4⟩, q5⟩⟩ := k l D cA L ws as' sz h1 h2 p e ha hc hk s m args below hf hfit hheap hT
  exact ⟨t, o, z1, z2, z3, ⟨⟨⟨v, v', S', M, ws', q1, h _ _ q2, q3⟩, q4⟩, q5⟩⟩
theorem Mth_of {mi : MI} {d b : Nat} {as : List Value} {S : aS} {Q : Option Value → aS → Prop} {la : aL} (hy : plainName mi.1.cls = true) (ha : aini as mi.2.2.1 = some la) (k : Ev none mi d b 0 la [] S Q) : Mth mi d b as S Q := by
  intro l D cA L ws as' sz hrel hsr
  refine Met.ofW (cc := mi.2.1) (maxL := mi.2.2.1) (ret := mi.2.2.2) hy rfl ?_
  intro p e s m args below meth c s₁ B hml hv
  obtain ⟨rfl, hsz, hP, hD0, hEX⟩ := hv
  have hts := atoms_spec (ws := wsOf mi) B.pre
  have hown : s.vm.findClass mi.1.cls = some m.cls := findClass_of_methodNamed B.named
  have hlocks := B.notSynchronized
  subst hsz
  have hD := hD0.self (sz := s.heap.size)
  obtain ⟨a1, a2, a3⟩ := aini_ok as as' mi.2.2.1 0 la hsr ha
  have hl := lv_entry as' (n := mi.2.2.1) a2
  rw [lg_entry_eq]
  refine k p l e _ s m as'.toArray below meth c D cA (va_A ws s.heap.size) L ws s.heap [] 0 0 _ _ [] ⟨B.exec, B.bytes, B.returns, hml, hown, fun w hw => hts w (List.mem_cons_of_mem _ hw), hlocks, (name_of_methodNamed B.named B.method).1, hEX, Nat.le_refl _, Nat.le_refl _⟩ (fun n xs h => by cases h) ⟨hrel, hP, hD, va_S.rf, fun q h => Or.inr h⟩ ⟨a1, _, hl, fun i v hv => ?_⟩ rfl (by show 0 + b ≤ b; omega) (by show 0 + 300 * b ≤ 300 * b; omega) ?_
  · obtain ⟨v', z1, z2⟩ := a3 i v hv
    exact ⟨v', z1, by rw [Nat.zero_add] at z2; exact z2⟩
  · intro v S' M ws' H' locs' cells' slots' g hQ hW hc hq hR
    refine W.widen (k := b) (n := 300 * b) hc hq ?_
    obtain ⟨pc, ls, hR⟩ := hR
    rcases hR with ⟨x, ty, rfl, r1, r2, r3, rfl⟩ | ⟨x, rfl, r1, r3, rfl⟩ | ⟨u, u', n, rfl, r0, r1, r2, r3, rfl⟩ | ⟨rfl, r1, r3, rfl⟩
    · exact W.zret (v := x) (ty := ty) B.exec B.bytes (B.returns.trans r1) r2 (fun t ht _ => ⟨⟨_, _, S', M, ws', rfl, hQ, ⟨_, rfl, rfl⟩, hW.1, by rw [ht]; exact hW.2.1, hW.2.2.1⟩, hW.2.2.2.1.F ht⟩) hW.2.2.2.1.2.2 r3
    · exact W.lret (v := x) B.exec B.bytes (B.returns.trans r1) (fun t ht _ => ⟨⟨_, _, S', M, ws', rfl, hQ, ⟨_, rfl, rfl⟩, hW.1, by rw [ht]; exact hW.2.1, hW.2.2.1⟩, hW.2.2.2.1.F ht⟩) hW.2.2.2.1.2.2 r3
    · exact W.aret (v := u') (rt := .object n) B.exec B.bytes (B.returns.trans r2) (Or.inl ⟨n, rfl⟩) r1 (fun t ht _ => ⟨⟨_, _, S', M, ws', rfl, hQ, ⟨_, r0, rfl⟩, hW.1, by rw [ht]; exact hW.2.1, hW.2.2.1⟩, hW.2.2.2.1.F ht⟩) hW.2.2.2.1.2.2 r3
    · exact W.vret B.exec B.bytes (B.returns.trans r1) (fun t ht _ => ⟨⟨_, _, S', M, ws', rfl, hQ, rfl, hW.1, by rw [ht]; exact hW.2.1, hW.2.2.1⟩, hW.2.2.2.1.F ht⟩) hW.2.2.2.1.2.2 r3
/-- behind a call -/
theorem Ev_go {X : Option (Nat × (Nat → Int32))} {mi : MI} {d b bc pc : Nat} {la : aL} {rest : List Value} {S : aS} {Q Q1 : Option Value → aS → Prop} (k : ∀ v S2, Q1 v S2 → Ev X mi d b (pc + 3) la (pu v rest) S2 Q)
    {p : Program} {l : Launch} {e : Env} {R : Room} {s : State} {m : MethodId} {args : Array Value} {below : List Frame} {meth : Method} {c : Code} {D : va_G} {cA : Nat → ClassId} {A : Nat → Prop} {L : aA} {ws : va_W} {H : Heap} {locs : List Loc} {cells slots : Nat} {Qf : State → Prop} {ls : Array Slot} {st' rest' : List Value}
    (hC : Cx mi d p R s m args meth c D cA) (hX : xr X L A s) (hW : Wd D cA A s L S ws H locs) (hl : lr L la ls mi.2.2.1) (hs : sr L rest rest') (hc : cells + (bc + b) ≤ R.cells) (hq : slots + 300 * (bc + b) ≤ R.slots) (hK : Kn mi p l e R s m args below meth c D cA A L Q Qf)
    (hr : va_Run p l e R s m args below meth c H locs cells slots bc (300 * bc) (F0 m pc ls st') rest' (PM D cA L ws H.size Q1) (va_A ws H.size)) :
    W p l e R s m args below meth c H locs cells slots Qf (F0 m pc ls st') := by
  intro T hT XT
  obtain ⟨v0, st₀, t, T', Lc, h0, X', hL, e1, e2, ⟨⟨v, v', S', M, ws', hv, hQ, hov, hrel, hP1, hD1⟩, hz, hk⟩, stp⟩ := hr T hT XT
  cases hv
  rw [h0] at hz hk
  have hA1 : ∀ q, va_A ws H.size q → A q := by
    intro q hq1
    rcases hq1 with ⟨i, e9, h9⟩ | h9
    · exact hW.2.2.1.2 i (q, e9) h9
    · exact hW.2.2.2.2 q (Nat.le_trans hW.2.2.2.1.1 h9)
  have hS := hW.2.2.2.1
  have hst : sr (L.1, L.2 ++ M) (pu v rest) (v0.toList ++ rest') := by
    cases v with
    | none => rw [show v0 = none from hov]; exact sr_ex hs
    | some u =>
      obtain ⟨u', z1, z2⟩ := hov
      rw [z2]
      exact sr_push z1 (sr_ex hs)
  obtain ⟨t2, b1, b2⟩ := k v S' hQ p l e R s m args below meth c D cA A (L.1, L.2 ++ M) ws' T'.heap (locs ++ Lc) (cells + bc) (slots + 300 * bc) Qf ls _ hC hX
    ⟨hrel, by rw [e1]; exact hP1, hD1.weaken (fun _ q _ h => hA1 q.1 h), ⟨Nat.le_trans hS.1 (by rw [e1]; exact hz), fun q h1 h2 => by rw [e1, hk q (Nat.lt_of_lt_of_le h1 hS.1) (fun z => h2 (hA1 q z))]; exact hS.2.1 q h1 h2, fun q hq9 => by
      rcases List.mem_append.mp hq9 with h | h
      · exact hS.2.2 q h
      · exact hA1 _ (hL q h)⟩, hW.2.2.2.2⟩ (lr_ex hl) hst (by omega) (by omega) (hK.ex M) T' rfl X'
  exact ⟨t2, stp t2 b1, b2⟩
theorem pc_blind {D : va_G} {cA : Nat → ClassId} {ws : va_W} {as : List Value} {sz : Nat} : FrameBlind (pcOf D cA ws as sz) := by
  intro a U g mk h
  obtain ⟨q0, q1, qP, qD, qE⟩ := h
  exact ⟨q0, q1, qP, qD, EX.same (s := U) (U := U.calling g mk a) rfl qE⟩
theorem pc_at {D : va_G} {cA : Nat → ClassId} {A : Nat → Prop} {s : State} {L : aA} {S : aS} {ws : va_W} {H : Heap} {locs : List Loc} {as : List Value} (hW : Wd D cA A s L S ws H locs) (hE : EX D cA s) {U : State} (hU : U.heap = H) (hw : s.WarmedH U.vm) : pcOf D cA ws as H.size as.toArray U :=
  ⟨rfl, by rw [hU], by rw [hU]; exact hW.2.1, hW.2.2.1.weaken (fun _ _ _ _ => trivial), hE.warm hw⟩
/-- what any call of mj asks: its own words -/
def CK (mj : MI) : Prop := Cond.code mj.1 mj.2.1 mj.2.2.1 mj.2.2.2 ∈ BIG ∧ Cond.initialized mj.1.cls ∈ BIG ∧ mj.2.2.1 ≤ 41 ∧ (mj.1.cls ≠ "java/lang/invoke/MethodHandle" ∧ mj.1.cls ≠ "java/lang/invoke/VarHandle")
theorem good_ws {mj : MI} (h : CK mj) : GoodIn BIG (wsOf mj) := fun w hw => by
  rcases List.mem_cons.mp hw with rfl | hw
  · exact big_good _ h.1
  · exact big_good _ hw
/-- a call of an object's method by its class' own name -/
def CV (own : String) (idx ci n : Nat) (mj : MI) : Prop := CK mj ∧ ∃ (C : String) (T : u_T) (N : Nat), vwCl[ci]? = some (C, T, N) ∧ mj.1.cls = C ∧ Cond.methodLink own idx mj.1 ∈ BIG ∧ Cond.instanceMethod mj.1 ∈ BIG ∧ Cond.selects C mj.1 mj.1 ∈ BIG ∧ (parseMethodDescriptor mj.1.desc).map (fun d => d.parameters.length) = some n
/-- a call that the object's class selects -/
def CO (own : String) (idx ci n : Nat) (mj : MI) : Prop := CK mj ∧ ∃ (C : String) (T : u_T) (N : Nat) (owner : String) (x : MethodName) (b0 : ByteArray) (m0 : Nat) (r0 : Option FieldType), vwCl[ci]? = some (C, T, N) ∧ Cond.methodLink own idx x ∈ BIG ∧ Cond.sameMethod x.cls owner x.name x.desc ∈ BIG ∧ Cond.instanceMethod ⟨owner, x.name, x.desc⟩ ∈ BIG ∧ Cond.code ⟨owner, x.name, x.desc⟩ b0 m0 r0 ∈ BIG ∧ Cond.selects C x mj.1 ∈ BIG ∧ Cond.instanceMethod mj.1 ∈ BIG ∧ (owner ≠ "java/lang/invoke/MethodHandle" ∧ owner ≠ "java/lang/invoke/VarHandle") ∧ (parseMethodDescriptor x.desc).map (fun d => d.parameters.length) = some n
/-- a call of a static method -/
def CS (own : String) (idx n : Nat) (mj : MI) : Prop := CK mj ∧ (Cond.methodLink own idx mj.1 ∈ BIG ∨ ∃ host, (own, idx, mj.1, host) ∈ aNE) ∧ Cond.static mj.1 ∈ BIG ∧ (parseMethodDescriptor mj.1.desc).map (fun d => d.parameters.length) = some n
/-- a call of a constructor -/
def CI (own : String) (idx n : Nat) (mj : MI) : Prop := CK mj ∧ (Cond.methodLink own idx mj.1 ∈ BIG ∨ ∃ host, (own, idx, mj.1, host) ∈ aNE) ∧ Cond.instanceMethod mj.1 ∈ BIG ∧ mj.1.name = "<init>" ∧ mj.2.2.2 = none ∧ (parseMethodDescriptor mj.1.desc).map (fun d => d.parameters.length) = some n
/-- a call of the super class' method -/
def CU (own : String) (idx n : Nat) (mj : MI) : Prop := CK mj ∧ Cond.methodLink own idx mj.1 ∈ BIG ∧ Cond.sameMethod mj.1.cls mj.1.cls mj.1.name mj.1.desc ∈ BIG ∧ Cond.superclass own mj.1.cls ∈ BIG ∧ Cond.instanceMethod mj.1 ∈ BIG ∧ mj.1.name ≠ "<init>" ∧ (parseMethodDescriptor mj.1.desc).map (fun d => d.parameters.length) = some n
theorem len_of {x : MethodName} {n : Nat} (h : (parseMethodDescriptor x.desc).map (fun d => d.parameters.length) = some n) : ∀ sig, parseMethodDescriptor x.desc = some sig → n = sig.parameters.length := by
  intro sig h2
  rw [h2] at h
  exact (Option.some.inj h).symm
theorem pay_big {s : State} {args : Array Value} {mj : MI} (hts : ∀ w ∈ BIG, w.before args s = true) (h : CK mj) : ∀ w ∈ wsOf mj, ∀ (a' : Array Value) (U : State), s.WarmedH U.vm → w.before a' U = true := pay_in hts (good_ws h)
section EVC
variable {X : Option (Nat × (Nat → Int32))} {mi mj : MI} {d b bc B pc pc2 n idx : Nat} {la : aL} {stk As rest : List Value} {S : aS} {Q : Option Value → aS → Prop}

theorem Ev_callV {a ci : Nat} {fs : List Value} (hd : nx mi.2.1 pc (.invokevirtual idx) 3 pc2) (hcv : CV mi.1.cls idx ci n mj) (hp : pops (n + 1) stk [] = some (.ref a :: As, rest)) (ho : S[a]? = some (.inr (ci, fs))) (h8 : (rest.map fun v => v.category).sum ≤ 8) (hb : bc + b ≤ B) (k : Mth mj d bc (.ref a :: As) S (fun v S2 => Ev X mi (d + 1) b pc2 la (pu v rest) S2 Q)) : Ev X mi (d + 1) B pc la stk S Q := by
  intro p l e R s m args below meth c D cA A L ws H locs cells slots Qf ls st' hC hX hW hl hs hc hq hK
  obtain ⟨hd, rfl⟩ := hd
  have hts := hC.2.2.2.2.2.1
  have hfr := hC.2.2.2.2.2.2.2.2.2.1
  have hlo := hC.2.2.2.2.2.2.2.2.2.2
  have hEX := hC.2.2.2.2.2.2.2.2.1
  obtain ⟨h0l, lc, hl1, hl2⟩ := id hl
  obtain ⟨as2, e1, e2, rfl⟩ := pops_ok _ _ _ _ _ hp
  rw [List.append_nil] at e1
  subst e1
  rw [List.reverse_cons, List.append_assoc] at hs
  obtain ⟨As', r0, rfl, hsA, hs0⟩ := sr_app hs
  obtain ⟨a1, r1, rfl, hax, hs1⟩ := sr_ref hs0
  have hA2 := sr_rev hsA
  rw [List.reverse_reverse] at hA2
  have hsk : As' ++ Value.ref a1 :: r1 = As'.reverse.reverse ++ Value.ref a1 :: r1 := by rw [List.reverse_reverse]
  have hln : As'.reverse.length = n := by rw [sr_len hA2]; simp at e2; exact e2
  have h8' : 2 * (F0 m pc ls (As' ++ Value.ref a1 :: r1)).monitorRoom + (r1.map fun v => v.category).sum ≤ 8 := lv_room (by rw [sr_cat hs1]; exact h8)
  obtain ⟨ck, C, T, N, c1, c2, c3, c4, c5, c6⟩ := hcv
  obtain ⟨a2, e', g1, g2, g3⟩ := rel_get hW.1 ho
  cases hax.symm.trans g3
  obtain ⟨fs', rfl, g4⟩ := g2
  have hrc := va_recv hEX.1 hW.2.1 c1 g1
  refine Ev_go (bc := bc) (b := b) (fun _ _ h => h) hC hX hW hl hs1 (by omega) (by omega) hK ?_
  exact va_runV (C := C) (bytes := mj.2.1) (maxL := mj.2.2.1) (ret := mj.2.2.2) (b := a1) ⟨hC.1, hC.2.1, hC.2.2.2.1, hC.2.2.2.2.1, hts⟩ (k l D cA L ws (Value.ref a1 :: As'.reverse) H.size hW.1 (sr_push (by simp only [mv, hax, Option.map_some]) hA2)) ⟨⟨rfl, rfl, by show d + 1 ≤ R.frames; omega, by show 8 + (mj.2.2.1 + 11) + 60 * d ≤ R.locals; have := ck.2.2.1; omega, pay_big hts ck, List.mem_cons_self, hts _ ck.1, hts _ ck.2.1, ck.2.2.2, len_of c6, hts _ c3⟩, hts _ c4, hts _ c5⟩ ⟨pc_blind, hrc, fun U hU hw => pc_at hW hEX hU hw⟩ rfl hln hl1.1 hsk h8' hd (by show cells + bc ≤ R.cells ∧ slots + 300 * bc ≤ R.slots; omega)
theorem Ev_callO {a ci : Nat} {fs : List Value} (hd : nx mi.2.1 pc (.invokevirtual idx) 3 pc2) (hcv : CO mi.1.cls idx ci n mj) (hp : pops (n + 1) stk [] = some (.ref a :: As, rest)) (ho : S[a]? = some (.inr (ci, fs))) (h8 : (rest.map fun v => v.category).sum ≤ 8) (hb : bc + b ≤ B) (k : Mth mj d bc (.ref a :: As) S (fun v S2 => Ev X mi (d + 1) b pc2 la (pu v rest) S2 Q)) : Ev X mi (d + 1) B pc la stk S Q := by
  intro p l e R s m args below meth c D cA A L ws H locs cells slots Qf ls st' hC hX hW hl hs hc hq hK
  obtain ⟨hd, rfl⟩ := hd
  have hts := hC.2.2.2.2.2.1
  have hfr := hC.2.2.2.2.2.2.2.2.2.1
  have hlo := hC.2.2.2.2.2.2.2.2.2.2
  have hEX := hC.2.2.2.2.2.2.2.2.1
  obtain ⟨h0l, lc, hl1, hl2⟩ := id hl
  obtain ⟨as2, e1, e2, rfl⟩ := pops_ok _ _ _ _ _ hp
  rw [List.append_nil] at e1
  subst e1
  rw [List.reverse_cons, List.append_assoc] at hs
  obtain ⟨As', r0, rfl, hsA, hs0⟩ := sr_app hs
  obtain ⟨a1, r1, rfl, hax, hs1⟩ := sr_ref hs0
  have hA2 := sr_rev hsA
  rw [List.reverse_reverse] at hA2
  have hsk : As' ++ Value.ref a1 :: r1 = As'.reverse.reverse ++ Value.ref a1 :: r1 := by rw [List.reverse_reverse]
  have hln : As'.reverse.length = n := by rw [sr_len hA2]; simp at e2; exact e2
  have h8' : 2 * (F0 m pc ls (As' ++ Value.ref a1 :: r1)).monitorRoom + (r1.map fun v => v.category).sum ≤ 8 := lv_room (by rw [sr_cat hs1]; exact h8)
  obtain ⟨ck, C, T, N, owner, x, b0, m0, r0, c1, c2, c3, c4, c5, c6, c7, c8, c9⟩ := hcv
  obtain ⟨a2, e', g1, g2, g3⟩ := rel_get hW.1 ho
  cases hax.symm.trans g3
  obtain ⟨fs', rfl, g4⟩ := g2
  have hrc := va_recv hEX.1 hW.2.1 c1 g1
  refine Ev_go (bc := bc) (b := b) (fun _ _ h => h) hC hX hW hl hs1 (by omega) (by omega) hK ?_
  exact va_runU (C := C) (owner := owner) (x := x) (bytes := mj.2.1) (maxL := mj.2.2.1) (ret := mj.2.2.2) (b := a1) ⟨hC.1, hC.2.1, hC.2.2.2.1, hC.2.2.2.2.1, hts⟩ (k l D cA L ws (Value.ref a1 :: As'.reverse) H.size hW.1 (sr_push (by simp only [mv, hax, Option.map_some]) hA2)) ⟨⟨rfl, rfl, by show d + 1 ≤ R.frames; omega, by show 8 + (mj.2.2.1 + 11) + 60 * d ≤ R.locals; have := ck.2.2.1; omega, pay_big hts ck, List.mem_cons_self⟩, hts _ ck.1, hts _ ck.2.1, c8, len_of c9, hts _ c2, hts _ c3, va_Decl.of (hts _ c4) (hts _ c5), hts _ c6, hts _ c7⟩ ⟨pc_blind, hrc, fun U hU hw => pc_at hW hEX hU hw⟩ rfl hln hl1.1 hsk h8' hd (by show cells + bc ≤ R.cells ∧ slots + 300 * bc ≤ R.slots; omega)
theorem Ev_callU {a ci : Nat} {fs : List Value} (hd : nx mi.2.1 pc (.invokespecial idx) 3 pc2) (hcv : CU mi.1.cls idx n mj) (hp : pops (n + 1) stk [] = some (.ref a :: As, rest)) (ho : S[a]? = some (.inr (ci, fs))) (hci : ci < 13) (h8 : (rest.map fun v => v.category).sum ≤ 8) (hb : bc + b ≤ B) (k : Mth mj d bc (.ref a :: As) S (fun v S2 => Ev X mi (d + 1) b pc2 la (pu v rest) S2 Q)) : Ev X mi (d + 1) B pc la stk S Q := by
  intro p l e R s m args below meth c D cA A L ws H locs cells slots Qf ls st' hC hX hW hl hs hc hq hK
  obtain ⟨hd, rfl⟩ := hd
  have hts := hC.2.2.2.2.2.1
  have hfr := hC.2.2.2.2.2.2.2.2.2.1
  have hlo := hC.2.2.2.2.2.2.2.2.2.2
  have hEX := hC.2.2.2.2.2.2.2.2.1
  obtain ⟨h0l, lc, hl1, hl2⟩ := id hl
  obtain ⟨as2, e1, e2, rfl⟩ := pops_ok _ _ _ _ _ hp
  rw [List.append_nil] at e1
  subst e1
  rw [List.reverse_cons, List.append_assoc] at hs
  obtain ⟨As', r0, rfl, hsA, hs0⟩ := sr_app hs
  obtain ⟨a1, r1, rfl, hax, hs1⟩ := sr_ref hs0
  have hA2 := sr_rev hsA
  rw [List.reverse_reverse] at hA2
  have hsk : As' ++ Value.ref a1 :: r1 = As'.reverse.reverse ++ Value.ref a1 :: r1 := by rw [List.reverse_reverse]
  have hln : As'.reverse.length = n := by rw [sr_len hA2]; simp at e2; exact e2
  have h8' : 2 * (F0 m pc ls (As' ++ Value.ref a1 :: r1)).monitorRoom + (r1.map fun v => v.category).sum ≤ 8 := lv_room (by rw [sr_cat hs1]; exact h8)
  obtain ⟨ck, c1, c2, c3, c4, c5, c6⟩ := hcv
  obtain ⟨a2, e', g1, g2, g3⟩ := rel_get hW.1 ho
  cases hax.symm.trans g3
  obtain ⟨fs', rfl, g4⟩ := g2
  obtain ⟨⟨C, T, N⟩, hcl⟩ : ∃ z, vwCl[ci]? = some z := ⟨_, List.getElem?_eq_getElem hci⟩
  have hrc := va_recv hEX.1 hW.2.1 hcl g1
  refine Ev_go (bc := bc) (b := b) (fun _ _ h => h) hC hX hW hl hs1 (by omega) (by omega) hK ?_
  exact va_runSU (C := C) (hEX.1.1 ci _ hcl).2 (bytes := mj.2.1) (maxL := mj.2.2.1) (ret := mj.2.2.2) (b := a1) ⟨hC.1, hC.2.1, hC.2.2.2.1, hC.2.2.2.2.1, hts⟩ (k l D cA L ws (Value.ref a1 :: As'.reverse) H.size hW.1 (sr_push (by simp only [mv, hax, Option.map_some]) hA2)) ⟨⟨rfl, rfl, by show d + 1 ≤ R.frames; omega, by show 8 + (mj.2.2.1 + 11) + 60 * d ≤ R.locals; have := ck.2.2.1; omega, pay_big hts ck, List.mem_cons_self⟩, hts _ c1, hts _ c2, hts _ c3, hts _ c4, hts _ ck.2.1, hts _ ck.1, c5, len_of c6⟩ ⟨pc_blind, hrc, fun U hU hw => pc_at hW hEX hU hw⟩ rfl hln hl1.1 hsk h8' hd (by show cells + bc ≤ R.cells ∧ slots + 300 * bc ≤ R.slots; omega)
theorem Ev_callS (hd : nx mi.2.1 pc (.invokestatic idx) 3 pc2) (hcv : CS mi.1.cls idx n mj) (hp : pops n stk [] = some (As, rest)) (h8 : (rest.map fun v => v.category).sum ≤ 8) (hb : bc + b ≤ B) (k : Mth mj d bc As S (fun v S2 => Ev X mi (d + 1) b pc2 la (pu v rest) S2 Q)) : Ev X mi (d + 1) B pc la stk S Q := by
  intro p l e R s m args below meth c D cA A L ws H locs cells slots Qf ls st' hC hX hW hl hs hc hq hK
  obtain ⟨hd, rfl⟩ := hd
  have hts := hC.2.2.2.2.2.1
  have hfr := hC.2.2.2.2.2.2.2.2.2.1
  have hlo := hC.2.2.2.2.2.2.2.2.2.2
  have hEX := hC.2.2.2.2.2.2.2.2.1
  obtain ⟨h0l, lc, hl1, hl2⟩ := id hl
  obtain ⟨as2, e1, e2, rfl⟩ := pops_ok _ _ _ _ _ hp
  rw [List.append_nil] at e1
  subst e1
  obtain ⟨As', r1, rfl, hsA, hs1⟩ := sr_app hs
  have hA2 := sr_rev hsA
  rw [List.reverse_reverse] at hA2
  have hsk : As' ++ r1 = As'.reverse.reverse ++ r1 := by rw [List.reverse_reverse]
  have hln : As'.reverse.length = n := by rw [sr_len hA2]; exact e2
  have h8' : 2 * (F0 m pc ls (As' ++ r1)).monitorRoom + (r1.map fun v => v.category).sum ≤ 8 := lv_room (by rw [sr_cat hs1]; exact h8)
  obtain ⟨ck, c1, c2, c6⟩ := hcv
  refine Ev_go (bc := bc) (b := b) (fun _ _ h => h) hC hX hW hl hs1 (by omega) (by omega) hK ?_
  rcases c1 with c3 | ⟨host, c3⟩
  · exact va_runS (bytes := mj.2.1) (maxL := mj.2.2.1) (ret := mj.2.2.2) ⟨hC.1, hC.2.1, hC.2.2.2.1, hC.2.2.2.2.1, hts⟩ (k l D cA L ws (As'.reverse) H.size hW.1 hA2) ⟨⟨rfl, rfl, by show d + 1 ≤ R.frames; omega, by show 8 + (mj.2.2.1 + 11) + 60 * d ≤ R.locals; have := ck.2.2.1; omega, pay_big hts ck, List.mem_cons_self, hts _ ck.1, hts _ ck.2.1, ck.2.2.2, len_of c6, hts _ c3⟩, hts _ c2⟩ ⟨pc_blind, fun U hU hw => pc_at hW hEX hU hw⟩ rfl hln hl1.1 hsk h8' hd (by show cells + bc ≤ R.cells ∧ slots + 300 * bc ≤ R.slots; omega)
  · exact va_runSN (host := host) (bytes := mj.2.1) (maxL := mj.2.2.1) (ret := mj.2.2.2) ⟨hC.1, hC.2.1, hC.2.2.2.1, hC.2.2.2.2.1, hts⟩ (k l D cA L ws (As'.reverse) H.size hW.1 hA2) ⟨⟨⟨rfl, rfl, by show d + 1 ≤ R.frames; omega, by show 8 + (mj.2.2.1 + 11) + 60 * d ≤ R.locals; have := ck.2.2.1; omega, pay_big hts ck, List.mem_cons_self⟩, hts _ ck.1, hts _ ck.2.1, ck.2.2.2, len_of c6, va_Nw.use rfl (hEX.2.2.2.2 _ c3)⟩, hts _ c2, trivial⟩ ⟨pc_blind, fun U hU hw => pc_at hW hEX hU hw⟩ rfl hln hl1.1 hsk h8' hd (by show cells + bc ≤ R.cells ∧ slots + 300 * bc ≤ R.slots; omega)
theorem Ev_callI {a : Nat} (hd : nx mi.2.1 pc (.invokespecial idx) 3 pc2) (hcv : CI mi.1.cls idx n mj) (hp : pops (n + 1) stk [] = some (.ref a :: As, rest)) (h8 : (rest.map fun v => v.category).sum ≤ 8) (hb : bc + b ≤ B) (k : Mth mj d bc (.ref a :: As) S (fun v S2 => Ev X mi (d + 1) b pc2 la (pu v rest) S2 Q)) : Ev X mi (d + 1) B pc la stk S Q := by
  intro p l e R s m args below meth c D cA A L ws H locs cells slots Qf ls st' hC hX hW hl hs hc hq hK
  obtain ⟨hd, rfl⟩ := hd
  have hts := hC.2.2.2.2.2.1
  have hfr := hC.2.2.2.2.2.2.2.2.2.1
  have hlo := hC.2.2.2.2.2.2.2.2.2.2
  have hEX := hC.2.2.2.2.2.2.2.2.1
  obtain ⟨h0l, lc, hl1, hl2⟩ := id hl
  obtain ⟨as2, e1, e2, rfl⟩ := pops_ok _ _ _ _ _ hp
  rw [List.append_nil] at e1
  subst e1
  rw [List.reverse_cons, List.append_assoc] at hs
  obtain ⟨As', r0, rfl, hsA, hs0⟩ := sr_app hs
  obtain ⟨a1, r1, rfl, hax, hs1⟩ := sr_ref hs0
  have hA2 := sr_rev hsA
  rw [List.reverse_reverse] at hA2
  have hsk : As' ++ Value.ref a1 :: r1 = As'.reverse.reverse ++ Value.ref a1 :: r1 := by rw [List.reverse_reverse]
  have hln : As'.reverse.length = n := by rw [sr_len hA2]; simp at e2; exact e2
  have h8' : 2 * (F0 m pc ls (As' ++ Value.ref a1 :: r1)).monitorRoom + (r1.map fun v => v.category).sum ≤ 8 := lv_room (by rw [sr_cat hs1]; exact h8)
  obtain ⟨ck, c1, c2, c4, c5, c6⟩ := hcv
  refine Ev_go (bc := bc) (b := b) (fun _ _ h => h) hC hX hW hl hs1 (by omega) (by omega) hK ?_
  have hcode : Cond.code mj.1 mj.2.1 mj.2.2.1 none ∈ wsOf mj := by rw [← c5]; exact List.mem_cons_self
  have hcode2 : (Cond.code mj.1 mj.2.1 mj.2.2.1 none).before args s = true := by rw [← c5]; exact hts _ ck.1
  rcases c1 with c3 | ⟨host, c3⟩
  · exact va_runI (bytes := mj.2.1) (maxL := mj.2.2.1) (b := a1) ⟨hC.1, hC.2.1, hC.2.2.2.1, hC.2.2.2.2.1, hts⟩ (k l D cA L ws (Value.ref a1 :: As'.reverse) H.size hW.1 (sr_push (by simp only [mv, hax, Option.map_some]) hA2)) ⟨⟨rfl, rfl, by show d + 1 ≤ R.frames; omega, by show 8 + (mj.2.2.1 + 11) + 60 * d ≤ R.locals; have := ck.2.2.1; omega, pay_big hts ck, hcode, hcode2, hts _ ck.2.1, ck.2.2.2, len_of c6, hts _ c3⟩, c4, hts _ c2⟩ ⟨pc_blind, fun U hU hw => pc_at hW hEX hU hw⟩ rfl hln hl1.1 hsk h8' hd (by show cells + bc ≤ R.cells ∧ slots + 300 * bc ≤ R.slots; omega)
  · exact va_runIN (host := host) (bytes := mj.2.1) (maxL := mj.2.2.1) (b := a1) ⟨hC.1, hC.2.1, hC.2.2.2.1, hC.2.2.2.2.1, hts⟩ (k l D cA L ws (Value.ref a1 :: As'.reverse) H.size hW.1 (sr_push (by simp only [mv, hax, Option.map_some]) hA2)) ⟨⟨⟨rfl, rfl, by show d + 1 ≤ R.frames; omega, by show 8 + (mj.2.2.1 + 11) + 60 * d ≤ R.locals; have := ck.2.2.1; omega, pay_big hts ck, hcode⟩, hcode2, hts _ ck.2.1, ck.2.2.2, len_of c6, va_Nw.use rfl (hEX.2.2.2.2 _ c3)⟩, c4, hts _ c2⟩ ⟨pc_blind, fun U hU hw => pc_at hW hEX hU hw⟩ rfl hln hl1.1 hsk h8' hd (by show cells + bc ≤ R.cells ∧ slots + 300 * bc ≤ R.slots; omega)
end EVC
end
section
set_option maxRecDepth 20000 in
theorem wl_X11_3 : Cond.methodLink RX11 3 objectInit ∈ BIG := okB (by decide +kernel)
set_option maxRecDepth 20000 in
theorem wl_X11_11 : Cond.classLink RX11 11 "HomeByFour$Sheet" ∈ BIG := okB (by decide +kernel)
set_option maxRecDepth 20000 in
theorem nr_X11_11 : NR RX11 11 5 [.null, .int 0, .int 0] := ⟨_, _, _, tyX5, rfl, okB (by decide +kernel), okB (by decide +kernel), okB (by decide +kernel), tyX5_ok, by decide +kernel, by decide, rfl⟩
set_option maxRecDepth 20000 in
theorem fg_X11_13_11 : FG RX11 13 11 0 := ⟨_, _, _, "HomeByFour", rfl, by decide, okB (by decide +kernel), Or.inl rfl⟩
set_option maxRecDepth 20000 in
theorem fr_X11_13_11 : FR RX11 13 11 0 (.array (.object "HomeByFour$Sheet")) true := ⟨_, _, _, "HomeByFour", rfl, by decide, okB (by decide +kernel), Or.inl rfl, by decide +kernel, rfl, fun _ => rfl⟩
set_option maxRecDepth 20000 in
theorem ck_X5_init : CK mX5_init := ⟨okB (by decide +kernel), okB (by decide +kernel), by decide, by decide +kernel, by decide +kernel⟩
set_option maxRecDepth 20000 in
theorem ci_X11_17 : CI RX11 17 0 mX5_init := ⟨ck_X5_init, Or.inl (okB (by decide +kernel)), okB (by decide +kernel), rfl, rfl, by decide +kernel⟩
set_option maxRecDepth 20000 in
theorem nr_X11_18 : NR RX11 18 2 [.null, .null, .null, .int 0, .int 0, .int 0, .int 0, .int 0, .int 0] := ⟨_, _, _, tyX2, rfl, okB (by decide +kernel), okB (by decide +kernel), okB (by decide +kernel), tyX2_ok, by decide +kernel, by decide, rfl⟩
set_option maxRecDepth 20000 in
theorem ck_X2_init : CK mX2_init := ⟨okB (by decide +kernel), okB (by decide +kernel), by decide, by decide +kernel, by decide +kernel⟩
set_option maxRecDepth 20000 in
theorem ci_X11_20 : CI RX11 20 0 mX2_init := ⟨ck_X2_init, Or.inl (okB (by decide +kernel)), okB (by decide +kernel), rfl, rfl, by decide +kernel⟩
set_option maxRecDepth 20000 in
theorem fg_X11_21_11 : FG RX11 21 11 1 := ⟨_, _, _, "HomeByFour", rfl, by decide, okB (by decide +kernel), Or.inl rfl⟩
set_option maxRecDepth 20000 in
theorem fr_X11_21_11 : FR RX11 21 11 1 (.object "HomeByFour$Net") true := ⟨_, _, _, "HomeByFour", rfl, by decide, okB (by decide +kernel), Or.inl rfl, by decide +kernel, rfl, fun _ => rfl⟩
set_option maxRecDepth 20000 in
theorem nr_X11_25 : NR RX11 25 10 [.int 0, .int 0, .int 0, .int 0, .int 0, .long 0] := ⟨_, _, _, tyX10, rfl, okB (by decide +kernel), okB (by decide +kernel), okB (by decide +kernel), tyX10_ok, by decide +kernel, by decide, rfl⟩
set_option maxRecDepth 20000 in
theorem ck_X10_init : CK mX10_init := ⟨okB (by decide +kernel), okB (by decide +kernel), by decide, by decide +kernel, by decide +kernel⟩
set_option maxRecDepth 20000 in
theorem ci_X11_27 : CI RX11 27 0 mX10_init := ⟨ck_X10_init, Or.inr ⟨"HomeByFour", by decide +kernel⟩, okB (by decide +kernel), rfl, rfl, by decide +kernel⟩
set_option maxRecDepth 20000 in
theorem fg_X11_28_11 : FG RX11 28 11 2 := ⟨_, _, _, "HomeByFour", rfl, by decide, okB (by decide +kernel), Or.inl rfl⟩
set_option maxRecDepth 20000 in
theorem fr_X11_28_11 : FR RX11 28 11 2 (.object "HomeByFour$Walk") true := ⟨_, _, _, "HomeByFour", rfl, by decide, okB (by decide +kernel), Or.inl rfl, by decide +kernel, rfl, fun _ => rfl⟩
set_option maxRecDepth 20000 in
theorem nr_X11_32 : NR RX11 32 4 [.null, .null, .null, .int 0, .int 0, .int 0, .null, .int 0, .int 0, .int 0, .int 0, .int 0, .int 0] := ⟨_, _, _, tyX4, rfl, okB (by decide +kernel), okB (by decide +kernel), okB (by decide +kernel), tyX4_ok, by decide +kernel, by decide, rfl⟩
set_option maxRecDepth 20000 in
theorem ck_X4_init : CK mX4_init := ⟨okB (by decide +kernel), okB (by decide +kernel), by decide, by decide +kernel, by decide +kernel⟩
set_option maxRecDepth 20000 in
theorem ci_X11_34 : CI RX11 34 0 mX4_init := ⟨ck_X4_init, Or.inl (okB (by decide +kernel)), okB (by decide +kernel), rfl, rfl, by decide +kernel⟩
set_option maxRecDepth 20000 in
theorem fg_X11_35_11 : FG RX11 35 11 3 := ⟨_, _, _, "HomeByFour", rfl, by decide, okB (by decide +kernel), Or.inl rfl⟩
set_option maxRecDepth 20000 in
theorem fr_X11_35_11 : FR RX11 35 11 3 (.object "HomeByFour$Search") true := ⟨_, _, _, "HomeByFour", rfl, by decide, okB (by decide +kernel), Or.inl rfl, by decide +kernel, rfl, fun _ => rfl⟩
set_option maxRecDepth 20000 in
theorem nr_X11_39 : NR RX11 39 3 [.null] := ⟨_, _, _, tyX3, rfl, okB (by decide +kernel), okB (by decide +kernel), okB (by decide +kernel), tyX3_ok, by decide +kernel, by decide, rfl⟩
set_option maxRecDepth 20000 in
theorem ck_X3_init : CK mX3_init := ⟨okB (by decide +kernel), okB (by decide +kernel), by decide, by decide +kernel, by decide +kernel⟩
set_option maxRecDepth 20000 in
theorem ci_X11_41 : CI RX11 41 0 mX3_init := ⟨ck_X3_init, Or.inl (okB (by decide +kernel)), okB (by decide +kernel), rfl, rfl, by decide +kernel⟩
set_option maxRecDepth 20000 in
theorem fg_X11_42_11 : FG RX11 42 11 4 := ⟨_, _, _, "HomeByFour", rfl, by decide, okB (by decide +kernel), Or.inl rfl⟩
set_option maxRecDepth 20000 in
theorem fr_X11_42_11 : FR RX11 42 11 4 (.object "HomeByFour$Quickest") true := ⟨_, _, _, "HomeByFour", rfl, by decide, okB (by decide +kernel), Or.inl rfl, by decide +kernel, rfl, fun _ => rfl⟩
set_option maxRecDepth 20000 in
theorem nr_X11_46 : NR RX11 46 0 [.null, .null] := ⟨_, _, _, tyX0, rfl, okB (by decide +kernel), okB (by decide +kernel), okB (by decide +kernel), tyX0_ok, by decide +kernel, by decide, rfl⟩
set_option maxRecDepth 20000 in
theorem ck_X0_init : CK mX0_init := ⟨okB (by decide +kernel), okB (by decide +kernel), by decide, by decide +kernel, by decide +kernel⟩
set_option maxRecDepth 20000 in
theorem ci_X11_48 : CI RX11 48 0 mX0_init := ⟨ck_X0_init, Or.inl (okB (by decide +kernel)), okB (by decide +kernel), rfl, rfl, by decide +kernel⟩
set_option maxRecDepth 20000 in
theorem fg_X11_49_11 : FG RX11 49 11 5 := ⟨_, _, _, "HomeByFour", rfl, by decide, okB (by decide +kernel), Or.inl rfl⟩
set_option maxRecDepth 20000 in
theorem fr_X11_49_11 : FR RX11 49 11 5 (.object "HomeByFour$Dawdling") true := ⟨_, _, _, "HomeByFour", rfl, by decide, okB (by decide +kernel), Or.inl rfl, by decide +kernel, rfl, fun _ => rfl⟩
set_option maxRecDepth 20000 in
theorem nr_X11_53 : NR RX11 53 9 [.int 0] := ⟨_, _, _, tyX9, rfl, okB (by decide +kernel), okB (by decide +kernel), okB (by decide +kernel), tyX9_ok, by decide +kernel, by decide, rfl⟩
set_option maxRecDepth 20000 in
theorem ck_X9_init : CK mX9_init := ⟨okB (by decide +kernel), okB (by decide +kernel), by decide, by decide +kernel, by decide +kernel⟩
set_option maxRecDepth 20000 in
theorem ci_X11_55 : CI RX11 55 0 mX9_init := ⟨ck_X9_init, Or.inr ⟨"HomeByFour", by decide +kernel⟩, okB (by decide +kernel), rfl, rfl, by decide +kernel⟩
set_option maxRecDepth 20000 in
theorem fg_X11_56_11 : FG RX11 56 11 6 := ⟨_, _, _, "HomeByFour", rfl, by decide, okB (by decide +kernel), Or.inl rfl⟩
set_option maxRecDepth 20000 in
theorem fr_X11_56_11 : FR RX11 56 11 6 (.object "HomeByFour$Trace") true := ⟨_, _, _, "HomeByFour", rfl, by decide, okB (by decide +kernel), Or.inl rfl, by decide +kernel, rfl, fun _ => rfl⟩
set_option maxRecDepth 20000 in
theorem fg_X11_60_11 : FG RX11 60 11 7 := ⟨_, _, _, "HomeByFour", rfl, by decide, okB (by decide +kernel), Or.inl rfl⟩
set_option maxRecDepth 20000 in
theorem fr_X11_60_11 : FR RX11 60 11 7 (.int) false := ⟨_, _, _, "HomeByFour", rfl, by decide, okB (by decide +kernel), Or.inl rfl, by decide +kernel, rfl, fun h => absurd h (by decide)⟩
set_option maxRecDepth 20000 in
theorem ck_X11_sheetAt : CK mX11_sheetAt := ⟨okB (by decide +kernel), okB (by decide +kernel), by decide, by decide +kernel, by decide +kernel⟩
set_option maxRecDepth 20000 in
theorem cv_X11_64 : CV RX11 64 11 1 mX11_sheetAt := ⟨ck_X11_sheetAt, _, _, _, rfl, rfl, okB (by decide +kernel), okB (by decide +kernel), okB (by decide +kernel), by decide +kernel⟩
set_option maxRecDepth 20000 in
theorem ck_X11_refused : CK mX11_refused := ⟨okB (by decide +kernel), okB (by decide +kernel), by decide, by decide +kernel, by decide +kernel⟩
set_option maxRecDepth 20000 in
theorem cv_X11_68 : CV RX11 68 11 1 mX11_refused := ⟨ck_X11_refused, _, _, _, rfl, rfl, okB (by decide +kernel), okB (by decide +kernel), okB (by decide +kernel), by decide +kernel⟩
set_option maxRecDepth 20000 in
theorem ck_X11_isWithin : CK mX11_isWithin := ⟨okB (by decide +kernel), okB (by decide +kernel), by decide, by decide +kernel, by decide +kernel⟩
set_option maxRecDepth 20000 in
theorem cs_X11_72 : CS RX11 72 3 mX11_isWithin := ⟨ck_X11_isWithin, Or.inl (okB (by decide +kernel)), okB (by decide +kernel), by decide +kernel⟩
set_option maxRecDepth 20000 in
theorem ck_X5_faultOfCells : CK mX5_faultOfCells := ⟨okB (by decide +kernel), okB (by decide +kernel), by decide, by decide +kernel, by decide +kernel⟩
set_option maxRecDepth 20000 in
theorem cv_X11_76 : CV RX11 76 5 3 mX5_faultOfCells := ⟨ck_X5_faultOfCells, _, _, _, rfl, rfl, okB (by decide +kernel), okB (by decide +kernel), okB (by decide +kernel), by decide +kernel⟩
set_option maxRecDepth 20000 in
theorem ck_X11_failed : CK mX11_failed := ⟨okB (by decide +kernel), okB (by decide +kernel), by decide, by decide +kernel, by decide +kernel⟩
set_option maxRecDepth 20000 in
theorem cv_X11_80 : CV RX11 80 11 1 mX11_failed := ⟨ck_X11_failed, _, _, _, rfl, rfl, okB (by decide +kernel), okB (by decide +kernel), okB (by decide +kernel), by decide +kernel⟩
set_option maxRecDepth 20000 in
theorem nr_X11_83 : NR RX11 83 8 [.null, .int 0, .int 0] := ⟨_, _, _, tyX8, rfl, okB (by decide +kernel), okB (by decide +kernel), okB (by decide +kernel), tyX8_ok, by decide +kernel, by decide, rfl⟩
set_option maxRecDepth 20000 in
theorem ck_X8_init : CK mX8_init := ⟨okB (by decide +kernel), okB (by decide +kernel), by decide, by decide +kernel, by decide +kernel⟩
set_option maxRecDepth 20000 in
theorem ci_X11_85 : CI RX11 85 3 mX8_init := ⟨ck_X8_init, Or.inl (okB (by decide +kernel)), okB (by decide +kernel), rfl, rfl, by decide +kernel⟩
set_option maxRecDepth 20000 in
theorem ck_X8_firstFault : CK mX8_firstFault := ⟨okB (by decide +kernel), okB (by decide +kernel), by decide, by decide +kernel, by decide +kernel⟩
set_option maxRecDepth 20000 in
theorem cv_X11_88 : CV RX11 88 8 0 mX8_firstFault := ⟨ck_X8_firstFault, _, _, _, rfl, rfl, okB (by decide +kernel), okB (by decide +kernel), okB (by decide +kernel), by decide +kernel⟩
set_option maxRecDepth 20000 in
theorem ck_X2_takeOver : CK mX2_takeOver := ⟨okB (by decide +kernel), okB (by decide +kernel), by decide, by decide +kernel, by decide +kernel⟩
set_option maxRecDepth 20000 in
theorem cv_X11_92 : CV RX11 92 2 1 mX2_takeOver := ⟨ck_X2_takeOver, _, _, _, rfl, rfl, okB (by decide +kernel), okB (by decide +kernel), okB (by decide +kernel), by decide +kernel⟩
set_option maxRecDepth 20000 in
theorem fg_X11_96_2 : FG RX11 96 2 4 := ⟨_, _, _, "HomeByFour$Net", rfl, by decide, okB (by decide +kernel), Or.inl rfl⟩
set_option maxRecDepth 20000 in
theorem ck_X2_stretchAt : CK mX2_stretchAt := ⟨okB (by decide +kernel), okB (by decide +kernel), by decide, by decide +kernel, by decide +kernel⟩
set_option maxRecDepth 20000 in
theorem cv_X11_99 : CV RX11 99 2 1 mX2_stretchAt := ⟨ck_X2_stretchAt, _, _, _, rfl, rfl, okB (by decide +kernel), okB (by decide +kernel), okB (by decide +kernel), by decide +kernel⟩
set_option maxRecDepth 20000 in
theorem ck_X1_kind : CK mX1_kind := ⟨okB (by decide +kernel), okB (by decide +kernel), by decide, by decide +kernel, by decide +kernel⟩
set_option maxRecDepth 20000 in
theorem co_X11_103_1 : CO RX11 103 1 0 mX1_kind := ⟨ck_X1_kind, _, _, _, "HomeByFour$Stretch", (⟨"HomeByFour$Stretch", "kind", "()I"⟩ : MethodName), cX7_kind, 1, (some .int), rfl, okB (by decide +kernel), okB (by decide +kernel), okB (by decide +kernel), okB (by decide +kernel), okB (by decide +kernel), okB (by decide +kernel), ⟨by decide +kernel, by decide +kernel⟩, by decide +kernel⟩
set_option maxRecDepth 20000 in
theorem ck_X6_kind : CK mX6_kind := ⟨okB (by decide +kernel), okB (by decide +kernel), by decide, by decide +kernel, by decide +kernel⟩
set_option maxRecDepth 20000 in
theorem co_X11_103_6 : CO RX11 103 6 0 mX6_kind := ⟨ck_X6_kind, _, _, _, "HomeByFour$Stretch", (⟨"HomeByFour$Stretch", "kind", "()I"⟩ : MethodName), cX7_kind, 1, (some .int), rfl, okB (by decide +kernel), okB (by decide +kernel), okB (by decide +kernel), okB (by decide +kernel), okB (by decide +kernel), okB (by decide +kernel), ⟨by decide +kernel, by decide +kernel⟩, by decide +kernel⟩
set_option maxRecDepth 20000 in
theorem ck_X7_kind : CK mX7_kind := ⟨okB (by decide +kernel), okB (by decide +kernel), by decide, by decide +kernel, by decide +kernel⟩
set_option maxRecDepth 20000 in
theorem co_X11_103_7 : CO RX11 103 7 0 mX7_kind := ⟨ck_X7_kind, _, _, _, "HomeByFour$Stretch", (⟨"HomeByFour$Stretch", "kind", "()I"⟩ : MethodName), cX7_kind, 1, (some .int), rfl, okB (by decide +kernel), okB (by decide +kernel), okB (by decide +kernel), okB (by decide +kernel), okB (by decide +kernel), okB (by decide +kernel), ⟨by decide +kernel, by decide +kernel⟩, by decide +kernel⟩
set_option maxRecDepth 20000 in
theorem fg_X11_108_1 : FG RX11 108 1 1 := ⟨_, _, _, "HomeByFour$Stretch", rfl, by decide, okB (by decide +kernel), Or.inl rfl⟩
set_option maxRecDepth 20000 in
theorem fg_X11_108_6 : FG RX11 108 6 1 := ⟨_, _, _, "HomeByFour$Stretch", rfl, by decide, okB (by decide +kernel), Or.inl rfl⟩
set_option maxRecDepth 20000 in
theorem fg_X11_108_7 : FG RX11 108 7 1 := ⟨_, _, _, "HomeByFour$Stretch", rfl, by decide, okB (by decide +kernel), Or.inl rfl⟩
set_option maxRecDepth 20000 in
theorem fg_X11_111_1 : FG RX11 111 1 2 := ⟨_, _, _, "HomeByFour$Stretch", rfl, by decide, okB (by decide +kernel), Or.inl rfl⟩
set_option maxRecDepth 20000 in
theorem fg_X11_111_6 : FG RX11 111 6 2 := ⟨_, _, _, "HomeByFour$Stretch", rfl, by decide, okB (by decide +kernel), Or.inl rfl⟩
set_option maxRecDepth 20000 in
theorem fg_X11_111_7 : FG RX11 111 7 2 := ⟨_, _, _, "HomeByFour$Stretch", rfl, by decide, okB (by decide +kernel), Or.inl rfl⟩
set_option maxRecDepth 20000 in
theorem fg_X11_114_1 : FG RX11 114 1 3 := ⟨_, _, _, "HomeByFour$Stretch", rfl, by decide, okB (by decide +kernel), Or.inl rfl⟩
set_option maxRecDepth 20000 in
theorem fg_X11_114_6 : FG RX11 114 6 3 := ⟨_, _, _, "HomeByFour$Stretch", rfl, by decide, okB (by decide +kernel), Or.inl rfl⟩
set_option maxRecDepth 20000 in
theorem fg_X11_114_7 : FG RX11 114 7 3 := ⟨_, _, _, "HomeByFour$Stretch", rfl, by decide, okB (by decide +kernel), Or.inl rfl⟩
set_option maxRecDepth 20000 in
theorem fg_X11_117_1 : FG RX11 117 1 4 := ⟨_, _, _, "HomeByFour$Stretch", rfl, by decide, okB (by decide +kernel), Or.inl rfl⟩
set_option maxRecDepth 20000 in
theorem fg_X11_117_6 : FG RX11 117 6 4 := ⟨_, _, _, "HomeByFour$Stretch", rfl, by decide, okB (by decide +kernel), Or.inl rfl⟩
set_option maxRecDepth 20000 in
theorem fg_X11_117_7 : FG RX11 117 7 4 := ⟨_, _, _, "HomeByFour$Stretch", rfl, by decide, okB (by decide +kernel), Or.inl rfl⟩
set_option maxRecDepth 20000 in
theorem fg_X11_120_1 : FG RX11 120 1 5 := ⟨_, _, _, "HomeByFour$Stretch", rfl, by decide, okB (by decide +kernel), Or.inl rfl⟩
set_option maxRecDepth 20000 in
theorem fg_X11_120_6 : FG RX11 120 6 5 := ⟨_, _, _, "HomeByFour$Stretch", rfl, by decide, okB (by decide +kernel), Or.inl rfl⟩
set_option maxRecDepth 20000 in
theorem fg_X11_120_7 : FG RX11 120 7 5 := ⟨_, _, _, "HomeByFour$Stretch", rfl, by decide, okB (by decide +kernel), Or.inl rfl⟩
set_option maxRecDepth 20000 in
theorem fg_X11_123_1 : FG RX11 123 1 6 := ⟨_, _, _, "HomeByFour$Stretch", rfl, by decide, okB (by decide +kernel), Or.inl rfl⟩
set_option maxRecDepth 20000 in
theorem fg_X11_123_6 : FG RX11 123 6 6 := ⟨_, _, _, "HomeByFour$Stretch", rfl, by decide, okB (by decide +kernel), Or.inl rfl⟩
set_option maxRecDepth 20000 in
theorem fg_X11_123_7 : FG RX11 123 7 6 := ⟨_, _, _, "HomeByFour$Stretch", rfl, by decide, okB (by decide +kernel), Or.inl rfl⟩
set_option maxRecDepth 20000 in
theorem fg_X11_126_1 : FG RX11 126 1 8 := ⟨_, _, _, "HomeByFour$Stretch", rfl, by decide, okB (by decide +kernel), Or.inl rfl⟩
set_option maxRecDepth 20000 in
theorem fg_X11_126_6 : FG RX11 126 6 8 := ⟨_, _, _, "HomeByFour$Stretch", rfl, by decide, okB (by decide +kernel), Or.inl rfl⟩
set_option maxRecDepth 20000 in
theorem fg_X11_126_7 : FG RX11 126 7 8 := ⟨_, _, _, "HomeByFour$Stretch", rfl, by decide, okB (by decide +kernel), Or.inl rfl⟩
set_option maxRecDepth 20000 in
theorem fr_X11_126_1 : FR RX11 126 1 8 (.boolean) false := ⟨_, _, _, "HomeByFour$Stretch", rfl, by decide, okB (by decide +kernel), Or.inl rfl, by decide +kernel, rfl, fun h => absurd h (by decide)⟩
set_option maxRecDepth 20000 in
theorem fr_X11_126_6 : FR RX11 126 6 8 (.boolean) false := ⟨_, _, _, "HomeByFour$Stretch", rfl, by decide, okB (by decide +kernel), Or.inl rfl, by decide +kernel, rfl, fun h => absurd h (by decide)⟩
set_option maxRecDepth 20000 in
theorem fr_X11_126_7 : FR RX11 126 7 8 (.boolean) false := ⟨_, _, _, "HomeByFour$Stretch", rfl, by decide, okB (by decide +kernel), Or.inl rfl, by decide +kernel, rfl, fun h => absurd h (by decide)⟩
set_option maxRecDepth 20000 in
theorem ck_X2_isNone : CK mX2_isNone := ⟨okB (by decide +kernel), okB (by decide +kernel), by decide, by decide +kernel, by decide +kernel⟩
set_option maxRecDepth 20000 in
theorem cv_X11_130 : CV RX11 130 2 0 mX2_isNone := ⟨ck_X2_isNone, _, _, _, rfl, rfl, okB (by decide +kernel), okB (by decide +kernel), okB (by decide +kernel), by decide +kernel⟩
set_option maxRecDepth 20000 in
theorem fg_X11_134_2 : FG RX11 134 2 5 := ⟨_, _, _, "HomeByFour$Net", rfl, by decide, okB (by decide +kernel), Or.inl rfl⟩
set_option maxRecDepth 20000 in
theorem fr_X11_134_2 : FR RX11 134 2 5 (.int) false := ⟨_, _, _, "HomeByFour$Net", rfl, by decide, okB (by decide +kernel), Or.inl rfl, by decide +kernel, rfl, fun h => absurd h (by decide)⟩
set_option maxRecDepth 20000 in
theorem fg_X11_137_2 : FG RX11 137 2 6 := ⟨_, _, _, "HomeByFour$Net", rfl, by decide, okB (by decide +kernel), Or.inl rfl⟩
set_option maxRecDepth 20000 in
theorem fr_X11_137_2 : FR RX11 137 2 6 (.int) false := ⟨_, _, _, "HomeByFour$Net", rfl, by decide, okB (by decide +kernel), Or.inl rfl, by decide +kernel, rfl, fun h => absurd h (by decide)⟩
set_option maxRecDepth 20000 in
theorem ck_X2_hasPlace : CK mX2_hasPlace := ⟨okB (by decide +kernel), okB (by decide +kernel), by decide, by decide +kernel, by decide +kernel⟩
set_option maxRecDepth 20000 in
theorem cv_X11_140 : CV RX11 140 2 1 mX2_hasPlace := ⟨ck_X2_hasPlace, _, _, _, rfl, rfl, okB (by decide +kernel), okB (by decide +kernel), okB (by decide +kernel), by decide +kernel⟩
set_option maxRecDepth 20000 in
theorem fg_X11_144_2 : FG RX11 144 2 7 := ⟨_, _, _, "HomeByFour$Net", rfl, by decide, okB (by decide +kernel), Or.inl rfl⟩
set_option maxRecDepth 20000 in
theorem ck_X2_befriend : CK mX2_befriend := ⟨okB (by decide +kernel), okB (by decide +kernel), by decide, by decide +kernel, by decide +kernel⟩
set_option maxRecDepth 20000 in
theorem cv_X11_147 : CV RX11 147 2 1 mX2_befriend := ⟨ck_X2_befriend, _, _, _, rfl, rfl, okB (by decide +kernel), okB (by decide +kernel), okB (by decide +kernel), by decide +kernel⟩
set_option maxRecDepth 20000 in
theorem ck_X11_followTold : CK mX11_followTold := ⟨okB (by decide +kernel), okB (by decide +kernel), by decide, by decide +kernel, by decide +kernel⟩
set_option maxRecDepth 20000 in
theorem cv_X11_151 : CV RX11 151 11 5 mX11_followTold := ⟨ck_X11_followTold, _, _, _, rfl, rfl, okB (by decide +kernel), okB (by decide +kernel), okB (by decide +kernel), by decide +kernel⟩
set_option maxRecDepth 20000 in
theorem fg_X11_155_10 : FG RX11 155 10 0 := ⟨_, _, _, "HomeByFour$Walk", rfl, by decide, okB (by decide +kernel), Or.inl rfl⟩
set_option maxRecDepth 20000 in
theorem fg_X11_158_10 : FG RX11 158 10 2 := ⟨_, _, _, "HomeByFour$Walk", rfl, by decide, okB (by decide +kernel), Or.inl rfl⟩
set_option maxRecDepth 20000 in
theorem fg_X11_159_10 : FG RX11 159 10 3 := ⟨_, _, _, "HomeByFour$Walk", rfl, by decide, okB (by decide +kernel), Or.inl rfl⟩
set_option maxRecDepth 20000 in
theorem wl_X11_160 : Cond.constant RX11 160 (100000) ∈ BIG := okB (by decide +kernel)
set_option maxRecDepth 20000 in
theorem ck_X2_joyOf : CK mX2_joyOf := ⟨okB (by decide +kernel), okB (by decide +kernel), by decide, by decide +kernel, by decide +kernel⟩
set_option maxRecDepth 20000 in
theorem cv_X11_161 : CV RX11 161 2 1 mX2_joyOf := ⟨ck_X2_joyOf, _, _, _, rfl, rfl, okB (by decide +kernel), okB (by decide +kernel), okB (by decide +kernel), by decide +kernel⟩
set_option maxRecDepth 20000 in
theorem wl_X11_165 : Cond.constantLong RX11 165 (-9223372036854775808) ∈ BIG := okB (by decide +kernel)
set_option maxRecDepth 20000 in
theorem fg_X11_167_10 : FG RX11 167 10 5 := ⟨_, _, _, "HomeByFour$Walk", rfl, by decide, okB (by decide +kernel), Or.inl rfl⟩
set_option maxRecDepth 20000 in
theorem wl_X11_171 : Cond.constantLong RX11 171 (10) ∈ BIG := okB (by decide +kernel)
set_option maxRecDepth 20000 in
theorem fg_X11_173_10 : FG RX11 173 10 1 := ⟨_, _, _, "HomeByFour$Walk", rfl, by decide, okB (by decide +kernel), Or.inl rfl⟩
set_option maxRecDepth 20000 in
theorem ck_X11_powerOf : CK mX11_powerOf := ⟨okB (by decide +kernel), okB (by decide +kernel), by decide, by decide +kernel, by decide +kernel⟩
set_option maxRecDepth 20000 in
theorem cs_X11_176 : CS RX11 176 2 mX11_powerOf := ⟨ck_X11_powerOf, Or.inl (okB (by decide +kernel)), okB (by decide +kernel), by decide +kernel⟩
set_option maxRecDepth 20000 in
theorem ck_X11_inLeastTerms : CK mX11_inLeastTerms := ⟨okB (by decide +kernel), okB (by decide +kernel), by decide, by decide +kernel, by decide +kernel⟩
set_option maxRecDepth 20000 in
theorem cs_X11_180 : CS RX11 180 3 mX11_inLeastTerms := ⟨ck_X11_inLeastTerms, Or.inl (okB (by decide +kernel)), okB (by decide +kernel), by decide +kernel⟩
set_option maxRecDepth 20000 in
theorem ck_X3_leastMinutes : CK mX3_leastMinutes := ⟨okB (by decide +kernel), okB (by decide +kernel), by decide, by decide +kernel, by decide +kernel⟩
set_option maxRecDepth 20000 in
theorem cv_X11_184 : CV RX11 184 3 3 mX3_leastMinutes := ⟨ck_X3_leastMinutes, _, _, _, rfl, rfl, okB (by decide +kernel), okB (by decide +kernel), okB (by decide +kernel), by decide +kernel⟩
set_option maxRecDepth 20000 in
theorem ck_X2_home : CK mX2_home := ⟨okB (by decide +kernel), okB (by decide +kernel), by decide, by decide +kernel, by decide +kernel⟩
set_option maxRecDepth 20000 in
theorem cv_X11_188 : CV RX11 188 2 0 mX2_home := ⟨ck_X2_home, _, _, _, rfl, rfl, okB (by decide +kernel), okB (by decide +kernel), okB (by decide +kernel), by decide +kernel⟩
set_option maxRecDepth 20000 in
theorem ck_X11_refusalOfSearch : CK mX11_refusalOfSearch := ⟨okB (by decide +kernel), okB (by decide +kernel), by decide, by decide +kernel, by decide +kernel⟩
set_option maxRecDepth 20000 in
theorem cv_X11_191 : CV RX11 191 11 2 mX11_refusalOfSearch := ⟨ck_X11_refusalOfSearch, _, _, _, rfl, rfl, okB (by decide +kernel), okB (by decide +kernel), okB (by decide +kernel), by decide +kernel⟩
set_option maxRecDepth 20000 in
theorem ck_X4_look : CK mX4_look := ⟨okB (by decide +kernel), okB (by decide +kernel), by decide, by decide +kernel, by decide +kernel⟩
set_option maxRecDepth 20000 in
theorem cv_X11_195 : CV RX11 195 4 4 mX4_look := ⟨ck_X4_look, _, _, _, rfl, rfl, okB (by decide +kernel), okB (by decide +kernel), okB (by decide +kernel), by decide +kernel⟩
set_option maxRecDepth 20000 in
theorem ck_X11_joyFound : CK mX11_joyFound := ⟨okB (by decide +kernel), okB (by decide +kernel), by decide, by decide +kernel, by decide +kernel⟩
set_option maxRecDepth 20000 in
theorem cv_X11_199 : CV RX11 199 11 0 mX11_joyFound := ⟨ck_X11_joyFound, _, _, _, rfl, rfl, okB (by decide +kernel), okB (by decide +kernel), okB (by decide +kernel), by decide +kernel⟩
set_option maxRecDepth 20000 in
theorem ck_X4_stretchFound : CK mX4_stretchFound := ⟨okB (by decide +kernel), okB (by decide +kernel), by decide, by decide +kernel, by decide +kernel⟩
set_option maxRecDepth 20000 in
theorem cv_X11_202 : CV RX11 202 4 1 mX4_stretchFound := ⟨ck_X4_stretchFound, _, _, _, rfl, rfl, okB (by decide +kernel), okB (by decide +kernel), okB (by decide +kernel), by decide +kernel⟩
set_option maxRecDepth 20000 in
theorem fg_X11_205_4 : FG RX11 205 4 4 := ⟨_, _, _, "HomeByFour$Search", rfl, by decide, okB (by decide +kernel), Or.inl rfl⟩
set_option maxRecDepth 20000 in
theorem fg_X11_208_4 : FG RX11 208 4 5 := ⟨_, _, _, "HomeByFour$Search", rfl, by decide, okB (by decide +kernel), Or.inl rfl⟩
set_option maxRecDepth 20000 in
theorem fg_X11_211_2 : FG RX11 211 2 8 := ⟨_, _, _, "HomeByFour$Net", rfl, by decide, okB (by decide +kernel), Or.inl rfl⟩
set_option maxRecDepth 20000 in
theorem fr_X11_211_2 : FR RX11 211 2 8 (.int) false := ⟨_, _, _, "HomeByFour$Net", rfl, by decide, okB (by decide +kernel), Or.inl rfl, by decide +kernel, rfl, fun h => absurd h (by decide)⟩
set_option maxRecDepth 20000 in
theorem ck_X2_addReading : CK mX2_addReading := ⟨okB (by decide +kernel), okB (by decide +kernel), by decide, by decide +kernel, by decide +kernel⟩
set_option maxRecDepth 20000 in
theorem cv_X11_214 : CV RX11 214 2 2 mX2_addReading := ⟨ck_X2_addReading, _, _, _, rfl, rfl, okB (by decide +kernel), okB (by decide +kernel), okB (by decide +kernel), by decide +kernel⟩
set_option maxRecDepth 20000 in
theorem ck_X0_partsAt : CK mX0_partsAt := ⟨okB (by decide +kernel), okB (by decide +kernel), by decide, by decide +kernel, by decide +kernel⟩
set_option maxRecDepth 20000 in
theorem cv_X11_218 : CV RX11 218 0 3 mX0_partsAt := ⟨ck_X0_partsAt, _, _, _, rfl, rfl, okB (by decide +kernel), okB (by decide +kernel), okB (by decide +kernel), by decide +kernel⟩
set_option maxRecDepth 20000 in
theorem wl_X11_222 : Cond.constantLong RX11 222 (2520) ∈ BIG := okB (by decide +kernel)
set_option maxRecDepth 20000 in
theorem ck_X5_begin : CK mX5_begin := ⟨okB (by decide +kernel), okB (by decide +kernel), by decide, by decide +kernel, by decide +kernel⟩
set_option maxRecDepth 20000 in
theorem cv_X11_224 : CV RX11 224 5 2 mX5_begin := ⟨ck_X5_begin, _, _, _, rfl, rfl, okB (by decide +kernel), okB (by decide +kernel), okB (by decide +kernel), by decide +kernel⟩
set_option maxRecDepth 20000 in
theorem ck_X5_hasNothing : CK mX5_hasNothing := ⟨okB (by decide +kernel), okB (by decide +kernel), by decide, by decide +kernel, by decide +kernel⟩
set_option maxRecDepth 20000 in
theorem cv_X11_228 : CV RX11 228 5 0 mX5_hasNothing := ⟨ck_X5_hasNothing, _, _, _, rfl, rfl, okB (by decide +kernel), okB (by decide +kernel), okB (by decide +kernel), by decide +kernel⟩
set_option maxRecDepth 20000 in
theorem ck_X5_drop : CK mX5_drop := ⟨okB (by decide +kernel), okB (by decide +kernel), by decide, by decide +kernel, by decide +kernel⟩
set_option maxRecDepth 20000 in
theorem cv_X11_231 : CV RX11 231 5 0 mX5_drop := ⟨ck_X5_drop, _, _, _, rfl, rfl, okB (by decide +kernel), okB (by decide +kernel), okB (by decide +kernel), by decide +kernel⟩
set_option maxRecDepth 20000 in
theorem ck_X5_hasCell : CK mX5_hasCell := ⟨okB (by decide +kernel), okB (by decide +kernel), by decide, by decide +kernel, by decide +kernel⟩
set_option maxRecDepth 20000 in
theorem cv_X11_234 : CV RX11 234 5 1 mX5_hasCell := ⟨ck_X5_hasCell, _, _, _, rfl, rfl, okB (by decide +kernel), okB (by decide +kernel), okB (by decide +kernel), by decide +kernel⟩
set_option maxRecDepth 20000 in
theorem ck_X5_write : CK mX5_write := ⟨okB (by decide +kernel), okB (by decide +kernel), by decide, by decide +kernel, by decide +kernel⟩
set_option maxRecDepth 20000 in
theorem cv_X11_237 : CV RX11 237 5 2 mX5_write := ⟨ck_X5_write, _, _, _, rfl, rfl, okB (by decide +kernel), okB (by decide +kernel), okB (by decide +kernel), by decide +kernel⟩
set_option maxRecDepth 20000 in
theorem ck_X5_faultOfRow : CK mX5_faultOfRow := ⟨okB (by decide +kernel), okB (by decide +kernel), by decide, by decide +kernel, by decide +kernel⟩
set_option maxRecDepth 20000 in
theorem cv_X11_240 : CV RX11 240 5 1 mX5_faultOfRow := ⟨ck_X5_faultOfRow, _, _, _, rfl, rfl, okB (by decide +kernel), okB (by decide +kernel), okB (by decide +kernel), by decide +kernel⟩
set_option maxRecDepth 20000 in
theorem ck_X5_read : CK mX5_read := ⟨okB (by decide +kernel), okB (by decide +kernel), by decide, by decide +kernel, by decide +kernel⟩
set_option maxRecDepth 20000 in
theorem cv_X11_243 : CV RX11 243 5 1 mX5_read := ⟨ck_X5_read, _, _, _, rfl, rfl, okB (by decide +kernel), okB (by decide +kernel), okB (by decide +kernel), by decide +kernel⟩
set_option maxRecDepth 20000 in
theorem fg_X11_246_5 : FG RX11 246 5 1 := ⟨_, _, _, "HomeByFour$Sheet", rfl, by decide, okB (by decide +kernel), Or.inl rfl⟩
set_option maxRecDepth 20000 in
theorem ck_X5_hasCells : CK mX5_hasCells := ⟨okB (by decide +kernel), okB (by decide +kernel), by decide, by decide +kernel, by decide +kernel⟩
set_option maxRecDepth 20000 in
theorem cv_X11_249 : CV RX11 249 5 2 mX5_hasCells := ⟨ck_X5_hasCells, _, _, _, rfl, rfl, okB (by decide +kernel), okB (by decide +kernel), okB (by decide +kernel), by decide +kernel⟩
set_option maxRecDepth 20000 in
theorem fg_X11_253_5 : FG RX11 253 5 0 := ⟨_, _, _, "HomeByFour$Sheet", rfl, by decide, okB (by decide +kernel), Or.inl rfl⟩
set_option maxRecDepth 20000 in
theorem wl_X11_257 : Cond.methodLink RX11 257 arraycopyName ∈ BIG := okB (by decide +kernel)
set_option maxRecDepth 20000 in
theorem ck_X1_toldWith : CK mX1_toldWith := ⟨okB (by decide +kernel), okB (by decide +kernel), by decide, by decide +kernel, by decide +kernel⟩
set_option maxRecDepth 20000 in
theorem co_X11_263_1 : CO RX11 263 1 1 mX1_toldWith := ⟨ck_X1_toldWith, _, _, _, "HomeByFour$Stretch", (⟨"HomeByFour$Stretch", "toldWith", "(LHomeByFour$Trace;)I"⟩ : MethodName), cX7_toldWith, 2, (some .int), rfl, okB (by decide +kernel), okB (by decide +kernel), okB (by decide +kernel), okB (by decide +kernel), okB (by decide +kernel), okB (by decide +kernel), ⟨by decide +kernel, by decide +kernel⟩, by decide +kernel⟩
set_option maxRecDepth 20000 in
theorem ck_X6_toldWith : CK mX6_toldWith := ⟨okB (by decide +kernel), okB (by decide +kernel), by decide, by decide +kernel, by decide +kernel⟩
set_option maxRecDepth 20000 in
theorem co_X11_263_6 : CO RX11 263 6 1 mX6_toldWith := ⟨ck_X6_toldWith, _, _, _, "HomeByFour$Stretch", (⟨"HomeByFour$Stretch", "toldWith", "(LHomeByFour$Trace;)I"⟩ : MethodName), cX7_toldWith, 2, (some .int), rfl, okB (by decide +kernel), okB (by decide +kernel), okB (by decide +kernel), okB (by decide +kernel), okB (by decide +kernel), okB (by decide +kernel), ⟨by decide +kernel, by decide +kernel⟩, by decide +kernel⟩
set_option maxRecDepth 20000 in
theorem ck_X7_toldWith : CK mX7_toldWith := ⟨okB (by decide +kernel), okB (by decide +kernel), by decide, by decide +kernel, by decide +kernel⟩
set_option maxRecDepth 20000 in
theorem co_X11_263_7 : CO RX11 263 7 1 mX7_toldWith := ⟨ck_X7_toldWith, _, _, _, "HomeByFour$Stretch", (⟨"HomeByFour$Stretch", "toldWith", "(LHomeByFour$Trace;)I"⟩ : MethodName), cX7_toldWith, 2, (some .int), rfl, okB (by decide +kernel), okB (by decide +kernel), okB (by decide +kernel), okB (by decide +kernel), okB (by decide +kernel), okB (by decide +kernel), ⟨by decide +kernel, by decide +kernel⟩, by decide +kernel⟩
set_option maxRecDepth 20000 in
theorem ck_X7_sungWith : CK mX7_sungWith := ⟨okB (by decide +kernel), okB (by decide +kernel), by decide, by decide +kernel, by decide +kernel⟩
set_option maxRecDepth 20000 in
theorem co_X11_267_1 : CO RX11 267 1 1 mX7_sungWith := ⟨ck_X7_sungWith, _, _, _, "HomeByFour$Stretch", (⟨"HomeByFour$Stretch", "sungWith", "(LHomeByFour$Trace;)I"⟩ : MethodName), cX7_sungWith, 2, (some .int), rfl, okB (by decide +kernel), okB (by decide +kernel), okB (by decide +kernel), okB (by decide +kernel), okB (by decide +kernel), okB (by decide +kernel), ⟨by decide +kernel, by decide +kernel⟩, by decide +kernel⟩
set_option maxRecDepth 20000 in
theorem ck_X6_sungWith : CK mX6_sungWith := ⟨okB (by decide +kernel), okB (by decide +kernel), by decide, by decide +kernel, by decide +kernel⟩
set_option maxRecDepth 20000 in
theorem co_X11_267_6 : CO RX11 267 6 1 mX6_sungWith := ⟨ck_X6_sungWith, _, _, _, "HomeByFour$Stretch", (⟨"HomeByFour$Stretch", "sungWith", "(LHomeByFour$Trace;)I"⟩ : MethodName), cX7_sungWith, 2, (some .int), rfl, okB (by decide +kernel), okB (by decide +kernel), okB (by decide +kernel), okB (by decide +kernel), okB (by decide +kernel), okB (by decide +kernel), ⟨by decide +kernel, by decide +kernel⟩, by decide +kernel⟩
set_option maxRecDepth 20000 in
theorem co_X11_267_7 : CO RX11 267 7 1 mX7_sungWith := ⟨ck_X7_sungWith, _, _, _, "HomeByFour$Stretch", (⟨"HomeByFour$Stretch", "sungWith", "(LHomeByFour$Trace;)I"⟩ : MethodName), cX7_sungWith, 2, (some .int), rfl, okB (by decide +kernel), okB (by decide +kernel), okB (by decide +kernel), okB (by decide +kernel), okB (by decide +kernel), okB (by decide +kernel), ⟨by decide +kernel, by decide +kernel⟩, by decide +kernel⟩
set_option maxRecDepth 20000 in
theorem ir_X11_270_1 : IR RX11 270 1 1 := ⟨_, _, _, "HomeByFour$Muddy", rfl, okB (by decide +kernel), Or.inl ⟨rfl, Or.inl rfl⟩⟩
set_option maxRecDepth 20000 in
theorem ir_X11_270_6 : IR RX11 270 6 1 := ⟨_, _, _, "HomeByFour$Muddy", rfl, okB (by decide +kernel), Or.inl ⟨rfl, Or.inr (by decide +kernel)⟩⟩
set_option maxRecDepth 20000 in
theorem ir_X11_270_7 : IR RX11 270 7 0 := ⟨_, _, _, "HomeByFour$Muddy", rfl, okB (by decide +kernel), Or.inr ⟨rfl, by decide +kernel⟩⟩
set_option maxRecDepth 20000 in
theorem ir_X11_272_1 : IR RX11 272 1 0 := ⟨_, _, _, "HomeByFour$Steep", rfl, okB (by decide +kernel), Or.inr ⟨rfl, by decide +kernel⟩⟩
set_option maxRecDepth 20000 in
theorem ir_X11_272_6 : IR RX11 272 6 1 := ⟨_, _, _, "HomeByFour$Steep", rfl, okB (by decide +kernel), Or.inl ⟨rfl, Or.inl rfl⟩⟩
set_option maxRecDepth 20000 in
theorem ir_X11_272_7 : IR RX11 272 7 0 := ⟨_, _, _, "HomeByFour$Steep", rfl, okB (by decide +kernel), Or.inr ⟨rfl, by decide +kernel⟩⟩
set_option maxRecDepth 20000 in
theorem fg_X11_274_9 : FG RX11 274 9 0 := ⟨_, _, _, "HomeByFour$Trace", rfl, by decide, okB (by decide +kernel), Or.inl rfl⟩
set_option maxRecDepth 20000 in
theorem fg_X11_277_2 : FG RX11 277 2 3 := ⟨_, _, _, "HomeByFour$Net", rfl, by decide, okB (by decide +kernel), Or.inl rfl⟩
set_option maxRecDepth 20000 in
theorem ck_X11_areStretches : CK mX11_areStretches := ⟨okB (by decide +kernel), okB (by decide +kernel), by decide, by decide +kernel, by decide +kernel⟩
set_option maxRecDepth 20000 in
theorem cv_X11_280 : CV RX11 280 11 3 mX11_areStretches := ⟨ck_X11_areStretches, _, _, _, rfl, rfl, okB (by decide +kernel), okB (by decide +kernel), okB (by decide +kernel), by decide +kernel⟩
set_option maxRecDepth 20000 in
theorem ck_X11_followCells : CK mX11_followCells := ⟨okB (by decide +kernel), okB (by decide +kernel), by decide, by decide +kernel, by decide +kernel⟩
set_option maxRecDepth 20000 in
theorem cv_X11_284 : CV RX11 284 11 3 mX11_followCells := ⟨ck_X11_followCells, _, _, _, rfl, rfl, okB (by decide +kernel), okB (by decide +kernel), okB (by decide +kernel), by decide +kernel⟩
set_option maxRecDepth 20000 in
theorem ck_X10_begin : CK mX10_begin := ⟨okB (by decide +kernel), okB (by decide +kernel), by decide, by decide +kernel, by decide +kernel⟩
set_option maxRecDepth 20000 in
theorem cv_X11_288 : CV RX11 288 10 0 mX10_begin := ⟨ck_X10_begin, _, _, _, rfl, rfl, okB (by decide +kernel), okB (by decide +kernel), okB (by decide +kernel), by decide +kernel⟩
set_option maxRecDepth 20000 in
theorem ck_X7_leadsFrom : CK mX7_leadsFrom := ⟨okB (by decide +kernel), okB (by decide +kernel), by decide, by decide +kernel, by decide +kernel⟩
set_option maxRecDepth 20000 in
theorem co_X11_290_1 : CO RX11 290 1 1 mX7_leadsFrom := ⟨ck_X7_leadsFrom, _, _, _, "HomeByFour$Stretch", (⟨"HomeByFour$Stretch", "leadsFrom", "(I)Z"⟩ : MethodName), cX7_leadsFrom, 2, (some .boolean), rfl, okB (by decide +kernel), okB (by decide +kernel), okB (by decide +kernel), okB (by decide +kernel), okB (by decide +kernel), okB (by decide +kernel), ⟨by decide +kernel, by decide +kernel⟩, by decide +kernel⟩
set_option maxRecDepth 20000 in
theorem co_X11_290_6 : CO RX11 290 6 1 mX7_leadsFrom := ⟨ck_X7_leadsFrom, _, _, _, "HomeByFour$Stretch", (⟨"HomeByFour$Stretch", "leadsFrom", "(I)Z"⟩ : MethodName), cX7_leadsFrom, 2, (some .boolean), rfl, okB (by decide +kernel), okB (by decide +kernel), okB (by decide +kernel), okB (by decide +kernel), okB (by decide +kernel), okB (by decide +kernel), ⟨by decide +kernel, by decide +kernel⟩, by decide +kernel⟩
set_option maxRecDepth 20000 in
theorem co_X11_290_7 : CO RX11 290 7 1 mX7_leadsFrom := ⟨ck_X7_leadsFrom, _, _, _, "HomeByFour$Stretch", (⟨"HomeByFour$Stretch", "leadsFrom", "(I)Z"⟩ : MethodName), cX7_leadsFrom, 2, (some .boolean), rfl, okB (by decide +kernel), okB (by decide +kernel), okB (by decide +kernel), okB (by decide +kernel), okB (by decide +kernel), okB (by decide +kernel), ⟨by decide +kernel, by decide +kernel⟩, by decide +kernel⟩
set_option maxRecDepth 20000 in
theorem ck_X10_follow : CK mX10_follow := ⟨okB (by decide +kernel), okB (by decide +kernel), by decide, by decide +kernel, by decide +kernel⟩
set_option maxRecDepth 20000 in
theorem cv_X11_293 : CV RX11 293 10 2 mX10_follow := ⟨ck_X10_follow, _, _, _, rfl, rfl, okB (by decide +kernel), okB (by decide +kernel), okB (by decide +kernel), by decide +kernel⟩
set_option maxRecDepth 20000 in
theorem ck_X11_commonDivisor : CK mX11_commonDivisor := ⟨okB (by decide +kernel), okB (by decide +kernel), by decide, by decide +kernel, by decide +kernel⟩
set_option maxRecDepth 20000 in
theorem cs_X11_297 : CS RX11 297 2 mX11_commonDivisor := ⟨ck_X11_commonDivisor, Or.inl (okB (by decide +kernel)), okB (by decide +kernel), by decide +kernel⟩
set_option maxRecDepth 20000 in
theorem wl_X0_3 : Cond.methodLink RX0 3 objectInit ∈ BIG := okB (by decide +kernel)
set_option maxRecDepth 20000 in
theorem fg_X0_9_0 : FG RX0 9 0 0 := ⟨_, _, _, "HomeByFour$Dawdling", rfl, by decide, okB (by decide +kernel), Or.inl rfl⟩
set_option maxRecDepth 20000 in
theorem fr_X0_9_0 : FR RX0 9 0 0 (.array (.long)) true := ⟨_, _, _, "HomeByFour$Dawdling", rfl, by decide, okB (by decide +kernel), Or.inl rfl, by decide +kernel, rfl, fun _ => rfl⟩
set_option maxRecDepth 20000 in
theorem fg_X0_15_0 : FG RX0 15 0 1 := ⟨_, _, _, "HomeByFour$Dawdling", rfl, by decide, okB (by decide +kernel), Or.inl rfl⟩
set_option maxRecDepth 20000 in
theorem fr_X0_15_0 : FR RX0 15 0 1 (.array (.long)) true := ⟨_, _, _, "HomeByFour$Dawdling", rfl, by decide, okB (by decide +kernel), Or.inl rfl, by decide +kernel, rfl, fun _ => rfl⟩
set_option maxRecDepth 20000 in
theorem ck_J7_fill_d0a16 : CK mJ7_fill_d0a16 := ⟨okB (by decide +kernel), okB (by decide +kernel), by decide, by decide +kernel, by decide +kernel⟩
set_option maxRecDepth 20000 in
theorem cs_X0_18 : CS RX0 18 2 mJ7_fill_d0a16 := ⟨ck_J7_fill_d0a16, Or.inl (okB (by decide +kernel)), okB (by decide +kernel), by decide +kernel⟩
set_option maxRecDepth 20000 in
theorem fg_X0_24_2 : FG RX0 24 2 3 := ⟨_, _, _, "HomeByFour$Net", rfl, by decide, okB (by decide +kernel), Or.inl rfl⟩
set_option maxRecDepth 20000 in
theorem ck_X0_share : CK mX0_share := ⟨okB (by decide +kernel), okB (by decide +kernel), by decide, by decide +kernel, by decide +kernel⟩
set_option maxRecDepth 20000 in
theorem cv_X0_30 : CV RX0 30 0 2 mX0_share := ⟨ck_X0_share, _, _, _, rfl, rfl, okB (by decide +kernel), okB (by decide +kernel), okB (by decide +kernel), by decide +kernel⟩
set_option maxRecDepth 20000 in
theorem wl_X0_34 : Cond.methodLink RX0 34 arraycopyName ∈ BIG := okB (by decide +kernel)
set_option maxRecDepth 20000 in
theorem cs_X0_40 : CS RX0 40 3 mX11_isWithin := ⟨ck_X11_isWithin, Or.inr ⟨"HomeByFour", by decide +kernel⟩, okB (by decide +kernel), by decide +kernel⟩
set_option maxRecDepth 20000 in
theorem ck_X0_waysFrom : CK mX0_waysFrom := ⟨okB (by decide +kernel), okB (by decide +kernel), by decide, by decide +kernel, by decide +kernel⟩
set_option maxRecDepth 20000 in
theorem cv_X0_44 : CV RX0 44 0 2 mX0_waysFrom := ⟨ck_X0_waysFrom, _, _, _, rfl, rfl, okB (by decide +kernel), okB (by decide +kernel), okB (by decide +kernel), by decide +kernel⟩
set_option maxRecDepth 20000 in
theorem wl_X0_48 : Cond.constantLong RX0 48 (2520) ∈ BIG := okB (by decide +kernel)
set_option maxRecDepth 20000 in
theorem ck_X0_add : CK mX0_add := ⟨okB (by decide +kernel), okB (by decide +kernel), by decide, by decide +kernel, by decide +kernel⟩
set_option maxRecDepth 20000 in
theorem cv_X0_50 : CV RX0 50 0 2 mX0_add := ⟨ck_X0_add, _, _, _, rfl, rfl, okB (by decide +kernel), okB (by decide +kernel), okB (by decide +kernel), by decide +kernel⟩
set_option maxRecDepth 20000 in
theorem fg_X0_54_2 : FG RX0 54 2 4 := ⟨_, _, _, "HomeByFour$Net", rfl, by decide, okB (by decide +kernel), Or.inl rfl⟩
set_option maxRecDepth 20000 in
theorem cv_X0_57 : CV RX0 57 2 1 mX2_stretchAt := ⟨ck_X2_stretchAt, _, _, _, rfl, rfl, okB (by decide +kernel), okB (by decide +kernel), okB (by decide +kernel), by decide +kernel⟩
set_option maxRecDepth 20000 in
theorem co_X0_61_1 : CO RX0 61 1 1 mX7_leadsFrom := ⟨ck_X7_leadsFrom, _, _, _, "HomeByFour$Stretch", (⟨"HomeByFour$Stretch", "leadsFrom", "(I)Z"⟩ : MethodName), cX7_leadsFrom, 2, (some .boolean), rfl, okB (by decide +kernel), okB (by decide +kernel), okB (by decide +kernel), okB (by decide +kernel), okB (by decide +kernel), okB (by decide +kernel), ⟨by decide +kernel, by decide +kernel⟩, by decide +kernel⟩
set_option maxRecDepth 20000 in
theorem co_X0_61_6 : CO RX0 61 6 1 mX7_leadsFrom := ⟨ck_X7_leadsFrom, _, _, _, "HomeByFour$Stretch", (⟨"HomeByFour$Stretch", "leadsFrom", "(I)Z"⟩ : MethodName), cX7_leadsFrom, 2, (some .boolean), rfl, okB (by decide +kernel), okB (by decide +kernel), okB (by decide +kernel), okB (by decide +kernel), okB (by decide +kernel), okB (by decide +kernel), ⟨by decide +kernel, by decide +kernel⟩, by decide +kernel⟩
set_option maxRecDepth 20000 in
theorem co_X0_61_7 : CO RX0 61 7 1 mX7_leadsFrom := ⟨ck_X7_leadsFrom, _, _, _, "HomeByFour$Stretch", (⟨"HomeByFour$Stretch", "leadsFrom", "(I)Z"⟩ : MethodName), cX7_leadsFrom, 2, (some .boolean), rfl, okB (by decide +kernel), okB (by decide +kernel), okB (by decide +kernel), okB (by decide +kernel), okB (by decide +kernel), okB (by decide +kernel), ⟨by decide +kernel, by decide +kernel⟩, by decide +kernel⟩
set_option maxRecDepth 20000 in
theorem ck_X7_otherEnd : CK mX7_otherEnd := ⟨okB (by decide +kernel), okB (by decide +kernel), by decide, by decide +kernel, by decide +kernel⟩
set_option maxRecDepth 20000 in
theorem co_X0_67_1 : CO RX0 67 1 1 mX7_otherEnd := ⟨ck_X7_otherEnd, _, _, _, "HomeByFour$Stretch", (⟨"HomeByFour$Stretch", "otherEnd", "(I)I"⟩ : MethodName), cX7_otherEnd, 2, (some .int), rfl, okB (by decide +kernel), okB (by decide +kernel), okB (by decide +kernel), okB (by decide +kernel), okB (by decide +kernel), okB (by decide +kernel), ⟨by decide +kernel, by decide +kernel⟩, by decide +kernel⟩
set_option maxRecDepth 20000 in
theorem co_X0_67_6 : CO RX0 67 6 1 mX7_otherEnd := ⟨ck_X7_otherEnd, _, _, _, "HomeByFour$Stretch", (⟨"HomeByFour$Stretch", "otherEnd", "(I)I"⟩ : MethodName), cX7_otherEnd, 2, (some .int), rfl, okB (by decide +kernel), okB (by decide +kernel), okB (by decide +kernel), okB (by decide +kernel), okB (by decide +kernel), okB (by decide +kernel), ⟨by decide +kernel, by decide +kernel⟩, by decide +kernel⟩
set_option maxRecDepth 20000 in
theorem co_X0_67_7 : CO RX0 67 7 1 mX7_otherEnd := ⟨ck_X7_otherEnd, _, _, _, "HomeByFour$Stretch", (⟨"HomeByFour$Stretch", "otherEnd", "(I)I"⟩ : MethodName), cX7_otherEnd, 2, (some .int), rfl, okB (by decide +kernel), okB (by decide +kernel), okB (by decide +kernel), okB (by decide +kernel), okB (by decide +kernel), okB (by decide +kernel), ⟨by decide +kernel, by decide +kernel⟩, by decide +kernel⟩
set_option maxRecDepth 20000 in
theorem ck_X7_init : CK mX7_init := ⟨okB (by decide +kernel), okB (by decide +kernel), by decide, by decide +kernel, by decide +kernel⟩
set_option maxRecDepth 20000 in
theorem ci_X1_1 : CI RX1 1 6 mX7_init := ⟨ck_X7_init, Or.inl (okB (by decide +kernel)), okB (by decide +kernel), rfl, rfl, by decide +kernel⟩
set_option maxRecDepth 20000 in
theorem fg_X1_7_1 : FG RX1 7 1 3 := ⟨_, _, _, "HomeByFour$Muddy", rfl, by decide, okB (by decide +kernel), Or.inr (okB (by decide +kernel))⟩
set_option maxRecDepth 20000 in
theorem fg_X1_7_6 : FG RX1 7 6 3 := ⟨_, _, _, "HomeByFour$Muddy", rfl, by decide, okB (by decide +kernel), Or.inr (okB (by decide +kernel))⟩
set_option maxRecDepth 20000 in
theorem fg_X1_7_7 : FG RX1 7 7 3 := ⟨_, _, _, "HomeByFour$Muddy", rfl, by decide, okB (by decide +kernel), Or.inr (okB (by decide +kernel))⟩
set_option maxRecDepth 20000 in
theorem ck_X9_leave : CK mX9_leave := ⟨okB (by decide +kernel), okB (by decide +kernel), by decide, by decide +kernel, by decide +kernel⟩
set_option maxRecDepth 20000 in
theorem cv_X1_13 : CV RX1 13 9 1 mX9_leave := ⟨ck_X9_leave, _, _, _, rfl, rfl, okB (by decide +kernel), okB (by decide +kernel), okB (by decide +kernel), by decide +kernel⟩
set_option maxRecDepth 20000 in
theorem cu_X1_19 : CU RX1 19 1 mX7_toldWith := ⟨ck_X7_toldWith, okB (by decide +kernel), okB (by decide +kernel), okB (by decide +kernel), okB (by decide +kernel), by decide +kernel, by decide +kernel⟩
set_option maxRecDepth 20000 in
theorem wl_X2_3 : Cond.methodLink RX2 3 objectInit ∈ BIG := okB (by decide +kernel)
set_option maxRecDepth 20000 in
theorem wl_X2_9 : Cond.classLink RX2 9 "HomeByFour$Stretch" ∈ BIG := okB (by decide +kernel)
set_option maxRecDepth 20000 in
theorem fg_X2_11_2 : FG RX2 11 2 0 := ⟨_, _, _, "HomeByFour$Net", rfl, by decide, okB (by decide +kernel), Or.inl rfl⟩
set_option maxRecDepth 20000 in
theorem fr_X2_11_2 : FR RX2 11 2 0 (.array (.object "HomeByFour$Stretch")) true := ⟨_, _, _, "HomeByFour$Net", rfl, by decide, okB (by decide +kernel), Or.inl rfl, by decide +kernel, rfl, fun _ => rfl⟩
set_option maxRecDepth 20000 in
theorem fg_X2_17_2 : FG RX2 17 2 1 := ⟨_, _, _, "HomeByFour$Net", rfl, by decide, okB (by decide +kernel), Or.inl rfl⟩
set_option maxRecDepth 20000 in
theorem fr_X2_17_2 : FR RX2 17 2 1 (.array (.int)) true := ⟨_, _, _, "HomeByFour$Net", rfl, by decide, okB (by decide +kernel), Or.inl rfl, by decide +kernel, rfl, fun _ => rfl⟩
set_option maxRecDepth 20000 in
theorem fg_X2_21_2 : FG RX2 21 2 2 := ⟨_, _, _, "HomeByFour$Net", rfl, by decide, okB (by decide +kernel), Or.inl rfl⟩
set_option maxRecDepth 20000 in
theorem fr_X2_21_2 : FR RX2 21 2 2 (.array (.boolean)) true := ⟨_, _, _, "HomeByFour$Net", rfl, by decide, okB (by decide +kernel), Or.inl rfl, by decide +kernel, rfl, fun _ => rfl⟩
set_option maxRecDepth 20000 in
theorem fg_X2_25_2 : FG RX2 25 2 7 := ⟨_, _, _, "HomeByFour$Net", rfl, by decide, okB (by decide +kernel), Or.inl rfl⟩
set_option maxRecDepth 20000 in
theorem fr_X2_25_2 : FR RX2 25 2 7 (.int) false := ⟨_, _, _, "HomeByFour$Net", rfl, by decide, okB (by decide +kernel), Or.inl rfl, by decide +kernel, rfl, fun h => absurd h (by decide)⟩
set_option maxRecDepth 20000 in
theorem ck_X8_places : CK mX8_places := ⟨okB (by decide +kernel), okB (by decide +kernel), by decide, by decide +kernel, by decide +kernel⟩
set_option maxRecDepth 20000 in
theorem cv_X2_29 : CV RX2 29 8 0 mX8_places := ⟨ck_X8_places, _, _, _, rfl, rfl, okB (by decide +kernel), okB (by decide +kernel), okB (by decide +kernel), by decide +kernel⟩
set_option maxRecDepth 20000 in
theorem fg_X2_35_2 : FG RX2 35 2 3 := ⟨_, _, _, "HomeByFour$Net", rfl, by decide, okB (by decide +kernel), Or.inl rfl⟩
set_option maxRecDepth 20000 in
theorem fr_X2_35_2 : FR RX2 35 2 3 (.int) false := ⟨_, _, _, "HomeByFour$Net", rfl, by decide, okB (by decide +kernel), Or.inl rfl, by decide +kernel, rfl, fun h => absurd h (by decide)⟩
set_option maxRecDepth 20000 in
theorem ck_X8_stretches : CK mX8_stretches := ⟨okB (by decide +kernel), okB (by decide +kernel), by decide, by decide +kernel, by decide +kernel⟩
set_option maxRecDepth 20000 in
theorem cv_X2_37 : CV RX2 37 8 0 mX8_stretches := ⟨ck_X8_stretches, _, _, _, rfl, rfl, okB (by decide +kernel), okB (by decide +kernel), okB (by decide +kernel), by decide +kernel⟩
set_option maxRecDepth 20000 in
theorem ck_J9_min_7cf53 : CK mJ9_min_7cf53 := ⟨okB (by decide +kernel), okB (by decide +kernel), by decide, by decide +kernel, by decide +kernel⟩
set_option maxRecDepth 20000 in
theorem cs_X2_39 : CS RX2 39 2 mJ9_min_7cf53 := ⟨ck_J9_min_7cf53, Or.inl (okB (by decide +kernel)), okB (by decide +kernel), by decide +kernel⟩
set_option maxRecDepth 20000 in
theorem fg_X2_45_2 : FG RX2 45 2 4 := ⟨_, _, _, "HomeByFour$Net", rfl, by decide, okB (by decide +kernel), Or.inl rfl⟩
set_option maxRecDepth 20000 in
theorem fr_X2_45_2 : FR RX2 45 2 4 (.int) false := ⟨_, _, _, "HomeByFour$Net", rfl, by decide, okB (by decide +kernel), Or.inl rfl, by decide +kernel, rfl, fun h => absurd h (by decide)⟩
set_option maxRecDepth 20000 in
theorem ck_X8_makeStretch : CK mX8_makeStretch := ⟨okB (by decide +kernel), okB (by decide +kernel), by decide, by decide +kernel, by decide +kernel⟩
set_option maxRecDepth 20000 in
theorem cv_X2_48 : CV RX2 48 8 1 mX8_makeStretch := ⟨ck_X8_makeStretch, _, _, _, rfl, rfl, okB (by decide +kernel), okB (by decide +kernel), okB (by decide +kernel), by decide +kernel⟩
set_option maxRecDepth 20000 in
theorem fg_X2_52_2 : FG RX2 52 2 5 := ⟨_, _, _, "HomeByFour$Net", rfl, by decide, okB (by decide +kernel), Or.inl rfl⟩
set_option maxRecDepth 20000 in
theorem fr_X2_52_2 : FR RX2 52 2 5 (.int) false := ⟨_, _, _, "HomeByFour$Net", rfl, by decide, okB (by decide +kernel), Or.inl rfl, by decide +kernel, rfl, fun h => absurd h (by decide)⟩
set_option maxRecDepth 20000 in
theorem fg_X2_55_2 : FG RX2 55 2 6 := ⟨_, _, _, "HomeByFour$Net", rfl, by decide, okB (by decide +kernel), Or.inl rfl⟩
set_option maxRecDepth 20000 in
theorem fr_X2_55_2 : FR RX2 55 2 6 (.int) false := ⟨_, _, _, "HomeByFour$Net", rfl, by decide, okB (by decide +kernel), Or.inl rfl, by decide +kernel, rfl, fun h => absurd h (by decide)⟩
set_option maxRecDepth 20000 in
theorem fg_X2_58_2 : FG RX2 58 2 8 := ⟨_, _, _, "HomeByFour$Net", rfl, by decide, okB (by decide +kernel), Or.inl rfl⟩
set_option maxRecDepth 20000 in
theorem fr_X2_58_2 : FR RX2 58 2 8 (.int) false := ⟨_, _, _, "HomeByFour$Net", rfl, by decide, okB (by decide +kernel), Or.inl rfl, by decide +kernel, rfl, fun h => absurd h (by decide)⟩
set_option maxRecDepth 20000 in
theorem cv_X2_61 : CV RX2 61 2 1 mX2_befriend := ⟨ck_X2_befriend, _, _, _, rfl, rfl, okB (by decide +kernel), okB (by decide +kernel), okB (by decide +kernel), by decide +kernel⟩
set_option maxRecDepth 20000 in
theorem cv_X2_65 : CV RX2 65 2 1 mX2_stretchAt := ⟨ck_X2_stretchAt, _, _, _, rfl, rfl, okB (by decide +kernel), okB (by decide +kernel), okB (by decide +kernel), by decide +kernel⟩
set_option maxRecDepth 20000 in
theorem ck_X7_shareWith : CK mX7_shareWith := ⟨okB (by decide +kernel), okB (by decide +kernel), by decide, by decide +kernel, by decide +kernel⟩
set_option maxRecDepth 20000 in
theorem co_X2_68_1 : CO RX2 68 1 1 mX7_shareWith := ⟨ck_X7_shareWith, _, _, _, "HomeByFour$Stretch", (⟨"HomeByFour$Stretch", "shareWith", "(I)V"⟩ : MethodName), cX7_shareWith, 3, none, rfl, okB (by decide +kernel), okB (by decide +kernel), okB (by decide +kernel), okB (by decide +kernel), okB (by decide +kernel), okB (by decide +kernel), ⟨by decide +kernel, by decide +kernel⟩, by decide +kernel⟩
set_option maxRecDepth 20000 in
theorem co_X2_68_6 : CO RX2 68 6 1 mX7_shareWith := ⟨ck_X7_shareWith, _, _, _, "HomeByFour$Stretch", (⟨"HomeByFour$Stretch", "shareWith", "(I)V"⟩ : MethodName), cX7_shareWith, 3, none, rfl, okB (by decide +kernel), okB (by decide +kernel), okB (by decide +kernel), okB (by decide +kernel), okB (by decide +kernel), okB (by decide +kernel), ⟨by decide +kernel, by decide +kernel⟩, by decide +kernel⟩
set_option maxRecDepth 20000 in
theorem co_X2_68_7 : CO RX2 68 7 1 mX7_shareWith := ⟨ck_X7_shareWith, _, _, _, "HomeByFour$Stretch", (⟨"HomeByFour$Stretch", "shareWith", "(I)V"⟩ : MethodName), cX7_shareWith, 3, none, rfl, okB (by decide +kernel), okB (by decide +kernel), okB (by decide +kernel), okB (by decide +kernel), okB (by decide +kernel), okB (by decide +kernel), ⟨by decide +kernel, by decide +kernel⟩, by decide +kernel⟩
set_option maxRecDepth 20000 in
theorem ir_X2_71_1 : IR RX2 71 1 1 := ⟨_, _, _, "HomeByFour$Muddy", rfl, okB (by decide +kernel), Or.inl ⟨rfl, Or.inl rfl⟩⟩
set_option maxRecDepth 20000 in
theorem ir_X2_71_6 : IR RX2 71 6 1 := ⟨_, _, _, "HomeByFour$Muddy", rfl, okB (by decide +kernel), Or.inl ⟨rfl, Or.inr (by decide +kernel)⟩⟩
set_option maxRecDepth 20000 in
theorem ir_X2_71_7 : IR RX2 71 7 0 := ⟨_, _, _, "HomeByFour$Muddy", rfl, okB (by decide +kernel), Or.inr ⟨rfl, by decide +kernel⟩⟩
set_option maxRecDepth 20000 in
theorem fg_X2_73_10 : FG RX2 73 10 2 := ⟨_, _, _, "HomeByFour$Walk", rfl, by decide, okB (by decide +kernel), Or.inl rfl⟩
set_option maxRecDepth 20000 in
theorem fg_X2_78_10 : FG RX2 78 10 3 := ⟨_, _, _, "HomeByFour$Walk", rfl, by decide, okB (by decide +kernel), Or.inl rfl⟩
set_option maxRecDepth 20000 in
theorem ck_X2_costOf : CK mX2_costOf := ⟨okB (by decide +kernel), okB (by decide +kernel), by decide, by decide +kernel, by decide +kernel⟩
set_option maxRecDepth 20000 in
theorem cv_X2_81 : CV RX2 81 2 1 mX2_costOf := ⟨ck_X2_costOf, _, _, _, rfl, rfl, okB (by decide +kernel), okB (by decide +kernel), okB (by decide +kernel), by decide +kernel⟩
set_option maxRecDepth 20000 in
theorem wl_X3_3 : Cond.methodLink RX3 3 objectInit ∈ BIG := okB (by decide +kernel)
set_option maxRecDepth 20000 in
theorem fg_X3_9_3 : FG RX3 9 3 0 := ⟨_, _, _, "HomeByFour$Quickest", rfl, by decide, okB (by decide +kernel), Or.inl rfl⟩
set_option maxRecDepth 20000 in
theorem fr_X3_9_3 : FR RX3 9 3 0 (.array (.int)) true := ⟨_, _, _, "HomeByFour$Quickest", rfl, by decide, okB (by decide +kernel), Or.inl rfl, by decide +kernel, rfl, fun _ => rfl⟩
set_option maxRecDepth 20000 in
theorem cv_X3_15 : CV RX3 15 2 1 mX2_hasPlace := ⟨ck_X2_hasPlace, _, _, _, rfl, rfl, okB (by decide +kernel), okB (by decide +kernel), okB (by decide +kernel), by decide +kernel⟩
set_option maxRecDepth 20000 in
theorem wl_X3_21 : Cond.constant RX3 21 (1000000) ∈ BIG := okB (by decide +kernel)
set_option maxRecDepth 20000 in
theorem ck_J7_fill_53178 : CK mJ7_fill_53178 := ⟨okB (by decide +kernel), okB (by decide +kernel), by decide, by decide +kernel, by decide +kernel⟩
set_option maxRecDepth 20000 in
theorem cs_X3_22 : CS RX3 22 2 mJ7_fill_53178 := ⟨ck_J7_fill_53178, Or.inl (okB (by decide +kernel)), okB (by decide +kernel), by decide +kernel⟩
set_option maxRecDepth 20000 in
theorem fg_X3_28_2 : FG RX3 28 2 3 := ⟨_, _, _, "HomeByFour$Net", rfl, by decide, okB (by decide +kernel), Or.inl rfl⟩
set_option maxRecDepth 20000 in
theorem ck_X3_shorten : CK mX3_shorten := ⟨okB (by decide +kernel), okB (by decide +kernel), by decide, by decide +kernel, by decide +kernel⟩
set_option maxRecDepth 20000 in
theorem cv_X3_32 : CV RX3 32 3 1 mX3_shorten := ⟨ck_X3_shorten, _, _, _, rfl, rfl, okB (by decide +kernel), okB (by decide +kernel), okB (by decide +kernel), by decide +kernel⟩
set_option maxRecDepth 20000 in
theorem fg_X3_36_2 : FG RX3 36 2 4 := ⟨_, _, _, "HomeByFour$Net", rfl, by decide, okB (by decide +kernel), Or.inl rfl⟩
set_option maxRecDepth 20000 in
theorem cv_X3_39 : CV RX3 39 2 1 mX2_stretchAt := ⟨ck_X2_stretchAt, _, _, _, rfl, rfl, okB (by decide +kernel), okB (by decide +kernel), okB (by decide +kernel), by decide +kernel⟩
set_option maxRecDepth 20000 in
theorem fg_X3_43_1 : FG RX3 43 1 8 := ⟨_, _, _, "HomeByFour$Stretch", rfl, by decide, okB (by decide +kernel), Or.inl rfl⟩
set_option maxRecDepth 20000 in
theorem fg_X3_43_6 : FG RX3 43 6 8 := ⟨_, _, _, "HomeByFour$Stretch", rfl, by decide, okB (by decide +kernel), Or.inl rfl⟩
set_option maxRecDepth 20000 in
theorem fg_X3_43_7 : FG RX3 43 7 8 := ⟨_, _, _, "HomeByFour$Stretch", rfl, by decide, okB (by decide +kernel), Or.inl rfl⟩
set_option maxRecDepth 20000 in
theorem fg_X3_49_1 : FG RX3 49 1 2 := ⟨_, _, _, "HomeByFour$Stretch", rfl, by decide, okB (by decide +kernel), Or.inl rfl⟩
set_option maxRecDepth 20000 in
theorem fg_X3_49_6 : FG RX3 49 6 2 := ⟨_, _, _, "HomeByFour$Stretch", rfl, by decide, okB (by decide +kernel), Or.inl rfl⟩
set_option maxRecDepth 20000 in
theorem fg_X3_49_7 : FG RX3 49 7 2 := ⟨_, _, _, "HomeByFour$Stretch", rfl, by decide, okB (by decide +kernel), Or.inl rfl⟩
set_option maxRecDepth 20000 in
theorem fg_X3_52_1 : FG RX3 52 1 1 := ⟨_, _, _, "HomeByFour$Stretch", rfl, by decide, okB (by decide +kernel), Or.inl rfl⟩
set_option maxRecDepth 20000 in
theorem fg_X3_52_6 : FG RX3 52 6 1 := ⟨_, _, _, "HomeByFour$Stretch", rfl, by decide, okB (by decide +kernel), Or.inl rfl⟩
set_option maxRecDepth 20000 in
theorem fg_X3_52_7 : FG RX3 52 7 1 := ⟨_, _, _, "HomeByFour$Stretch", rfl, by decide, okB (by decide +kernel), Or.inl rfl⟩
set_option maxRecDepth 20000 in
theorem fg_X3_55_1 : FG RX3 55 1 6 := ⟨_, _, _, "HomeByFour$Stretch", rfl, by decide, okB (by decide +kernel), Or.inl rfl⟩
set_option maxRecDepth 20000 in
theorem fg_X3_55_6 : FG RX3 55 6 6 := ⟨_, _, _, "HomeByFour$Stretch", rfl, by decide, okB (by decide +kernel), Or.inl rfl⟩
set_option maxRecDepth 20000 in
theorem fg_X3_55_7 : FG RX3 55 7 6 := ⟨_, _, _, "HomeByFour$Stretch", rfl, by decide, okB (by decide +kernel), Or.inl rfl⟩
set_option maxRecDepth 20000 in
theorem ck_X3_shortenTo : CK mX3_shortenTo := ⟨okB (by decide +kernel), okB (by decide +kernel), by decide, by decide +kernel, by decide +kernel⟩
set_option maxRecDepth 20000 in
theorem cv_X3_58 : CV RX3 58 3 3 mX3_shortenTo := ⟨ck_X3_shortenTo, _, _, _, rfl, rfl, okB (by decide +kernel), okB (by decide +kernel), okB (by decide +kernel), by decide +kernel⟩
set_option maxRecDepth 20000 in
theorem cs_X3_62 : CS RX3 62 3 mX11_isWithin := ⟨ck_X11_isWithin, Or.inr ⟨"HomeByFour", by decide +kernel⟩, okB (by decide +kernel), by decide +kernel⟩
set_option maxRecDepth 20000 in
theorem cs_X3_66 : CS RX3 66 2 mJ9_min_7cf53 := ⟨ck_J9_min_7cf53, Or.inl (okB (by decide +kernel)), okB (by decide +kernel), by decide +kernel⟩
set_option maxRecDepth 20000 in
theorem wl_X4_3 : Cond.methodLink RX4 3 objectInit ∈ BIG := okB (by decide +kernel)
set_option maxRecDepth 20000 in
theorem wl_X4_9 : Cond.classLink RX4 9 "HomeByFour$Walk" ∈ BIG := okB (by decide +kernel)
set_option maxRecDepth 20000 in
theorem nr_X4_9 : NR RX4 9 10 [.int 0, .int 0, .int 0, .int 0, .int 0, .long 0] := ⟨_, _, _, tyX10, rfl, okB (by decide +kernel), okB (by decide +kernel), okB (by decide +kernel), tyX10_ok, by decide +kernel, by decide, rfl⟩
set_option maxRecDepth 20000 in
theorem fg_X4_11_4 : FG RX4 11 4 0 := ⟨_, _, _, "HomeByFour$Search", rfl, by decide, okB (by decide +kernel), Or.inl rfl⟩
set_option maxRecDepth 20000 in
theorem fr_X4_11_4 : FR RX4 11 4 0 (.array (.object "HomeByFour$Walk")) true := ⟨_, _, _, "HomeByFour$Search", rfl, by decide, okB (by decide +kernel), Or.inl rfl, by decide +kernel, rfl, fun _ => rfl⟩
set_option maxRecDepth 20000 in
theorem ci_X4_17 : CI RX4 17 0 mX10_init := ⟨ck_X10_init, Or.inr ⟨"HomeByFour", by decide +kernel⟩, okB (by decide +kernel), rfl, rfl, by decide +kernel⟩
set_option maxRecDepth 20000 in
theorem fg_X4_18_4 : FG RX4 18 4 1 := ⟨_, _, _, "HomeByFour$Search", rfl, by decide, okB (by decide +kernel), Or.inl rfl⟩
set_option maxRecDepth 20000 in
theorem fr_X4_18_4 : FR RX4 18 4 1 (.array (.int)) true := ⟨_, _, _, "HomeByFour$Search", rfl, by decide, okB (by decide +kernel), Or.inl rfl, by decide +kernel, rfl, fun _ => rfl⟩
set_option maxRecDepth 20000 in
theorem fg_X4_22_4 : FG RX4 22 4 2 := ⟨_, _, _, "HomeByFour$Search", rfl, by decide, okB (by decide +kernel), Or.inl rfl⟩
set_option maxRecDepth 20000 in
theorem fr_X4_22_4 : FR RX4 22 4 2 (.array (.int)) true := ⟨_, _, _, "HomeByFour$Search", rfl, by decide, okB (by decide +kernel), Or.inl rfl, by decide +kernel, rfl, fun _ => rfl⟩
set_option maxRecDepth 20000 in
theorem fg_X4_25_4 : FG RX4 25 4 6 := ⟨_, _, _, "HomeByFour$Search", rfl, by decide, okB (by decide +kernel), Or.inl rfl⟩
set_option maxRecDepth 20000 in
theorem fr_X4_25_4 : FR RX4 25 4 6 (.object "HomeByFour$Net") false := ⟨_, _, _, "HomeByFour$Search", rfl, by decide, okB (by decide +kernel), Or.inl rfl, by decide +kernel, rfl, fun h => absurd h (by decide)⟩
set_option maxRecDepth 20000 in
theorem fg_X4_29_4 : FG RX4 29 4 7 := ⟨_, _, _, "HomeByFour$Search", rfl, by decide, okB (by decide +kernel), Or.inl rfl⟩
set_option maxRecDepth 20000 in
theorem fr_X4_29_4 : FR RX4 29 4 7 (.int) false := ⟨_, _, _, "HomeByFour$Search", rfl, by decide, okB (by decide +kernel), Or.inl rfl, by decide +kernel, rfl, fun h => absurd h (by decide)⟩
set_option maxRecDepth 20000 in
theorem cs_X4_33 : CS RX4 33 2 mJ9_min_7cf53 := ⟨ck_J9_min_7cf53, Or.inl (okB (by decide +kernel)), okB (by decide +kernel), by decide +kernel⟩
set_option maxRecDepth 20000 in
theorem fg_X4_39_4 : FG RX4 39 4 8 := ⟨_, _, _, "HomeByFour$Search", rfl, by decide, okB (by decide +kernel), Or.inl rfl⟩
set_option maxRecDepth 20000 in
theorem fr_X4_39_4 : FR RX4 39 4 8 (.int) false := ⟨_, _, _, "HomeByFour$Search", rfl, by decide, okB (by decide +kernel), Or.inl rfl, by decide +kernel, rfl, fun h => absurd h (by decide)⟩
set_option maxRecDepth 20000 in
theorem fg_X4_42_4 : FG RX4 42 4 9 := ⟨_, _, _, "HomeByFour$Search", rfl, by decide, okB (by decide +kernel), Or.inl rfl⟩
set_option maxRecDepth 20000 in
theorem fr_X4_42_4 : FR RX4 42 4 9 (.int) false := ⟨_, _, _, "HomeByFour$Search", rfl, by decide, okB (by decide +kernel), Or.inl rfl, by decide +kernel, rfl, fun h => absurd h (by decide)⟩
set_option maxRecDepth 20000 in
theorem ck_X2_readSet : CK mX2_readSet := ⟨okB (by decide +kernel), okB (by decide +kernel), by decide, by decide +kernel, by decide +kernel⟩
set_option maxRecDepth 20000 in
theorem cv_X4_45 : CV RX4 45 2 1 mX2_readSet := ⟨ck_X2_readSet, _, _, _, rfl, rfl, okB (by decide +kernel), okB (by decide +kernel), okB (by decide +kernel), by decide +kernel⟩
set_option maxRecDepth 20000 in
theorem fg_X4_51_4 : FG RX4 51 4 10 := ⟨_, _, _, "HomeByFour$Search", rfl, by decide, okB (by decide +kernel), Or.inl rfl⟩
set_option maxRecDepth 20000 in
theorem fr_X4_51_4 : FR RX4 51 4 10 (.int) false := ⟨_, _, _, "HomeByFour$Search", rfl, by decide, okB (by decide +kernel), Or.inl rfl, by decide +kernel, rfl, fun h => absurd h (by decide)⟩
set_option maxRecDepth 20000 in
theorem fg_X4_54_4 : FG RX4 54 4 11 := ⟨_, _, _, "HomeByFour$Search", rfl, by decide, okB (by decide +kernel), Or.inl rfl⟩
set_option maxRecDepth 20000 in
theorem fr_X4_54_4 : FR RX4 54 4 11 (.int) false := ⟨_, _, _, "HomeByFour$Search", rfl, by decide, okB (by decide +kernel), Or.inl rfl, by decide +kernel, rfl, fun h => absurd h (by decide)⟩
set_option maxRecDepth 20000 in
theorem ck_X2_muddySet : CK mX2_muddySet := ⟨okB (by decide +kernel), okB (by decide +kernel), by decide, by decide +kernel, by decide +kernel⟩
set_option maxRecDepth 20000 in
theorem cv_X4_57 : CV RX4 57 2 0 mX2_muddySet := ⟨ck_X2_muddySet, _, _, _, rfl, rfl, okB (by decide +kernel), okB (by decide +kernel), okB (by decide +kernel), by decide +kernel⟩
set_option maxRecDepth 20000 in
theorem fg_X4_61_4 : FG RX4 61 4 12 := ⟨_, _, _, "HomeByFour$Search", rfl, by decide, okB (by decide +kernel), Or.inl rfl⟩
set_option maxRecDepth 20000 in
theorem fr_X4_61_4 : FR RX4 61 4 12 (.int) false := ⟨_, _, _, "HomeByFour$Search", rfl, by decide, okB (by decide +kernel), Or.inl rfl, by decide +kernel, rfl, fun h => absurd h (by decide)⟩
set_option maxRecDepth 20000 in
theorem fg_X4_64_4 : FG RX4 64 4 4 := ⟨_, _, _, "HomeByFour$Search", rfl, by decide, okB (by decide +kernel), Or.inl rfl⟩
set_option maxRecDepth 20000 in
theorem fr_X4_64_4 : FR RX4 64 4 4 (.int) false := ⟨_, _, _, "HomeByFour$Search", rfl, by decide, okB (by decide +kernel), Or.inl rfl, by decide +kernel, rfl, fun h => absurd h (by decide)⟩
set_option maxRecDepth 20000 in
theorem fg_X4_67_4 : FG RX4 67 4 5 := ⟨_, _, _, "HomeByFour$Search", rfl, by decide, okB (by decide +kernel), Or.inl rfl⟩
set_option maxRecDepth 20000 in
theorem fr_X4_67_4 : FR RX4 67 4 5 (.int) false := ⟨_, _, _, "HomeByFour$Search", rfl, by decide, okB (by decide +kernel), Or.inl rfl, by decide +kernel, rfl, fun h => absurd h (by decide)⟩
set_option maxRecDepth 20000 in
theorem fg_X4_70_4 : FG RX4 70 4 3 := ⟨_, _, _, "HomeByFour$Search", rfl, by decide, okB (by decide +kernel), Or.inl rfl⟩
set_option maxRecDepth 20000 in
theorem fr_X4_70_4 : FR RX4 70 4 3 (.int) false := ⟨_, _, _, "HomeByFour$Search", rfl, by decide, okB (by decide +kernel), Or.inl rfl, by decide +kernel, rfl, fun h => absurd h (by decide)⟩
set_option maxRecDepth 20000 in
theorem cv_X4_73 : CV RX4 73 10 0 mX10_begin := ⟨ck_X10_begin, _, _, _, rfl, rfl, okB (by decide +kernel), okB (by decide +kernel), okB (by decide +kernel), by decide +kernel⟩
set_option maxRecDepth 20000 in
theorem ck_X4_goOn : CK mX4_goOn := ⟨okB (by decide +kernel), okB (by decide +kernel), by decide, by decide +kernel, by decide +kernel⟩
set_option maxRecDepth 20000 in
theorem cv_X4_76 : CV RX4 76 4 1 mX4_goOn := ⟨ck_X4_goOn, _, _, _, rfl, rfl, okB (by decide +kernel), okB (by decide +kernel), okB (by decide +kernel), by decide +kernel⟩
set_option maxRecDepth 20000 in
theorem fg_X4_80_2 : FG RX4 80 2 4 := ⟨_, _, _, "HomeByFour$Net", rfl, by decide, okB (by decide +kernel), Or.inl rfl⟩
set_option maxRecDepth 20000 in
theorem cv_X4_83 : CV RX4 83 2 1 mX2_stretchAt := ⟨ck_X2_stretchAt, _, _, _, rfl, rfl, okB (by decide +kernel), okB (by decide +kernel), okB (by decide +kernel), by decide +kernel⟩
set_option maxRecDepth 20000 in
theorem fg_X4_87_10 : FG RX4 87 10 0 := ⟨_, _, _, "HomeByFour$Walk", rfl, by decide, okB (by decide +kernel), Or.inl rfl⟩
set_option maxRecDepth 20000 in
theorem co_X4_90_1 : CO RX4 90 1 1 mX7_leadsFrom := ⟨ck_X7_leadsFrom, _, _, _, "HomeByFour$Stretch", (⟨"HomeByFour$Stretch", "leadsFrom", "(I)Z"⟩ : MethodName), cX7_leadsFrom, 2, (some .boolean), rfl, okB (by decide +kernel), okB (by decide +kernel), okB (by decide +kernel), okB (by decide +kernel), okB (by decide +kernel), okB (by decide +kernel), ⟨by decide +kernel, by decide +kernel⟩, by decide +kernel⟩
set_option maxRecDepth 20000 in
theorem co_X4_90_6 : CO RX4 90 6 1 mX7_leadsFrom := ⟨ck_X7_leadsFrom, _, _, _, "HomeByFour$Stretch", (⟨"HomeByFour$Stretch", "leadsFrom", "(I)Z"⟩ : MethodName), cX7_leadsFrom, 2, (some .boolean), rfl, okB (by decide +kernel), okB (by decide +kernel), okB (by decide +kernel), okB (by decide +kernel), okB (by decide +kernel), okB (by decide +kernel), ⟨by decide +kernel, by decide +kernel⟩, by decide +kernel⟩
set_option maxRecDepth 20000 in
theorem co_X4_90_7 : CO RX4 90 7 1 mX7_leadsFrom := ⟨ck_X7_leadsFrom, _, _, _, "HomeByFour$Stretch", (⟨"HomeByFour$Stretch", "leadsFrom", "(I)Z"⟩ : MethodName), cX7_leadsFrom, 2, (some .boolean), rfl, okB (by decide +kernel), okB (by decide +kernel), okB (by decide +kernel), okB (by decide +kernel), okB (by decide +kernel), okB (by decide +kernel), ⟨by decide +kernel, by decide +kernel⟩, by decide +kernel⟩
set_option maxRecDepth 20000 in
theorem cv_X4_96 : CV RX4 96 10 2 mX10_follow := ⟨ck_X10_follow, _, _, _, rfl, rfl, okB (by decide +kernel), okB (by decide +kernel), okB (by decide +kernel), by decide +kernel⟩
set_option maxRecDepth 20000 in
theorem cv_X4_100 : CV RX4 100 2 0 mX2_home := ⟨ck_X2_home, _, _, _, rfl, rfl, okB (by decide +kernel), okB (by decide +kernel), okB (by decide +kernel), by decide +kernel⟩
set_option maxRecDepth 20000 in
theorem ck_X4_weigh : CK mX4_weigh := ⟨okB (by decide +kernel), okB (by decide +kernel), by decide, by decide +kernel, by decide +kernel⟩
set_option maxRecDepth 20000 in
theorem cv_X4_103 : CV RX4 103 4 1 mX4_weigh := ⟨ck_X4_weigh, _, _, _, rfl, rfl, okB (by decide +kernel), okB (by decide +kernel), okB (by decide +kernel), by decide +kernel⟩
set_option maxRecDepth 20000 in
theorem ck_X4_isTrail : CK mX4_isTrail := ⟨okB (by decide +kernel), okB (by decide +kernel), by decide, by decide +kernel, by decide +kernel⟩
set_option maxRecDepth 20000 in
theorem cv_X4_107 : CV RX4 107 4 1 mX4_isTrail := ⟨ck_X4_isTrail, _, _, _, rfl, rfl, okB (by decide +kernel), okB (by decide +kernel), okB (by decide +kernel), by decide +kernel⟩
set_option maxRecDepth 20000 in
theorem ck_X4_scoreOf : CK mX4_scoreOf := ⟨okB (by decide +kernel), okB (by decide +kernel), by decide, by decide +kernel, by decide +kernel⟩
set_option maxRecDepth 20000 in
theorem cv_X4_111 : CV RX4 111 4 1 mX4_scoreOf := ⟨ck_X4_scoreOf, _, _, _, rfl, rfl, okB (by decide +kernel), okB (by decide +kernel), okB (by decide +kernel), by decide +kernel⟩
set_option maxRecDepth 20000 in
theorem fg_X4_115_10 : FG RX4 115 10 1 := ⟨_, _, _, "HomeByFour$Walk", rfl, by decide, okB (by decide +kernel), Or.inl rfl⟩
set_option maxRecDepth 20000 in
theorem wl_X4_118 : Cond.methodLink RX4 118 arraycopyName ∈ BIG := okB (by decide +kernel)
set_option maxRecDepth 20000 in
theorem fg_X4_124_10 : FG RX4 124 10 4 := ⟨_, _, _, "HomeByFour$Walk", rfl, by decide, okB (by decide +kernel), Or.inl rfl⟩
set_option maxRecDepth 20000 in
theorem fg_X4_127_10 : FG RX4 127 10 2 := ⟨_, _, _, "HomeByFour$Walk", rfl, by decide, okB (by decide +kernel), Or.inl rfl⟩
set_option maxRecDepth 20000 in
theorem cv_X4_128 : CV RX4 128 2 1 mX2_joyOf := ⟨ck_X2_joyOf, _, _, _, rfl, rfl, okB (by decide +kernel), okB (by decide +kernel), okB (by decide +kernel), by decide +kernel⟩
set_option maxRecDepth 20000 in
theorem fg_X4_131_10 : FG RX4 131 10 5 := ⟨_, _, _, "HomeByFour$Walk", rfl, by decide, okB (by decide +kernel), Or.inl rfl⟩
set_option maxRecDepth 20000 in
theorem wl_X4_135 : Cond.constantLong RX4 135 (10) ∈ BIG := okB (by decide +kernel)
set_option maxRecDepth 20000 in
theorem cs_X4_137 : CS RX4 137 2 mX11_powerOf := ⟨ck_X11_powerOf, Or.inr ⟨"HomeByFour", by decide +kernel⟩, okB (by decide +kernel), by decide +kernel⟩
set_option maxRecDepth 20000 in
theorem wl_X5_3 : Cond.methodLink RX5 3 objectInit ∈ BIG := okB (by decide +kernel)
set_option maxRecDepth 20000 in
theorem fg_X5_9_5 : FG RX5 9 5 0 := ⟨_, _, _, "HomeByFour$Sheet", rfl, by decide, okB (by decide +kernel), Or.inl rfl⟩
set_option maxRecDepth 20000 in
theorem fr_X5_9_5 : FR RX5 9 5 0 (.array (.int)) true := ⟨_, _, _, "HomeByFour$Sheet", rfl, by decide, okB (by decide +kernel), Or.inl rfl, by decide +kernel, rfl, fun _ => rfl⟩
set_option maxRecDepth 20000 in
theorem fg_X5_15_5 : FG RX5 15 5 1 := ⟨_, _, _, "HomeByFour$Sheet", rfl, by decide, okB (by decide +kernel), Or.inl rfl⟩
set_option maxRecDepth 20000 in
theorem fr_X5_15_5 : FR RX5 15 5 1 (.int) false := ⟨_, _, _, "HomeByFour$Sheet", rfl, by decide, okB (by decide +kernel), Or.inl rfl, by decide +kernel, rfl, fun h => absurd h (by decide)⟩
set_option maxRecDepth 20000 in
theorem fg_X5_19_5 : FG RX5 19 5 2 := ⟨_, _, _, "HomeByFour$Sheet", rfl, by decide, okB (by decide +kernel), Or.inl rfl⟩
set_option maxRecDepth 20000 in
theorem fr_X5_19_5 : FR RX5 19 5 2 (.int) false := ⟨_, _, _, "HomeByFour$Sheet", rfl, by decide, okB (by decide +kernel), Or.inl rfl, by decide +kernel, rfl, fun h => absurd h (by decide)⟩
set_option maxRecDepth 20000 in
theorem cs_X5_22 : CS RX5 22 2 mJ7_fill_53178 := ⟨ck_J7_fill_53178, Or.inl (okB (by decide +kernel)), okB (by decide +kernel), by decide +kernel⟩
set_option maxRecDepth 20000 in
theorem cv_X5_28 : CV RX5 28 5 1 mX5_hasCell := ⟨ck_X5_hasCell, _, _, _, rfl, rfl, okB (by decide +kernel), okB (by decide +kernel), okB (by decide +kernel), by decide +kernel⟩
set_option maxRecDepth 20000 in
theorem cv_X5_32 : CV RX5 32 5 0 mX5_hasNothing := ⟨ck_X5_hasNothing, _, _, _, rfl, rfl, okB (by decide +kernel), okB (by decide +kernel), okB (by decide +kernel), by decide +kernel⟩
set_option maxRecDepth 20000 in
theorem cv_X5_36 : CV RX5 36 5 1 mX5_faultOfRow := ⟨ck_X5_faultOfRow, _, _, _, rfl, rfl, okB (by decide +kernel), okB (by decide +kernel), okB (by decide +kernel), by decide +kernel⟩
set_option maxRecDepth 20000 in
theorem cv_X5_40 : CV RX5 40 5 2 mX5_hasCells := ⟨ck_X5_hasCells, _, _, _, rfl, rfl, okB (by decide +kernel), okB (by decide +kernel), okB (by decide +kernel), by decide +kernel⟩
set_option maxRecDepth 20000 in
theorem ck_X1_init : CK mX1_init := ⟨okB (by decide +kernel), okB (by decide +kernel), by decide, by decide +kernel, by decide +kernel⟩
set_option maxRecDepth 20000 in
theorem ci_X6_1 : CI RX6 1 6 mX1_init := ⟨ck_X1_init, Or.inl (okB (by decide +kernel)), okB (by decide +kernel), rfl, rfl, by decide +kernel⟩
set_option maxRecDepth 20000 in
theorem ck_X1_minutesAlone : CK mX1_minutesAlone := ⟨okB (by decide +kernel), okB (by decide +kernel), by decide, by decide +kernel, by decide +kernel⟩
set_option maxRecDepth 20000 in
theorem cu_X6_7 : CU RX6 7 0 mX1_minutesAlone := ⟨ck_X1_minutesAlone, okB (by decide +kernel), okB (by decide +kernel), okB (by decide +kernel), okB (by decide +kernel), by decide +kernel, by decide +kernel⟩
set_option maxRecDepth 20000 in
theorem cv_X6_11 : CV RX6 11 9 1 mX9_leave := ⟨ck_X9_leave, _, _, _, rfl, rfl, okB (by decide +kernel), okB (by decide +kernel), okB (by decide +kernel), by decide +kernel⟩
set_option maxRecDepth 20000 in
theorem cu_X6_17 : CU RX6 17 1 mX1_toldWith := ⟨ck_X1_toldWith, okB (by decide +kernel), okB (by decide +kernel), okB (by decide +kernel), okB (by decide +kernel), by decide +kernel, by decide +kernel⟩
set_option maxRecDepth 20000 in
theorem ck_X7_toldAsStretch : CK mX7_toldAsStretch := ⟨okB (by decide +kernel), okB (by decide +kernel), by decide, by decide +kernel, by decide +kernel⟩
set_option maxRecDepth 20000 in
theorem co_X6_21_6 : CO RX6 21 6 1 mX7_toldAsStretch := ⟨ck_X7_toldAsStretch, _, _, _, "HomeByFour$Stretch", (⟨"HomeByFour$Steep", "toldAsStretch", "(LHomeByFour$Trace;)I"⟩ : MethodName), cX7_toldAsStretch, 2, (some .int), rfl, okB (by decide +kernel), okB (by decide +kernel), okB (by decide +kernel), okB (by decide +kernel), okB (by decide +kernel), okB (by decide +kernel), ⟨by decide +kernel, by decide +kernel⟩, by decide +kernel⟩
set_option maxRecDepth 20000 in
theorem wl_X7_1 : Cond.methodLink RX7 1 objectInit ∈ BIG := okB (by decide +kernel)
set_option maxRecDepth 20000 in
theorem fg_X7_7_1 : FG RX7 7 1 0 := ⟨_, _, _, "HomeByFour$Stretch", rfl, by decide, okB (by decide +kernel), Or.inl rfl⟩
set_option maxRecDepth 20000 in
theorem fg_X7_7_6 : FG RX7 7 6 0 := ⟨_, _, _, "HomeByFour$Stretch", rfl, by decide, okB (by decide +kernel), Or.inl rfl⟩
set_option maxRecDepth 20000 in
theorem fg_X7_7_7 : FG RX7 7 7 0 := ⟨_, _, _, "HomeByFour$Stretch", rfl, by decide, okB (by decide +kernel), Or.inl rfl⟩
set_option maxRecDepth 20000 in
theorem fr_X7_7_1 : FR RX7 7 1 0 (.int) true := ⟨_, _, _, "HomeByFour$Stretch", rfl, by decide, okB (by decide +kernel), Or.inl rfl, by decide +kernel, rfl, fun _ => rfl⟩
set_option maxRecDepth 20000 in
theorem fr_X7_7_6 : FR RX7 7 6 0 (.int) true := ⟨_, _, _, "HomeByFour$Stretch", rfl, by decide, okB (by decide +kernel), Or.inl rfl, by decide +kernel, rfl, fun _ => rfl⟩
set_option maxRecDepth 20000 in
theorem fr_X7_7_7 : FR RX7 7 7 0 (.int) true := ⟨_, _, _, "HomeByFour$Stretch", rfl, by decide, okB (by decide +kernel), Or.inl rfl, by decide +kernel, rfl, fun _ => rfl⟩
set_option maxRecDepth 20000 in
theorem fg_X7_13_1 : FG RX7 13 1 1 := ⟨_, _, _, "HomeByFour$Stretch", rfl, by decide, okB (by decide +kernel), Or.inl rfl⟩
set_option maxRecDepth 20000 in
theorem fg_X7_13_6 : FG RX7 13 6 1 := ⟨_, _, _, "HomeByFour$Stretch", rfl, by decide, okB (by decide +kernel), Or.inl rfl⟩
set_option maxRecDepth 20000 in
theorem fg_X7_13_7 : FG RX7 13 7 1 := ⟨_, _, _, "HomeByFour$Stretch", rfl, by decide, okB (by decide +kernel), Or.inl rfl⟩
set_option maxRecDepth 20000 in
theorem fr_X7_13_1 : FR RX7 13 1 1 (.int) true := ⟨_, _, _, "HomeByFour$Stretch", rfl, by decide, okB (by decide +kernel), Or.inl rfl, by decide +kernel, rfl, fun _ => rfl⟩
set_option maxRecDepth 20000 in
theorem fr_X7_13_6 : FR RX7 13 6 1 (.int) true := ⟨_, _, _, "HomeByFour$Stretch", rfl, by decide, okB (by decide +kernel), Or.inl rfl, by decide +kernel, rfl, fun _ => rfl⟩
set_option maxRecDepth 20000 in
theorem fr_X7_13_7 : FR RX7 13 7 1 (.int) true := ⟨_, _, _, "HomeByFour$Stretch", rfl, by decide, okB (by decide +kernel), Or.inl rfl, by decide +kernel, rfl, fun _ => rfl⟩
set_option maxRecDepth 20000 in
theorem fg_X7_16_1 : FG RX7 16 1 2 := ⟨_, _, _, "HomeByFour$Stretch", rfl, by decide, okB (by decide +kernel), Or.inl rfl⟩
set_option maxRecDepth 20000 in
theorem fg_X7_16_6 : FG RX7 16 6 2 := ⟨_, _, _, "HomeByFour$Stretch", rfl, by decide, okB (by decide +kernel), Or.inl rfl⟩
set_option maxRecDepth 20000 in
theorem fg_X7_16_7 : FG RX7 16 7 2 := ⟨_, _, _, "HomeByFour$Stretch", rfl, by decide, okB (by decide +kernel), Or.inl rfl⟩
set_option maxRecDepth 20000 in
theorem fr_X7_16_1 : FR RX7 16 1 2 (.int) true := ⟨_, _, _, "HomeByFour$Stretch", rfl, by decide, okB (by decide +kernel), Or.inl rfl, by decide +kernel, rfl, fun _ => rfl⟩
set_option maxRecDepth 20000 in
theorem fr_X7_16_6 : FR RX7 16 6 2 (.int) true := ⟨_, _, _, "HomeByFour$Stretch", rfl, by decide, okB (by decide +kernel), Or.inl rfl, by decide +kernel, rfl, fun _ => rfl⟩
set_option maxRecDepth 20000 in
theorem fr_X7_16_7 : FR RX7 16 7 2 (.int) true := ⟨_, _, _, "HomeByFour$Stretch", rfl, by decide, okB (by decide +kernel), Or.inl rfl, by decide +kernel, rfl, fun _ => rfl⟩
set_option maxRecDepth 20000 in
theorem fg_X7_19_1 : FG RX7 19 1 3 := ⟨_, _, _, "HomeByFour$Stretch", rfl, by decide, okB (by decide +kernel), Or.inl rfl⟩
set_option maxRecDepth 20000 in
theorem fg_X7_19_6 : FG RX7 19 6 3 := ⟨_, _, _, "HomeByFour$Stretch", rfl, by decide, okB (by decide +kernel), Or.inl rfl⟩
end
section
set_option maxRecDepth 20000 in
theorem fg_X7_19_7 : FG RX7 19 7 3 := ⟨_, _, _, "HomeByFour$Stretch", rfl, by decide, okB (by decide +kernel), Or.inl rfl⟩
set_option maxRecDepth 20000 in
theorem fr_X7_19_1 : FR RX7 19 1 3 (.int) true := ⟨_, _, _, "HomeByFour$Stretch", rfl, by decide, okB (by decide +kernel), Or.inl rfl, by decide +kernel, rfl, fun _ => rfl⟩
set_option maxRecDepth 20000 in
theorem fr_X7_19_6 : FR RX7 19 6 3 (.int) true := ⟨_, _, _, "HomeByFour$Stretch", rfl, by decide, okB (by decide +kernel), Or.inl rfl, by decide +kernel, rfl, fun _ => rfl⟩
set_option maxRecDepth 20000 in
theorem fr_X7_19_7 : FR RX7 19 7 3 (.int) true := ⟨_, _, _, "HomeByFour$Stretch", rfl, by decide, okB (by decide +kernel), Or.inl rfl, by decide +kernel, rfl, fun _ => rfl⟩
set_option maxRecDepth 20000 in
theorem fr_X7_22_1 : FR RX7 22 1 4 (.int) true := ⟨_, _, _, "HomeByFour$Stretch", rfl, by decide, okB (by decide +kernel), Or.inl rfl, by decide +kernel, rfl, fun _ => rfl⟩
set_option maxRecDepth 20000 in
theorem fr_X7_22_6 : FR RX7 22 6 4 (.int) true := ⟨_, _, _, "HomeByFour$Stretch", rfl, by decide, okB (by decide +kernel), Or.inl rfl, by decide +kernel, rfl, fun _ => rfl⟩
set_option maxRecDepth 20000 in
theorem fr_X7_22_7 : FR RX7 22 7 4 (.int) true := ⟨_, _, _, "HomeByFour$Stretch", rfl, by decide, okB (by decide +kernel), Or.inl rfl, by decide +kernel, rfl, fun _ => rfl⟩
set_option maxRecDepth 20000 in
theorem fg_X7_25_1 : FG RX7 25 1 5 := ⟨_, _, _, "HomeByFour$Stretch", rfl, by decide, okB (by decide +kernel), Or.inl rfl⟩
set_option maxRecDepth 20000 in
theorem fg_X7_25_6 : FG RX7 25 6 5 := ⟨_, _, _, "HomeByFour$Stretch", rfl, by decide, okB (by decide +kernel), Or.inl rfl⟩
set_option maxRecDepth 20000 in
theorem fg_X7_25_7 : FG RX7 25 7 5 := ⟨_, _, _, "HomeByFour$Stretch", rfl, by decide, okB (by decide +kernel), Or.inl rfl⟩
set_option maxRecDepth 20000 in
theorem fr_X7_25_1 : FR RX7 25 1 5 (.int) true := ⟨_, _, _, "HomeByFour$Stretch", rfl, by decide, okB (by decide +kernel), Or.inl rfl, by decide +kernel, rfl, fun _ => rfl⟩
set_option maxRecDepth 20000 in
theorem fr_X7_25_6 : FR RX7 25 6 5 (.int) true := ⟨_, _, _, "HomeByFour$Stretch", rfl, by decide, okB (by decide +kernel), Or.inl rfl, by decide +kernel, rfl, fun _ => rfl⟩
set_option maxRecDepth 20000 in
theorem fr_X7_25_7 : FR RX7 25 7 5 (.int) true := ⟨_, _, _, "HomeByFour$Stretch", rfl, by decide, okB (by decide +kernel), Or.inl rfl, by decide +kernel, rfl, fun _ => rfl⟩
set_option maxRecDepth 20000 in
theorem fr_X7_28_1 : FR RX7 28 1 6 (.int) false := ⟨_, _, _, "HomeByFour$Stretch", rfl, by decide, okB (by decide +kernel), Or.inl rfl, by decide +kernel, rfl, fun h => absurd h (by decide)⟩
set_option maxRecDepth 20000 in
theorem fr_X7_28_6 : FR RX7 28 6 6 (.int) false := ⟨_, _, _, "HomeByFour$Stretch", rfl, by decide, okB (by decide +kernel), Or.inl rfl, by decide +kernel, rfl, fun h => absurd h (by decide)⟩
set_option maxRecDepth 20000 in
theorem fr_X7_28_7 : FR RX7 28 7 6 (.int) false := ⟨_, _, _, "HomeByFour$Stretch", rfl, by decide, okB (by decide +kernel), Or.inl rfl, by decide +kernel, rfl, fun h => absurd h (by decide)⟩
set_option maxRecDepth 20000 in
theorem fr_X7_31_1 : FR RX7 31 1 7 (.int) false := ⟨_, _, _, "HomeByFour$Stretch", rfl, by decide, okB (by decide +kernel), Or.inl rfl, by decide +kernel, rfl, fun h => absurd h (by decide)⟩
set_option maxRecDepth 20000 in
theorem fr_X7_31_6 : FR RX7 31 6 7 (.int) false := ⟨_, _, _, "HomeByFour$Stretch", rfl, by decide, okB (by decide +kernel), Or.inl rfl, by decide +kernel, rfl, fun h => absurd h (by decide)⟩
set_option maxRecDepth 20000 in
theorem fr_X7_31_7 : FR RX7 31 7 7 (.int) false := ⟨_, _, _, "HomeByFour$Stretch", rfl, by decide, okB (by decide +kernel), Or.inl rfl, by decide +kernel, rfl, fun h => absurd h (by decide)⟩
set_option maxRecDepth 20000 in
theorem fg_X7_34_1 : FG RX7 34 1 8 := ⟨_, _, _, "HomeByFour$Stretch", rfl, by decide, okB (by decide +kernel), Or.inl rfl⟩
set_option maxRecDepth 20000 in
theorem fg_X7_34_6 : FG RX7 34 6 8 := ⟨_, _, _, "HomeByFour$Stretch", rfl, by decide, okB (by decide +kernel), Or.inl rfl⟩
set_option maxRecDepth 20000 in
theorem fg_X7_34_7 : FG RX7 34 7 8 := ⟨_, _, _, "HomeByFour$Stretch", rfl, by decide, okB (by decide +kernel), Or.inl rfl⟩
set_option maxRecDepth 20000 in
theorem fr_X7_34_1 : FR RX7 34 1 8 (.boolean) false := ⟨_, _, _, "HomeByFour$Stretch", rfl, by decide, okB (by decide +kernel), Or.inl rfl, by decide +kernel, rfl, fun h => absurd h (by decide)⟩
set_option maxRecDepth 20000 in
theorem fr_X7_34_6 : FR RX7 34 6 8 (.boolean) false := ⟨_, _, _, "HomeByFour$Stretch", rfl, by decide, okB (by decide +kernel), Or.inl rfl, by decide +kernel, rfl, fun h => absurd h (by decide)⟩
set_option maxRecDepth 20000 in
theorem fr_X7_34_7 : FR RX7 34 7 8 (.boolean) false := ⟨_, _, _, "HomeByFour$Stretch", rfl, by decide, okB (by decide +kernel), Or.inl rfl, by decide +kernel, rfl, fun h => absurd h (by decide)⟩
set_option maxRecDepth 20000 in
theorem co_X7_38_1 : CO RX7 38 1 0 mX1_minutesAlone := ⟨ck_X1_minutesAlone, _, _, _, "HomeByFour$Stretch", (⟨"HomeByFour$Stretch", "minutesAlone", "()I"⟩ : MethodName), cX7_minutesAlone, 1, (some .int), rfl, okB (by decide +kernel), okB (by decide +kernel), okB (by decide +kernel), okB (by decide +kernel), okB (by decide +kernel), okB (by decide +kernel), ⟨by decide +kernel, by decide +kernel⟩, by decide +kernel⟩
set_option maxRecDepth 20000 in
theorem ck_X6_minutesAlone : CK mX6_minutesAlone := ⟨okB (by decide +kernel), okB (by decide +kernel), by decide, by decide +kernel, by decide +kernel⟩
set_option maxRecDepth 20000 in
theorem co_X7_38_6 : CO RX7 38 6 0 mX6_minutesAlone := ⟨ck_X6_minutesAlone, _, _, _, "HomeByFour$Stretch", (⟨"HomeByFour$Stretch", "minutesAlone", "()I"⟩ : MethodName), cX7_minutesAlone, 1, (some .int), rfl, okB (by decide +kernel), okB (by decide +kernel), okB (by decide +kernel), okB (by decide +kernel), okB (by decide +kernel), okB (by decide +kernel), ⟨by decide +kernel, by decide +kernel⟩, by decide +kernel⟩
set_option maxRecDepth 20000 in
theorem ck_X7_minutesAlone : CK mX7_minutesAlone := ⟨okB (by decide +kernel), okB (by decide +kernel), by decide, by decide +kernel, by decide +kernel⟩
set_option maxRecDepth 20000 in
theorem co_X7_38_7 : CO RX7 38 7 0 mX7_minutesAlone := ⟨ck_X7_minutesAlone, _, _, _, "HomeByFour$Stretch", (⟨"HomeByFour$Stretch", "minutesAlone", "()I"⟩ : MethodName), cX7_minutesAlone, 1, (some .int), rfl, okB (by decide +kernel), okB (by decide +kernel), okB (by decide +kernel), okB (by decide +kernel), okB (by decide +kernel), okB (by decide +kernel), ⟨by decide +kernel, by decide +kernel⟩, by decide +kernel⟩
set_option maxRecDepth 20000 in
theorem co_X7_42_1 : CO RX7 42 1 1 mX7_toldAsStretch := ⟨ck_X7_toldAsStretch, _, _, _, "HomeByFour$Stretch", (⟨"HomeByFour$Stretch", "toldAsStretch", "(LHomeByFour$Trace;)I"⟩ : MethodName), cX7_toldAsStretch, 2, (some .int), rfl, okB (by decide +kernel), okB (by decide +kernel), okB (by decide +kernel), okB (by decide +kernel), okB (by decide +kernel), okB (by decide +kernel), ⟨by decide +kernel, by decide +kernel⟩, by decide +kernel⟩
set_option maxRecDepth 20000 in
theorem co_X7_42_6 : CO RX7 42 6 1 mX7_toldAsStretch := ⟨ck_X7_toldAsStretch, _, _, _, "HomeByFour$Stretch", (⟨"HomeByFour$Stretch", "toldAsStretch", "(LHomeByFour$Trace;)I"⟩ : MethodName), cX7_toldAsStretch, 2, (some .int), rfl, okB (by decide +kernel), okB (by decide +kernel), okB (by decide +kernel), okB (by decide +kernel), okB (by decide +kernel), okB (by decide +kernel), ⟨by decide +kernel, by decide +kernel⟩, by decide +kernel⟩
set_option maxRecDepth 20000 in
theorem co_X7_42_7 : CO RX7 42 7 1 mX7_toldAsStretch := ⟨ck_X7_toldAsStretch, _, _, _, "HomeByFour$Stretch", (⟨"HomeByFour$Stretch", "toldAsStretch", "(LHomeByFour$Trace;)I"⟩ : MethodName), cX7_toldAsStretch, 2, (some .int), rfl, okB (by decide +kernel), okB (by decide +kernel), okB (by decide +kernel), okB (by decide +kernel), okB (by decide +kernel), okB (by decide +kernel), ⟨by decide +kernel, by decide +kernel⟩, by decide +kernel⟩
set_option maxRecDepth 20000 in
theorem cv_X7_46 : CV RX7 46 9 1 mX9_leave := ⟨ck_X9_leave, _, _, _, rfl, rfl, okB (by decide +kernel), okB (by decide +kernel), okB (by decide +kernel), by decide +kernel⟩
set_option maxRecDepth 20000 in
theorem wl_X8_3 : Cond.methodLink RX8 3 objectInit ∈ BIG := okB (by decide +kernel)
set_option maxRecDepth 20000 in
theorem fg_X8_9_8 : FG RX8 9 8 0 := ⟨_, _, _, "HomeByFour$Text", rfl, by decide, okB (by decide +kernel), Or.inl rfl⟩
set_option maxRecDepth 20000 in
theorem fr_X8_9_8 : FR RX8 9 8 0 (.object "HomeByFour$Sheet") true := ⟨_, _, _, "HomeByFour$Text", rfl, by decide, okB (by decide +kernel), Or.inl rfl, by decide +kernel, rfl, fun _ => rfl⟩
set_option maxRecDepth 20000 in
theorem fg_X8_15_8 : FG RX8 15 8 1 := ⟨_, _, _, "HomeByFour$Text", rfl, by decide, okB (by decide +kernel), Or.inl rfl⟩
set_option maxRecDepth 20000 in
theorem fr_X8_15_8 : FR RX8 15 8 1 (.int) true := ⟨_, _, _, "HomeByFour$Text", rfl, by decide, okB (by decide +kernel), Or.inl rfl, by decide +kernel, rfl, fun _ => rfl⟩
set_option maxRecDepth 20000 in
theorem fg_X8_19_8 : FG RX8 19 8 2 := ⟨_, _, _, "HomeByFour$Text", rfl, by decide, okB (by decide +kernel), Or.inl rfl⟩
set_option maxRecDepth 20000 in
theorem fr_X8_19_8 : FR RX8 19 8 2 (.int) true := ⟨_, _, _, "HomeByFour$Text", rfl, by decide, okB (by decide +kernel), Or.inl rfl, by decide +kernel, rfl, fun _ => rfl⟩
set_option maxRecDepth 20000 in
theorem ck_X8_goesOnAt : CK mX8_goesOnAt := ⟨okB (by decide +kernel), okB (by decide +kernel), by decide, by decide +kernel, by decide +kernel⟩
set_option maxRecDepth 20000 in
theorem cv_X8_22 : CV RX8 22 8 1 mX8_goesOnAt := ⟨ck_X8_goesOnAt, _, _, _, rfl, rfl, okB (by decide +kernel), okB (by decide +kernel), okB (by decide +kernel), by decide +kernel⟩
set_option maxRecDepth 20000 in
theorem ck_X8_codeAt : CK mX8_codeAt := ⟨okB (by decide +kernel), okB (by decide +kernel), by decide, by decide +kernel, by decide +kernel⟩
set_option maxRecDepth 20000 in
theorem cv_X8_26 : CV RX8 26 8 1 mX8_codeAt := ⟨ck_X8_codeAt, _, _, _, rfl, rfl, okB (by decide +kernel), okB (by decide +kernel), okB (by decide +kernel), by decide +kernel⟩
set_option maxRecDepth 20000 in
theorem ck_X8_isDigitAt : CK mX8_isDigitAt := ⟨okB (by decide +kernel), okB (by decide +kernel), by decide, by decide +kernel, by decide +kernel⟩
set_option maxRecDepth 20000 in
theorem cv_X8_30 : CV RX8 30 8 3 mX8_isDigitAt := ⟨ck_X8_isDigitAt, _, _, _, rfl, rfl, okB (by decide +kernel), okB (by decide +kernel), okB (by decide +kernel), by decide +kernel⟩
set_option maxRecDepth 20000 in
theorem ck_X8_isKindAt : CK mX8_isKindAt := ⟨okB (by decide +kernel), okB (by decide +kernel), by decide, by decide +kernel, by decide +kernel⟩
set_option maxRecDepth 20000 in
theorem cv_X8_34 : CV RX8 34 8 1 mX8_isKindAt := ⟨ck_X8_isKindAt, _, _, _, rfl, rfl, okB (by decide +kernel), okB (by decide +kernel), okB (by decide +kernel), by decide +kernel⟩
set_option maxRecDepth 20000 in
theorem cv_X8_37 : CV RX8 37 8 0 mX8_places := ⟨ck_X8_places, _, _, _, rfl, rfl, okB (by decide +kernel), okB (by decide +kernel), okB (by decide +kernel), by decide +kernel⟩
set_option maxRecDepth 20000 in
theorem ck_X8_digitAt : CK mX8_digitAt := ⟨okB (by decide +kernel), okB (by decide +kernel), by decide, by decide +kernel, by decide +kernel⟩
set_option maxRecDepth 20000 in
theorem cv_X8_41 : CV RX8 41 8 1 mX8_digitAt := ⟨ck_X8_digitAt, _, _, _, rfl, rfl, okB (by decide +kernel), okB (by decide +kernel), okB (by decide +kernel), by decide +kernel⟩
set_option maxRecDepth 20000 in
theorem nr_X8_44 : NR RX8 44 1 [.int 0, .int 0, .int 0, .int 0, .int 0, .int 0, .int 0, .int 0, .int 0] := ⟨_, _, _, tyX1, rfl, okB (by decide +kernel), okB (by decide +kernel), okB (by decide +kernel), tyX1_ok, by decide +kernel, by decide, rfl⟩
set_option maxRecDepth 20000 in
theorem ci_X8_46 : CI RX8 46 6 mX1_init := ⟨ck_X1_init, Or.inl (okB (by decide +kernel)), okB (by decide +kernel), rfl, rfl, by decide +kernel⟩
set_option maxRecDepth 20000 in
theorem nr_X8_49 : NR RX8 49 6 [.int 0, .int 0, .int 0, .int 0, .int 0, .int 0, .int 0, .int 0, .int 0] := ⟨_, _, _, tyX6, rfl, okB (by decide +kernel), okB (by decide +kernel), okB (by decide +kernel), tyX6_ok, by decide +kernel, by decide, rfl⟩
set_option maxRecDepth 20000 in
theorem ck_X6_init : CK mX6_init := ⟨okB (by decide +kernel), okB (by decide +kernel), by decide, by decide +kernel, by decide +kernel⟩
set_option maxRecDepth 20000 in
theorem ci_X8_51 : CI RX8 51 6 mX6_init := ⟨ck_X6_init, Or.inl (okB (by decide +kernel)), okB (by decide +kernel), rfl, rfl, by decide +kernel⟩
set_option maxRecDepth 20000 in
theorem nr_X8_52 : NR RX8 52 7 [.int 0, .int 0, .int 0, .int 0, .int 0, .int 0, .int 0, .int 0, .int 0] := ⟨_, _, _, tyX7, rfl, okB (by decide +kernel), okB (by decide +kernel), okB (by decide +kernel), tyX7_ok, by decide +kernel, by decide, rfl⟩
set_option maxRecDepth 20000 in
theorem ci_X8_54 : CI RX8 54 6 mX7_init := ⟨ck_X7_init, Or.inl (okB (by decide +kernel)), okB (by decide +kernel), rfl, rfl, by decide +kernel⟩
set_option maxRecDepth 20000 in
theorem cv_X8_55 : CV RX8 55 5 1 mX5_read := ⟨ck_X5_read, _, _, _, rfl, rfl, okB (by decide +kernel), okB (by decide +kernel), okB (by decide +kernel), by decide +kernel⟩
set_option maxRecDepth 20000 in
theorem cs_X8_60 : CS RX8 60 3 mX11_isWithin := ⟨ck_X11_isWithin, Or.inr ⟨"HomeByFour", by decide +kernel⟩, okB (by decide +kernel), by decide +kernel⟩
set_option maxRecDepth 20000 in
theorem wl_X9_1 : Cond.methodLink RX9 1 objectInit ∈ BIG := okB (by decide +kernel)
set_option maxRecDepth 20000 in
theorem fg_X9_7_9 : FG RX9 7 9 0 := ⟨_, _, _, "HomeByFour$Trace", rfl, by decide, okB (by decide +kernel), Or.inl rfl⟩
set_option maxRecDepth 20000 in
theorem fr_X9_7_9 : FR RX9 7 9 0 (.int) false := ⟨_, _, _, "HomeByFour$Trace", rfl, by decide, okB (by decide +kernel), Or.inl rfl, by decide +kernel, rfl, fun h => absurd h (by decide)⟩
set_option maxRecDepth 20000 in
theorem wl_X10_3 : Cond.methodLink RX10 3 objectInit ∈ BIG := okB (by decide +kernel)
set_option maxRecDepth 20000 in
theorem fg_X10_9_10 : FG RX10 9 10 0 := ⟨_, _, _, "HomeByFour$Walk", rfl, by decide, okB (by decide +kernel), Or.inl rfl⟩
set_option maxRecDepth 20000 in
theorem fr_X10_9_10 : FR RX10 9 10 0 (.int) false := ⟨_, _, _, "HomeByFour$Walk", rfl, by decide, okB (by decide +kernel), Or.inl rfl, by decide +kernel, rfl, fun h => absurd h (by decide)⟩
set_option maxRecDepth 20000 in
theorem fg_X10_15_10 : FG RX10 15 10 1 := ⟨_, _, _, "HomeByFour$Walk", rfl, by decide, okB (by decide +kernel), Or.inl rfl⟩
set_option maxRecDepth 20000 in
theorem fr_X10_15_10 : FR RX10 15 10 1 (.int) false := ⟨_, _, _, "HomeByFour$Walk", rfl, by decide, okB (by decide +kernel), Or.inl rfl, by decide +kernel, rfl, fun h => absurd h (by decide)⟩
set_option maxRecDepth 20000 in
theorem fg_X10_18_10 : FG RX10 18 10 2 := ⟨_, _, _, "HomeByFour$Walk", rfl, by decide, okB (by decide +kernel), Or.inl rfl⟩
set_option maxRecDepth 20000 in
theorem fr_X10_18_10 : FR RX10 18 10 2 (.int) false := ⟨_, _, _, "HomeByFour$Walk", rfl, by decide, okB (by decide +kernel), Or.inl rfl, by decide +kernel, rfl, fun h => absurd h (by decide)⟩
set_option maxRecDepth 20000 in
theorem fg_X10_21_10 : FG RX10 21 10 3 := ⟨_, _, _, "HomeByFour$Walk", rfl, by decide, okB (by decide +kernel), Or.inl rfl⟩
set_option maxRecDepth 20000 in
theorem fr_X10_21_10 : FR RX10 21 10 3 (.int) false := ⟨_, _, _, "HomeByFour$Walk", rfl, by decide, okB (by decide +kernel), Or.inl rfl, by decide +kernel, rfl, fun h => absurd h (by decide)⟩
set_option maxRecDepth 20000 in
theorem fg_X10_24_10 : FG RX10 24 10 4 := ⟨_, _, _, "HomeByFour$Walk", rfl, by decide, okB (by decide +kernel), Or.inl rfl⟩
set_option maxRecDepth 20000 in
theorem fr_X10_24_10 : FR RX10 24 10 4 (.int) false := ⟨_, _, _, "HomeByFour$Walk", rfl, by decide, okB (by decide +kernel), Or.inl rfl, by decide +kernel, rfl, fun h => absurd h (by decide)⟩
set_option maxRecDepth 20000 in
theorem fg_X10_27_10 : FG RX10 27 10 5 := ⟨_, _, _, "HomeByFour$Walk", rfl, by decide, okB (by decide +kernel), Or.inl rfl⟩
set_option maxRecDepth 20000 in
theorem fr_X10_27_10 : FR RX10 27 10 5 (.long) false := ⟨_, _, _, "HomeByFour$Walk", rfl, by decide, okB (by decide +kernel), Or.inl rfl, by decide +kernel, rfl, fun h => absurd h (by decide)⟩
set_option maxRecDepth 20000 in
theorem fg_X10_31_1 : FG RX10 31 1 0 := ⟨_, _, _, "HomeByFour$Stretch", rfl, by decide, okB (by decide +kernel), Or.inl rfl⟩
set_option maxRecDepth 20000 in
theorem fg_X10_31_6 : FG RX10 31 6 0 := ⟨_, _, _, "HomeByFour$Stretch", rfl, by decide, okB (by decide +kernel), Or.inl rfl⟩
set_option maxRecDepth 20000 in
theorem fg_X10_31_7 : FG RX10 31 7 0 := ⟨_, _, _, "HomeByFour$Stretch", rfl, by decide, okB (by decide +kernel), Or.inl rfl⟩
set_option maxRecDepth 20000 in
theorem co_X10_36_1 : CO RX10 36 1 1 mX7_otherEnd := ⟨ck_X7_otherEnd, _, _, _, "HomeByFour$Stretch", (⟨"HomeByFour$Stretch", "otherEnd", "(I)I"⟩ : MethodName), cX7_otherEnd, 2, (some .int), rfl, okB (by decide +kernel), okB (by decide +kernel), okB (by decide +kernel), okB (by decide +kernel), okB (by decide +kernel), okB (by decide +kernel), ⟨by decide +kernel, by decide +kernel⟩, by decide +kernel⟩
set_option maxRecDepth 20000 in
theorem co_X10_36_6 : CO RX10 36 6 1 mX7_otherEnd := ⟨ck_X7_otherEnd, _, _, _, "HomeByFour$Stretch", (⟨"HomeByFour$Stretch", "otherEnd", "(I)I"⟩ : MethodName), cX7_otherEnd, 2, (some .int), rfl, okB (by decide +kernel), okB (by decide +kernel), okB (by decide +kernel), okB (by decide +kernel), okB (by decide +kernel), okB (by decide +kernel), ⟨by decide +kernel, by decide +kernel⟩, by decide +kernel⟩
set_option maxRecDepth 20000 in
theorem co_X10_36_7 : CO RX10 36 7 1 mX7_otherEnd := ⟨ck_X7_otherEnd, _, _, _, "HomeByFour$Stretch", (⟨"HomeByFour$Stretch", "otherEnd", "(I)I"⟩ : MethodName), cX7_otherEnd, 2, (some .int), rfl, okB (by decide +kernel), okB (by decide +kernel), okB (by decide +kernel), okB (by decide +kernel), okB (by decide +kernel), okB (by decide +kernel), ⟨by decide +kernel, by decide +kernel⟩, by decide +kernel⟩
set_option maxRecDepth 20000 in
theorem fg_X10_40_1 : FG RX10 40 1 6 := ⟨_, _, _, "HomeByFour$Stretch", rfl, by decide, okB (by decide +kernel), Or.inl rfl⟩
set_option maxRecDepth 20000 in
theorem fg_X10_40_6 : FG RX10 40 6 6 := ⟨_, _, _, "HomeByFour$Stretch", rfl, by decide, okB (by decide +kernel), Or.inl rfl⟩
set_option maxRecDepth 20000 in
theorem fg_X10_40_7 : FG RX10 40 7 6 := ⟨_, _, _, "HomeByFour$Stretch", rfl, by decide, okB (by decide +kernel), Or.inl rfl⟩
set_option maxRecDepth 20000 in
theorem fg_X10_41_1 : FG RX10 41 1 4 := ⟨_, _, _, "HomeByFour$Stretch", rfl, by decide, okB (by decide +kernel), Or.inl rfl⟩
set_option maxRecDepth 20000 in
theorem fg_X10_41_6 : FG RX10 41 6 4 := ⟨_, _, _, "HomeByFour$Stretch", rfl, by decide, okB (by decide +kernel), Or.inl rfl⟩
set_option maxRecDepth 20000 in
theorem fg_X10_41_7 : FG RX10 41 7 4 := ⟨_, _, _, "HomeByFour$Stretch", rfl, by decide, okB (by decide +kernel), Or.inl rfl⟩
set_option maxRecDepth 20000 in
theorem fg_X10_42_1 : FG RX10 42 1 7 := ⟨_, _, _, "HomeByFour$Stretch", rfl, by decide, okB (by decide +kernel), Or.inl rfl⟩
set_option maxRecDepth 20000 in
theorem fg_X10_42_6 : FG RX10 42 6 7 := ⟨_, _, _, "HomeByFour$Stretch", rfl, by decide, okB (by decide +kernel), Or.inl rfl⟩
set_option maxRecDepth 20000 in
theorem fg_X10_42_7 : FG RX10 42 7 7 := ⟨_, _, _, "HomeByFour$Stretch", rfl, by decide, okB (by decide +kernel), Or.inl rfl⟩
set_option maxRecDepth 20000 in
theorem nr_L_7 : NR RL 7 11 [.null, .null, .null, .null, .null, .null, .null, .int 0] := ⟨_, _, _, tyX11, rfl, okB (by decide +kernel), okB (by decide +kernel), okB (by decide +kernel), tyX11_ok, by decide +kernel, by decide, rfl⟩
set_option maxRecDepth 20000 in
theorem ck_X11_init : CK mX11_init := ⟨okB (by decide +kernel), okB (by decide +kernel), by decide, by decide +kernel, by decide +kernel⟩
set_option maxRecDepth 20000 in
theorem ci_L_9 : CI RL 9 0 mX11_init := ⟨ck_X11_init, Or.inl (okB (by decide +kernel)), okB (by decide +kernel), rfl, rfl, by decide +kernel⟩
set_option maxRecDepth 20000 in
theorem nr_L_10 : NR RL 10 12 [.int 0, .int 0, .int 0, .null, .null, .null, .null, .null, .null, .int 0, .int 0, .int 0, .int 0, .int 0, .int 0, .int 0, .null, .null, .null, .null, .null, .null, .null, .int 0, .null, .null, .int 0, .null, .int 0, .long 0, .int 0, .null, .null, .null, .null, .null, .null, .null, .null, .int 0] := ⟨_, _, _, tyX12, rfl, okB (by decide +kernel), okB (by decide +kernel), okB (by decide +kernel), tyX12_ok, by decide +kernel, by decide, rfl⟩
set_option maxRecDepth 20000 in
theorem ck_X12_init : CK mX12_init := ⟨okB (by decide +kernel), okB (by decide +kernel), by decide, by decide +kernel, by decide +kernel⟩
set_option maxRecDepth 20000 in
theorem ci_L_12 : CI RL 12 0 mX12_init := ⟨ck_X12_init, Or.inl (okB (by decide +kernel)), okB (by decide +kernel), rfl, rfl, by decide +kernel⟩
set_option maxRecDepth 20000 in
theorem ck_X11_net : CK mX11_net := ⟨okB (by decide +kernel), okB (by decide +kernel), by decide, by decide +kernel, by decide +kernel⟩
set_option maxRecDepth 20000 in
theorem cv_L_13 : CV RL 13 11 4 mX11_net := ⟨ck_X11_net, _, _, _, rfl, rfl, okB (by decide +kernel), okB (by decide +kernel), okB (by decide +kernel), by decide +kernel⟩
set_option maxRecDepth 20000 in
theorem ck_X12_net : CK mX12_net := ⟨okB (by decide +kernel), okB (by decide +kernel), by decide, by decide +kernel, by decide +kernel⟩
set_option maxRecDepth 20000 in
theorem cv_L_17 : CV RL 17 12 4 mX12_net := ⟨ck_X12_net, _, _, _, rfl, rfl, okB (by decide +kernel), okB (by decide +kernel), okB (by decide +kernel), by decide +kernel⟩
set_option maxRecDepth 20000 in
theorem ck_X11_ofStretch : CK mX11_ofStretch := ⟨okB (by decide +kernel), okB (by decide +kernel), by decide, by decide +kernel, by decide +kernel⟩
set_option maxRecDepth 20000 in
theorem cv_L_18 : CV RL 18 11 2 mX11_ofStretch := ⟨ck_X11_ofStretch, _, _, _, rfl, rfl, okB (by decide +kernel), okB (by decide +kernel), okB (by decide +kernel), by decide +kernel⟩
set_option maxRecDepth 20000 in
theorem ck_X12_ofStretch : CK mX12_ofStretch := ⟨okB (by decide +kernel), okB (by decide +kernel), by decide, by decide +kernel, by decide +kernel⟩
set_option maxRecDepth 20000 in
theorem cv_L_22 : CV RL 22 12 2 mX12_ofStretch := ⟨ck_X12_ofStretch, _, _, _, rfl, rfl, okB (by decide +kernel), okB (by decide +kernel), okB (by decide +kernel), by decide +kernel⟩
set_option maxRecDepth 20000 in
theorem ck_X11_due : CK mX11_due := ⟨okB (by decide +kernel), okB (by decide +kernel), by decide, by decide +kernel, by decide +kernel⟩
set_option maxRecDepth 20000 in
theorem cv_L_23 : CV RL 23 11 1 mX11_due := ⟨ck_X11_due, _, _, _, rfl, rfl, okB (by decide +kernel), okB (by decide +kernel), okB (by decide +kernel), by decide +kernel⟩
set_option maxRecDepth 20000 in
theorem ck_X12_due : CK mX12_due := ⟨okB (by decide +kernel), okB (by decide +kernel), by decide, by decide +kernel, by decide +kernel⟩
set_option maxRecDepth 20000 in
theorem cv_L_27 : CV RL 27 12 1 mX12_due := ⟨ck_X12_due, _, _, _, rfl, rfl, okB (by decide +kernel), okB (by decide +kernel), okB (by decide +kernel), by decide +kernel⟩
set_option maxRecDepth 20000 in
theorem ck_X11_law : CK mX11_law := ⟨okB (by decide +kernel), okB (by decide +kernel), by decide, by decide +kernel, by decide +kernel⟩
set_option maxRecDepth 20000 in
theorem cv_L_28 : CV RL 28 11 1 mX11_law := ⟨ck_X11_law, _, _, _, rfl, rfl, okB (by decide +kernel), okB (by decide +kernel), okB (by decide +kernel), by decide +kernel⟩
set_option maxRecDepth 20000 in
theorem ck_X12_law : CK mX12_law := ⟨okB (by decide +kernel), okB (by decide +kernel), by decide, by decide +kernel, by decide +kernel⟩
set_option maxRecDepth 20000 in
theorem cv_L_31 : CV RL 31 12 1 mX12_law := ⟨ck_X12_law, _, _, _, rfl, rfl, okB (by decide +kernel), okB (by decide +kernel), okB (by decide +kernel), by decide +kernel⟩
set_option maxRecDepth 20000 in
theorem ck_X11_friend : CK mX11_friend := ⟨okB (by decide +kernel), okB (by decide +kernel), by decide, by decide +kernel, by decide +kernel⟩
set_option maxRecDepth 20000 in
theorem cv_L_32 : CV RL 32 11 1 mX11_friend := ⟨ck_X11_friend, _, _, _, rfl, rfl, okB (by decide +kernel), okB (by decide +kernel), okB (by decide +kernel), by decide +kernel⟩
set_option maxRecDepth 20000 in
theorem ck_X12_friend : CK mX12_friend := ⟨okB (by decide +kernel), okB (by decide +kernel), by decide, by decide +kernel, by decide +kernel⟩
set_option maxRecDepth 20000 in
theorem cv_L_35 : CV RL 35 12 1 mX12_friend := ⟨ck_X12_friend, _, _, _, rfl, rfl, okB (by decide +kernel), okB (by decide +kernel), okB (by decide +kernel), by decide +kernel⟩
set_option maxRecDepth 20000 in
theorem ck_X11_close : CK mX11_close := ⟨okB (by decide +kernel), okB (by decide +kernel), by decide, by decide +kernel, by decide +kernel⟩
set_option maxRecDepth 20000 in
theorem cv_L_36 : CV RL 36 11 2 mX11_close := ⟨ck_X11_close, _, _, _, rfl, rfl, okB (by decide +kernel), okB (by decide +kernel), okB (by decide +kernel), by decide +kernel⟩
set_option maxRecDepth 20000 in
theorem ck_X12_close : CK mX12_close := ⟨okB (by decide +kernel), okB (by decide +kernel), by decide, by decide +kernel, by decide +kernel⟩
set_option maxRecDepth 20000 in
theorem cv_L_40 : CV RL 40 12 2 mX12_close := ⟨ck_X12_close, _, _, _, rfl, rfl, okB (by decide +kernel), okB (by decide +kernel), okB (by decide +kernel), by decide +kernel⟩
set_option maxRecDepth 20000 in
theorem ck_X11_walk : CK mX11_walk := ⟨okB (by decide +kernel), okB (by decide +kernel), by decide, by decide +kernel, by decide +kernel⟩
set_option maxRecDepth 20000 in
theorem cv_L_41 : CV RL 41 11 5 mX11_walk := ⟨ck_X11_walk, _, _, _, rfl, rfl, okB (by decide +kernel), okB (by decide +kernel), okB (by decide +kernel), by decide +kernel⟩
set_option maxRecDepth 20000 in
theorem ck_X12_walk : CK mX12_walk := ⟨okB (by decide +kernel), okB (by decide +kernel), by decide, by decide +kernel, by decide +kernel⟩
set_option maxRecDepth 20000 in
theorem cv_L_45 : CV RL 45 12 5 mX12_walk := ⟨ck_X12_walk, _, _, _, rfl, rfl, okB (by decide +kernel), okB (by decide +kernel), okB (by decide +kernel), by decide +kernel⟩
set_option maxRecDepth 20000 in
theorem ck_X11_safe : CK mX11_safe := ⟨okB (by decide +kernel), okB (by decide +kernel), by decide, by decide +kernel, by decide +kernel⟩
set_option maxRecDepth 20000 in
theorem cv_L_46 : CV RL 46 11 5 mX11_safe := ⟨ck_X11_safe, _, _, _, rfl, rfl, okB (by decide +kernel), okB (by decide +kernel), okB (by decide +kernel), by decide +kernel⟩
set_option maxRecDepth 20000 in
theorem ck_X12_safe : CK mX12_safe := ⟨okB (by decide +kernel), okB (by decide +kernel), by decide, by decide +kernel, by decide +kernel⟩
set_option maxRecDepth 20000 in
theorem cv_L_50 : CV RL 50 12 5 mX12_safe := ⟨ck_X12_safe, _, _, _, rfl, rfl, okB (by decide +kernel), okB (by decide +kernel), okB (by decide +kernel), by decide +kernel⟩
set_option maxRecDepth 20000 in
theorem ck_X11_quickest : CK mX11_quickest := ⟨okB (by decide +kernel), okB (by decide +kernel), by decide, by decide +kernel, by decide +kernel⟩
set_option maxRecDepth 20000 in
theorem cv_L_51 : CV RL 51 11 1 mX11_quickest := ⟨ck_X11_quickest, _, _, _, rfl, rfl, okB (by decide +kernel), okB (by decide +kernel), okB (by decide +kernel), by decide +kernel⟩
set_option maxRecDepth 20000 in
theorem ck_X12_quickest : CK mX12_quickest := ⟨okB (by decide +kernel), okB (by decide +kernel), by decide, by decide +kernel, by decide +kernel⟩
set_option maxRecDepth 20000 in
theorem cv_L_54 : CV RL 54 12 1 mX12_quickest := ⟨ck_X12_quickest, _, _, _, rfl, rfl, okB (by decide +kernel), okB (by decide +kernel), okB (by decide +kernel), by decide +kernel⟩
set_option maxRecDepth 20000 in
theorem ck_X11_via : CK mX11_via := ⟨okB (by decide +kernel), okB (by decide +kernel), by decide, by decide +kernel, by decide +kernel⟩
set_option maxRecDepth 20000 in
theorem cv_L_55 : CV RL 55 11 1 mX11_via := ⟨ck_X11_via, _, _, _, rfl, rfl, okB (by decide +kernel), okB (by decide +kernel), okB (by decide +kernel), by decide +kernel⟩
set_option maxRecDepth 20000 in
theorem ck_X12_via : CK mX12_via := ⟨okB (by decide +kernel), okB (by decide +kernel), by decide, by decide +kernel, by decide +kernel⟩
set_option maxRecDepth 20000 in
theorem cv_L_58 : CV RL 58 12 1 mX12_via := ⟨ck_X12_via, _, _, _, rfl, rfl, okB (by decide +kernel), okB (by decide +kernel), okB (by decide +kernel), by decide +kernel⟩
set_option maxRecDepth 20000 in
theorem ck_X11_best : CK mX11_best := ⟨okB (by decide +kernel), okB (by decide +kernel), by decide, by decide +kernel, by decide +kernel⟩
set_option maxRecDepth 20000 in
theorem cv_L_59 : CV RL 59 11 2 mX11_best := ⟨ck_X11_best, _, _, _, rfl, rfl, okB (by decide +kernel), okB (by decide +kernel), okB (by decide +kernel), by decide +kernel⟩
set_option maxRecDepth 20000 in
theorem ck_X12_best : CK mX12_best := ⟨okB (by decide +kernel), okB (by decide +kernel), by decide, by decide +kernel, by decide +kernel⟩
set_option maxRecDepth 20000 in
theorem cv_L_62 : CV RL 62 12 2 mX12_best := ⟨ck_X12_best, _, _, _, rfl, rfl, okB (by decide +kernel), okB (by decide +kernel), okB (by decide +kernel), by decide +kernel⟩
set_option maxRecDepth 20000 in
theorem ck_X11_safest : CK mX11_safest := ⟨okB (by decide +kernel), okB (by decide +kernel), by decide, by decide +kernel, by decide +kernel⟩
set_option maxRecDepth 20000 in
theorem cv_L_63 : CV RL 63 11 2 mX11_safest := ⟨ck_X11_safest, _, _, _, rfl, rfl, okB (by decide +kernel), okB (by decide +kernel), okB (by decide +kernel), by decide +kernel⟩
set_option maxRecDepth 20000 in
theorem ck_X12_safest : CK mX12_safest := ⟨okB (by decide +kernel), okB (by decide +kernel), by decide, by decide +kernel, by decide +kernel⟩
set_option maxRecDepth 20000 in
theorem cv_L_66 : CV RL 66 12 2 mX12_safest := ⟨ck_X12_safest, _, _, _, rfl, rfl, okB (by decide +kernel), okB (by decide +kernel), okB (by decide +kernel), by decide +kernel⟩
set_option maxRecDepth 20000 in
theorem ck_X11_worth : CK mX11_worth := ⟨okB (by decide +kernel), okB (by decide +kernel), by decide, by decide +kernel, by decide +kernel⟩
set_option maxRecDepth 20000 in
theorem cv_L_67 : CV RL 67 11 1 mX11_worth := ⟨ck_X11_worth, _, _, _, rfl, rfl, okB (by decide +kernel), okB (by decide +kernel), okB (by decide +kernel), by decide +kernel⟩
set_option maxRecDepth 20000 in
theorem ck_X12_worth : CK mX12_worth := ⟨okB (by decide +kernel), okB (by decide +kernel), by decide, by decide +kernel, by decide +kernel⟩
set_option maxRecDepth 20000 in
theorem cv_L_70 : CV RL 70 12 1 mX12_worth := ⟨ck_X12_worth, _, _, _, rfl, rfl, okB (by decide +kernel), okB (by decide +kernel), okB (by decide +kernel), by decide +kernel⟩
set_option maxRecDepth 20000 in
theorem ck_X11_reading : CK mX11_reading := ⟨okB (by decide +kernel), okB (by decide +kernel), by decide, by decide +kernel, by decide +kernel⟩
set_option maxRecDepth 20000 in
theorem cv_L_71 : CV RL 71 11 2 mX11_reading := ⟨ck_X11_reading, _, _, _, rfl, rfl, okB (by decide +kernel), okB (by decide +kernel), okB (by decide +kernel), by decide +kernel⟩
set_option maxRecDepth 20000 in
theorem ck_X12_reading : CK mX12_reading := ⟨okB (by decide +kernel), okB (by decide +kernel), by decide, by decide +kernel, by decide +kernel⟩
set_option maxRecDepth 20000 in
theorem cv_L_74 : CV RL 74 12 2 mX12_reading := ⟨ck_X12_reading, _, _, _, rfl, rfl, okB (by decide +kernel), okB (by decide +kernel), okB (by decide +kernel), by decide +kernel⟩
set_option maxRecDepth 20000 in
theorem ck_X11_back : CK mX11_back := ⟨okB (by decide +kernel), okB (by decide +kernel), by decide, by decide +kernel, by decide +kernel⟩
set_option maxRecDepth 20000 in
theorem cv_L_75 : CV RL 75 11 1 mX11_back := ⟨ck_X11_back, _, _, _, rfl, rfl, okB (by decide +kernel), okB (by decide +kernel), okB (by decide +kernel), by decide +kernel⟩
set_option maxRecDepth 20000 in
theorem ck_X12_back : CK mX12_back := ⟨okB (by decide +kernel), okB (by decide +kernel), by decide, by decide +kernel, by decide +kernel⟩
set_option maxRecDepth 20000 in
theorem cv_L_78 : CV RL 78 12 1 mX12_back := ⟨ck_X12_back, _, _, _, rfl, rfl, okB (by decide +kernel), okB (by decide +kernel), okB (by decide +kernel), by decide +kernel⟩
set_option maxRecDepth 20000 in
theorem ck_X11_trails : CK mX11_trails := ⟨okB (by decide +kernel), okB (by decide +kernel), by decide, by decide +kernel, by decide +kernel⟩
set_option maxRecDepth 20000 in
theorem cv_L_79 : CV RL 79 11 3 mX11_trails := ⟨ck_X11_trails, _, _, _, rfl, rfl, okB (by decide +kernel), okB (by decide +kernel), okB (by decide +kernel), by decide +kernel⟩
set_option maxRecDepth 20000 in
theorem ck_X12_trails : CK mX12_trails := ⟨okB (by decide +kernel), okB (by decide +kernel), by decide, by decide +kernel, by decide +kernel⟩
set_option maxRecDepth 20000 in
theorem cv_L_83 : CV RL 83 12 3 mX12_trails := ⟨ck_X12_trails, _, _, _, rfl, rfl, okB (by decide +kernel), okB (by decide +kernel), okB (by decide +kernel), by decide +kernel⟩
set_option maxRecDepth 20000 in
theorem ck_X11_dawdle : CK mX11_dawdle := ⟨okB (by decide +kernel), okB (by decide +kernel), by decide, by decide +kernel, by decide +kernel⟩
set_option maxRecDepth 20000 in
theorem cv_L_84 : CV RL 84 11 3 mX11_dawdle := ⟨ck_X11_dawdle, _, _, _, rfl, rfl, okB (by decide +kernel), okB (by decide +kernel), okB (by decide +kernel), by decide +kernel⟩
set_option maxRecDepth 20000 in
theorem ck_X12_dawdle : CK mX12_dawdle := ⟨okB (by decide +kernel), okB (by decide +kernel), by decide, by decide +kernel, by decide +kernel⟩
set_option maxRecDepth 20000 in
theorem cv_L_88 : CV RL 88 12 3 mX12_dawdle := ⟨ck_X12_dawdle, _, _, _, rfl, rfl, okB (by decide +kernel), okB (by decide +kernel), okB (by decide +kernel), by decide +kernel⟩
set_option maxRecDepth 20000 in
theorem ck_X11_sheet : CK mX11_sheet := ⟨okB (by decide +kernel), okB (by decide +kernel), by decide, by decide +kernel, by decide +kernel⟩
set_option maxRecDepth 20000 in
theorem cv_L_89 : CV RL 89 11 3 mX11_sheet := ⟨ck_X11_sheet, _, _, _, rfl, rfl, okB (by decide +kernel), okB (by decide +kernel), okB (by decide +kernel), by decide +kernel⟩
set_option maxRecDepth 20000 in
theorem ck_X12_sheet : CK mX12_sheet := ⟨okB (by decide +kernel), okB (by decide +kernel), by decide, by decide +kernel, by decide +kernel⟩
set_option maxRecDepth 20000 in
theorem cv_L_92 : CV RL 92 12 3 mX12_sheet := ⟨ck_X12_sheet, _, _, _, rfl, rfl, okB (by decide +kernel), okB (by decide +kernel), okB (by decide +kernel), by decide +kernel⟩
set_option maxRecDepth 20000 in
theorem ck_X11_lose : CK mX11_lose := ⟨okB (by decide +kernel), okB (by decide +kernel), by decide, by decide +kernel, by decide +kernel⟩
set_option maxRecDepth 20000 in
theorem cv_L_93 : CV RL 93 11 1 mX11_lose := ⟨ck_X11_lose, _, _, _, rfl, rfl, okB (by decide +kernel), okB (by decide +kernel), okB (by decide +kernel), by decide +kernel⟩
set_option maxRecDepth 20000 in
theorem ck_X12_lose : CK mX12_lose := ⟨okB (by decide +kernel), okB (by decide +kernel), by decide, by decide +kernel, by decide +kernel⟩
set_option maxRecDepth 20000 in
theorem cv_L_96 : CV RL 96 12 1 mX12_lose := ⟨ck_X12_lose, _, _, _, rfl, rfl, okB (by decide +kernel), okB (by decide +kernel), okB (by decide +kernel), by decide +kernel⟩
set_option maxRecDepth 20000 in
theorem ck_X11_put : CK mX11_put := ⟨okB (by decide +kernel), okB (by decide +kernel), by decide, by decide +kernel, by decide +kernel⟩
set_option maxRecDepth 20000 in
theorem cv_L_97 : CV RL 97 11 3 mX11_put := ⟨ck_X11_put, _, _, _, rfl, rfl, okB (by decide +kernel), okB (by decide +kernel), okB (by decide +kernel), by decide +kernel⟩
set_option maxRecDepth 20000 in
theorem ck_X12_put : CK mX12_put := ⟨okB (by decide +kernel), okB (by decide +kernel), by decide, by decide +kernel, by decide +kernel⟩
set_option maxRecDepth 20000 in
theorem cv_L_100 : CV RL 100 12 3 mX12_put := ⟨ck_X12_put, _, _, _, rfl, rfl, okB (by decide +kernel), okB (by decide +kernel), okB (by decide +kernel), by decide +kernel⟩
set_option maxRecDepth 20000 in
theorem ck_X11_cell : CK mX11_cell := ⟨okB (by decide +kernel), okB (by decide +kernel), by decide, by decide +kernel, by decide +kernel⟩
set_option maxRecDepth 20000 in
theorem cv_L_101 : CV RL 101 11 3 mX11_cell := ⟨ck_X11_cell, _, _, _, rfl, rfl, okB (by decide +kernel), okB (by decide +kernel), okB (by decide +kernel), by decide +kernel⟩
set_option maxRecDepth 20000 in
theorem ck_X12_cell : CK mX12_cell := ⟨okB (by decide +kernel), okB (by decide +kernel), by decide, by decide +kernel, by decide +kernel⟩
set_option maxRecDepth 20000 in
theorem cv_L_104 : CV RL 104 12 3 mX12_cell := ⟨ck_X12_cell, _, _, _, rfl, rfl, okB (by decide +kernel), okB (by decide +kernel), okB (by decide +kernel), by decide +kernel⟩
set_option maxRecDepth 20000 in
theorem ck_X11_copy : CK mX11_copy := ⟨okB (by decide +kernel), okB (by decide +kernel), by decide, by decide +kernel, by decide +kernel⟩
set_option maxRecDepth 20000 in
theorem cv_L_105 : CV RL 105 11 5 mX11_copy := ⟨ck_X11_copy, _, _, _, rfl, rfl, okB (by decide +kernel), okB (by decide +kernel), okB (by decide +kernel), by decide +kernel⟩
set_option maxRecDepth 20000 in
theorem ck_X12_copy : CK mX12_copy := ⟨okB (by decide +kernel), okB (by decide +kernel), by decide, by decide +kernel, by decide +kernel⟩
set_option maxRecDepth 20000 in
theorem cv_L_108 : CV RL 108 12 5 mX12_copy := ⟨ck_X12_copy, _, _, _, rfl, rfl, okB (by decide +kernel), okB (by decide +kernel), okB (by decide +kernel), by decide +kernel⟩
set_option maxRecDepth 20000 in
theorem ck_X11_tell : CK mX11_tell := ⟨okB (by decide +kernel), okB (by decide +kernel), by decide, by decide +kernel, by decide +kernel⟩
set_option maxRecDepth 20000 in
theorem cv_L_109 : CV RL 109 11 1 mX11_tell := ⟨ck_X11_tell, _, _, _, rfl, rfl, okB (by decide +kernel), okB (by decide +kernel), okB (by decide +kernel), by decide +kernel⟩
set_option maxRecDepth 20000 in
theorem ck_X12_tell : CK mX12_tell := ⟨okB (by decide +kernel), okB (by decide +kernel), by decide, by decide +kernel, by decide +kernel⟩
set_option maxRecDepth 20000 in
theorem cv_L_112 : CV RL 112 12 1 mX12_tell := ⟨ck_X12_tell, _, _, _, rfl, rfl, okB (by decide +kernel), okB (by decide +kernel), okB (by decide +kernel), by decide +kernel⟩
set_option maxRecDepth 20000 in
theorem ck_X11_sing : CK mX11_sing := ⟨okB (by decide +kernel), okB (by decide +kernel), by decide, by decide +kernel, by decide +kernel⟩
set_option maxRecDepth 20000 in
theorem cv_L_113 : CV RL 113 11 1 mX11_sing := ⟨ck_X11_sing, _, _, _, rfl, rfl, okB (by decide +kernel), okB (by decide +kernel), okB (by decide +kernel), by decide +kernel⟩
set_option maxRecDepth 20000 in
theorem ck_X12_sing : CK mX12_sing := ⟨okB (by decide +kernel), okB (by decide +kernel), by decide, by decide +kernel, by decide +kernel⟩
set_option maxRecDepth 20000 in
theorem cv_L_116 : CV RL 116 12 1 mX12_sing := ⟨ck_X12_sing, _, _, _, rfl, rfl, okB (by decide +kernel), okB (by decide +kernel), okB (by decide +kernel), by decide +kernel⟩
set_option maxRecDepth 20000 in
theorem ck_X11_as : CK mX11_as := ⟨okB (by decide +kernel), okB (by decide +kernel), by decide, by decide +kernel, by decide +kernel⟩
set_option maxRecDepth 20000 in
theorem cv_L_117 : CV RL 117 11 2 mX11_as := ⟨ck_X11_as, _, _, _, rfl, rfl, okB (by decide +kernel), okB (by decide +kernel), okB (by decide +kernel), by decide +kernel⟩
set_option maxRecDepth 20000 in
theorem ck_X12_as : CK mX12_as := ⟨okB (by decide +kernel), okB (by decide +kernel), by decide, by decide +kernel, by decide +kernel⟩
set_option maxRecDepth 20000 in
theorem cv_L_120 : CV RL 120 12 2 mX12_as := ⟨ck_X12_as, _, _, _, rfl, rfl, okB (by decide +kernel), okB (by decide +kernel), okB (by decide +kernel), by decide +kernel⟩
set_option maxRecDepth 20000 in
theorem ck_X11_trace : CK mX11_trace := ⟨okB (by decide +kernel), okB (by decide +kernel), by decide, by decide +kernel, by decide +kernel⟩
set_option maxRecDepth 20000 in
theorem cv_L_121 : CV RL 121 11 0 mX11_trace := ⟨ck_X11_trace, _, _, _, rfl, rfl, okB (by decide +kernel), okB (by decide +kernel), okB (by decide +kernel), by decide +kernel⟩
set_option maxRecDepth 20000 in
theorem ck_X12_trace : CK mX12_trace := ⟨okB (by decide +kernel), okB (by decide +kernel), by decide, by decide +kernel, by decide +kernel⟩
set_option maxRecDepth 20000 in
theorem cv_L_125 : CV RL 125 12 0 mX12_trace := ⟨ck_X12_trace, _, _, _, rfl, rfl, okB (by decide +kernel), okB (by decide +kernel), okB (by decide +kernel), by decide +kernel⟩
set_option maxRecDepth 20000 in
theorem ck_X11_fault : CK mX11_fault := ⟨okB (by decide +kernel), okB (by decide +kernel), by decide, by decide +kernel, by decide +kernel⟩
set_option maxRecDepth 20000 in
theorem cv_L_126 : CV RL 126 11 0 mX11_fault := ⟨ck_X11_fault, _, _, _, rfl, rfl, okB (by decide +kernel), okB (by decide +kernel), okB (by decide +kernel), by decide +kernel⟩
set_option maxRecDepth 20000 in
theorem ck_X12_fault : CK mX12_fault := ⟨okB (by decide +kernel), okB (by decide +kernel), by decide, by decide +kernel, by decide +kernel⟩
set_option maxRecDepth 20000 in
theorem cv_L_129 : CV RL 129 12 0 mX12_fault := ⟨ck_X12_fault, _, _, _, rfl, rfl, okB (by decide +kernel), okB (by decide +kernel), okB (by decide +kernel), by decide +kernel⟩
set_option maxRecDepth 20000 in
theorem ck_X11_many : CK mX11_many := ⟨okB (by decide +kernel), okB (by decide +kernel), by decide, by decide +kernel, by decide +kernel⟩
set_option maxRecDepth 20000 in
theorem cv_L_130 : CV RL 130 11 1 mX11_many := ⟨ck_X11_many, _, _, _, rfl, rfl, okB (by decide +kernel), okB (by decide +kernel), okB (by decide +kernel), by decide +kernel⟩
set_option maxRecDepth 20000 in
theorem ck_X12_many : CK mX12_many := ⟨okB (by decide +kernel), okB (by decide +kernel), by decide, by decide +kernel, by decide +kernel⟩
set_option maxRecDepth 20000 in
theorem cv_L_133 : CV RL 133 12 1 mX12_many := ⟨ck_X12_many, _, _, _, rfl, rfl, okB (by decide +kernel), okB (by decide +kernel), okB (by decide +kernel), by decide +kernel⟩
set_option maxRecDepth 20000 in
theorem wl_X12_1 : Cond.methodLink RX12 1 objectInit ∈ BIG := okB (by decide +kernel)
set_option maxRecDepth 20000 in
theorem fg_X12_7_12 : FG RX12 7 12 3 := ⟨_, _, _, "HomeByFourModel", rfl, by decide, okB (by decide +kernel), Or.inl rfl⟩
set_option maxRecDepth 20000 in
theorem fr_X12_7_12 : FR RX12 7 12 3 (.array (.int)) true := ⟨_, _, _, "HomeByFourModel", rfl, by decide, okB (by decide +kernel), Or.inl rfl, by decide +kernel, rfl, fun _ => rfl⟩
set_option maxRecDepth 20000 in
theorem fg_X12_13_12 : FG RX12 13 12 4 := ⟨_, _, _, "HomeByFourModel", rfl, by decide, okB (by decide +kernel), Or.inl rfl⟩
set_option maxRecDepth 20000 in
theorem fr_X12_13_12 : FR RX12 13 12 4 (.array (.int)) true := ⟨_, _, _, "HomeByFourModel", rfl, by decide, okB (by decide +kernel), Or.inl rfl, by decide +kernel, rfl, fun _ => rfl⟩
set_option maxRecDepth 20000 in
theorem fg_X12_16_12 : FG RX12 16 12 5 := ⟨_, _, _, "HomeByFourModel", rfl, by decide, okB (by decide +kernel), Or.inl rfl⟩
set_option maxRecDepth 20000 in
theorem fr_X12_16_12 : FR RX12 16 12 5 (.array (.int)) true := ⟨_, _, _, "HomeByFourModel", rfl, by decide, okB (by decide +kernel), Or.inl rfl, by decide +kernel, rfl, fun _ => rfl⟩
set_option maxRecDepth 20000 in
theorem fg_X12_19_12 : FG RX12 19 12 6 := ⟨_, _, _, "HomeByFourModel", rfl, by decide, okB (by decide +kernel), Or.inl rfl⟩
set_option maxRecDepth 20000 in
theorem fr_X12_19_12 : FR RX12 19 12 6 (.array (.int)) true := ⟨_, _, _, "HomeByFourModel", rfl, by decide, okB (by decide +kernel), Or.inl rfl, by decide +kernel, rfl, fun _ => rfl⟩
set_option maxRecDepth 20000 in
theorem fg_X12_22_12 : FG RX12 22 12 7 := ⟨_, _, _, "HomeByFourModel", rfl, by decide, okB (by decide +kernel), Or.inl rfl⟩
set_option maxRecDepth 20000 in
theorem fr_X12_22_12 : FR RX12 22 12 7 (.array (.int)) true := ⟨_, _, _, "HomeByFourModel", rfl, by decide, okB (by decide +kernel), Or.inl rfl, by decide +kernel, rfl, fun _ => rfl⟩
set_option maxRecDepth 20000 in
theorem fg_X12_25_12 : FG RX12 25 12 8 := ⟨_, _, _, "HomeByFourModel", rfl, by decide, okB (by decide +kernel), Or.inl rfl⟩
set_option maxRecDepth 20000 in
theorem fr_X12_25_12 : FR RX12 25 12 8 (.array (.int)) true := ⟨_, _, _, "HomeByFourModel", rfl, by decide, okB (by decide +kernel), Or.inl rfl, by decide +kernel, rfl, fun _ => rfl⟩
set_option maxRecDepth 20000 in
theorem fg_X12_28_12 : FG RX12 28 12 16 := ⟨_, _, _, "HomeByFourModel", rfl, by decide, okB (by decide +kernel), Or.inl rfl⟩
set_option maxRecDepth 20000 in
theorem fr_X12_28_12 : FR RX12 28 12 16 (.array (.int)) true := ⟨_, _, _, "HomeByFourModel", rfl, by decide, okB (by decide +kernel), Or.inl rfl, by decide +kernel, rfl, fun _ => rfl⟩
set_option maxRecDepth 20000 in
theorem fg_X12_31_12 : FG RX12 31 12 17 := ⟨_, _, _, "HomeByFourModel", rfl, by decide, okB (by decide +kernel), Or.inl rfl⟩
set_option maxRecDepth 20000 in
theorem fr_X12_31_12 : FR RX12 31 12 17 (.array (.int)) true := ⟨_, _, _, "HomeByFourModel", rfl, by decide, okB (by decide +kernel), Or.inl rfl, by decide +kernel, rfl, fun _ => rfl⟩
set_option maxRecDepth 20000 in
theorem fg_X12_34_12 : FG RX12 34 12 18 := ⟨_, _, _, "HomeByFourModel", rfl, by decide, okB (by decide +kernel), Or.inl rfl⟩
set_option maxRecDepth 20000 in
theorem fr_X12_34_12 : FR RX12 34 12 18 (.array (.int)) true := ⟨_, _, _, "HomeByFourModel", rfl, by decide, okB (by decide +kernel), Or.inl rfl, by decide +kernel, rfl, fun _ => rfl⟩
set_option maxRecDepth 20000 in
theorem fg_X12_37_12 : FG RX12 37 12 19 := ⟨_, _, _, "HomeByFourModel", rfl, by decide, okB (by decide +kernel), Or.inl rfl⟩
set_option maxRecDepth 20000 in
theorem fr_X12_37_12 : FR RX12 37 12 19 (.array (.int)) true := ⟨_, _, _, "HomeByFourModel", rfl, by decide, okB (by decide +kernel), Or.inl rfl, by decide +kernel, rfl, fun _ => rfl⟩
set_option maxRecDepth 20000 in
theorem fg_X12_40_12 : FG RX12 40 12 20 := ⟨_, _, _, "HomeByFourModel", rfl, by decide, okB (by decide +kernel), Or.inl rfl⟩
set_option maxRecDepth 20000 in
theorem fr_X12_40_12 : FR RX12 40 12 20 (.array (.int)) true := ⟨_, _, _, "HomeByFourModel", rfl, by decide, okB (by decide +kernel), Or.inl rfl, by decide +kernel, rfl, fun _ => rfl⟩
set_option maxRecDepth 20000 in
theorem fg_X12_43_12 : FG RX12 43 12 21 := ⟨_, _, _, "HomeByFourModel", rfl, by decide, okB (by decide +kernel), Or.inl rfl⟩
set_option maxRecDepth 20000 in
theorem fr_X12_43_12 : FR RX12 43 12 21 (.array (.int)) true := ⟨_, _, _, "HomeByFourModel", rfl, by decide, okB (by decide +kernel), Or.inl rfl, by decide +kernel, rfl, fun _ => rfl⟩
set_option maxRecDepth 20000 in
theorem fg_X12_46_12 : FG RX12 46 12 22 := ⟨_, _, _, "HomeByFourModel", rfl, by decide, okB (by decide +kernel), Or.inl rfl⟩
set_option maxRecDepth 20000 in
theorem fr_X12_46_12 : FR RX12 46 12 22 (.array (.int)) true := ⟨_, _, _, "HomeByFourModel", rfl, by decide, okB (by decide +kernel), Or.inl rfl, by decide +kernel, rfl, fun _ => rfl⟩
set_option maxRecDepth 20000 in
theorem fg_X12_49_12 : FG RX12 49 12 24 := ⟨_, _, _, "HomeByFourModel", rfl, by decide, okB (by decide +kernel), Or.inl rfl⟩
set_option maxRecDepth 20000 in
theorem fr_X12_49_12 : FR RX12 49 12 24 (.array (.int)) true := ⟨_, _, _, "HomeByFourModel", rfl, by decide, okB (by decide +kernel), Or.inl rfl, by decide +kernel, rfl, fun _ => rfl⟩
set_option maxRecDepth 20000 in
theorem fg_X12_52_12 : FG RX12 52 12 25 := ⟨_, _, _, "HomeByFourModel", rfl, by decide, okB (by decide +kernel), Or.inl rfl⟩
set_option maxRecDepth 20000 in
theorem fr_X12_52_12 : FR RX12 52 12 25 (.array (.int)) true := ⟨_, _, _, "HomeByFourModel", rfl, by decide, okB (by decide +kernel), Or.inl rfl, by decide +kernel, rfl, fun _ => rfl⟩
set_option maxRecDepth 20000 in
theorem fg_X12_55_12 : FG RX12 55 12 27 := ⟨_, _, _, "HomeByFourModel", rfl, by decide, okB (by decide +kernel), Or.inl rfl⟩
set_option maxRecDepth 20000 in
theorem fr_X12_55_12 : FR RX12 55 12 27 (.array (.int)) true := ⟨_, _, _, "HomeByFourModel", rfl, by decide, okB (by decide +kernel), Or.inl rfl, by decide +kernel, rfl, fun _ => rfl⟩
set_option maxRecDepth 20000 in
theorem fg_X12_58_12 : FG RX12 58 12 31 := ⟨_, _, _, "HomeByFourModel", rfl, by decide, okB (by decide +kernel), Or.inl rfl⟩
set_option maxRecDepth 20000 in
theorem fr_X12_58_12 : FR RX12 58 12 31 (.array (.int)) true := ⟨_, _, _, "HomeByFourModel", rfl, by decide, okB (by decide +kernel), Or.inl rfl, by decide +kernel, rfl, fun _ => rfl⟩
set_option maxRecDepth 20000 in
theorem fg_X12_61_12 : FG RX12 61 12 32 := ⟨_, _, _, "HomeByFourModel", rfl, by decide, okB (by decide +kernel), Or.inl rfl⟩
set_option maxRecDepth 20000 in
theorem fr_X12_61_12 : FR RX12 61 12 32 (.array (.boolean)) true := ⟨_, _, _, "HomeByFourModel", rfl, by decide, okB (by decide +kernel), Or.inl rfl, by decide +kernel, rfl, fun _ => rfl⟩
set_option maxRecDepth 20000 in
theorem fg_X12_65_12 : FG RX12 65 12 33 := ⟨_, _, _, "HomeByFourModel", rfl, by decide, okB (by decide +kernel), Or.inl rfl⟩
set_option maxRecDepth 20000 in
theorem fr_X12_65_12 : FR RX12 65 12 33 (.array (.long)) true := ⟨_, _, _, "HomeByFourModel", rfl, by decide, okB (by decide +kernel), Or.inl rfl, by decide +kernel, rfl, fun _ => rfl⟩
set_option maxRecDepth 20000 in
theorem fg_X12_69_12 : FG RX12 69 12 34 := ⟨_, _, _, "HomeByFourModel", rfl, by decide, okB (by decide +kernel), Or.inl rfl⟩
set_option maxRecDepth 20000 in
theorem fr_X12_69_12 : FR RX12 69 12 34 (.array (.long)) true := ⟨_, _, _, "HomeByFourModel", rfl, by decide, okB (by decide +kernel), Or.inl rfl, by decide +kernel, rfl, fun _ => rfl⟩
set_option maxRecDepth 20000 in
theorem fg_X12_72_12 : FG RX12 72 12 35 := ⟨_, _, _, "HomeByFourModel", rfl, by decide, okB (by decide +kernel), Or.inl rfl⟩
set_option maxRecDepth 20000 in
theorem fr_X12_72_12 : FR RX12 72 12 35 (.array (.int)) true := ⟨_, _, _, "HomeByFourModel", rfl, by decide, okB (by decide +kernel), Or.inl rfl, by decide +kernel, rfl, fun _ => rfl⟩
set_option maxRecDepth 20000 in
theorem fg_X12_75_12 : FG RX12 75 12 36 := ⟨_, _, _, "HomeByFourModel", rfl, by decide, okB (by decide +kernel), Or.inl rfl⟩
set_option maxRecDepth 20000 in
theorem fr_X12_75_12 : FR RX12 75 12 36 (.array (.int)) true := ⟨_, _, _, "HomeByFourModel", rfl, by decide, okB (by decide +kernel), Or.inl rfl, by decide +kernel, rfl, fun _ => rfl⟩
set_option maxRecDepth 20000 in
theorem fg_X12_78_12 : FG RX12 78 12 37 := ⟨_, _, _, "HomeByFourModel", rfl, by decide, okB (by decide +kernel), Or.inl rfl⟩
set_option maxRecDepth 20000 in
theorem fr_X12_78_12 : FR RX12 78 12 37 (.array (.int)) true := ⟨_, _, _, "HomeByFourModel", rfl, by decide, okB (by decide +kernel), Or.inl rfl, by decide +kernel, rfl, fun _ => rfl⟩
set_option maxRecDepth 20000 in
theorem fg_X12_81_12 : FG RX12 81 12 38 := ⟨_, _, _, "HomeByFourModel", rfl, by decide, okB (by decide +kernel), Or.inl rfl⟩
set_option maxRecDepth 20000 in
theorem fr_X12_81_12 : FR RX12 81 12 38 (.array (.int)) true := ⟨_, _, _, "HomeByFourModel", rfl, by decide, okB (by decide +kernel), Or.inl rfl, by decide +kernel, rfl, fun _ => rfl⟩
set_option maxRecDepth 20000 in
theorem wl_X12_84 : Cond.constantLong RX12 84 (-9223372036854775808) ∈ BIG := okB (by decide +kernel)
set_option maxRecDepth 20000 in
theorem fg_X12_86_12 : FG RX12 86 12 0 := ⟨_, _, _, "HomeByFourModel", rfl, by decide, okB (by decide +kernel), Or.inl rfl⟩
set_option maxRecDepth 20000 in
theorem fr_X12_86_12 : FR RX12 86 12 0 (.int) false := ⟨_, _, _, "HomeByFourModel", rfl, by decide, okB (by decide +kernel), Or.inl rfl, by decide +kernel, rfl, fun h => absurd h (by decide)⟩
set_option maxRecDepth 20000 in
theorem ck_X12_lost : CK mX12_lost := ⟨okB (by decide +kernel), okB (by decide +kernel), by decide, by decide +kernel, by decide +kernel⟩
set_option maxRecDepth 20000 in
theorem cs_X12_90 : CS RX12 90 0 mX12_lost := ⟨ck_X12_lost, Or.inl (okB (by decide +kernel)), okB (by decide +kernel), by decide +kernel⟩
set_option maxRecDepth 20000 in
theorem fg_X12_94_12 : FG RX12 94 12 1 := ⟨_, _, _, "HomeByFourModel", rfl, by decide, okB (by decide +kernel), Or.inl rfl⟩
set_option maxRecDepth 20000 in
theorem fr_X12_94_12 : FR RX12 94 12 1 (.int) false := ⟨_, _, _, "HomeByFourModel", rfl, by decide, okB (by decide +kernel), Or.inl rfl, by decide +kernel, rfl, fun h => absurd h (by decide)⟩
set_option maxRecDepth 20000 in
theorem ck_X12_in : CK mX12_in := ⟨okB (by decide +kernel), okB (by decide +kernel), by decide, by decide +kernel, by decide +kernel⟩
set_option maxRecDepth 20000 in
theorem cs_X12_97 : CS RX12 97 3 mX12_in := ⟨ck_X12_in, Or.inl (okB (by decide +kernel)), okB (by decide +kernel), by decide +kernel⟩
set_option maxRecDepth 20000 in
theorem fg_X12_101_12 : FG RX12 101 12 2 := ⟨_, _, _, "HomeByFourModel", rfl, by decide, okB (by decide +kernel), Or.inl rfl⟩
set_option maxRecDepth 20000 in
theorem fr_X12_101_12 : FR RX12 101 12 2 (.int) false := ⟨_, _, _, "HomeByFourModel", rfl, by decide, okB (by decide +kernel), Or.inl rfl, by decide +kernel, rfl, fun h => absurd h (by decide)⟩
set_option maxRecDepth 20000 in
theorem fg_X12_104_12 : FG RX12 104 12 13 := ⟨_, _, _, "HomeByFourModel", rfl, by decide, okB (by decide +kernel), Or.inl rfl⟩
set_option maxRecDepth 20000 in
theorem fr_X12_104_12 : FR RX12 104 12 13 (.int) false := ⟨_, _, _, "HomeByFourModel", rfl, by decide, okB (by decide +kernel), Or.inl rfl, by decide +kernel, rfl, fun h => absurd h (by decide)⟩
set_option maxRecDepth 20000 in
theorem ck_X12_codeAt : CK mX12_codeAt := ⟨okB (by decide +kernel), okB (by decide +kernel), by decide, by decide +kernel, by decide +kernel⟩
set_option maxRecDepth 20000 in
theorem cv_X12_107 : CV RX12 107 12 2 mX12_codeAt := ⟨ck_X12_codeAt, _, _, _, rfl, rfl, okB (by decide +kernel), okB (by decide +kernel), okB (by decide +kernel), by decide +kernel⟩
set_option maxRecDepth 20000 in
theorem fg_X12_111_12 : FG RX12 111 12 15 := ⟨_, _, _, "HomeByFourModel", rfl, by decide, okB (by decide +kernel), Or.inl rfl⟩
set_option maxRecDepth 20000 in
theorem fr_X12_111_12 : FR RX12 111 12 15 (.int) false := ⟨_, _, _, "HomeByFourModel", rfl, by decide, okB (by decide +kernel), Or.inl rfl, by decide +kernel, rfl, fun h => absurd h (by decide)⟩
set_option maxRecDepth 20000 in
theorem fg_X12_114_12 : FG RX12 114 12 14 := ⟨_, _, _, "HomeByFourModel", rfl, by decide, okB (by decide +kernel), Or.inl rfl⟩
set_option maxRecDepth 20000 in
theorem fr_X12_114_12 : FR RX12 114 12 14 (.int) false := ⟨_, _, _, "HomeByFourModel", rfl, by decide, okB (by decide +kernel), Or.inl rfl, by decide +kernel, rfl, fun h => absurd h (by decide)⟩
set_option maxRecDepth 20000 in
theorem ck_X12_figure : CK mX12_figure := ⟨okB (by decide +kernel), okB (by decide +kernel), by decide, by decide +kernel, by decide +kernel⟩
set_option maxRecDepth 20000 in
theorem cv_X12_117 : CV RX12 117 12 5 mX12_figure := ⟨ck_X12_figure, _, _, _, rfl, rfl, okB (by decide +kernel), okB (by decide +kernel), okB (by decide +kernel), by decide +kernel⟩
set_option maxRecDepth 20000 in
theorem ck_X12_readsStretch : CK mX12_readsStretch := ⟨okB (by decide +kernel), okB (by decide +kernel), by decide, by decide +kernel, by decide +kernel⟩
set_option maxRecDepth 20000 in
theorem cv_X12_121 : CV RX12 121 12 2 mX12_readsStretch := ⟨ck_X12_readsStretch, _, _, _, rfl, rfl, okB (by decide +kernel), okB (by decide +kernel), okB (by decide +kernel), by decide +kernel⟩
set_option maxRecDepth 20000 in
theorem ck_X12_failed : CK mX12_failed := ⟨okB (by decide +kernel), okB (by decide +kernel), by decide, by decide +kernel, by decide +kernel⟩
set_option maxRecDepth 20000 in
theorem cv_X12_125 : CV RX12 125 12 1 mX12_failed := ⟨ck_X12_failed, _, _, _, rfl, rfl, okB (by decide +kernel), okB (by decide +kernel), okB (by decide +kernel), by decide +kernel⟩
set_option maxRecDepth 20000 in
theorem ck_X12_isBeyond : CK mX12_isBeyond := ⟨okB (by decide +kernel), okB (by decide +kernel), by decide, by decide +kernel, by decide +kernel⟩
set_option maxRecDepth 20000 in
theorem cs_X12_129 : CS RX12 129 3 mX12_isBeyond := ⟨ck_X12_isBeyond, Or.inl (okB (by decide +kernel)), okB (by decide +kernel), by decide +kernel⟩
set_option maxRecDepth 20000 in
theorem ck_X12_noSheet : CK mX12_noSheet := ⟨okB (by decide +kernel), okB (by decide +kernel), by decide, by decide +kernel, by decide +kernel⟩
set_option maxRecDepth 20000 in
theorem cs_X12_133 : CS RX12 133 1 mX12_noSheet := ⟨ck_X12_noSheet, Or.inl (okB (by decide +kernel)), okB (by decide +kernel), by decide +kernel⟩
set_option maxRecDepth 20000 in
theorem ck_X12_refused : CK mX12_refused := ⟨okB (by decide +kernel), okB (by decide +kernel), by decide, by decide +kernel, by decide +kernel⟩
set_option maxRecDepth 20000 in
theorem cv_X12_137 : CV RX12 137 12 1 mX12_refused := ⟨ck_X12_refused, _, _, _, rfl, rfl, okB (by decide +kernel), okB (by decide +kernel), okB (by decide +kernel), by decide +kernel⟩
set_option maxRecDepth 20000 in
theorem wl_X12_140 : Cond.constantLong RX12 140 (2) ∈ BIG := okB (by decide +kernel)
set_option maxRecDepth 20000 in
theorem ck_X12_cellsBarred : CK mX12_cellsBarred := ⟨okB (by decide +kernel), okB (by decide +kernel), by decide, by decide +kernel, by decide +kernel⟩
set_option maxRecDepth 20000 in
theorem cv_X12_142 : CV RX12 142 12 4 mX12_cellsBarred := ⟨ck_X12_cellsBarred, _, _, _, rfl, rfl, okB (by decide +kernel), okB (by decide +kernel), okB (by decide +kernel), by decide +kernel⟩
set_option maxRecDepth 20000 in
theorem ck_X12_readsNet : CK mX12_readsNet := ⟨okB (by decide +kernel), okB (by decide +kernel), by decide, by decide +kernel, by decide +kernel⟩
set_option maxRecDepth 20000 in
theorem cv_X12_146 : CV RX12 146 12 2 mX12_readsNet := ⟨ck_X12_readsNet, _, _, _, rfl, rfl, okB (by decide +kernel), okB (by decide +kernel), okB (by decide +kernel), by decide +kernel⟩
set_option maxRecDepth 20000 in
theorem fg_X12_149_12 : FG RX12 149 12 9 := ⟨_, _, _, "HomeByFourModel", rfl, by decide, okB (by decide +kernel), Or.inl rfl⟩
set_option maxRecDepth 20000 in
theorem fr_X12_149_12 : FR RX12 149 12 9 (.int) false := ⟨_, _, _, "HomeByFourModel", rfl, by decide, okB (by decide +kernel), Or.inl rfl, by decide +kernel, rfl, fun h => absurd h (by decide)⟩
set_option maxRecDepth 20000 in
theorem fg_X12_152_12 : FG RX12 152 12 10 := ⟨_, _, _, "HomeByFourModel", rfl, by decide, okB (by decide +kernel), Or.inl rfl⟩
set_option maxRecDepth 20000 in
theorem fr_X12_152_12 : FR RX12 152 12 10 (.int) false := ⟨_, _, _, "HomeByFourModel", rfl, by decide, okB (by decide +kernel), Or.inl rfl, by decide +kernel, rfl, fun h => absurd h (by decide)⟩
set_option maxRecDepth 20000 in
theorem fg_X12_155_12 : FG RX12 155 12 11 := ⟨_, _, _, "HomeByFourModel", rfl, by decide, okB (by decide +kernel), Or.inl rfl⟩
set_option maxRecDepth 20000 in
theorem fr_X12_155_12 : FR RX12 155 12 11 (.int) false := ⟨_, _, _, "HomeByFourModel", rfl, by decide, okB (by decide +kernel), Or.inl rfl, by decide +kernel, rfl, fun h => absurd h (by decide)⟩
set_option maxRecDepth 20000 in
theorem fg_X12_158_12 : FG RX12 158 12 12 := ⟨_, _, _, "HomeByFourModel", rfl, by decide, okB (by decide +kernel), Or.inl rfl⟩
set_option maxRecDepth 20000 in
theorem fr_X12_158_12 : FR RX12 158 12 12 (.int) false := ⟨_, _, _, "HomeByFourModel", rfl, by decide, okB (by decide +kernel), Or.inl rfl, by decide +kernel, rfl, fun h => absurd h (by decide)⟩
set_option maxRecDepth 20000 in
theorem fg_X12_161_12 : FG RX12 161 12 30 := ⟨_, _, _, "HomeByFourModel", rfl, by decide, okB (by decide +kernel), Or.inl rfl⟩
set_option maxRecDepth 20000 in
theorem fr_X12_161_12 : FR RX12 161 12 30 (.int) false := ⟨_, _, _, "HomeByFourModel", rfl, by decide, okB (by decide +kernel), Or.inl rfl, by decide +kernel, rfl, fun h => absurd h (by decide)⟩
set_option maxRecDepth 20000 in
theorem ck_X12_isShared : CK mX12_isShared := ⟨okB (by decide +kernel), okB (by decide +kernel), by decide, by decide +kernel, by decide +kernel⟩
set_option maxRecDepth 20000 in
theorem cv_X12_164 : CV RX12 164 12 1 mX12_isShared := ⟨ck_X12_isShared, _, _, _, rfl, rfl, okB (by decide +kernel), okB (by decide +kernel), okB (by decide +kernel), by decide +kernel⟩
set_option maxRecDepth 20000 in
theorem ck_X12_noStretch : CK mX12_noStretch := ⟨okB (by decide +kernel), okB (by decide +kernel), by decide, by decide +kernel, by decide +kernel⟩
set_option maxRecDepth 20000 in
theorem cv_X12_167 : CV RX12 167 12 1 mX12_noStretch := ⟨ck_X12_noStretch, _, _, _, rfl, rfl, okB (by decide +kernel), okB (by decide +kernel), okB (by decide +kernel), by decide +kernel⟩
set_option maxRecDepth 20000 in
theorem ck_X12_takesOf : CK mX12_takesOf := ⟨okB (by decide +kernel), okB (by decide +kernel), by decide, by decide +kernel, by decide +kernel⟩
set_option maxRecDepth 20000 in
theorem cv_X12_170 : CV RX12 170 12 1 mX12_takesOf := ⟨ck_X12_takesOf, _, _, _, rfl, rfl, okB (by decide +kernel), okB (by decide +kernel), okB (by decide +kernel), by decide +kernel⟩
set_option maxRecDepth 20000 in
theorem ck_X12_isIn : CK mX12_isIn := ⟨okB (by decide +kernel), okB (by decide +kernel), by decide, by decide +kernel, by decide +kernel⟩
set_option maxRecDepth 20000 in
theorem cs_X12_173 : CS RX12 173 2 mX12_isIn := ⟨ck_X12_isIn, Or.inl (okB (by decide +kernel)), okB (by decide +kernel), by decide +kernel⟩
set_option maxRecDepth 20000 in
theorem wl_X12_176 : Cond.constantLong RX12 176 (99) ∈ BIG := okB (by decide +kernel)
set_option maxRecDepth 20000 in
theorem ck_X12_noPlace : CK mX12_noPlace := ⟨okB (by decide +kernel), okB (by decide +kernel), by decide, by decide +kernel, by decide +kernel⟩
set_option maxRecDepth 20000 in
theorem cv_X12_178 : CV RX12 178 12 1 mX12_noPlace := ⟨ck_X12_noPlace, _, _, _, rfl, rfl, okB (by decide +kernel), okB (by decide +kernel), okB (by decide +kernel), by decide +kernel⟩
set_option maxRecDepth 20000 in
theorem ck_X12_goneBy : CK mX12_goneBy := ⟨okB (by decide +kernel), okB (by decide +kernel), by decide, by decide +kernel, by decide +kernel⟩
set_option maxRecDepth 20000 in
theorem cv_X12_181 : CV RX12 181 12 1 mX12_goneBy := ⟨ck_X12_goneBy, _, _, _, rfl, rfl, okB (by decide +kernel), okB (by decide +kernel), okB (by decide +kernel), by decide +kernel⟩
set_option maxRecDepth 20000 in
theorem ck_X12_sightsBy : CK mX12_sightsBy := ⟨okB (by decide +kernel), okB (by decide +kernel), by decide, by decide +kernel, by decide +kernel⟩
set_option maxRecDepth 20000 in
theorem cv_X12_184 : CV RX12 184 12 1 mX12_sightsBy := ⟨ck_X12_sightsBy, _, _, _, rfl, rfl, okB (by decide +kernel), okB (by decide +kernel), okB (by decide +kernel), by decide +kernel⟩
set_option maxRecDepth 20000 in
theorem ck_X12_minutesOf : CK mX12_minutesOf := ⟨okB (by decide +kernel), okB (by decide +kernel), by decide, by decide +kernel, by decide +kernel⟩
set_option maxRecDepth 20000 in
theorem cv_X12_187 : CV RX12 187 12 1 mX12_minutesOf := ⟨ck_X12_minutesOf, _, _, _, rfl, rfl, okB (by decide +kernel), okB (by decide +kernel), okB (by decide +kernel), by decide +kernel⟩
set_option maxRecDepth 20000 in
theorem ck_X12_costOf : CK mX12_costOf := ⟨okB (by decide +kernel), okB (by decide +kernel), by decide, by decide +kernel, by decide +kernel⟩
set_option maxRecDepth 20000 in
theorem cv_X12_190 : CV RX12 190 12 1 mX12_costOf := ⟨ck_X12_costOf, _, _, _, rfl, rfl, okB (by decide +kernel), okB (by decide +kernel), okB (by decide +kernel), by decide +kernel⟩
set_option maxRecDepth 20000 in
theorem ck_X12_safeOf : CK mX12_safeOf := ⟨okB (by decide +kernel), okB (by decide +kernel), by decide, by decide +kernel, by decide +kernel⟩
set_option maxRecDepth 20000 in
theorem cv_X12_193 : CV RX12 193 12 1 mX12_safeOf := ⟨ck_X12_safeOf, _, _, _, rfl, rfl, okB (by decide +kernel), okB (by decide +kernel), okB (by decide +kernel), by decide +kernel⟩
set_option maxRecDepth 20000 in
theorem ck_X12_goesTo : CK mX12_goesTo := ⟨okB (by decide +kernel), okB (by decide +kernel), by decide, by decide +kernel, by decide +kernel⟩
set_option maxRecDepth 20000 in
theorem cv_X12_196 : CV RX12 196 12 2 mX12_goesTo := ⟨ck_X12_goesTo, _, _, _, rfl, rfl, okB (by decide +kernel), okB (by decide +kernel), okB (by decide +kernel), by decide +kernel⟩
set_option maxRecDepth 20000 in
theorem fg_X12_199_12 : FG RX12 199 12 23 := ⟨_, _, _, "HomeByFourModel", rfl, by decide, okB (by decide +kernel), Or.inl rfl⟩
set_option maxRecDepth 20000 in
theorem fr_X12_199_12 : FR RX12 199 12 23 (.int) false := ⟨_, _, _, "HomeByFourModel", rfl, by decide, okB (by decide +kernel), Or.inl rfl, by decide +kernel, rfl, fun h => absurd h (by decide)⟩
set_option maxRecDepth 20000 in
theorem wl_X12_202 : Cond.constantLong RX12 202 (3) ∈ BIG := okB (by decide +kernel)
set_option maxRecDepth 20000 in
theorem ck_X12_readsWalk : CK mX12_readsWalk := ⟨okB (by decide +kernel), okB (by decide +kernel), by decide, by decide +kernel, by decide +kernel⟩
set_option maxRecDepth 20000 in
theorem cv_X12_204 : CV RX12 204 12 2 mX12_readsWalk := ⟨ck_X12_readsWalk, _, _, _, rfl, rfl, okB (by decide +kernel), okB (by decide +kernel), okB (by decide +kernel), by decide +kernel⟩
set_option maxRecDepth 20000 in
theorem ck_X12_joyOf : CK mX12_joyOf := ⟨okB (by decide +kernel), okB (by decide +kernel), by decide, by decide +kernel, by decide +kernel⟩
set_option maxRecDepth 20000 in
theorem cv_X12_207 : CV RX12 207 12 1 mX12_joyOf := ⟨ck_X12_joyOf, _, _, _, rfl, rfl, okB (by decide +kernel), okB (by decide +kernel), okB (by decide +kernel), by decide +kernel⟩
set_option maxRecDepth 20000 in
theorem wl_X12_210 : Cond.constant RX12 210 (100000) ∈ BIG := okB (by decide +kernel)
set_option maxRecDepth 20000 in
theorem ck_X12_refusedLong : CK mX12_refusedLong := ⟨okB (by decide +kernel), okB (by decide +kernel), by decide, by decide +kernel, by decide +kernel⟩
set_option maxRecDepth 20000 in
theorem cv_X12_211 : CV RX12 211 12 0 mX12_refusedLong := ⟨ck_X12_refusedLong, _, _, _, rfl, rfl, okB (by decide +kernel), okB (by decide +kernel), okB (by decide +kernel), by decide +kernel⟩
set_option maxRecDepth 20000 in
theorem wl_X12_214 : Cond.constantLong RX12 214 (10) ∈ BIG := okB (by decide +kernel)
set_option maxRecDepth 20000 in
theorem ck_X12_safeBy : CK mX12_safeBy := ⟨okB (by decide +kernel), okB (by decide +kernel), by decide, by decide +kernel, by decide +kernel⟩
set_option maxRecDepth 20000 in
theorem cv_X12_216 : CV RX12 216 12 1 mX12_safeBy := ⟨ck_X12_safeBy, _, _, _, rfl, rfl, okB (by decide +kernel), okB (by decide +kernel), okB (by decide +kernel), by decide +kernel⟩
set_option maxRecDepth 20000 in
theorem ck_X12_told : CK mX12_told := ⟨okB (by decide +kernel), okB (by decide +kernel), by decide, by decide +kernel, by decide +kernel⟩
set_option maxRecDepth 20000 in
theorem cs_X12_220 : CS RX12 220 3 mX12_told := ⟨ck_X12_told, Or.inl (okB (by decide +kernel)), okB (by decide +kernel), by decide +kernel⟩
set_option maxRecDepth 20000 in
theorem wl_X12_224 : Cond.constant RX12 224 (99999) ∈ BIG := okB (by decide +kernel)
set_option maxRecDepth 20000 in
theorem ck_X12_laySoon : CK mX12_laySoon := ⟨okB (by decide +kernel), okB (by decide +kernel), by decide, by decide +kernel, by decide +kernel⟩
set_option maxRecDepth 20000 in
theorem cv_X12_225 : CV RX12 225 12 1 mX12_laySoon := ⟨ck_X12_laySoon, _, _, _, rfl, rfl, okB (by decide +kernel), okB (by decide +kernel), okB (by decide +kernel), by decide +kernel⟩
set_option maxRecDepth 20000 in
theorem fg_X12_229_12 : FG RX12 229 12 26 := ⟨_, _, _, "HomeByFourModel", rfl, by decide, okB (by decide +kernel), Or.inl rfl⟩
set_option maxRecDepth 20000 in
theorem fr_X12_229_12 : FR RX12 229 12 26 (.int) false := ⟨_, _, _, "HomeByFourModel", rfl, by decide, okB (by decide +kernel), Or.inl rfl, by decide +kernel, rfl, fun h => absurd h (by decide)⟩
set_option maxRecDepth 20000 in
theorem fg_X12_232_12 : FG RX12 232 12 28 := ⟨_, _, _, "HomeByFourModel", rfl, by decide, okB (by decide +kernel), Or.inl rfl⟩
set_option maxRecDepth 20000 in
theorem fr_X12_232_12 : FR RX12 232 12 28 (.int) false := ⟨_, _, _, "HomeByFourModel", rfl, by decide, okB (by decide +kernel), Or.inl rfl, by decide +kernel, rfl, fun h => absurd h (by decide)⟩
set_option maxRecDepth 20000 in
theorem fg_X12_235_12 : FG RX12 235 12 29 := ⟨_, _, _, "HomeByFourModel", rfl, by decide, okB (by decide +kernel), Or.inl rfl⟩
set_option maxRecDepth 20000 in
theorem fr_X12_235_12 : FR RX12 235 12 29 (.long) false := ⟨_, _, _, "HomeByFourModel", rfl, by decide, okB (by decide +kernel), Or.inl rfl, by decide +kernel, rfl, fun h => absurd h (by decide)⟩
set_option maxRecDepth 20000 in
theorem ck_X12_beginRows : CK mX12_beginRows := ⟨okB (by decide +kernel), okB (by decide +kernel), by decide, by decide +kernel, by decide +kernel⟩
set_option maxRecDepth 20000 in
theorem cv_X12_239 : CV RX12 239 12 0 mX12_beginRows := ⟨ck_X12_beginRows, _, _, _, rfl, rfl, okB (by decide +kernel), okB (by decide +kernel), okB (by decide +kernel), by decide +kernel⟩
set_option maxRecDepth 20000 in
theorem ck_X12_nextRow : CK mX12_nextRow := ⟨okB (by decide +kernel), okB (by decide +kernel), by decide, by decide +kernel, by decide +kernel⟩
set_option maxRecDepth 20000 in
theorem cv_X12_242 : CV RX12 242 12 1 mX12_nextRow := ⟨ck_X12_nextRow, _, _, _, rfl, rfl, okB (by decide +kernel), okB (by decide +kernel), okB (by decide +kernel), by decide +kernel⟩
set_option maxRecDepth 20000 in
theorem ck_X12_partsOf : CK mX12_partsOf := ⟨okB (by decide +kernel), okB (by decide +kernel), by decide, by decide +kernel, by decide +kernel⟩
set_option maxRecDepth 20000 in
theorem cv_X12_245 : CV RX12 245 12 1 mX12_partsOf := ⟨ck_X12_partsOf, _, _, _, rfl, rfl, okB (by decide +kernel), okB (by decide +kernel), okB (by decide +kernel), by decide +kernel⟩
set_option maxRecDepth 20000 in
theorem ck_X12_keepRow : CK mX12_keepRow := ⟨okB (by decide +kernel), okB (by decide +kernel), by decide, by decide +kernel, by decide +kernel⟩
set_option maxRecDepth 20000 in
theorem cv_X12_248 : CV RX12 248 12 2 mX12_keepRow := ⟨ck_X12_keepRow, _, _, _, rfl, rfl, okB (by decide +kernel), okB (by decide +kernel), okB (by decide +kernel), by decide +kernel⟩
set_option maxRecDepth 20000 in
theorem wl_X12_252 : Cond.constantLong RX12 252 (5) ∈ BIG := okB (by decide +kernel)
set_option maxRecDepth 20000 in
theorem wl_X12_254 : Cond.constantLong RX12 254 (-1) ∈ BIG := okB (by decide +kernel)
set_option maxRecDepth 20000 in
theorem wl_X12_256 : Cond.constantLong RX12 256 (4) ∈ BIG := okB (by decide +kernel)
set_option maxRecDepth 20000 in
theorem ck_X12_refusedFor : CK mX12_refusedFor := ⟨okB (by decide +kernel), okB (by decide +kernel), by decide, by decide +kernel, by decide +kernel⟩
set_option maxRecDepth 20000 in
theorem cv_X12_258 : CV RX12 258 12 2 mX12_refusedFor := ⟨ck_X12_refusedFor, _, _, _, rfl, rfl, okB (by decide +kernel), okB (by decide +kernel), okB (by decide +kernel), by decide +kernel⟩
set_option maxRecDepth 20000 in
theorem ck_X12_seek : CK mX12_seek := ⟨okB (by decide +kernel), okB (by decide +kernel), by decide, by decide +kernel, by decide +kernel⟩
set_option maxRecDepth 20000 in
theorem cv_X12_261 : CV RX12 261 12 2 mX12_seek := ⟨ck_X12_seek, _, _, _, rfl, rfl, okB (by decide +kernel), okB (by decide +kernel), okB (by decide +kernel), by decide +kernel⟩
set_option maxRecDepth 20000 in
theorem ck_X12_toldBest : CK mX12_toldBest := ⟨okB (by decide +kernel), okB (by decide +kernel), by decide, by decide +kernel, by decide +kernel⟩
set_option maxRecDepth 20000 in
theorem cv_X12_265 : CV RX12 265 12 1 mX12_toldBest := ⟨ck_X12_toldBest, _, _, _, rfl, rfl, okB (by decide +kernel), okB (by decide +kernel), okB (by decide +kernel), by decide +kernel⟩
set_option maxRecDepth 20000 in
theorem wl_X12_268 : Cond.constantLong RX12 268 (200) ∈ BIG := okB (by decide +kernel)
set_option maxRecDepth 20000 in
theorem ck_X12_areSo : CK mX12_areSo := ⟨okB (by decide +kernel), okB (by decide +kernel), by decide, by decide +kernel, by decide +kernel⟩
set_option maxRecDepth 20000 in
theorem cv_X12_270 : CV RX12 270 12 1 mX12_areSo := ⟨ck_X12_areSo, _, _, _, rfl, rfl, okB (by decide +kernel), okB (by decide +kernel), okB (by decide +kernel), by decide +kernel⟩
set_option maxRecDepth 20000 in
theorem ck_X12_openAt : CK mX12_openAt := ⟨okB (by decide +kernel), okB (by decide +kernel), by decide, by decide +kernel, by decide +kernel⟩
set_option maxRecDepth 20000 in
theorem cv_X12_273 : CV RX12 273 12 1 mX12_openAt := ⟨ck_X12_openAt, _, _, _, rfl, rfl, okB (by decide +kernel), okB (by decide +kernel), okB (by decide +kernel), by decide +kernel⟩
set_option maxRecDepth 20000 in
theorem wl_X12_276 : Cond.constantLong RX12 276 (2520) ∈ BIG := okB (by decide +kernel)
set_option maxRecDepth 20000 in
theorem ck_X12_goDawdling : CK mX12_goDawdling := ⟨okB (by decide +kernel), okB (by decide +kernel), by decide, by decide +kernel, by decide +kernel⟩
set_option maxRecDepth 20000 in
theorem cv_X12_278 : CV RX12 278 12 0 mX12_goDawdling := ⟨ck_X12_goDawdling, _, _, _, rfl, rfl, okB (by decide +kernel), okB (by decide +kernel), okB (by decide +kernel), by decide +kernel⟩
set_option maxRecDepth 20000 in
theorem ck_X12_noCell : CK mX12_noCell := ⟨okB (by decide +kernel), okB (by decide +kernel), by decide, by decide +kernel, by decide +kernel⟩
set_option maxRecDepth 20000 in
theorem cv_X12_281 : CV RX12 281 12 2 mX12_noCell := ⟨ck_X12_noCell, _, _, _, rfl, rfl, okB (by decide +kernel), okB (by decide +kernel), okB (by decide +kernel), by decide +kernel⟩
set_option maxRecDepth 20000 in
theorem ck_X12_failedLong : CK mX12_failedLong := ⟨okB (by decide +kernel), okB (by decide +kernel), by decide, by decide +kernel, by decide +kernel⟩
set_option maxRecDepth 20000 in
theorem cv_X12_284 : CV RX12 284 12 1 mX12_failedLong := ⟨ck_X12_failedLong, _, _, _, rfl, rfl, okB (by decide +kernel), okB (by decide +kernel), okB (by decide +kernel), by decide +kernel⟩
set_option maxRecDepth 20000 in
theorem fg_X12_287_12 : FG RX12 287 12 39 := ⟨_, _, _, "HomeByFourModel", rfl, by decide, okB (by decide +kernel), Or.inl rfl⟩
set_option maxRecDepth 20000 in
theorem fr_X12_287_12 : FR RX12 287 12 39 (.int) false := ⟨_, _, _, "HomeByFourModel", rfl, by decide, okB (by decide +kernel), Or.inl rfl, by decide +kernel, rfl, fun h => absurd h (by decide)⟩
set_option maxRecDepth 20000 in
theorem ck_X12_traced : CK mX12_traced := ⟨okB (by decide +kernel), okB (by decide +kernel), by decide, by decide +kernel, by decide +kernel⟩
set_option maxRecDepth 20000 in
theorem cv_X12_290 : CV RX12 290 12 1 mX12_traced := ⟨ck_X12_traced, _, _, _, rfl, rfl, okB (by decide +kernel), okB (by decide +kernel), okB (by decide +kernel), by decide +kernel⟩
set_option maxRecDepth 20000 in
theorem wl_arr_int : Cond.arrayClass .int ∈ BIG := okB (by decide +kernel)
set_option maxRecDepth 20000 in
theorem wl_arr_long : Cond.arrayClass .long ∈ BIG := okB (by decide +kernel)
set_option maxRecDepth 20000 in
theorem wl_arr_boolean : Cond.arrayClass .boolean ∈ BIG := okB (by decide +kernel)
set_option maxRecDepth 20000 in
theorem as_3_5 : AS 3 5 := ⟨_, _, _, "HomeByFour$Sheet", rfl, rfl, Or.inl rfl⟩
set_option maxRecDepth 20000 in
theorem as_4_1 : AS 4 1 := ⟨_, _, _, "HomeByFour$Stretch", rfl, rfl, Or.inr (by decide +kernel)⟩
set_option maxRecDepth 20000 in
theorem as_4_6 : AS 4 6 := ⟨_, _, _, "HomeByFour$Stretch", rfl, rfl, Or.inr (by decide +kernel)⟩
set_option maxRecDepth 20000 in
theorem as_4_7 : AS 4 7 := ⟨_, _, _, "HomeByFour$Stretch", rfl, rfl, Or.inl rfl⟩
set_option maxRecDepth 20000 in
theorem as_5_10 : AS 5 10 := ⟨_, _, _, "HomeByFour$Walk", rfl, rfl, Or.inl rfl⟩
end
section
/-! ===== plain facts: stores, numbers ===== -/
theorem gs {S : aS} {a : Nat} {c0 c : aE} (h : S[a]? = some c0) : (S.set a c)[a]? = some c := List.getElem?_set_self (List.getElem?_eq_some_iff.mp h).1
theorem gn {S : aS} {a b : Nat} {c x : aE} (hn : a ≠ b) (h : S[b]? = some c) : (S.set a x)[b]? = some c := by rw [List.getElem?_set_ne hn]; exact h
theorem ga {S T : aS} {b : Nat} {c : aE} (h : S[b]? = some c) : (S ++ T)[b]? = some c := by rw [List.getElem?_append_left (List.getElem?_eq_some_iff.mp h).1]; exact h
theorem gl {S : aS} {c : aE} : (S ++ [c])[S.length]? = some c := by rw [List.getElem?_append_right (Nat.le_refl _), Nat.sub_self]; rfl
theorem gss {S : aS} {a : Nat} {c x : aE} : (S.set a c).set a x = S.set a x := List.set_set ..
theorem gc {S : aS} {a b : Nat} {c x : aE} (h : a ≠ b) : (S.set a c).set b x = (S.set b x).set a c := List.set_comm c x h
theorem gid {S : aS} {a : Nat} {c : aE} (h : S[a]? = some c) : S.set a c = S := by
  apply List.ext_getElem?
  intro i
  by_cases hi : a = i
  · subst hi; rw [gs h, h]
  · rw [List.getElem?_set_ne hi]
abbrev iA (n : Nat) (f : Nat → Int32) : aE := .inl (0, n, .inl f)
abbrev lA (n : Nat) (f : Nat → Int64) : aE := .inl (1, n, .inr (.inl f))
abbrev zA (n : Nat) (f : Nat → Int32) : aE := .inl (2, n, .inl f)
abbrev rA (t n : Nat) (f : Nat → Option Nat) : aE := .inl (t, n, .inr (.inr (.inr (.inr f))))
theorem xlt (a b : Int32) : a < b ↔ a.toInt < b.toInt := Int32.lt_iff_toInt_lt
theorem xle (a b : Int32) : a ≤ b ↔ a.toInt ≤ b.toInt := Int32.le_iff_toInt_le
theorem xeq (a b : Int32) : a = b ↔ a.toInt = b.toInt := Int32.toInt_inj.symm
theorem ylt (a b : Int64) : a < b ↔ a.toInt < b.toInt := Int64.lt_iff_toInt_lt
theorem yle (a b : Int64) : a ≤ b ↔ a.toInt ≤ b.toInt := Int64.le_iff_toInt_le
theorem yeq (a b : Int64) : a = b ↔ a.toInt = b.toInt := Int64.toInt_inj.symm
theorem xr32 (a : Int32) : -2147483648 ≤ a.toInt ∧ a.toInt ≤ 2147483647 := ⟨Int32.le_toInt a, by have := Int32.toInt_lt a; omega⟩
theorem yr64 (a : Int64) : -9223372036854775808 ≤ a.toInt ∧ a.toInt ≤ 9223372036854775807 := ⟨Int64.le_toInt a, by have := Int64.toInt_lt a; omega⟩
theorem nIt {n : Nat} (h : n < 2147483648) : (nI n).toInt = (n : Int) := nI_toInt h
theorem xadd {a b : Int32} {x y : Int} (ha : a.toInt = x) (hb : b.toInt = y) (h : -2147483648 ≤ x + y ∧ x + y ≤ 2147483647) : (a + b).toInt = x + y := by
  rw [Int32.toInt_add, ha, hb]
  exact Int.bmod_eq_of_le (by omega) (by omega)
theorem xsub {a b : Int32} {x y : Int} (ha : a.toInt = x) (hb : b.toInt = y) (h : -2147483648 ≤ x - y ∧ x - y ≤ 2147483647) : (a - b).toInt = x - y := by
  rw [Int32.toInt_sub, ha, hb]
  exact Int.bmod_eq_of_le (by omega) (by omega)
theorem xmul {a b : Int32} {x y : Int} (ha : a.toInt = x) (hb : b.toInt = y) (h : -2147483648 ≤ x * y ∧ x * y ≤ 2147483647) : (a * b).toInt = x * y := by
  rw [Int32.toInt_mul, ha, hb]
  exact Int.bmod_eq_of_le (by omega) (by omega)
theorem yadd {a b : Int64} {x y : Int} (ha : a.toInt = x) (hb : b.toInt = y) (h : -9223372036854775808 ≤ x + y ∧ x + y ≤ 9223372036854775807) : (a + b).toInt = x + y := by
  rw [Int64.toInt_add, ha, hb]
  exact Int.bmod_eq_of_le (by omega) (by omega)
theorem ysub {a b : Int64} {x y : Int} (ha : a.toInt = x) (hb : b.toInt = y) (h : -9223372036854775808 ≤ x - y ∧ x - y ≤ 9223372036854775807) : (a - b).toInt = x - y := by
  rw [Int64.toInt_sub, ha, hb]
  exact Int.bmod_eq_of_le (by omega) (by omega)
theorem ymul {a b : Int64} {x y : Int} (ha : a.toInt = x) (hb : b.toInt = y) (h : -9223372036854775808 ≤ x * y ∧ x * y ≤ 9223372036854775807) : (a * b).toInt = x * y := by
  rw [Int64.toInt_mul, ha, hb]
  exact Int.bmod_eq_of_le (by omega) (by omega)
theorem x64 (a : Int32) : a.toInt64.toInt = a.toInt := Int32.toInt_toInt64 a
/-- an index in range, by its number -/
theorem vin {i : Int32} {n : Nat} (h0 : 0 ≤ i.toInt) (h1 : i.toInt < n) : vp_in i n := vp_in_iff.mpr ⟨h0, h1⟩
theorem vinN {j n : Nat} (h : j < n) (hn : n < 2147483648) : vp_in (nI j) n := vp_in_nI h hn
theorem ncl {j : Nat} (h : j < 2147483648) : (nI j).toNatClampNeg = j := nI_clamp h
theorem toN {i : Int32} (h0 : 0 ≤ i.toInt) : i = nI i.toInt.toNat ∧ i.toNatClampNeg = i.toInt.toNat := by
  have hb := xr32 i
  refine ⟨?_, rfl⟩
  rw [xeq, nIt (by omega)]
  omega
theorem lg_lt {x y : Int64} : lg_cmp x y < 0 ↔ x.toInt < y.toInt := by
  unfold lg_cmp
  split
  · rename_i h; rw [gt_iff_lt, ylt] at h; constructor
    · intro q; exact absurd q (by decide)
    · intro q; omega
  · rename_i h
    split
    · rename_i h2; constructor
      · intro q; exact absurd q (by decide)
      · intro q; rw [h2] at q; omega
    · rename_i h2; rw [yeq] at h2; rw [gt_iff_lt, ylt] at h; constructor
      · intro _; omega
      · intro _; decide
theorem lg_eq {x y : Int64} : lg_cmp x y = 0 ↔ x.toInt = y.toInt := by
  unfold lg_cmp
  split
  · rename_i h; rw [gt_iff_lt, ylt] at h; constructor
    · intro q; exact absurd q (by decide)
    · intro q; omega
  · rename_i h
    split
    · rename_i h2; constructor
      · intro _; rw [h2]
      · intro _; rfl
    · rename_i h2; rw [yeq] at h2; constructor
      · intro q; exact absurd q (by decide)
      · intro q; exact absurd q h2
theorem lg_le {x y : Int64} : lg_cmp x y ≤ 0 ↔ x.toInt ≤ y.toInt := by
  have a := @lg_lt x y
  have b := @lg_eq x y
  have c : lg_cmp x y ≤ 0 ↔ lg_cmp x y < 0 ∨ lg_cmp x y = 0 := by
    rw [xle, xlt, xeq]
    have : (0 : Int32).toInt = 0 := rfl
    omega
  rw [c, a, b]; omega
theorem lg_ge {x y : Int64} : 0 ≤ lg_cmp x y ↔ y.toInt ≤ x.toInt := by
  have a := @lg_lt x y
  have c : 0 ≤ lg_cmp x y ↔ ¬ lg_cmp x y < 0 := by rw [xle, xlt]; have : (0 : Int32).toInt = 0 := rfl; omega
  rw [c, a]; omega
theorem lg_gt {x y : Int64} : 0 < lg_cmp x y ↔ y.toInt < x.toInt := by
  have a := @lg_le x y
  have c : 0 < lg_cmp x y ↔ ¬ lg_cmp x y ≤ 0 := by rw [xle, xlt]; have : (0 : Int32).toInt = 0 := rfl; omega
  rw [c, a]; omega
theorem sw_ne {x k : Int32} {a : Int} (hk : k.toInt = a) (h : ¬ x = k) : ¬ x.toInt = a := fun q => h ((xeq _ _).mpr (q.trans hk.symm))
theorem sw_out3 {x : Int32} (h0 : ¬ x = 0) (h1 : ¬ x = 1) (h2 : ¬ x = 2) : x.toInt < 0 ∨ 2 < x.toInt := by
  have a0 := sw_ne (a := 0) rfl h0; have a1 := sw_ne (a := 1) rfl h1; have a2 := sw_ne (a := 2) rfl h2
  omega
theorem sw_out5 {x : Int32} (h0 : ¬ x = 0) (h1 : ¬ x = 1) (h2 : ¬ x = 2) (h3 : ¬ x = 3) (h4 : ¬ x = 4) : x.toInt < 0 ∨ 4 < x.toInt := by
  have a0 := sw_ne (a := 0) rfl h0; have a1 := sw_ne (a := 1) rfl h1; have a2 := sw_ne (a := 2) rfl h2; have a3 := sw_ne (a := 3) rfl h3; have a4 := sw_ne (a := 4) rfl h4
  omega
theorem sw_out8 {x : Int32} (h0 : ¬ x = 0) (h1 : ¬ x = 1) (h2 : ¬ x = 2) (h3 : ¬ x = 3) (h4 : ¬ x = 4) (h5 : ¬ x = 5) (h6 : ¬ x = 6) (h7 : ¬ x = 7) : x.toInt < 0 ∨ 7 < x.toInt := by
  have a0 := sw_ne (a := 0) rfl h0; have a1 := sw_ne (a := 1) rfl h1; have a2 := sw_ne (a := 2) rfl h2; have a3 := sw_ne (a := 3) rfl h3; have a4 := sw_ne (a := 4) rfl h4; have a5 := sw_ne (a := 5) rfl h5; have a6 := sw_ne (a := 6) rfl h6; have a7 := sw_ne (a := 7) rfl h7
  omega
theorem sw_look2 {x k1 k2 : Int32} {a1 a2 o1 o2 dd : Int} (h1 : ¬ x = k1) (h2 : ¬ x = k2) (e1 : k1.toInt = a1) (e2 : k2.toInt = a2) : Op.lookupswitch.offset [(a1, o1), (a2, o2)] dd x.toInt = dd := by
  rw [lv_osw h1 e1, lv_osw h2 e2]
  rfl
theorem s_lo : ∀ n, n < 32 → ((nI n &&& 31).toBitVec.smod 32).toNat = n := by decide +kernel
theorem shlN {n : Nat} (j : Nat) (hj : j < 32) (h : n * 2 ^ j < 2 ^ 32) : nI n <<< (nI j &&& 31) = nI (n * 2 ^ j) := pk_shlN _ j (s_lo j hj) h
theorem shrN {n : Nat} (h : n < 2 ^ 31) (j : Nat) (hj : j < 32) : nI n >>> (nI j &&& 31) = nI (n / 2 ^ j) := pk_shrN h _ j (s_lo j hj)
theorem orN (a b : Nat) : nI a ||| nI b = nI (a ||| b) := by
  apply Int32.toBitVec_inj.1
  show BitVec.ofNat 32 a ||| BitVec.ofNat 32 b = BitVec.ofNat 32 (a ||| b)
  apply BitVec.eq_of_getLsbD_eq
  intro i hi
  simp [hi]
theorem andN (a b : Nat) : nI a &&& nI b = nI (a &&& b) := by
  apply Int32.toBitVec_inj.1
  show BitVec.ofNat 32 a &&& BitVec.ofNat 32 b = BitVec.ofNat 32 (a &&& b)
  apply BitVec.eq_of_getLsbD_eq
  intro i hi
  simp [hi]
theorem nIinj {a b : Nat} (ha : a < 2147483648) (hb : b < 2147483648) : nI a = nI b ↔ a = b := nI_eq ha hb
theorem isInN {cs j : Nat} (hc : cs < 2147483648) (hj : j < 31) : (nI cs >>> (nI j &&& 31)) &&& 1 = 1 ↔ cs.testBit j = true := by
  rw [shrN hc j (by omega), show (1 : Int32) = nI 1 from rfl, andN, nIinj, Nat.testBit_eq_decide_div_mod_eq, Nat.and_one_is_mod, decide_eq_true_eq]
  · exact Nat.lt_of_le_of_lt Nat.and_le_right (by decide)
  · decide
theorem z32_0 : (0 : Int32).toInt = 0 := rfl
theorem z32_1 : (1 : Int32).toInt = 1 := rfl
theorem z32_2 : (2 : Int32).toInt = 2 := rfl
theorem z32_3 : (3 : Int32).toInt = 3 := rfl
theorem z32_4 : (4 : Int32).toInt = 4 := rfl
theorem z32_5 : (5 : Int32).toInt = 5 := rfl
theorem z32_6 : (6 : Int32).toInt = 6 := rfl
theorem z32_7 : (7 : Int32).toInt = 7 := rfl
theorem z32_8 : (8 : Int32).toInt = 8 := rfl
theorem z32_9 : (9 : Int32).toInt = 9 := rfl
theorem z32_10 : (10 : Int32).toInt = 10 := rfl
theorem z32_12 : (12 : Int32).toInt = 12 := rfl
theorem z32_31 : (31 : Int32).toInt = 31 := rfl
theorem z32_45 : (45 : Int32).toInt = 45 := rfl
theorem z32_48 : (48 : Int32).toInt = 48 := rfl
theorem z32_57 : (57 : Int32).toInt = 57 := rfl
theorem z32_59 : (59 : Int32).toInt = 59 := rfl
theorem z32_60 : (60 : Int32).toInt = 60 := rfl
theorem z32_99 : (99 : Int32).toInt = 99 := rfl
theorem z32_100 : (100 : Int32).toInt = 100 := rfl
theorem z32_109 : (109 : Int32).toInt = 109 := rfl
theorem z32_110 : (110 : Int32).toInt = 110 := rfl
theorem z32_112 : (112 : Int32).toInt = 112 := rfl
theorem z32_115 : (115 : Int32).toInt = 115 := rfl
theorem z32_200 : (200 : Int32).toInt = 200 := rfl
theorem z32_240 : (240 : Int32).toInt = 240 := rfl
theorem z32_99999 : (99999 : Int32).toInt = 99999 := rfl
theorem z32_100000 : (100000 : Int32).toInt = 100000 := rfl
theorem z32_1000000 : (1000000 : Int32).toInt = 1000000 := rfl
theorem z32_m1 : (-1 : Int32).toInt = -1 := rfl
theorem z32_m2 : (-2 : Int32).toInt = -2 := rfl
theorem z32_m3 : (-3 : Int32).toInt = -3 := rfl
theorem z32_m4 : (-4 : Int32).toInt = -4 := rfl
theorem z32_m9 : (-9 : Int32).toInt = -9 := rfl
theorem z32_m10 : (-10 : Int32).toInt = -10 := rfl
theorem z32_m100 : (-100 : Int32).toInt = -100 := rfl
theorem z64_0 : (0 : Int64).toInt = 0 := rfl
theorem z64_1 : (1 : Int64).toInt = 1 := rfl
theorem z64_2 : (2 : Int64).toInt = 2 := rfl
theorem z64_3 : (3 : Int64).toInt = 3 := rfl
theorem z64_4 : (4 : Int64).toInt = 4 := rfl
theorem z64_5 : (5 : Int64).toInt = 5 := rfl
theorem z64_10 : (10 : Int64).toInt = 10 := rfl
theorem z64_99 : (99 : Int64).toInt = 99 := rfl
theorem z64_200 : (200 : Int64).toInt = 200 := rfl
theorem z64_2520 : (2520 : Int64).toInt = 2520 := rfl
theorem z64_m1 : (-1 : Int64).toInt = -1 := rfl
end
section
abbrev mo (flt pl n du lw fr cl ra rp rs ea dp bm : Int32) (bi : Int64) (rd tr : Int32) : aE := .inr (12, [.int flt, .int pl, .int n, .ref 32, .ref 33, .ref 34, .ref 35, .ref 36, .ref 37, .int du, .int lw, .int fr, .int cl, .int ra, .int rp, .int rs, .ref 38, .ref 39, .ref 40, .ref 41, .ref 42, .ref 43, .ref 44, .int ea, .ref 45, .ref 46, .int dp, .ref 47, .int bm, .long bi, .int rd, .ref 48, .ref 49, .ref 50, .ref 51, .ref 52, .ref 53, .ref 54, .ref 55, .int tr])
theorem pm1 {p : Nat} (h : p < 1000) : ((nI p).toInt64 - 1).toInt = (p : Int) - 1 := ysub ((x64 _).trans (nIt (by omega))) rfl (by omega)

set_option maxHeartbeats 4000000 in
set_option maxRecDepth 100000 in
theorem c_X12_in {d : Nat} {S : aS} {Q : Option Value → aS → Prop} {v l h : Int64} {x y z : Int} (hv : v.toInt = x) (hl : l.toInt = y) (hh : h.toInt = z) (kt : y ≤ x ∧ x ≤ z → Q (some (.int 1)) S) (kf : ¬ (y ≤ x ∧ x ≤ z) → Q (some (.int 0)) S) : Mth mX12_in d 0 [.long v, .long l, .long h] S Q := by
  refine Mth_of (by decide) rfl ?_
  refine Ev_lload_n dX12_in_0 rfl ?_
  refine Ev_lload_n dX12_in_1 rfl ?_
  refine Ev_lcmp dX12_in_2 ?_
  refine Ev_if_lt dX12_in_3 (fun c1 => ?_) (fun c1 => ?_)
  · skip
    refine Ev_iconst (v := 0) dX12_in_17 (by decide) ?_
    refine Ev_iret dX12_in_18 rfl (by decide) ?_
    subst hv; subst hl; subst hh
    (try simp only [lg_lt, lg_le, lg_ge, lg_gt, lg_eq] at *)
    first | exact kt (by omega) | exact kf (by omega)
  · skip
    refine Ev_lload_n dX12_in_6 rfl ?_
    refine Ev_lload dX12_in_7 rfl ?_
    refine Ev_lcmp dX12_in_9 ?_
    refine Ev_if_gt dX12_in_10 (fun c2 => ?_) (fun c2 => ?_)
    · skip
      refine Ev_iconst (v := 0) dX12_in_17 (by decide) ?_
      refine Ev_iret dX12_in_18 rfl (by decide) ?_
      subst hv; subst hl; subst hh
      (try simp only [lg_lt, lg_le, lg_ge, lg_gt, lg_eq] at *)
      first | exact kt (by omega) | exact kf (by omega)
    · skip
      refine Ev_iconst (v := 1) dX12_in_13 (by decide) ?_
      refine Ev_goto dX12_in_14 ?_
      refine Ev_iret dX12_in_18 rfl (by decide) ?_
      subst hv; subst hl; subst hh
      (try simp only [lg_lt, lg_le, lg_ge, lg_gt, lg_eq] at *)
      first | exact kt (by omega) | exact kf (by omega)

set_option maxHeartbeats 4000000 in
set_option maxRecDepth 100000 in
theorem c_X12_lost {d : Nat} {S : aS} {Q : Option Value → aS → Prop} (k : Q (some (.long (-9223372036854775808))) S) : Mth mX12_lost d 0 [] S Q := by
  refine Mth_of (by decide) rfl ?_
  refine Ev_ldc2 dX12_lost_0 wl_X12_84 ?_
  refine Ev_lret dX12_lost_3 rfl ?_
  exact k

set_option maxHeartbeats 4000000 in
set_option maxRecDepth 100000 in
theorem c_X12_isIn {d : Nat} {S : aS} {Q : Option Value → aS → Prop} {cs j : Nat} (hc : cs < 2147483648) (hj : j < 31) (kt : cs.testBit j = true → Q (some (.int 1)) S) (kf : ¬ (cs.testBit j = true) → Q (some (.int 0)) S) : Mth mX12_isIn d 0 [.int (nI cs), .int (nI j)] S Q := by
  refine Mth_of (by decide) rfl ?_
  refine Ev_iload_n dX12_isIn_0 rfl ?_
  refine Ev_iload_n dX12_isIn_1 rfl ?_
  refine Ev_ishr dX12_isIn_2 ?_
  refine Ev_iconst (v := 1) dX12_isIn_3 (by decide) ?_
  refine Ev_iand dX12_isIn_4 ?_
  refine Ev_iconst (v := 1) dX12_isIn_5 (by decide) ?_
  refine Ev_icmp_ne dX12_isIn_6 (fun c1 => ?_) (fun c1 => ?_)
  · skip
    refine Ev_iconst (v := 0) dX12_isIn_13 (by decide) ?_
    refine Ev_iret dX12_isIn_14 rfl (by decide) ?_
    rw [isInN hc hj] at c1
    first | exact kt c1 | exact kf c1 | exact kt (by simpa using c1)
  · skip
    refine Ev_iconst (v := 1) dX12_isIn_9 (by decide) ?_
    refine Ev_goto dX12_isIn_10 ?_
    refine Ev_iret dX12_isIn_14 rfl (by decide) ?_
    rw [isInN hc hj] at c1
    first | exact kt c1 | exact kf c1 | exact kt (by simpa using c1)

set_option maxHeartbeats 4000000 in
set_option maxRecDepth 100000 in
theorem c_X12_refused {d : Nat} {S : aS} {Q : Option Value → aS → Prop} {flt pl n du lw fr cl ra rp rs ea dp bm rd tr : Int32} {bi : Int64} (hM : S[31]? = some (mo flt pl n du lw fr cl ra rp rs ea dp bm bi rd tr)) {code : Int32} (k : Q (some (.int code)) (S.set 31 (mo 0 pl n du lw fr cl ra rp rs ea dp bm bi rd tr))) : Mth mX12_refused d 0 [.ref 31, .int code] S Q := by
  refine Mth_of (by decide) rfl ?_
  refine Ev_aload_n dX12_refused_0 rfl ?_
  refine Ev_iconst (v := 0) dX12_refused_1 (by decide) ?_
  refine Ev_put dX12_refused_2 fr_X12_86_12 hM rfl rfl rfl ?_
  refine Ev_iload_n dX12_refused_5 rfl ?_
  refine Ev_iret dX12_refused_6 rfl rfl ?_
  exact k

set_option maxHeartbeats 4000000 in
set_option maxRecDepth 100000 in
theorem c_X12_failed {d : Nat} {S : aS} {Q : Option Value → aS → Prop} {flt pl n du lw fr cl ra rp rs ea dp bm rd tr : Int32} {bi : Int64} (hM : S[31]? = some (mo flt pl n du lw fr cl ra rp rs ea dp bm bi rd tr)) {f : Int32} (k : Q (some (.int (-10 - f))) (S.set 31 (mo f pl n du lw fr cl ra rp rs ea dp bm bi rd tr))) : Mth mX12_failed d 0 [.ref 31, .int f] S Q := by
  refine Mth_of (by decide) rfl ?_
  refine Ev_aload_n dX12_failed_0 rfl ?_
  refine Ev_iload_n dX12_failed_1 rfl ?_
  refine Ev_put dX12_failed_2 fr_X12_86_12 hM rfl rfl rfl ?_
  refine Ev_bipush (v := (-10)) dX12_failed_5 (by decide) ?_
  refine Ev_iload_n dX12_failed_7 rfl ?_
  refine Ev_isub dX12_failed_8 ?_
  refine Ev_iret dX12_failed_9 rfl rfl ?_
  exact k

set_option maxHeartbeats 4000000 in
set_option maxRecDepth 100000 in
theorem c_X12_failedLong {d : Nat} {S : aS} {Q : Option Value → aS → Prop} {flt pl n du lw fr cl ra rp rs ea dp bm rd tr : Int32} {bi : Int64} (hM : S[31]? = some (mo flt pl n du lw fr cl ra rp rs ea dp bm bi rd tr)) {f : Int32} (k : Q (some (.long (-9223372036854775808))) (S.set 31 (mo f pl n du lw fr cl ra rp rs ea dp bm bi rd tr))) : Mth mX12_failedLong (d + 1) 0 [.ref 31, .int f] S Q := by
  refine Mth_of (by decide) rfl ?_
  refine Ev_aload_n dX12_failedLong_0 rfl ?_
  refine Ev_iload_n dX12_failedLong_1 rfl ?_
  refine Ev_put dX12_failedLong_2 fr_X12_86_12 hM rfl rfl rfl ?_
  refine Ev_callS (bc := 0) (b := 0) dX12_failedLong_5 cs_X12_90 rfl (Nat.le_of_ble_eq_true rfl) (by omega) ?_
  refine c_X12_lost ?_
  refine Ev_lret dX12_failedLong_8 rfl ?_
  exact k

set_option maxHeartbeats 4000000 in
set_option maxRecDepth 100000 in
theorem c_X12_refusedLong {d : Nat} {S : aS} {Q : Option Value → aS → Prop} {flt pl n du lw fr cl ra rp rs ea dp bm rd tr : Int32} {bi : Int64} (hM : S[31]? = some (mo flt pl n du lw fr cl ra rp rs ea dp bm bi rd tr)) (k : Q (some (.long (-9223372036854775808))) (S.set 31 (mo 0 pl n du lw fr cl ra rp rs ea dp bm bi rd tr))) : Mth mX12_refusedLong (d + 1) 0 [.ref 31] S Q := by
  refine Mth_of (by decide) rfl ?_
  refine Ev_aload_n dX12_refusedLong_0 rfl ?_
  refine Ev_iconst (v := 0) dX12_refusedLong_1 (by decide) ?_
  refine Ev_put dX12_refusedLong_2 fr_X12_86_12 hM rfl rfl rfl ?_
  refine Ev_callS (bc := 0) (b := 0) dX12_refusedLong_5 cs_X12_90 rfl (Nat.le_of_ble_eq_true rfl) (by omega) ?_
  refine c_X12_lost ?_
  refine Ev_lret dX12_refusedLong_8 rfl ?_
  exact k

set_option maxHeartbeats 4000000 in
set_option maxRecDepth 100000 in
theorem c_X12_noPlace {d : Nat} {S : aS} {Q : Option Value → aS → Prop} {flt du lw fr cl ra rp rs ea dp bm rd tr : Int32} {bi : Int64} {pl n : Nat} (hpl : pl ≤ 7) (hn : n ≤ 9) (hM : S[31]? = some (mo flt (nI pl) (nI n) du lw fr cl ra rp rs ea dp bm bi rd tr)) {x : Int32} (kt : ¬ (0 ≤ x.toInt ∧ x.toInt < pl) → Q (some (.int 1)) S) (kf : 0 ≤ x.toInt ∧ x.toInt < pl → Q (some (.int 0)) S) : Mth mX12_noPlace (d + 1) 0 [.ref 31, .int x] S Q := by
  refine Mth_of (by decide) rfl ?_
  refine Ev_iload_n dX12_noPlace_0 rfl ?_
  refine Ev_i2l dX12_noPlace_1 ?_
  refine Ev_lconst (v := 0) dX12_noPlace_2 (by decide) ?_
  refine Ev_aload_n dX12_noPlace_3 rfl ?_
  refine Ev_get dX12_noPlace_4 fg_X12_94_12 hM rfl ?_
  refine Ev_i2l dX12_noPlace_7 ?_
  refine Ev_lconst (v := 1) dX12_noPlace_8 (by decide) ?_
  refine Ev_lsub dX12_noPlace_9 ?_
  refine Ev_callS (bc := 0) (b := 0) dX12_noPlace_10 cs_X12_97 rfl (Nat.le_of_ble_eq_true rfl) (by omega) ?_
  refine c_X12_in (x := _) (y := 0) (z := _) (x64 _) rfl (pm1 (by omega)) (fun q1 => ?_) (fun q1 => ?_)
  · skip
    refine Ev_if_ne dX12_noPlace_13 (fun _ => ?_) (fun c => absurd c (by decide))
    refine Ev_iconst (v := 0) dX12_noPlace_20 (by decide) ?_
    refine Ev_iret dX12_noPlace_21 rfl (by decide) ?_
    first | exact kt (by omega) | exact kf (by omega)
  · skip
    refine Ev_if_ne dX12_noPlace_13 (fun c => absurd (by decide) c) (fun _ => ?_)
    refine Ev_iconst (v := 1) dX12_noPlace_16 (by decide) ?_
    refine Ev_goto dX12_noPlace_17 ?_
    refine Ev_iret dX12_noPlace_21 rfl (by decide) ?_
    first | exact kt (by omega) | exact kf (by omega)

set_option maxHeartbeats 4000000 in
set_option maxRecDepth 100000 in
theorem c_X12_noStretch {d : Nat} {S : aS} {Q : Option Value → aS → Prop} {flt du lw fr cl ra rp rs ea dp bm rd tr : Int32} {bi : Int64} {pl n : Nat} (hpl : pl ≤ 7) (hn : n ≤ 9) (hM : S[31]? = some (mo flt (nI pl) (nI n) du lw fr cl ra rp rs ea dp bm bi rd tr)) {x : Int32} (kt : ¬ (0 ≤ x.toInt ∧ x.toInt < n) → Q (some (.int 1)) S) (kf : 0 ≤ x.toInt ∧ x.toInt < n → Q (some (.int 0)) S) : Mth mX12_noStretch (d + 1) 0 [.ref 31, .int x] S Q := by
  refine Mth_of (by decide) rfl ?_
  refine Ev_iload_n dX12_noStretch_0 rfl ?_
  refine Ev_i2l dX12_noStretch_1 ?_
  refine Ev_lconst (v := 0) dX12_noStretch_2 (by decide) ?_
  refine Ev_aload_n dX12_noStretch_3 rfl ?_
  refine Ev_get dX12_noStretch_4 fg_X12_101_12 hM rfl ?_
  refine Ev_i2l dX12_noStretch_7 ?_
  refine Ev_lconst (v := 1) dX12_noStretch_8 (by decide) ?_
  refine Ev_lsub dX12_noStretch_9 ?_
  refine Ev_callS (bc := 0) (b := 0) dX12_noStretch_10 cs_X12_97 rfl (Nat.le_of_ble_eq_true rfl) (by omega) ?_
  refine c_X12_in (x := _) (y := 0) (z := _) (x64 _) rfl (pm1 (by omega)) (fun q1 => ?_) (fun q1 => ?_)
  · skip
    refine Ev_if_ne dX12_noStretch_13 (fun _ => ?_) (fun c => absurd c (by decide))
    refine Ev_iconst (v := 0) dX12_noStretch_20 (by decide) ?_
    refine Ev_iret dX12_noStretch_21 rfl (by decide) ?_
    first | exact kt (by omega) | exact kf (by omega)
  · skip
    refine Ev_if_ne dX12_noStretch_13 (fun c => absurd (by decide) c) (fun _ => ?_)
    refine Ev_iconst (v := 1) dX12_noStretch_16 (by decide) ?_
    refine Ev_goto dX12_noStretch_17 ?_
    refine Ev_iret dX12_noStretch_21 rfl (by decide) ?_
    first | exact kt (by omega) | exact kf (by omega)

set_option maxHeartbeats 4000000 in
set_option maxRecDepth 100000 in
theorem c_X12_noSheet {d : Nat} {S : aS} {Q : Option Value → aS → Prop} {x : Int32} (kt : ¬ (0 ≤ x.toInt ∧ x.toInt ≤ 3) → Q (some (.int 1)) S) (kf : 0 ≤ x.toInt ∧ x.toInt ≤ 3 → Q (some (.int 0)) S) : Mth mX12_noSheet (d + 1) 0 [.int x] S Q := by
  refine Mth_of (by decide) rfl ?_
  refine Ev_iload_n dX12_noSheet_0 rfl ?_
  refine Ev_i2l dX12_noSheet_1 ?_
  refine Ev_lconst (v := 0) dX12_noSheet_2 (by decide) ?_
  refine Ev_ldc2 dX12_noSheet_3 wl_X12_202 ?_
  refine Ev_callS (bc := 0) (b := 0) dX12_noSheet_6 cs_X12_97 rfl (Nat.le_of_ble_eq_true rfl) (by omega) ?_
  refine c_X12_in (x := _) (y := 0) (z := 3) (x64 _) rfl rfl (fun q1 => ?_) (fun q1 => ?_)
  · skip
    refine Ev_if_ne dX12_noSheet_9 (fun _ => ?_) (fun c => absurd c (by decide))
    refine Ev_iconst (v := 0) dX12_noSheet_16 (by decide) ?_
    refine Ev_iret dX12_noSheet_17 rfl (by decide) ?_
    first | exact kt (by omega) | exact kf (by omega)
  · skip
    refine Ev_if_ne dX12_noSheet_9 (fun c => absurd (by decide) c) (fun _ => ?_)
    refine Ev_iconst (v := 1) dX12_noSheet_12 (by decide) ?_
    refine Ev_goto dX12_noSheet_13 ?_
    refine Ev_iret dX12_noSheet_17 rfl (by decide) ?_
    first | exact kt (by omega) | exact kf (by omega)

set_option maxHeartbeats 4000000 in
set_option maxRecDepth 100000 in
theorem c_X12_isBeyond {d : Nat} {S : aS} {Q : Option Value → aS → Prop} {i all : Int32} {n : Int64} {z : Int} (hz : n.toInt = z) (hzr : -2147483648 ≤ z ∧ z ≤ 2147483647) (kt : (i.toInt < 0 ∨ z < 0 ∨ all.toInt < i.toInt + z) → Q (some (.int 1)) S) (kf : ¬ (i.toInt < 0 ∨ z < 0 ∨ all.toInt < i.toInt + z) → Q (some (.int 0)) S) : Mth mX12_isBeyond d 0 [.int i, .long n, .int all] S Q := by
  refine Mth_of (by decide) rfl ?_
  refine Ev_iload_n dX12_isBeyond_0 rfl ?_
  refine Ev_if_lt dX12_isBeyond_1 (fun c1 => ?_) (fun c1 => ?_)
  · skip
    refine Ev_iconst (v := 1) dX12_isBeyond_20 (by decide) ?_
    refine Ev_goto dX12_isBeyond_21 ?_
    refine Ev_iret dX12_isBeyond_25 rfl (by decide) ?_
    have e0 : (0 : Int32).toInt = 0 := rfl
    have e1 : (0 : Int64).toInt = 0 := rfl
    have e2 : (i.toInt64 + n).toInt = i.toInt + z := yadd (x64 i) hz (by have := xr32 i; omega)
    have e3 := x64 all
    (try simp only [lg_lt, lg_le, lg_ge, lg_gt, lg_eq] at *)
    (try simp only [xlt, xle, hz, e0, e1, e2, e3] at *)
    first | exact kt (by omega) | exact kf (by omega)
  · skip
    refine Ev_lload_n dX12_isBeyond_4 rfl ?_
    refine Ev_lconst (v := 0) dX12_isBeyond_5 (by decide) ?_
    refine Ev_lcmp dX12_isBeyond_6 ?_
    refine Ev_if_lt dX12_isBeyond_7 (fun c2 => ?_) (fun c2 => ?_)
    · skip
      refine Ev_iconst (v := 1) dX12_isBeyond_20 (by decide) ?_
      refine Ev_goto dX12_isBeyond_21 ?_
      refine Ev_iret dX12_isBeyond_25 rfl (by decide) ?_
      have e0 : (0 : Int32).toInt = 0 := rfl
      have e1 : (0 : Int64).toInt = 0 := rfl
      have e2 : (i.toInt64 + n).toInt = i.toInt + z := yadd (x64 i) hz (by have := xr32 i; omega)
      have e3 := x64 all
      (try simp only [lg_lt, lg_le, lg_ge, lg_gt, lg_eq] at *)
      (try simp only [xlt, xle, hz, e0, e1, e2, e3] at *)
      first | exact kt (by omega) | exact kf (by omega)
    · skip
      refine Ev_iload_n dX12_isBeyond_10 rfl ?_
      refine Ev_i2l dX12_isBeyond_11 ?_
      refine Ev_lload_n dX12_isBeyond_12 rfl ?_
      refine Ev_ladd dX12_isBeyond_13 ?_
      refine Ev_iload_n dX12_isBeyond_14 rfl ?_
      refine Ev_i2l dX12_isBeyond_15 ?_
      refine Ev_lcmp dX12_isBeyond_16 ?_
      refine Ev_if_le dX12_isBeyond_17 (fun c3 => ?_) (fun c3 => ?_)
      · skip
        refine Ev_iconst (v := 0) dX12_isBeyond_24 (by decide) ?_
        refine Ev_iret dX12_isBeyond_25 rfl (by decide) ?_
        have e0 : (0 : Int32).toInt = 0 := rfl
        have e1 : (0 : Int64).toInt = 0 := rfl
        have e2 : (i.toInt64 + n).toInt = i.toInt + z := yadd (x64 i) hz (by have := xr32 i; omega)
        have e3 := x64 all
        (try simp only [lg_lt, lg_le, lg_ge, lg_gt, lg_eq] at *)
        (try simp only [xlt, xle, hz, e0, e1, e2, e3] at *)
        first | exact kt (by omega) | exact kf (by omega)
      · skip
        refine Ev_iconst (v := 1) dX12_isBeyond_20 (by decide) ?_
        refine Ev_goto dX12_isBeyond_21 ?_
        refine Ev_iret dX12_isBeyond_25 rfl (by decide) ?_
        have e0 : (0 : Int32).toInt = 0 := rfl
        have e1 : (0 : Int64).toInt = 0 := rfl
        have e2 : (i.toInt64 + n).toInt = i.toInt + z := yadd (x64 i) hz (by have := xr32 i; omega)
        have e3 := x64 all
        (try simp only [lg_lt, lg_le, lg_ge, lg_gt, lg_eq] at *)
        (try simp only [xlt, xle, hz, e0, e1, e2, e3] at *)
        first | exact kt (by omega) | exact kf (by omega)

set_option maxHeartbeats 4000000 in
set_option maxRecDepth 100000 in
theorem c_X12_traced {d : Nat} {S : aS} {Q : Option Value → aS → Prop} {flt pl n du lw fr cl ra rp rs ea dp bm rd tr : Int32} {bi : Int64} (hM : S[31]? = some (mo flt pl n du lw fr cl ra rp rs ea dp bm bi rd tr)) {x : Int32} (k : Q none (S.set 31 (mo flt pl n du lw fr cl ra rp rs ea dp bm bi rd (31 * tr + x)))) : Mth mX12_traced d 0 [.ref 31, .int x] S Q := by
  refine Mth_of (by decide) rfl ?_
  refine Ev_aload_n dX12_traced_0 rfl ?_
  refine Ev_bipush (v := 31) dX12_traced_1 (by decide) ?_
  refine Ev_aload_n dX12_traced_3 rfl ?_
  refine Ev_get dX12_traced_4 fg_X12_287_12 hM rfl ?_
  refine Ev_imul dX12_traced_7 ?_
  refine Ev_iload_n dX12_traced_8 rfl ?_
  refine Ev_iadd dX12_traced_9 ?_
  refine Ev_put dX12_traced_10 fr_X12_287_12 hM rfl rfl rfl ?_
  refine Ev_vret dX12_traced_13 rfl ?_
  exact k

set_option maxHeartbeats 4000000 in
set_option maxRecDepth 100000 in
theorem c_X12_trace {d : Nat} {S : aS} {Q : Option Value → aS → Prop} {flt pl n du lw fr cl ra rp rs ea dp bm rd tr : Int32} {bi : Int64} (hM : S[31]? = some (mo flt pl n du lw fr cl ra rp rs ea dp bm bi rd tr)) (k : Q (some (.int tr)) S) : Mth mX12_trace d 0 [.ref 31] S Q := by
  refine Mth_of (by decide) rfl ?_
  refine Ev_aload_n dX12_trace_0 rfl ?_
  refine Ev_get dX12_trace_1 fg_X12_287_12 hM rfl ?_
  refine Ev_iret dX12_trace_4 rfl rfl ?_
  exact k

set_option maxHeartbeats 4000000 in
set_option maxRecDepth 100000 in
theorem c_X12_fault {d : Nat} {S : aS} {Q : Option Value → aS → Prop} {flt pl n du lw fr cl ra rp rs ea dp bm rd tr : Int32} {bi : Int64} (hM : S[31]? = some (mo flt pl n du lw fr cl ra rp rs ea dp bm bi rd tr)) (k : Q (some (.int flt)) S) : Mth mX12_fault d 0 [.ref 31] S Q := by
  refine Mth_of (by decide) rfl ?_
  refine Ev_aload_n dX12_fault_0 rfl ?_
  refine Ev_get dX12_fault_1 fg_X12_86_12 hM rfl ?_
  refine Ev_iret dX12_fault_4 rfl rfl ?_
  exact k

set_option maxHeartbeats 4000000 in
set_option maxRecDepth 100000 in
theorem c_X12_many {d : Nat} {S : aS} {Q : Option Value → aS → Prop} {flt pl n du lw fr cl ra rp rs ea dp bm rd tr : Int32} {bi : Int64} (hM : S[31]? = some (mo flt pl n du lw fr cl ra rp rs ea dp bm bi rd tr)) {x : Int32} (k : Q (some (.int (if x = 0 then pl else if x = 1 then n else if x = 2 then du else if x = 3 then lw else if x = 4 then rd else -2))) S) : Mth mX12_many d 0 [.ref 31, .int x] S Q := by
  refine Mth_of (by decide) rfl ?_
  refine Ev_iload_n dX12_many_0 rfl ?_
  by_cases e1 : x = 0
  · skip
    refine Ev_tableIn (off := 35) (tg := 36) 0 dX12_many_1 (by rw [e1]; decide) (by decide) rfl (by decide) ?_
    refine Ev_aload_n dX12_many_36 rfl ?_
    refine Ev_get dX12_many_37 fg_X12_94_12 hM rfl ?_
    refine Ev_iret dX12_many_40 rfl rfl ?_
    simpa [*] using k
  by_cases e2 : x = 1
  · skip
    refine Ev_tableIn (off := 40) (tg := 41) 1 dX12_many_1 (by rw [e2]; decide) (by decide) rfl (by decide) ?_
    refine Ev_aload_n dX12_many_41 rfl ?_
    refine Ev_get dX12_many_42 fg_X12_101_12 hM rfl ?_
    refine Ev_iret dX12_many_45 rfl rfl ?_
    simpa [*] using k
  by_cases e3 : x = 2
  · skip
    refine Ev_tableIn (off := 45) (tg := 46) 2 dX12_many_1 (by rw [e3]; decide) (by decide) rfl (by decide) ?_
    refine Ev_aload_n dX12_many_46 rfl ?_
    refine Ev_get dX12_many_47 fg_X12_149_12 hM rfl ?_
    refine Ev_iret dX12_many_50 rfl rfl ?_
    simpa [*] using k
  by_cases e4 : x = 3
  · skip
    refine Ev_tableIn (off := 50) (tg := 51) 3 dX12_many_1 (by rw [e4]; decide) (by decide) rfl (by decide) ?_
    refine Ev_aload_n dX12_many_51 rfl ?_
    refine Ev_get dX12_many_52 fg_X12_152_12 hM rfl ?_
    refine Ev_iret dX12_many_55 rfl rfl ?_
    simpa [*] using k
  by_cases e5 : x = 4
  · skip
    refine Ev_tableIn (off := 55) (tg := 56) 4 dX12_many_1 (by rw [e5]; decide) (by decide) rfl (by decide) ?_
    refine Ev_aload_n dX12_many_56 rfl ?_
    refine Ev_get dX12_many_57 fg_X12_161_12 hM rfl ?_
    refine Ev_iret dX12_many_60 rfl rfl ?_
    simpa [*] using k
  refine Ev_tableOut (tg := 61) dX12_many_1 (sw_out5 e1 e2 e3 e4 e5) (by decide) ?_
  refine Ev_bipush (v := (-2)) dX12_many_61 (by decide) ?_
  refine Ev_iret dX12_many_63 rfl rfl ?_
  simpa [*] using k
end
section
/-! ===== the net's numbers, as both sides hold them ===== -/
/-- G 0 .. G 5: kind, one place, the other, long, sights, danger of a stretch -/
def GD (pl n : Nat) (G : Nat → Nat → Nat) : Prop := pl ≤ 7 ∧ n ≤ 9 ∧ ∀ j, j < n → G 0 j ≤ 2 ∧ G 1 j < pl ∧ G 2 j < pl ∧ G 1 j ≠ G 2 j ∧ 1 ≤ G 3 j ∧ G 3 j ≤ 9 ∧ G 4 j ≤ 9 ∧ G 5 j ≤ 9
def MN (S : aS) (n : Nat) (G : Nat → Nat → Nat) : Prop := ∀ f, f < 6 → ∃ h : Nat → Int32, S[32 + f]? = some (iA 9 h) ∧ ∀ j, j < n → h j = nI (G f j)
theorem MN.off {S : aS} {n a : Nat} {G : Nat → Nat → Nat} {c : aE} (h : MN S n G) (ha : a < 32 ∨ 37 < a) : MN (S.set a c) n G := by
  intro f hf
  obtain ⟨g, h1, h2⟩ := h f hf
  exact ⟨g, gn (by omega) h1, h2⟩
def sh (G : Nat → Nat → Nat) (fz : Int) (j : Nat) : Bool := decide ((G 1 j : Int) ≤ fz ∧ (G 2 j : Int) ≤ fz)
def tk0 (G : Nat → Nat → Nat) (j : Nat) : Nat := if G 0 j = 2 then 2 * (G 3 j + 1) else if 0 < G 0 j then G 3 j + 1 else G 3 j
def tk (G : Nat → Nat → Nat) (fz : Int) (j : Nat) : Nat := if sh G fz j then tk0 G j + 1 else tk0 G j
def tn (G : Nat → Nat → Nat) (fz : Int) (j : Nat) : Nat := if sh G fz j then 10 else 10 - G 5 j
def gt (G : Nat → Nat → Nat) (cs j p : Nat) : Option Nat := if cs.testBit j then none else if G 1 j = p then some (G 2 j) else if G 2 j = p then some (G 1 j) else none
def oi (r : Option Nat) : Int32 := match r with
  | none => -9
  | some q => nI q
def sumN (f : Nat → Nat) : Nat → Nat
  | 0 => 0
  | m + 1 => sumN f m + f m
def prodN (f : Nat → Nat) : Nat → Nat
  | 0 => 1
  | m + 1 => prodN f m * f m
def goN (r : Nat → Nat) : Nat → Nat
  | 0 => 0
  | m + 1 => goN r m ||| 2 ^ r m
def sgN (G : Nat → Nat → Nat) (n g : Nat) : Nat := sumN (fun k => if g.testBit k then G 4 k else 0) n
def cst (lw late : Int) : Int := if late ≤ 0 then 0 else if lw = 0 then late else if lw = 2 then late * late else if 5 < late then 3 * (late - 5) else 0
theorem tk_le {G : Nat → Nat → Nat} {pl n : Nat} (h : GD pl n G) (fz : Int) {j : Nat} (hj : j < n) : tk G fz j ≤ 21 ∧ 1 ≤ tk G fz j := by
  have := h.2.2 j hj
  unfold tk tk0
  split <;> split <;> (try split) <;> omega
theorem tn_le {G : Nat → Nat → Nat} (fz : Int) (j : Nat) : tn G fz j ≤ 10 := by
  unfold tn
  split <;> omega
theorem sumN_le {f : Nat → Nat} {b : Nat} : ∀ (m : Nat), (∀ j, j < m → f j ≤ b) → sumN f m ≤ m * b
  | 0, _ => by simp [sumN]
  | m + 1, h => by
    have h1 := sumN_le m (fun j hj => h j (by omega))
    have h2 := h m (by omega)
    simp only [sumN]
    rw [Nat.add_mul, Nat.one_mul]
    omega
theorem prodN_le {f : Nat → Nat} : ∀ (m : Nat), (∀ j, j < m → f j ≤ 10) → prodN f m ≤ 10 ^ m
  | 0, _ => by simp [prodN]
  | m + 1, h => by
    have h1 := prodN_le m (fun j hj => h j (by omega))
    have h2 := h m (by omega)
    simp only [prodN, Nat.pow_succ]
    exact Nat.mul_le_mul h1 h2
theorem or_lt {a b k : Nat} (ha : a < 2 ^ k) (hb : b < 2 ^ k) : a ||| b < 2 ^ k := Nat.or_lt_two_pow ha hb
theorem goN_lt {r : Nat → Nat} {n : Nat} : ∀ (m : Nat), (∀ j, j < m → r j < n) → goN r m < 2 ^ n
  | 0, _ => Nat.two_pow_pos n
  | m + 1, h => by
    have h1 := goN_lt m (fun j hj => h j (by omega))
    exact or_lt h1 (Nat.pow_lt_pow_right (by decide) (h m (by omega)))
theorem oneShl {j : Nat} (h : j < 31) : (1 : Int32) <<< (nI j &&& 31) = nI (2 ^ j) := by
  have : 1 * 2 ^ j < 2 ^ 32 := by rw [Nat.one_mul]; exact Nat.pow_lt_pow_right (by decide) (by omega)
  have h2 := shlN (n := 1) j (by omega) this
  rw [Nat.one_mul] at h2
  exact h2
theorem p9 {n : Nat} (h : n ≤ 9) : 2 ^ n ≤ 512 := Nat.pow_le_pow_right (by decide) h
theorem nsub {a b : Nat} (h : b ≤ a) : nI a - nI b = nI (a - b) := pk_sub h
theorem nmul (a b : Nat) : nI a * nI b = nI (a * b) := pk_mul a b
theorem lmulN (a b : Nat) : lN a * lN b = lN (a * b) := lN_mul a b
theorem nle {a b : Nat} (ha : a < 2147483648) (hb : b < 2147483648) : nI a ≤ nI b ↔ a ≤ b := nI_leI ha hb
theorem nlt {a b : Nat} (ha : a < 2147483648) (hb : b < 2147483648) : nI a < nI b ↔ a < b := nI_ltI ha hb
theorem nl {n : Nat} (h : n < 2147483648) : (nI n).toInt64 = lN n := nI_l h
end
section
set_option maxHeartbeats 4000000 in
set_option maxRecDepth 100000 in
theorem c_X12_isShared {d : Nat} {S : aS} {Q : Option Value → aS → Prop} {flt du lw fr ra rp rs ea dp bm rd tr : Int32} {bi : Int64} {pl n cs : Nat} {G : Nat → Nat → Nat} (hg : GD pl n G) (hcs : cs < 512) (hM : S[31]? = some (mo flt (nI pl) (nI n) du lw fr (nI cs) ra rp rs ea dp bm bi rd tr)) (hG : MN S n G) {j : Nat} (hj : j < n) (kt : sh G fr.toInt j = true → Q (some (.int 1)) S) (kf : ¬ sh G fr.toInt j = true → Q (some (.int 0)) S) : Mth mX12_isShared d 0 [.ref 31, .int (nI j)] S Q := by
  have hn9 := hg.2.1
  have hp7 := hg.1
  have hjG := hg.2.2 j hj
  obtain ⟨f1, a1, b1⟩ := hG 1 (by decide)
  obtain ⟨f2, a2, b2⟩ := hG 2 (by decide)
  refine Mth_of (by decide) rfl ?_
  refine Ev_aload_n dX12_isShared_0 rfl ?_
  refine Ev_get dX12_isShared_1 fg_X12_13_12 hM rfl ?_
  refine Ev_iload_n dX12_isShared_4 rfl ?_
  refine Ev_iaload dX12_isShared_5 a1 (vinN (by omega) (by decide)) ?_
  refine Ev_topi (y := nI (G 1 j)) (by rw [ncl (by omega)]; exact b1 _ (by omega)) ?_
  refine Ev_aload_n dX12_isShared_6 rfl ?_
  refine Ev_get dX12_isShared_7 fg_X12_155_12 hM rfl ?_
  refine Ev_icmp_gt dX12_isShared_10 (fun c1 => ?_) (fun c1 => ?_)
  · skip
    refine Ev_iconst (v := 0) dX12_isShared_30 (by decide) ?_
    refine Ev_iret dX12_isShared_31 rfl (by decide) ?_
    have e1 : (nI (G 1 j)).toInt = (G 1 j : Int) := nIt (by omega)
    have e2 : (nI (G 2 j)).toInt = (G 2 j : Int) := nIt (by omega)
    (try simp only [xlt, xle, e1, e2] at *)
    first | exact kt (by simp only [sh, decide_eq_true_eq]; omega) | exact kf (by simp only [sh, decide_eq_true_eq]; omega)
  · skip
    refine Ev_aload_n dX12_isShared_13 rfl ?_
    refine Ev_get dX12_isShared_14 fg_X12_16_12 hM rfl ?_
    refine Ev_iload_n dX12_isShared_17 rfl ?_
    refine Ev_iaload dX12_isShared_18 a2 (vinN (by omega) (by decide)) ?_
    refine Ev_topi (y := nI (G 2 j)) (by rw [ncl (by omega)]; exact b2 _ (by omega)) ?_
    refine Ev_aload_n dX12_isShared_19 rfl ?_
    refine Ev_get dX12_isShared_20 fg_X12_155_12 hM rfl ?_
    refine Ev_icmp_gt dX12_isShared_23 (fun c2 => ?_) (fun c2 => ?_)
    · skip
      refine Ev_iconst (v := 0) dX12_isShared_30 (by decide) ?_
      refine Ev_iret dX12_isShared_31 rfl (by decide) ?_
      have e1 : (nI (G 1 j)).toInt = (G 1 j : Int) := nIt (by omega)
      have e2 : (nI (G 2 j)).toInt = (G 2 j : Int) := nIt (by omega)
      (try simp only [xlt, xle, e1, e2] at *)
      first | exact kt (by simp only [sh, decide_eq_true_eq]; omega) | exact kf (by simp only [sh, decide_eq_true_eq]; omega)
    · skip
      refine Ev_iconst (v := 1) dX12_isShared_26 (by decide) ?_
      refine Ev_goto dX12_isShared_27 ?_
      refine Ev_iret dX12_isShared_31 rfl (by decide) ?_
      have e1 : (nI (G 1 j)).toInt = (G 1 j : Int) := nIt (by omega)
      have e2 : (nI (G 2 j)).toInt = (G 2 j : Int) := nIt (by omega)
      (try simp only [xlt, xle, e1, e2] at *)
      first | exact kt (by simp only [sh, decide_eq_true_eq]; omega) | exact kf (by simp only [sh, decide_eq_true_eq]; omega)

set_option maxHeartbeats 4000000 in
set_option maxRecDepth 100000 in
theorem c_X12_takesOf {d : Nat} {S : aS} {Q : Option Value → aS → Prop} {flt du lw fr ra rp rs ea dp bm rd tr : Int32} {bi : Int64} {pl n cs : Nat} {G : Nat → Nat → Nat} (hg : GD pl n G) (hcs : cs < 512) (hM : S[31]? = some (mo flt (nI pl) (nI n) du lw fr (nI cs) ra rp rs ea dp bm bi rd tr)) (hG : MN S n G) {j : Nat} (hj : j < n) (k : Q (some (.int (nI (tk G fr.toInt j)))) S) : Mth mX12_takesOf (d + 1) 0 [.ref 31, .int (nI j)] S Q := by
  have hn9 := hg.2.1
  have hp7 := hg.1
  have hjG := hg.2.2 j hj
  obtain ⟨f0, a0, b0⟩ := hG 0 (by decide)
  obtain ⟨f3, a3, b3⟩ := hG 3 (by decide)
  refine Mth_of (by decide) rfl ?_
  refine Ev_aload_n dX12_takesOf_0 rfl ?_
  refine Ev_get dX12_takesOf_1 fg_X12_19_12 hM rfl ?_
  refine Ev_iload_n dX12_takesOf_4 rfl ?_
  refine Ev_iaload dX12_takesOf_5 a3 (vinN (by omega) (by decide)) ?_
  refine Ev_topi (y := nI (G 3 j)) (by rw [ncl (by omega)]; exact b3 _ (by omega)) ?_
  refine Ev_aload_n dX12_takesOf_6 rfl ?_
  refine Ev_get dX12_takesOf_7 fg_X12_7_12 hM rfl ?_
  refine Ev_iload_n dX12_takesOf_10 rfl ?_
  refine Ev_iaload dX12_takesOf_11 a0 (vinN (by omega) (by decide)) ?_
  refine Ev_topi (y := nI (G 0 j)) (by rw [ncl (by omega)]; exact b0 _ (by omega)) ?_
  refine Ev_if_le dX12_takesOf_12 (fun c1 => ?_) (fun c1 => ?_)
  · skip
    have c1 : (G 0 j) ≤ 0 := (nle (a := G 0 j) (b := 0) (by omega) (by omega)).mp c1
    refine Ev_iconst (v := 0) dX12_takesOf_19 (by decide) ?_
    refine Ev_iadd dX12_takesOf_20 ?_
    refine Ev_topi (y := nI ((G 3 j) + 0)) (nI_add _ _) ?_
    refine Ev_istore_n dX12_takesOf_21 rfl ?_
    refine Ev_aload_n dX12_takesOf_22 rfl ?_
    refine Ev_get dX12_takesOf_23 fg_X12_7_12 hM rfl ?_
    refine Ev_iload_n dX12_takesOf_26 rfl ?_
    refine Ev_iaload dX12_takesOf_27 a0 (vinN (by omega) (by decide)) ?_
    refine Ev_topi (y := nI (G 0 j)) (by rw [ncl (by omega)]; exact b0 _ (by omega)) ?_
    refine Ev_iconst (v := 2) dX12_takesOf_28 (by decide) ?_
    refine Ev_icmp_ne dX12_takesOf_29 (fun c2 => ?_) (fun c2 => ?_)
    · skip
      have c2 : ¬ ((G 0 j) = 2) := fun z => c2 ((nIinj (a := G 0 j) (b := 2) (by omega) (by omega)).mpr z)
      refine Ev_iload_n dX12_takesOf_38 rfl ?_
      refine Ev_istore_n dX12_takesOf_39 rfl ?_
      refine Ev_aload_n dX12_takesOf_40 rfl ?_
      refine Ev_iload_n dX12_takesOf_41 rfl ?_
      refine Ev_callV (bc := 0) (b := 0) dX12_takesOf_42 cv_X12_164 rfl hM (Nat.le_of_ble_eq_true rfl) (by omega) ?_
      refine c_X12_isShared hg hcs hM hG hj (fun q3 => ?_) (fun q3 => ?_)
      · skip
        refine Ev_if_eq dX12_takesOf_45 (fun c => absurd c (by decide)) (fun _ => ?_)
        refine Ev_iload_n dX12_takesOf_48 rfl ?_
        refine Ev_iconst (v := 1) dX12_takesOf_49 (by decide) ?_
        refine Ev_iadd dX12_takesOf_50 ?_
        refine Ev_topi (y := nI (((G 3 j) + 0) + 1)) (nI_add _ _) ?_
        refine Ev_goto dX12_takesOf_51 ?_
        refine Ev_iret dX12_takesOf_55 rfl rfl ?_
        have e : tk G fr.toInt j = ((G 3 j) + 0) + 1 := by
          unfold tk tk0
          (repeat' split) <;> first | rfl | omega | contradiction | (simp_all; done) | (simp_all; omega)
        rw [e] at k
        exact k
      · skip
        refine Ev_if_eq dX12_takesOf_45 (fun _ => ?_) (fun c => absurd (by decide) c)
        refine Ev_iload_n dX12_takesOf_54 rfl ?_
        refine Ev_iret dX12_takesOf_55 rfl rfl ?_
        have e : tk G fr.toInt j = (G 3 j) + 0 := by
          unfold tk tk0
          (repeat' split) <;> first | rfl | omega | contradiction | (simp_all; done) | (simp_all; omega)
        rw [e] at k
        exact k
    · skip
      have c2 : (G 0 j) = 2 := (nIinj (a := G 0 j) (b := 2) (by omega) (by omega)).mp c2
      refine Ev_iconst (v := 2) dX12_takesOf_32 (by decide) ?_
      refine Ev_iload_n dX12_takesOf_33 rfl ?_
      refine Ev_imul dX12_takesOf_34 ?_
      refine Ev_topi (y := nI (2 * ((G 3 j) + 0))) (nmul _ _) ?_
      refine Ev_goto dX12_takesOf_35 ?_
      refine Ev_istore_n dX12_takesOf_39 rfl ?_
      refine Ev_aload_n dX12_takesOf_40 rfl ?_
      refine Ev_iload_n dX12_takesOf_41 rfl ?_
      refine Ev_callV (bc := 0) (b := 0) dX12_takesOf_42 cv_X12_164 rfl hM (Nat.le_of_ble_eq_true rfl) (by omega) ?_
      refine c_X12_isShared hg hcs hM hG hj (fun q4 => ?_) (fun q4 => ?_)
      · skip
        refine Ev_if_eq dX12_takesOf_45 (fun c => absurd c (by decide)) (fun _ => ?_)
        refine Ev_iload_n dX12_takesOf_48 rfl ?_
        refine Ev_iconst (v := 1) dX12_takesOf_49 (by decide) ?_
        refine Ev_iadd dX12_takesOf_50 ?_
        refine Ev_topi (y := nI ((2 * ((G 3 j) + 0)) + 1)) (nI_add _ _) ?_
        refine Ev_goto dX12_takesOf_51 ?_
        refine Ev_iret dX12_takesOf_55 rfl rfl ?_
        have e : tk G fr.toInt j = (2 * ((G 3 j) + 0)) + 1 := by
          unfold tk tk0
          (repeat' split) <;> first | rfl | omega | contradiction | (simp_all; done) | (simp_all; omega)
        rw [e] at k
        exact k
      · skip
        refine Ev_if_eq dX12_takesOf_45 (fun _ => ?_) (fun c => absurd (by decide) c)
        refine Ev_iload_n dX12_takesOf_54 rfl ?_
        refine Ev_iret dX12_takesOf_55 rfl rfl ?_
        have e : tk G fr.toInt j = 2 * ((G 3 j) + 0) := by
          unfold tk tk0
          (repeat' split) <;> first | rfl | omega | contradiction | (simp_all; done) | (simp_all; omega)
        rw [e] at k
        exact k
  · skip
    have c1 : ¬ ((G 0 j) ≤ 0) := fun z => c1 ((nle (a := G 0 j) (b := 0) (by omega) (by omega)).mpr z)
    refine Ev_iconst (v := 1) dX12_takesOf_15 (by decide) ?_
    refine Ev_goto dX12_takesOf_16 ?_
    refine Ev_iadd dX12_takesOf_20 ?_
    refine Ev_topi (y := nI ((G 3 j) + 1)) (nI_add _ _) ?_
    refine Ev_istore_n dX12_takesOf_21 rfl ?_
    refine Ev_aload_n dX12_takesOf_22 rfl ?_
    refine Ev_get dX12_takesOf_23 fg_X12_7_12 hM rfl ?_
    refine Ev_iload_n dX12_takesOf_26 rfl ?_
    refine Ev_iaload dX12_takesOf_27 a0 (vinN (by omega) (by decide)) ?_
    refine Ev_topi (y := nI (G 0 j)) (by rw [ncl (by omega)]; exact b0 _ (by omega)) ?_
    refine Ev_iconst (v := 2) dX12_takesOf_28 (by decide) ?_
    refine Ev_icmp_ne dX12_takesOf_29 (fun c5 => ?_) (fun c5 => ?_)
    · skip
      have c5 : ¬ ((G 0 j) = 2) := fun z => c5 ((nIinj (a := G 0 j) (b := 2) (by omega) (by omega)).mpr z)
      refine Ev_iload_n dX12_takesOf_38 rfl ?_
      refine Ev_istore_n dX12_takesOf_39 rfl ?_
      refine Ev_aload_n dX12_takesOf_40 rfl ?_
      refine Ev_iload_n dX12_takesOf_41 rfl ?_
      refine Ev_callV (bc := 0) (b := 0) dX12_takesOf_42 cv_X12_164 rfl hM (Nat.le_of_ble_eq_true rfl) (by omega) ?_
      refine c_X12_isShared hg hcs hM hG hj (fun q6 => ?_) (fun q6 => ?_)
      · skip
        refine Ev_if_eq dX12_takesOf_45 (fun c => absurd c (by decide)) (fun _ => ?_)
        refine Ev_iload_n dX12_takesOf_48 rfl ?_
        refine Ev_iconst (v := 1) dX12_takesOf_49 (by decide) ?_
        refine Ev_iadd dX12_takesOf_50 ?_
        refine Ev_topi (y := nI (((G 3 j) + 1) + 1)) (nI_add _ _) ?_
        refine Ev_goto dX12_takesOf_51 ?_
        refine Ev_iret dX12_takesOf_55 rfl rfl ?_
        have e : tk G fr.toInt j = ((G 3 j) + 1) + 1 := by
          unfold tk tk0
          (repeat' split) <;> first | rfl | omega | contradiction | (simp_all; done) | (simp_all; omega)
        rw [e] at k
        exact k
      · skip
        refine Ev_if_eq dX12_takesOf_45 (fun _ => ?_) (fun c => absurd (by decide) c)
        refine Ev_iload_n dX12_takesOf_54 rfl ?_
        refine Ev_iret dX12_takesOf_55 rfl rfl ?_
        have e : tk G fr.toInt j = (G 3 j) + 1 := by
          unfold tk tk0
          (repeat' split) <;> first | rfl | omega | contradiction | (simp_all; done) | (simp_all; omega)
        rw [e] at k
        exact k
    · skip
      have c5 : (G 0 j) = 2 := (nIinj (a := G 0 j) (b := 2) (by omega) (by omega)).mp c5
      refine Ev_iconst (v := 2) dX12_takesOf_32 (by decide) ?_
      refine Ev_iload_n dX12_takesOf_33 rfl ?_
      refine Ev_imul dX12_takesOf_34 ?_
      refine Ev_topi (y := nI (2 * ((G 3 j) + 1))) (nmul _ _) ?_
      refine Ev_goto dX12_takesOf_35 ?_
      refine Ev_istore_n dX12_takesOf_39 rfl ?_
      refine Ev_aload_n dX12_takesOf_40 rfl ?_
      refine Ev_iload_n dX12_takesOf_41 rfl ?_
      refine Ev_callV (bc := 0) (b := 0) dX12_takesOf_42 cv_X12_164 rfl hM (Nat.le_of_ble_eq_true rfl) (by omega) ?_
      refine c_X12_isShared hg hcs hM hG hj (fun q7 => ?_) (fun q7 => ?_)
      · skip
        refine Ev_if_eq dX12_takesOf_45 (fun c => absurd c (by decide)) (fun _ => ?_)
        refine Ev_iload_n dX12_takesOf_48 rfl ?_
        refine Ev_iconst (v := 1) dX12_takesOf_49 (by decide) ?_
        refine Ev_iadd dX12_takesOf_50 ?_
        refine Ev_topi (y := nI ((2 * ((G 3 j) + 1)) + 1)) (nI_add _ _) ?_
        refine Ev_goto dX12_takesOf_51 ?_
        refine Ev_iret dX12_takesOf_55 rfl rfl ?_
        have e : tk G fr.toInt j = (2 * ((G 3 j) + 1)) + 1 := by
          unfold tk tk0
          (repeat' split) <;> first | rfl | omega | contradiction | (simp_all; done) | (simp_all; omega)
        rw [e] at k
        exact k
      · skip
        refine Ev_if_eq dX12_takesOf_45 (fun _ => ?_) (fun c => absurd (by decide) c)
        refine Ev_iload_n dX12_takesOf_54 rfl ?_
        refine Ev_iret dX12_takesOf_55 rfl rfl ?_
        have e : tk G fr.toInt j = 2 * ((G 3 j) + 1) := by
          unfold tk tk0
          (repeat' split) <;> first | rfl | omega | contradiction | (simp_all; done) | (simp_all; omega)
        rw [e] at k
        exact k

set_option maxHeartbeats 4000000 in
set_option maxRecDepth 100000 in
theorem c_X12_safeOf {d : Nat} {S : aS} {Q : Option Value → aS → Prop} {flt du lw fr ra rp rs ea dp bm rd tr : Int32} {bi : Int64} {pl n cs : Nat} {G : Nat → Nat → Nat} (hg : GD pl n G) (hcs : cs < 512) (hM : S[31]? = some (mo flt (nI pl) (nI n) du lw fr (nI cs) ra rp rs ea dp bm bi rd tr)) (hG : MN S n G) {j : Nat} (hj : j < n) (k : Q (some (.int (nI (tn G fr.toInt j)))) S) : Mth mX12_safeOf (d + 1) 0 [.ref 31, .int (nI j)] S Q := by
  have hn9 := hg.2.1
  have hp7 := hg.1
  have hjG := hg.2.2 j hj
  obtain ⟨f5, a5, b5⟩ := hG 5 (by decide)
  refine Mth_of (by decide) rfl ?_
  refine Ev_aload_n dX12_safeOf_0 rfl ?_
  refine Ev_iload_n dX12_safeOf_1 rfl ?_
  refine Ev_callV (bc := 0) (b := 0) dX12_safeOf_2 cv_X12_164 rfl hM (Nat.le_of_ble_eq_true rfl) (by omega) ?_
  refine c_X12_isShared hg hcs hM hG hj (fun q1 => ?_) (fun q1 => ?_)
  · skip
    refine Ev_if_eq dX12_safeOf_5 (fun c => absurd c (by decide)) (fun _ => ?_)
    refine Ev_bipush (v := 10) dX12_safeOf_8 (by decide) ?_
    refine Ev_goto dX12_safeOf_10 ?_
    refine Ev_iret dX12_safeOf_22 rfl rfl ?_
    have e : tn G fr.toInt j = 10 := by
      unfold tn
      (repeat' split) <;> first | rfl | omega | contradiction | (simp_all; done) | (simp_all; omega)
    rw [e] at k
    exact k
  · skip
    refine Ev_if_eq dX12_safeOf_5 (fun _ => ?_) (fun c => absurd (by decide) c)
    refine Ev_bipush (v := 10) dX12_safeOf_13 (by decide) ?_
    refine Ev_aload_n dX12_safeOf_15 rfl ?_
    refine Ev_get dX12_safeOf_16 fg_X12_25_12 hM rfl ?_
    refine Ev_iload_n dX12_safeOf_19 rfl ?_
    refine Ev_iaload dX12_safeOf_20 a5 (vinN (by omega) (by decide)) ?_
    refine Ev_topi (y := nI (G 5 j)) (by rw [ncl (by omega)]; exact b5 _ (by omega)) ?_
    refine Ev_isub dX12_safeOf_21 ?_
    refine Ev_topi (y := nI (10 - G 5 j)) (nsub (a := 10) (by omega)) ?_
    refine Ev_iret dX12_safeOf_22 rfl rfl ?_
    have e : tn G fr.toInt j = 10 - G 5 j := by
      unfold tn
      (repeat' split) <;> first | rfl | omega | contradiction | (simp_all; done) | (simp_all; omega)
    rw [e] at k
    exact k

set_option maxHeartbeats 4000000 in
set_option maxRecDepth 100000 in
theorem c_X12_goesTo {d : Nat} {S : aS} {Q : Option Value → aS → Prop} {flt du lw fr ra rp rs ea dp bm rd tr : Int32} {bi : Int64} {pl n cs : Nat} {G : Nat → Nat → Nat} (hg : GD pl n G) (hcs : cs < 512) (hM : S[31]? = some (mo flt (nI pl) (nI n) du lw fr (nI cs) ra rp rs ea dp bm bi rd tr)) (hG : MN S n G) {j : Nat} (hj : j < n) {p : Nat} (hp : p < 100) (k : Q (some (.int (oi (gt G cs j p)))) S) : Mth mX12_goesTo (d + 1) 0 [.ref 31, .int (nI j), .int (nI p)] S Q := by
  have hn9 := hg.2.1
  have hp7 := hg.1
  have hjG := hg.2.2 j hj
  obtain ⟨f1, a1, b1⟩ := hG 1 (by decide)
  obtain ⟨f2, a2, b2⟩ := hG 2 (by decide)
  refine Mth_of (by decide) rfl ?_
  refine Ev_aload_n dX12_goesTo_0 rfl ?_
  refine Ev_get dX12_goesTo_1 fg_X12_158_12 hM rfl ?_
  refine Ev_iload_n dX12_goesTo_4 rfl ?_
  refine Ev_callS (bc := 0) (b := 0) dX12_goesTo_5 cs_X12_173 rfl (Nat.le_of_ble_eq_true rfl) (by omega) ?_
  refine c_X12_isIn (by omega) (by omega) (fun q1 => ?_) (fun q1 => ?_)
  · skip
    refine Ev_if_eq dX12_goesTo_8 (fun c => absurd c (by decide)) (fun _ => ?_)
    refine Ev_bipush (v := (-9)) dX12_goesTo_11 (by decide) ?_
    refine Ev_iret dX12_goesTo_13 rfl rfl ?_
    have e : gt G cs j p = none := by
      unfold gt
      (repeat' split) <;> first | rfl | omega | contradiction | (simp_all; done) | (simp_all; omega)
    rw [e] at k
    exact k
  · skip
    refine Ev_if_eq dX12_goesTo_8 (fun _ => ?_) (fun c => absurd (by decide) c)
    refine Ev_aload_n dX12_goesTo_14 rfl ?_
    refine Ev_get dX12_goesTo_15 fg_X12_13_12 hM rfl ?_
    refine Ev_iload_n dX12_goesTo_18 rfl ?_
    refine Ev_iaload dX12_goesTo_19 a1 (vinN (by omega) (by decide)) ?_
    refine Ev_topi (y := nI (G 1 j)) (by rw [ncl (by omega)]; exact b1 _ (by omega)) ?_
    refine Ev_iload_n dX12_goesTo_20 rfl ?_
    refine Ev_icmp_ne dX12_goesTo_21 (fun c2 => ?_) (fun c2 => ?_)
    · skip
      have c2 : ¬ ((G 1 j) = p) := fun z => c2 ((nIinj (a := G 1 j) (b := p) (by omega) (by omega)).mpr z)
      refine Ev_aload_n dX12_goesTo_33 rfl ?_
      refine Ev_get dX12_goesTo_34 fg_X12_16_12 hM rfl ?_
      refine Ev_iload_n dX12_goesTo_37 rfl ?_
      refine Ev_iaload dX12_goesTo_38 a2 (vinN (by omega) (by decide)) ?_
      refine Ev_topi (y := nI (G 2 j)) (by rw [ncl (by omega)]; exact b2 _ (by omega)) ?_
      refine Ev_iload_n dX12_goesTo_39 rfl ?_
      refine Ev_icmp_ne dX12_goesTo_40 (fun c3 => ?_) (fun c3 => ?_)
      · skip
        have c3 : ¬ ((G 2 j) = p) := fun z => c3 ((nIinj (a := G 2 j) (b := p) (by omega) (by omega)).mpr z)
        refine Ev_bipush (v := (-9)) dX12_goesTo_52 (by decide) ?_
        refine Ev_iret dX12_goesTo_54 rfl rfl ?_
        have e : gt G cs j p = none := by
          unfold gt
          (repeat' split) <;> first | rfl | omega | contradiction | (simp_all; done) | (simp_all; omega)
        rw [e] at k
        exact k
      · skip
        have c3 : (G 2 j) = p := (nIinj (a := G 2 j) (b := p) (by omega) (by omega)).mp c3
        refine Ev_aload_n dX12_goesTo_43 rfl ?_
        refine Ev_get dX12_goesTo_44 fg_X12_13_12 hM rfl ?_
        refine Ev_iload_n dX12_goesTo_47 rfl ?_
        refine Ev_iaload dX12_goesTo_48 a1 (vinN (by omega) (by decide)) ?_
        refine Ev_topi (y := nI (G 1 j)) (by rw [ncl (by omega)]; exact b1 _ (by omega)) ?_
        refine Ev_goto dX12_goesTo_49 ?_
        refine Ev_iret dX12_goesTo_54 rfl rfl ?_
        have e : gt G cs j p = some (G 1 j) := by
          unfold gt
          (repeat' split) <;> first | rfl | omega | contradiction | (simp_all; done) | (simp_all; omega)
        rw [e] at k
        exact k
    · skip
      have c2 : (G 1 j) = p := (nIinj (a := G 1 j) (b := p) (by omega) (by omega)).mp c2
      refine Ev_aload_n dX12_goesTo_24 rfl ?_
      refine Ev_get dX12_goesTo_25 fg_X12_16_12 hM rfl ?_
      refine Ev_iload_n dX12_goesTo_28 rfl ?_
      refine Ev_iaload dX12_goesTo_29 a2 (vinN (by omega) (by decide)) ?_
      refine Ev_topi (y := nI (G 2 j)) (by rw [ncl (by omega)]; exact b2 _ (by omega)) ?_
      refine Ev_goto dX12_goesTo_30 ?_
      refine Ev_iret dX12_goesTo_54 rfl rfl ?_
      have e : gt G cs j p = some (G 2 j) := by
        unfold gt
        (repeat' split) <;> first | rfl | omega | contradiction | (simp_all; done) | (simp_all; omega)
      rw [e] at k
      exact k

set_option maxHeartbeats 4000000 in
set_option maxRecDepth 100000 in
theorem l_X12_minutesOf {d : Nat} {S : aS} {Q : Option Value → aS → Prop} {flt du lw fr ra rp rs ea dp bm rd tr : Int32} {bi : Int64} {pl n cs : Nat} {G : Nat → Nat → Nat} (hg : GD pl n G) (hcs : cs < 512) (hM : S[31]? = some (mo flt (nI pl) (nI n) du lw fr (nI cs) ra rp rs ea dp bm bi rd tr)) (hG : MN S n G) {m : Nat} {rw_ : Nat → Int32} {r : Nat → Nat} (hm : m ≤ 12) (hr : S[44]? = some (iA 12 rw_)) (hrw : ∀ x, x < m → rw_ x = nI (r x) ∧ r x < n) (k : Q (some (.int (nI (sumN (fun x => tk G fr.toInt (r x)) m)))) S) : ∀ (t i : Nat) , i + t = m → Ev none mX12_minutesOf (d + 2) 0 4 [some (.ref 31), some (.int (nI m)), some (.int (nI (sumN (fun x => tk G fr.toInt (r x)) i))), some (.int (nI i))] [] S Q := by
  have hn9 := hg.2.1
  intro t
  induction t with
  | zero =>
    intro i  hi
    obtain rfl : i = m := by omega
    refine Ev_iload_n dX12_minutesOf_4 rfl ?_
    refine Ev_iload_n dX12_minutesOf_5 rfl ?_
    refine Ev_icmp_ge dX12_minutesOf_6 (fun _ => ?_) (fun c => absurd ((nle (by omega) (by omega)).mpr (Nat.le_refl _)) c)
    refine Ev_iload_n dX12_minutesOf_28 rfl ?_
    refine Ev_iret dX12_minutesOf_29 rfl rfl ?_
    exact k
  | succ t ih =>
    intro i  hi
    have hri := (hrw i (by omega)).2
    have hriG := hg.2.2 (r i) hri
    refine Ev_iload_n dX12_minutesOf_4 rfl ?_
    refine Ev_iload_n dX12_minutesOf_5 rfl ?_
    refine Ev_icmp_ge dX12_minutesOf_6 (fun c => absurd c (fun z => absurd ((nle (by omega) (by omega)).mp z) (by omega))) (fun _ => ?_)
    refine Ev_iload_n dX12_minutesOf_9 rfl ?_
    refine Ev_aload_n dX12_minutesOf_10 rfl ?_
    refine Ev_aload_n dX12_minutesOf_11 rfl ?_
    refine Ev_get dX12_minutesOf_12 fg_X12_46_12 hM rfl ?_
    refine Ev_iload_n dX12_minutesOf_15 rfl ?_
    refine Ev_iaload dX12_minutesOf_16 hr (vinN (by omega) (by decide)) ?_
    refine Ev_topi (y := nI (r i)) (by rw [ncl (by omega)]; exact (hrw _ (by omega)).1) ?_
    refine Ev_callV (bc := 0) (b := 0) dX12_minutesOf_17 cv_X12_170 rfl hM (Nat.le_of_ble_eq_true rfl) (by omega) ?_
    refine c_X12_takesOf hg hcs hM hG (by omega) ?_
    refine Ev_iadd dX12_minutesOf_20 ?_
    refine Ev_topi (y := nI ((sumN (fun x => tk G fr.toInt (r x)) i) + (tk G fr.toInt (r i)))) (nI_add _ _) ?_
    refine Ev_istore_n dX12_minutesOf_21 rfl ?_
    refine Ev_iinc (v := nI (i + 1)) dX12_minutesOf_22 rfl (nI_1 _) rfl ?_
    refine Ev_goto dX12_minutesOf_25 ?_
    exact ih (i + 1) (by omega)

set_option maxHeartbeats 4000000 in
set_option maxRecDepth 100000 in
theorem c_X12_minutesOf {d : Nat} {S : aS} {Q : Option Value → aS → Prop} {flt du lw fr ra rp rs ea dp bm rd tr : Int32} {bi : Int64} {pl n cs : Nat} {G : Nat → Nat → Nat} (hg : GD pl n G) (hcs : cs < 512) (hM : S[31]? = some (mo flt (nI pl) (nI n) du lw fr (nI cs) ra rp rs ea dp bm bi rd tr)) (hG : MN S n G) {m : Nat} {rw_ : Nat → Int32} {r : Nat → Nat} (hm : m ≤ 12) (hr : S[44]? = some (iA 12 rw_)) (hrw : ∀ x, x < m → rw_ x = nI (r x) ∧ r x < n) (k : Q (some (.int (nI (sumN (fun x => tk G fr.toInt (r x)) m)))) S) : Mth mX12_minutesOf (d + 2) 0 [.ref 31, .int (nI m)] S Q := by
  refine Mth_of (by decide) rfl ?_
  refine Ev_iconst (v := 0) dX12_minutesOf_0 (by decide) ?_
  refine Ev_istore_n dX12_minutesOf_1 rfl ?_
  refine Ev_iconst (v := 0) dX12_minutesOf_2 (by decide) ?_
  refine Ev_istore_n dX12_minutesOf_3 rfl ?_
  exact l_X12_minutesOf hg hcs hM hG hm hr hrw k m 0 (by omega)

set_option maxHeartbeats 4000000 in
set_option maxRecDepth 100000 in
theorem l_X12_goneBy {d : Nat} {S : aS} {Q : Option Value → aS → Prop} {flt du lw fr ra rp rs ea dp bm rd tr : Int32} {bi : Int64} {pl n cs : Nat} {G : Nat → Nat → Nat} (hg : GD pl n G) (hcs : cs < 512) (hM : S[31]? = some (mo flt (nI pl) (nI n) du lw fr (nI cs) ra rp rs ea dp bm bi rd tr)) (hG : MN S n G) {m : Nat} {rw_ : Nat → Int32} {r : Nat → Nat} (hm : m ≤ 12) (hr : S[44]? = some (iA 12 rw_)) (hrw : ∀ x, x < m → rw_ x = nI (r x) ∧ r x < n) (k : Q (some (.int (nI (goN r m)))) S) : ∀ (t i : Nat) , i + t = m → Ev none mX12_goneBy d 0 4 [some (.ref 31), some (.int (nI m)), some (.int (nI (goN r i))), some (.int (nI i))] [] S Q := by
  have hn9 := hg.2.1
  intro t
  induction t with
  | zero =>
    intro i  hi
    obtain rfl : i = m := by omega
    refine Ev_iload_n dX12_goneBy_4 rfl ?_
    refine Ev_iload_n dX12_goneBy_5 rfl ?_
    refine Ev_icmp_ge dX12_goneBy_6 (fun _ => ?_) (fun c => absurd ((nle (by omega) (by omega)).mpr (Nat.le_refl _)) c)
    refine Ev_iload_n dX12_goneBy_26 rfl ?_
    refine Ev_iret dX12_goneBy_27 rfl rfl ?_
    exact k
  | succ t ih =>
    intro i  hi
    have hri := (hrw i (by omega)).2
    have hriG := hg.2.2 (r i) hri
    refine Ev_iload_n dX12_goneBy_4 rfl ?_
    refine Ev_iload_n dX12_goneBy_5 rfl ?_
    refine Ev_icmp_ge dX12_goneBy_6 (fun c => absurd c (fun z => absurd ((nle (by omega) (by omega)).mp z) (by omega))) (fun _ => ?_)
    refine Ev_iload_n dX12_goneBy_9 rfl ?_
    refine Ev_iconst (v := 1) dX12_goneBy_10 (by decide) ?_
    refine Ev_aload_n dX12_goneBy_11 rfl ?_
    refine Ev_get dX12_goneBy_12 fg_X12_46_12 hM rfl ?_
    refine Ev_iload_n dX12_goneBy_15 rfl ?_
    refine Ev_iaload dX12_goneBy_16 hr (vinN (by omega) (by decide)) ?_
    refine Ev_topi (y := nI (r i)) (by rw [ncl (by omega)]; exact (hrw _ (by omega)).1) ?_
    refine Ev_ishl dX12_goneBy_17 ?_
    refine Ev_topi (y := nI (2 ^ (r i))) (oneShl (by omega)) ?_
    refine Ev_ior dX12_goneBy_18 ?_
    refine Ev_topi (y := nI ((goN r i) ||| (2 ^ (r i)))) (orN _ _) ?_
    refine Ev_istore_n dX12_goneBy_19 rfl ?_
    refine Ev_iinc (v := nI (i + 1)) dX12_goneBy_20 rfl (nI_1 _) rfl ?_
    refine Ev_goto dX12_goneBy_23 ?_
    exact ih (i + 1) (by omega)

set_option maxHeartbeats 4000000 in
set_option maxRecDepth 100000 in
theorem c_X12_goneBy {d : Nat} {S : aS} {Q : Option Value → aS → Prop} {flt du lw fr ra rp rs ea dp bm rd tr : Int32} {bi : Int64} {pl n cs : Nat} {G : Nat → Nat → Nat} (hg : GD pl n G) (hcs : cs < 512) (hM : S[31]? = some (mo flt (nI pl) (nI n) du lw fr (nI cs) ra rp rs ea dp bm bi rd tr)) (hG : MN S n G) {m : Nat} {rw_ : Nat → Int32} {r : Nat → Nat} (hm : m ≤ 12) (hr : S[44]? = some (iA 12 rw_)) (hrw : ∀ x, x < m → rw_ x = nI (r x) ∧ r x < n) (k : Q (some (.int (nI (goN r m)))) S) : Mth mX12_goneBy d 0 [.ref 31, .int (nI m)] S Q := by
  refine Mth_of (by decide) rfl ?_
  refine Ev_iconst (v := 0) dX12_goneBy_0 (by decide) ?_
  refine Ev_istore_n dX12_goneBy_1 rfl ?_
  refine Ev_iconst (v := 0) dX12_goneBy_2 (by decide) ?_
  refine Ev_istore_n dX12_goneBy_3 rfl ?_
  exact l_X12_goneBy hg hcs hM hG hm hr hrw k m 0 (by omega)

set_option maxHeartbeats 4000000 in
set_option maxRecDepth 100000 in
theorem l_X12_sightsBy {d : Nat} {S : aS} {Q : Option Value → aS → Prop} {flt du lw fr ra rp rs ea dp bm rd tr : Int32} {bi : Int64} {pl n cs : Nat} {G : Nat → Nat → Nat} (hg : GD pl n G) (hcs : cs < 512) (hM : S[31]? = some (mo flt (nI pl) (nI n) du lw fr (nI cs) ra rp rs ea dp bm bi rd tr)) (hG : MN S n G) {m : Nat} {rw_ : Nat → Int32} {r : Nat → Nat} (hm : m ≤ 12) (hr : S[44]? = some (iA 12 rw_)) (hrw : ∀ x, x < m → rw_ x = nI (r x) ∧ r x < n) (k : Q (some (.int (nI (sgN G n (goN r m))))) S) : ∀ (t i : Nat) , i + t = n → Ev none mX12_sightsBy (d + 1) 0 11 [some (.ref 31), some (.int (nI m)), some (.int (nI (goN r m))), some (.int (nI (sumN (fun x => if (goN r m).testBit x then G 4 x else 0) i))), some (.int (nI i))] [] S Q := by
  have hn9 := hg.2.1
  have hgo : goN r m < 2 ^ n := goN_lt m (fun x hx => (hrw x hx).2)
  have h512 := p9 hn9
  obtain ⟨f4, a4, b4⟩ := hG 4 (by decide)
  intro t
  induction t with
  | zero =>
    intro i  hi
    obtain rfl : i = n := by omega
    refine Ev_iload dX12_sightsBy_11 rfl ?_
    refine Ev_aload_n dX12_sightsBy_13 rfl ?_
    refine Ev_get dX12_sightsBy_14 fg_X12_101_12 hM rfl ?_
    refine Ev_icmp_ge dX12_sightsBy_17 (fun _ => ?_) (fun c => absurd ((nle (by omega) (by omega)).mpr (Nat.le_refl _)) c)
    refine Ev_iload_n dX12_sightsBy_49 rfl ?_
    refine Ev_iret dX12_sightsBy_50 rfl rfl ?_
    exact k
  | succ t ih =>
    intro i  hi
    have hriG := hg.2.2 i (by omega)
    refine Ev_iload dX12_sightsBy_11 rfl ?_
    refine Ev_aload_n dX12_sightsBy_13 rfl ?_
    refine Ev_get dX12_sightsBy_14 fg_X12_101_12 hM rfl ?_
    refine Ev_icmp_ge dX12_sightsBy_17 (fun c => absurd c (fun z => absurd ((nle (by omega) (by omega)).mp z) (by omega))) (fun _ => ?_)
    refine Ev_iload_n dX12_sightsBy_20 rfl ?_
    refine Ev_iload_n dX12_sightsBy_21 rfl ?_
    refine Ev_iload dX12_sightsBy_22 rfl ?_
    refine Ev_callS (bc := 0) (b := 0) dX12_sightsBy_24 cs_X12_173 rfl (Nat.le_of_ble_eq_true rfl) (by omega) ?_
    refine c_X12_isIn (by omega) (by omega) (fun q1 => ?_) (fun q1 => ?_)
    · skip
      refine Ev_if_eq dX12_sightsBy_27 (fun c => absurd c (by decide)) (fun _ => ?_)
      refine Ev_aload_n dX12_sightsBy_30 rfl ?_
      refine Ev_get dX12_sightsBy_31 fg_X12_22_12 hM rfl ?_
      refine Ev_iload dX12_sightsBy_34 rfl ?_
      refine Ev_iaload dX12_sightsBy_36 a4 (vinN (by omega) (by decide)) ?_
      refine Ev_topi (y := nI (G 4 i)) (by rw [ncl (by omega)]; exact b4 _ (by omega)) ?_
      refine Ev_goto dX12_sightsBy_37 ?_
      refine Ev_iadd dX12_sightsBy_41 ?_
      refine Ev_topi (y := nI ((sumN (fun x => if (goN r m).testBit x then G 4 x else 0) i) + (G 4 i))) (nI_add _ _) ?_
      refine Ev_istore_n dX12_sightsBy_42 rfl ?_
      refine Ev_iinc (v := nI (i + 1)) dX12_sightsBy_43 rfl (nI_1 _) rfl ?_
      refine Ev_goto dX12_sightsBy_46 ?_
      exact (show sumN (fun x => if (goN r m).testBit x then G 4 x else 0) (i + 1) = (sumN (fun x => if (goN r m).testBit x then G 4 x else 0) i) + (G 4 i) from by simp [sumN, *]) ▸ ih (i + 1) (by omega)
    · skip
      refine Ev_if_eq dX12_sightsBy_27 (fun _ => ?_) (fun c => absurd (by decide) c)
      refine Ev_iconst (v := 0) dX12_sightsBy_40 (by decide) ?_
      refine Ev_iadd dX12_sightsBy_41 ?_
      refine Ev_topi (y := nI ((sumN (fun x => if (goN r m).testBit x then G 4 x else 0) i) + 0)) (nI_add _ _) ?_
      refine Ev_istore_n dX12_sightsBy_42 rfl ?_
      refine Ev_iinc (v := nI (i + 1)) dX12_sightsBy_43 rfl (nI_1 _) rfl ?_
      refine Ev_goto dX12_sightsBy_46 ?_
      exact (show sumN (fun x => if (goN r m).testBit x then G 4 x else 0) (i + 1) = (sumN (fun x => if (goN r m).testBit x then G 4 x else 0) i) + 0 from by simp [sumN, *]) ▸ ih (i + 1) (by omega)

set_option maxHeartbeats 4000000 in
set_option maxRecDepth 100000 in
theorem c_X12_sightsBy {d : Nat} {S : aS} {Q : Option Value → aS → Prop} {flt du lw fr ra rp rs ea dp bm rd tr : Int32} {bi : Int64} {pl n cs : Nat} {G : Nat → Nat → Nat} (hg : GD pl n G) (hcs : cs < 512) (hM : S[31]? = some (mo flt (nI pl) (nI n) du lw fr (nI cs) ra rp rs ea dp bm bi rd tr)) (hG : MN S n G) {m : Nat} {rw_ : Nat → Int32} {r : Nat → Nat} (hm : m ≤ 12) (hr : S[44]? = some (iA 12 rw_)) (hrw : ∀ x, x < m → rw_ x = nI (r x) ∧ r x < n) (k : Q (some (.int (nI (sgN G n (goN r m))))) S) : Mth mX12_sightsBy (d + 1) 0 [.ref 31, .int (nI m)] S Q := by
  refine Mth_of (by decide) rfl ?_
  refine Ev_aload_n dX12_sightsBy_0 rfl ?_
  refine Ev_iload_n dX12_sightsBy_1 rfl ?_
  refine Ev_callV (bc := 0) (b := 0) dX12_sightsBy_2 cv_X12_181 rfl hM (Nat.le_of_ble_eq_true rfl) (by omega) ?_
  refine c_X12_goneBy hg hcs hM hG hm hr hrw ?_
  refine Ev_istore_n dX12_sightsBy_5 rfl ?_
  refine Ev_iconst (v := 0) dX12_sightsBy_6 (by decide) ?_
  refine Ev_istore_n dX12_sightsBy_7 rfl ?_
  refine Ev_iconst (v := 0) dX12_sightsBy_8 (by decide) ?_
  refine Ev_istore dX12_sightsBy_9 rfl ?_
  exact l_X12_sightsBy hg hcs hM hG hm hr hrw k n 0 (by omega)
end
