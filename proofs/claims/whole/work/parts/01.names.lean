-- ===== PART A: goes FIRST, ahead of the names: the tables' words, and 'selects' of the private methods out of them =====
/-- a private method of a class that the tables say can be made, by its rows of tables_1 -/
def lw_okq (q : MethodName × Nat) : Prop := (q.1.cls ≠ "java/lang/invoke/MethodHandle" ∧ q.1.cls ≠ "java/lang/invoke/VarHandle") ∧ Cond.instantiable q.1.cls q.2 ∈ tables_1 ∧ Cond.privateMethod q.1 ∈ tables_1 ∧ Cond.instanceMethod q.1 ∈ tables_1
theorem lw_p0 : lw_okq (⟨"NinePots", "fails", "(I)I"⟩, 8) := ⟨⟨by decide +kernel, by decide +kernel⟩, List.mem_of_getElem? (i := 18) (by decide +kernel), List.mem_of_getElem? (i := 321) (by decide +kernel), List.mem_of_getElem? (i := 322) (by decide +kernel)⟩
theorem lw_p1 : lw_okq (⟨"NinePots", "sheetAt", "(I)LNinePots$Sheet;"⟩, 8) := ⟨⟨by decide +kernel, by decide +kernel⟩, List.mem_of_getElem? (i := 18) (by decide +kernel), List.mem_of_getElem? (i := 381) (by decide +kernel), List.mem_of_getElem? (i := 382) (by decide +kernel)⟩
theorem lw_p2 : lw_okq (⟨"NinePots", "bringBuyers", "(LNinePots$Sheet;)I"⟩, 8) := ⟨⟨by decide +kernel, by decide +kernel⟩, List.mem_of_getElem? (i := 18) (by decide +kernel), List.mem_of_getElem? (i := 390) (by decide +kernel), List.mem_of_getElem? (i := 391) (by decide +kernel)⟩
theorem lw_p3 : lw_okq (⟨"NinePots$Formula", "named", "(I)I"⟩, 4) := ⟨⟨by decide +kernel, by decide +kernel⟩, List.mem_of_getElem? (i := 38) (by decide +kernel), List.mem_of_getElem? (i := 419) (by decide +kernel), List.mem_of_getElem? (i := 420) (by decide +kernel)⟩
theorem lw_p4 : lw_okq (⟨"NinePots$Stand", "takes", "(II)I"⟩, 12) := ⟨⟨by decide +kernel, by decide +kernel⟩, List.mem_of_getElem? (i := 99) (by decide +kernel), List.mem_of_getElem? (i := 450) (by decide +kernel), List.mem_of_getElem? (i := 451) (by decide +kernel)⟩
theorem lw_p5 : lw_okq (⟨"NinePots$Reader", "readsRule", "(II)Z"⟩, 6) := ⟨⟨by decide +kernel, by decide +kernel⟩, List.mem_of_getElem? (i := 238) (by decide +kernel), List.mem_of_getElem? (i := 473) (by decide +kernel), List.mem_of_getElem? (i := 474) (by decide +kernel)⟩
theorem lw_p6 : lw_okq (⟨"NinePots$Reader", "readsQ", "(I)Z"⟩, 6) := ⟨⟨by decide +kernel, by decide +kernel⟩, List.mem_of_getElem? (i := 238) (by decide +kernel), List.mem_of_getElem? (i := 477) (by decide +kernel), List.mem_of_getElem? (i := 478) (by decide +kernel)⟩
theorem lw_p7 : lw_okq (⟨"NinePots$Reader", "ahead", "()I"⟩, 6) := ⟨⟨by decide +kernel, by decide +kernel⟩, List.mem_of_getElem? (i := 238) (by decide +kernel), List.mem_of_getElem? (i := 481) (by decide +kernel), List.mem_of_getElem? (i := 482) (by decide +kernel)⟩
theorem lw_p8 : lw_okq (⟨"NinePots$Reader", "readsNumber", "()V"⟩, 6) := ⟨⟨by decide +kernel, by decide +kernel⟩, List.mem_of_getElem? (i := 238) (by decide +kernel), List.mem_of_getElem? (i := 489) (by decide +kernel), List.mem_of_getElem? (i := 490) (by decide +kernel)⟩
theorem lw_p9 : lw_okq (⟨"NinePots$Reader", "makes", "(I)V"⟩, 6) := ⟨⟨by decide +kernel, by decide +kernel⟩, List.mem_of_getElem? (i := 238) (by decide +kernel), List.mem_of_getElem? (i := 493) (by decide +kernel), List.mem_of_getElem? (i := 494) (by decide +kernel)⟩
theorem lw_p10 : lw_okq (⟨"NinePots$Reader", "nameOf", "(I)I"⟩, 6) := ⟨⟨by decide +kernel, by decide +kernel⟩, List.mem_of_getElem? (i := 238) (by decide +kernel), List.mem_of_getElem? (i := 497) (by decide +kernel), List.mem_of_getElem? (i := 498) (by decide +kernel)⟩
theorem lw_p11 : lw_okq (⟨"NinePots$Reader", "readsNot", "(I)Z"⟩, 6) := ⟨⟨by decide +kernel, by decide +kernel⟩, List.mem_of_getElem? (i := 238) (by decide +kernel), List.mem_of_getElem? (i := 503) (by decide +kernel), List.mem_of_getElem? (i := 504) (by decide +kernel)⟩
theorem lw_p12 : lw_okq (⟨"NinePots$Reader", "readsInside", "(I)Z"⟩, 6) := ⟨⟨by decide +kernel, by decide +kernel⟩, List.mem_of_getElem? (i := 238) (by decide +kernel), List.mem_of_getElem? (i := 507) (by decide +kernel), List.mem_of_getElem? (i := 508) (by decide +kernel)⟩
theorem lw_p13 : lw_okq (⟨"NinePots", "ofBestRow", "(IIZ)I"⟩, 8) := ⟨⟨by decide +kernel, by decide +kernel⟩, List.mem_of_getElem? (i := 18) (by decide +kernel), List.mem_of_getElem? (i := 617) (by decide +kernel), List.mem_of_getElem? (i := 618) (by decide +kernel)⟩
theorem lw_p14 : lw_okq (⟨"NinePots$Outlook", "goOn", "(IIZ)V"⟩, 6) := ⟨⟨by decide +kernel, by decide +kernel⟩, List.mem_of_getElem? (i := 186) (by decide +kernel), List.mem_of_getElem? (i := 625) (by decide +kernel), List.mem_of_getElem? (i := 626) (by decide +kernel)⟩
theorem lw_p15 : lw_okq (⟨"NinePots$Outlook", "keepIfMore", "(I)V"⟩, 6) := ⟨⟨by decide +kernel, by decide +kernel⟩, List.mem_of_getElem? (i := 186) (by decide +kernel), List.mem_of_getElem? (i := 632) (by decide +kernel), List.mem_of_getElem? (i := 633) (by decide +kernel)⟩
def lw_privs_1 : List (MethodName × Nat) := [(⟨"NinePots", "fails", "(I)I"⟩, 8), (⟨"NinePots", "sheetAt", "(I)LNinePots$Sheet;"⟩, 8), (⟨"NinePots", "bringBuyers", "(LNinePots$Sheet;)I"⟩, 8), (⟨"NinePots$Formula", "named", "(I)I"⟩, 4), (⟨"NinePots$Stand", "takes", "(II)I"⟩, 12), (⟨"NinePots$Reader", "readsRule", "(II)Z"⟩, 6), (⟨"NinePots$Reader", "readsQ", "(I)Z"⟩, 6), (⟨"NinePots$Reader", "ahead", "()I"⟩, 6), (⟨"NinePots$Reader", "readsNumber", "()V"⟩, 6), (⟨"NinePots$Reader", "makes", "(I)V"⟩, 6), (⟨"NinePots$Reader", "nameOf", "(I)I"⟩, 6), (⟨"NinePots$Reader", "readsNot", "(I)Z"⟩, 6), (⟨"NinePots$Reader", "readsInside", "(I)Z"⟩, 6), (⟨"NinePots", "ofBestRow", "(IIZ)I"⟩, 8), (⟨"NinePots$Outlook", "goOn", "(IIZ)V"⟩, 6), (⟨"NinePots$Outlook", "keepIfMore", "(I)V"⟩, 6)]
theorem lw_r1 : ∀ q ∈ lw_privs_1, lw_okq q := List.forall_mem_cons.mpr ⟨lw_p0, List.forall_mem_cons.mpr ⟨lw_p1, List.forall_mem_cons.mpr ⟨lw_p2, List.forall_mem_cons.mpr ⟨lw_p3, List.forall_mem_cons.mpr ⟨lw_p4, List.forall_mem_cons.mpr ⟨lw_p5, List.forall_mem_cons.mpr ⟨lw_p6, List.forall_mem_cons.mpr ⟨lw_p7, List.forall_mem_cons.mpr ⟨lw_p8, List.forall_mem_cons.mpr ⟨lw_p9, List.forall_mem_cons.mpr ⟨lw_p10, List.forall_mem_cons.mpr ⟨lw_p11, List.forall_mem_cons.mpr ⟨lw_p12, List.forall_mem_cons.mpr ⟨lw_p13, List.forall_mem_cons.mpr ⟨lw_p14, List.forall_mem_cons.mpr ⟨lw_p15, fun _ h => absurd h List.not_mem_nil⟩⟩⟩⟩⟩⟩⟩⟩⟩⟩⟩⟩⟩⟩⟩⟩
theorem lw_p16 : lw_okq (⟨"NinePots$Voices", "own", "(III)I"⟩, 5) := ⟨⟨by decide +kernel, by decide +kernel⟩, List.mem_of_getElem? (i := 214) (by decide +kernel), List.mem_of_getElem? (i := 717) (by decide +kernel), List.mem_of_getElem? (i := 718) (by decide +kernel)⟩
theorem lw_p17 : lw_okq (⟨"NinePots$Voices", "body", "(III)I"⟩, 5) := ⟨⟨by decide +kernel, by decide +kernel⟩, List.mem_of_getElem? (i := 214) (by decide +kernel), List.mem_of_getElem? (i := 728) (by decide +kernel), List.mem_of_getElem? (i := 729) (by decide +kernel)⟩
theorem lw_p18 : lw_okq (⟨"NinePots$Voices", "begins", "(I)V"⟩, 5) := ⟨⟨by decide +kernel, by decide +kernel⟩, List.mem_of_getElem? (i := 214) (by decide +kernel), List.mem_of_getElem? (i := 732) (by decide +kernel), List.mem_of_getElem? (i := 733) (by decide +kernel)⟩
theorem lw_p19 : lw_okq (⟨"NinePots$Voices", "above", "(IIII)I"⟩, 5) := ⟨⟨by decide +kernel, by decide +kernel⟩, List.mem_of_getElem? (i := 214) (by decide +kernel), List.mem_of_getElem? (i := 736) (by decide +kernel), List.mem_of_getElem? (i := 737) (by decide +kernel)⟩
theorem lw_p20 : lw_okq (⟨"NinePots$Sheet", "lowest", "(I)I"⟩, 3) := ⟨⟨by decide +kernel, by decide +kernel⟩, List.mem_of_getElem? (i := 266) (by decide +kernel), List.mem_of_getElem? (i := 761) (by decide +kernel), List.mem_of_getElem? (i := 762) (by decide +kernel)⟩
theorem lw_p21 : lw_okq (⟨"NinePots", "firstUnlike", "(II)I"⟩, 8) := ⟨⟨by decide +kernel, by decide +kernel⟩, List.mem_of_getElem? (i := 18) (by decide +kernel), List.mem_of_getElem? (i := 802) (by decide +kernel), List.mem_of_getElem? (i := 803) (by decide +kernel)⟩
theorem lw_p22 : lw_okq (⟨"NinePotsModel", "become", "(II)I"⟩, 25) := ⟨⟨by decide +kernel, by decide +kernel⟩, List.mem_of_getElem? (i := 815) (by decide +kernel), List.mem_of_getElem? (i := 913) (by decide +kernel), List.mem_of_getElem? (i := 914) (by decide +kernel)⟩
theorem lw_p23 : lw_okq (⟨"NinePotsModel", "finding", "(I)I"⟩, 25) := ⟨⟨by decide +kernel, by decide +kernel⟩, List.mem_of_getElem? (i := 815) (by decide +kernel), List.mem_of_getElem? (i := 918) (by decide +kernel), List.mem_of_getElem? (i := 919) (by decide +kernel)⟩
theorem lw_p24 : lw_okq (⟨"NinePotsModel", "comes", "(III)I"⟩, 25) := ⟨⟨by decide +kernel, by decide +kernel⟩, List.mem_of_getElem? (i := 815) (by decide +kernel), List.mem_of_getElem? (i := 936) (by decide +kernel), List.mem_of_getElem? (i := 937) (by decide +kernel)⟩
theorem lw_p25 : lw_okq (⟨"NinePotsModel", "is", "(I)Z"⟩, 25) := ⟨⟨by decide +kernel, by decide +kernel⟩, List.mem_of_getElem? (i := 815) (by decide +kernel), List.mem_of_getElem? (i := 944) (by decide +kernel), List.mem_of_getElem? (i := 945) (by decide +kernel)⟩
theorem lw_p26 : lw_okq (⟨"NinePotsModel", "of", "(II)I"⟩, 25) := ⟨⟨by decide +kernel, by decide +kernel⟩, List.mem_of_getElem? (i := 815) (by decide +kernel), List.mem_of_getElem? (i := 948) (by decide +kernel), List.mem_of_getElem? (i := 949) (by decide +kernel)⟩
theorem lw_p27 : lw_okq (⟨"NinePotsModel", "worthOf", "(II)I"⟩, 25) := ⟨⟨by decide +kernel, by decide +kernel⟩, List.mem_of_getElem? (i := 815) (by decide +kernel), List.mem_of_getElem? (i := 976) (by decide +kernel), List.mem_of_getElem? (i := 977) (by decide +kernel)⟩
theorem lw_p28 : lw_okq (⟨"NinePotsModel", "plainWorth", "(I)I"⟩, 25) := ⟨⟨by decide +kernel, by decide +kernel⟩, List.mem_of_getElem? (i := 815) (by decide +kernel), List.mem_of_getElem? (i := 980) (by decide +kernel), List.mem_of_getElem? (i := 981) (by decide +kernel)⟩
theorem lw_p29 : lw_okq (⟨"NinePotsModel", "given", "(IIIII)I"⟩, 25) := ⟨⟨by decide +kernel, by decide +kernel⟩, List.mem_of_getElem? (i := 815) (by decide +kernel), List.mem_of_getElem? (i := 984) (by decide +kernel), List.mem_of_getElem? (i := 985) (by decide +kernel)⟩
theorem lw_p30 : lw_okq (⟨"NinePotsModel", "worked", "(I)I"⟩, 25) := ⟨⟨by decide +kernel, by decide +kernel⟩, List.mem_of_getElem? (i := 815) (by decide +kernel), List.mem_of_getElem? (i := 988) (by decide +kernel), List.mem_of_getElem? (i := 989) (by decide +kernel)⟩
theorem lw_p31 : lw_okq (⟨"NinePotsModel", "dueOf", "(II)I"⟩, 25) := ⟨⟨by decide +kernel, by decide +kernel⟩, List.mem_of_getElem? (i := 815) (by decide +kernel), List.mem_of_getElem? (i := 1001) (by decide +kernel), List.mem_of_getElem? (i := 1002) (by decide +kernel)⟩
def lw_privs_2 : List (MethodName × Nat) := [(⟨"NinePots$Voices", "own", "(III)I"⟩, 5), (⟨"NinePots$Voices", "body", "(III)I"⟩, 5), (⟨"NinePots$Voices", "begins", "(I)V"⟩, 5), (⟨"NinePots$Voices", "above", "(IIII)I"⟩, 5), (⟨"NinePots$Sheet", "lowest", "(I)I"⟩, 3), (⟨"NinePots", "firstUnlike", "(II)I"⟩, 8), (⟨"NinePotsModel", "become", "(II)I"⟩, 25), (⟨"NinePotsModel", "finding", "(I)I"⟩, 25), (⟨"NinePotsModel", "comes", "(III)I"⟩, 25), (⟨"NinePotsModel", "is", "(I)Z"⟩, 25), (⟨"NinePotsModel", "of", "(II)I"⟩, 25), (⟨"NinePotsModel", "worthOf", "(II)I"⟩, 25), (⟨"NinePotsModel", "plainWorth", "(I)I"⟩, 25), (⟨"NinePotsModel", "given", "(IIIII)I"⟩, 25), (⟨"NinePotsModel", "worked", "(I)I"⟩, 25), (⟨"NinePotsModel", "dueOf", "(II)I"⟩, 25)]
theorem lw_r2 : ∀ q ∈ lw_privs_2, lw_okq q := List.forall_mem_cons.mpr ⟨lw_p16, List.forall_mem_cons.mpr ⟨lw_p17, List.forall_mem_cons.mpr ⟨lw_p18, List.forall_mem_cons.mpr ⟨lw_p19, List.forall_mem_cons.mpr ⟨lw_p20, List.forall_mem_cons.mpr ⟨lw_p21, List.forall_mem_cons.mpr ⟨lw_p22, List.forall_mem_cons.mpr ⟨lw_p23, List.forall_mem_cons.mpr ⟨lw_p24, List.forall_mem_cons.mpr ⟨lw_p25, List.forall_mem_cons.mpr ⟨lw_p26, List.forall_mem_cons.mpr ⟨lw_p27, List.forall_mem_cons.mpr ⟨lw_p28, List.forall_mem_cons.mpr ⟨lw_p29, List.forall_mem_cons.mpr ⟨lw_p30, List.forall_mem_cons.mpr ⟨lw_p31, fun _ h => absurd h List.not_mem_nil⟩⟩⟩⟩⟩⟩⟩⟩⟩⟩⟩⟩⟩⟩⟩⟩
theorem lw_p32 : lw_okq (⟨"NinePotsModel", "buysOf", "(III)I"⟩, 25) := ⟨⟨by decide +kernel, by decide +kernel⟩, List.mem_of_getElem? (i := 815) (by decide +kernel), List.mem_of_getElem? (i := 1005) (by decide +kernel), List.mem_of_getElem? (i := 1006) (by decide +kernel)⟩
theorem lw_p33 : lw_okq (⟨"NinePotsModel", "isKeeper", "(I)Z"⟩, 25) := ⟨⟨by decide +kernel, by decide +kernel⟩, List.mem_of_getElem? (i := 815) (by decide +kernel), List.mem_of_getElem? (i := 1009) (by decide +kernel), List.mem_of_getElem? (i := 1010) (by decide +kernel)⟩
theorem lw_p34 : lw_okq (⟨"NinePotsModel", "either", "()V"⟩, 25) := ⟨⟨by decide +kernel, by decide +kernel⟩, List.mem_of_getElem? (i := 815) (by decide +kernel), List.mem_of_getElem? (i := 1022) (by decide +kernel), List.mem_of_getElem? (i := 1023) (by decide +kernel)⟩
theorem lw_p35 : lw_okq (⟨"NinePotsModel", "both", "()V"⟩, 25) := ⟨⟨by decide +kernel, by decide +kernel⟩, List.mem_of_getElem? (i := 815) (by decide +kernel), List.mem_of_getElem? (i := 1026) (by decide +kernel), List.mem_of_getElem? (i := 1027) (by decide +kernel)⟩
theorem lw_p36 : lw_okq (⟨"NinePotsModel", "compared", "()V"⟩, 25) := ⟨⟨by decide +kernel, by decide +kernel⟩, List.mem_of_getElem? (i := 815) (by decide +kernel), List.mem_of_getElem? (i := 1030) (by decide +kernel), List.mem_of_getElem? (i := 1031) (by decide +kernel)⟩
theorem lw_p37 : lw_okq (⟨"NinePotsModel", "sum", "()V"⟩, 25) := ⟨⟨by decide +kernel, by decide +kernel⟩, List.mem_of_getElem? (i := 815) (by decide +kernel), List.mem_of_getElem? (i := 1034) (by decide +kernel), List.mem_of_getElem? (i := 1035) (by decide +kernel)⟩
theorem lw_p38 : lw_okq (⟨"NinePotsModel", "product", "()V"⟩, 25) := ⟨⟨by decide +kernel, by decide +kernel⟩, List.mem_of_getElem? (i := 815) (by decide +kernel), List.mem_of_getElem? (i := 1038) (by decide +kernel), List.mem_of_getElem? (i := 1039) (by decide +kernel)⟩
theorem lw_p39 : lw_okq (⟨"NinePotsModel", "one", "()V"⟩, 25) := ⟨⟨by decide +kernel, by decide +kernel⟩, List.mem_of_getElem? (i := 815) (by decide +kernel), List.mem_of_getElem? (i := 1042) (by decide +kernel), List.mem_of_getElem? (i := 1043) (by decide +kernel)⟩
theorem lw_p40 : lw_okq (⟨"NinePotsModel", "here", "()I"⟩, 25) := ⟨⟨by decide +kernel, by decide +kernel⟩, List.mem_of_getElem? (i := 815) (by decide +kernel), List.mem_of_getElem? (i := 1046) (by decide +kernel), List.mem_of_getElem? (i := 1047) (by decide +kernel)⟩
theorem lw_p41 : lw_okq (⟨"NinePotsModel", "codes", "(I)V"⟩, 25) := ⟨⟨by decide +kernel, by decide +kernel⟩, List.mem_of_getElem? (i := 815) (by decide +kernel), List.mem_of_getElem? (i := 1050) (by decide +kernel), List.mem_of_getElem? (i := 1051) (by decide +kernel)⟩
theorem lw_p42 : lw_okq (⟨"NinePotsModel", "takes", "(I)Z"⟩, 25) := ⟨⟨by decide +kernel, by decide +kernel⟩, List.mem_of_getElem? (i := 815) (by decide +kernel), List.mem_of_getElem? (i := 1054) (by decide +kernel), List.mem_of_getElem? (i := 1055) (by decide +kernel)⟩
theorem lw_p43 : lw_okq (⟨"NinePotsModel", "nameOf", "(I)I"⟩, 25) := ⟨⟨by decide +kernel, by decide +kernel⟩, List.mem_of_getElem? (i := 815) (by decide +kernel), List.mem_of_getElem? (i := 1058) (by decide +kernel), List.mem_of_getElem? (i := 1059) (by decide +kernel)⟩
theorem lw_p44 : lw_okq (⟨"NinePotsModel", "goes", "(IIZ)I"⟩, 25) := ⟨⟨by decide +kernel, by decide +kernel⟩, List.mem_of_getElem? (i := 815) (by decide +kernel), List.mem_of_getElem? (i := 1119) (by decide +kernel), List.mem_of_getElem? (i := 1120) (by decide +kernel)⟩
theorem lw_p45 : lw_okq (⟨"NinePotsModel", "drawn", "(I)I"⟩, 25) := ⟨⟨by decide +kernel, by decide +kernel⟩, List.mem_of_getElem? (i := 815) (by decide +kernel), List.mem_of_getElem? (i := 1123) (by decide +kernel), List.mem_of_getElem? (i := 1124) (by decide +kernel)⟩
theorem lw_p46 : lw_okq (⟨"NinePotsModel", "gives", "(I)I"⟩, 25) := ⟨⟨by decide +kernel, by decide +kernel⟩, List.mem_of_getElem? (i := 815) (by decide +kernel), List.mem_of_getElem? (i := 1140) (by decide +kernel), List.mem_of_getElem? (i := 1141) (by decide +kernel)⟩
theorem lw_p47 : lw_okq (⟨"NinePotsModel", "yearsGo", "(II)V"⟩, 25) := ⟨⟨by decide +kernel, by decide +kernel⟩, List.mem_of_getElem? (i := 815) (by decide +kernel), List.mem_of_getElem? (i := 1158) (by decide +kernel), List.mem_of_getElem? (i := 1159) (by decide +kernel)⟩
def lw_privs_3 : List (MethodName × Nat) := [(⟨"NinePotsModel", "buysOf", "(III)I"⟩, 25), (⟨"NinePotsModel", "isKeeper", "(I)Z"⟩, 25), (⟨"NinePotsModel", "either", "()V"⟩, 25), (⟨"NinePotsModel", "both", "()V"⟩, 25), (⟨"NinePotsModel", "compared", "()V"⟩, 25), (⟨"NinePotsModel", "sum", "()V"⟩, 25), (⟨"NinePotsModel", "product", "()V"⟩, 25), (⟨"NinePotsModel", "one", "()V"⟩, 25), (⟨"NinePotsModel", "here", "()I"⟩, 25), (⟨"NinePotsModel", "codes", "(I)V"⟩, 25), (⟨"NinePotsModel", "takes", "(I)Z"⟩, 25), (⟨"NinePotsModel", "nameOf", "(I)I"⟩, 25), (⟨"NinePotsModel", "goes", "(IIZ)I"⟩, 25), (⟨"NinePotsModel", "drawn", "(I)I"⟩, 25), (⟨"NinePotsModel", "gives", "(I)I"⟩, 25), (⟨"NinePotsModel", "yearsGo", "(II)V"⟩, 25)]
theorem lw_r3 : ∀ q ∈ lw_privs_3, lw_okq q := List.forall_mem_cons.mpr ⟨lw_p32, List.forall_mem_cons.mpr ⟨lw_p33, List.forall_mem_cons.mpr ⟨lw_p34, List.forall_mem_cons.mpr ⟨lw_p35, List.forall_mem_cons.mpr ⟨lw_p36, List.forall_mem_cons.mpr ⟨lw_p37, List.forall_mem_cons.mpr ⟨lw_p38, List.forall_mem_cons.mpr ⟨lw_p39, List.forall_mem_cons.mpr ⟨lw_p40, List.forall_mem_cons.mpr ⟨lw_p41, List.forall_mem_cons.mpr ⟨lw_p42, List.forall_mem_cons.mpr ⟨lw_p43, List.forall_mem_cons.mpr ⟨lw_p44, List.forall_mem_cons.mpr ⟨lw_p45, List.forall_mem_cons.mpr ⟨lw_p46, List.forall_mem_cons.mpr ⟨lw_p47, fun _ h => absurd h List.not_mem_nil⟩⟩⟩⟩⟩⟩⟩⟩⟩⟩⟩⟩⟩⟩⟩⟩
theorem lw_p48 : lw_okq (⟨"NinePotsModel", "toldOf", "(I)I"⟩, 25) := ⟨⟨by decide +kernel, by decide +kernel⟩, List.mem_of_getElem? (i := 815) (by decide +kernel), List.mem_of_getElem? (i := 1162) (by decide +kernel), List.mem_of_getElem? (i := 1163) (by decide +kernel)⟩
theorem lw_p49 : lw_okq (⟨"NinePotsModel", "ends", "()I"⟩, 25) := ⟨⟨by decide +kernel, by decide +kernel⟩, List.mem_of_getElem? (i := 815) (by decide +kernel), List.mem_of_getElem? (i := 1166) (by decide +kernel), List.mem_of_getElem? (i := 1167) (by decide +kernel)⟩
theorem lw_p50 : lw_okq (⟨"NinePotsModel", "putBack", "(I)I"⟩, 25) := ⟨⟨by decide +kernel, by decide +kernel⟩, List.mem_of_getElem? (i := 815) (by decide +kernel), List.mem_of_getElem? (i := 1170) (by decide +kernel), List.mem_of_getElem? (i := 1171) (by decide +kernel)⟩
theorem lw_p51 : lw_okq (⟨"NinePotsModel", "ofBest", "(IIZ)I"⟩, 25) := ⟨⟨by decide +kernel, by decide +kernel⟩, List.mem_of_getElem? (i := 815) (by decide +kernel), List.mem_of_getElem? (i := 1182) (by decide +kernel), List.mem_of_getElem? (i := 1183) (by decide +kernel)⟩
theorem lw_p52 : lw_okq (⟨"NinePotsModel", "findBest", "(IZ)V"⟩, 25) := ⟨⟨by decide +kernel, by decide +kernel⟩, List.mem_of_getElem? (i := 815) (by decide +kernel), List.mem_of_getElem? (i := 1186) (by decide +kernel), List.mem_of_getElem? (i := 1187) (by decide +kernel)⟩
theorem lw_p53 : lw_okq (⟨"NinePotsModel", "voiced", "(II)I"⟩, 25) := ⟨⟨by decide +kernel, by decide +kernel⟩, List.mem_of_getElem? (i := 815) (by decide +kernel), List.mem_of_getElem? (i := 1230) (by decide +kernel), List.mem_of_getElem? (i := 1231) (by decide +kernel)⟩
theorem lw_p54 : lw_okq (⟨"NinePotsModel", "bodyFrom", "(III)I"⟩, 25) := ⟨⟨by decide +kernel, by decide +kernel⟩, List.mem_of_getElem? (i := 815) (by decide +kernel), List.mem_of_getElem? (i := 1234) (by decide +kernel), List.mem_of_getElem? (i := 1235) (by decide +kernel)⟩
theorem lw_p55 : lw_okq (⟨"NinePotsModel", "body", "(III)I"⟩, 25) := ⟨⟨by decide +kernel, by decide +kernel⟩, List.mem_of_getElem? (i := 815) (by decide +kernel), List.mem_of_getElem? (i := 1241) (by decide +kernel), List.mem_of_getElem? (i := 1242) (by decide +kernel)⟩
theorem lw_p56 : lw_okq (⟨"NinePotsModel", "began", "(I)V"⟩, 25) := ⟨⟨by decide +kernel, by decide +kernel⟩, List.mem_of_getElem? (i := 815) (by decide +kernel), List.mem_of_getElem? (i := 1245) (by decide +kernel), List.mem_of_getElem? (i := 1246) (by decide +kernel)⟩
def lw_privs_4 : List (MethodName × Nat) := [(⟨"NinePotsModel", "toldOf", "(I)I"⟩, 25), (⟨"NinePotsModel", "ends", "()I"⟩, 25), (⟨"NinePotsModel", "putBack", "(I)I"⟩, 25), (⟨"NinePotsModel", "ofBest", "(IIZ)I"⟩, 25), (⟨"NinePotsModel", "findBest", "(IZ)V"⟩, 25), (⟨"NinePotsModel", "voiced", "(II)I"⟩, 25), (⟨"NinePotsModel", "bodyFrom", "(III)I"⟩, 25), (⟨"NinePotsModel", "body", "(III)I"⟩, 25), (⟨"NinePotsModel", "began", "(I)V"⟩, 25)]
theorem lw_r4 : ∀ q ∈ lw_privs_4, lw_okq q := List.forall_mem_cons.mpr ⟨lw_p48, List.forall_mem_cons.mpr ⟨lw_p49, List.forall_mem_cons.mpr ⟨lw_p50, List.forall_mem_cons.mpr ⟨lw_p51, List.forall_mem_cons.mpr ⟨lw_p52, List.forall_mem_cons.mpr ⟨lw_p53, List.forall_mem_cons.mpr ⟨lw_p54, List.forall_mem_cons.mpr ⟨lw_p55, List.forall_mem_cons.mpr ⟨lw_p56, fun _ h => absurd h List.not_mem_nil⟩⟩⟩⟩⟩⟩⟩⟩⟩
def lw_privs : List (MethodName × Nat) := lw_privs_1 ++ (lw_privs_2 ++ (lw_privs_3 ++ (lw_privs_4)))
def lw_tbl : List Cond := k2_sels lw_privs ++ tables_1
theorem lw_privs_ok : ∀ q ∈ lw_privs, lw_okq q := by
  show ∀ q ∈ lw_privs_1 ++ (lw_privs_2 ++ (lw_privs_3 ++ (lw_privs_4))), lw_okq q
  exact List.forall_mem_append.mpr ⟨lw_r1, List.forall_mem_append.mpr ⟨lw_r2, List.forall_mem_append.mpr ⟨lw_r3, lw_r4⟩⟩⟩
def RX0 : String := "NinePots$Formula"
def TX0 : u_T := fun k => match k with
  | 0 => ("NinePots$Formula", "code", "[I", true)
  | 1 => ("NinePots$Formula", "length", "I", false)
  | 2 => ("NinePots$Formula", "names", "[I", true)
  | _ => ("NinePots$Formula", "stack", "[I", true)
def tyX0 : Nat → FieldType := fun k => match k with
  | 0 => .array .int
  | 1 => .int
  | 2 => .array .int
  | _ => .array .int
abbrev wsX00 : List Cond := u_ws RX0 TX0 4
theorem nmX0 : ∀ a, a < 4 → ∀ b, b < 4 → a ≠ b → (TX0 a).2.1 ≠ (TX0 b).2.1 := by decide +kernel
theorem tyX0_ok : ∀ k, k < 4 → parseFieldDescriptor (TX0 k).2.2.1 = some (tyX0 k) := by decide +kernel
abbrev cX0_init : ByteArray := prog_2_method_1_code
def yX0_init : MethodName := ⟨RX0, "<init>", "()V"⟩
abbrev cX0_isMissing : ByteArray := prog_2_method_2_code
def yX0_isMissing : MethodName := ⟨RX0, "isMissing", "()Z"⟩
abbrev cX0_take : ByteArray := prog_2_method_3_code
def yX0_take : MethodName := ⟨RX0, "take", "([II)V"⟩
abbrev cX0_gives : ByteArray := prog_2_method_4_code
def yX0_gives : MethodName := ⟨RX0, "gives", "(IIII)I"⟩
abbrev cX0_named : ByteArray := prog_2_method_5_code
def yX0_named : MethodName := ⟨RX0, "named", "(I)I"⟩
abbrev cX0_joined : ByteArray := prog_2_method_6_code
def yX0_joined : MethodName := ⟨RX0, "joined", "(III)I"⟩
def RX1 : String := "NinePots$Outlook"
def TX1 : u_T := fun k => match k with
  | 0 => ("NinePots$Outlook", "gone", "[LNinePots$Stand;", true)
  | 1 => ("NinePots$Outlook", "scratch", "LNinePots$Stand;", true)
  | 2 => ("NinePots$Outlook", "row", "[I", true)
  | 3 => ("NinePots$Outlook", "bestRow", "[I", true)
  | 4 => ("NinePots$Outlook", "most", "I", false)
  | _ => ("NinePots$Outlook", "found", "Z", false)
def tyX1 : Nat → FieldType := fun k => match k with
  | 0 => .array (.object "NinePots$Stand")
  | 1 => .object "NinePots$Stand"
  | 2 => .array .int
  | 3 => .array .int
  | 4 => .int
  | _ => .boolean
abbrev wsX10 : List Cond := u_ws RX1 TX1 6
theorem nmX1 : ∀ a, a < 6 → ∀ b, b < 6 → a ≠ b → (TX1 a).2.1 ≠ (TX1 b).2.1 := by decide +kernel
theorem tyX1_ok : ∀ k, k < 6 → parseFieldDescriptor (TX1 k).2.2.1 = some (tyX1 k) := by decide +kernel
abbrev cX1_init : ByteArray := prog_3_method_1_code
def yX1_init : MethodName := ⟨RX1, "<init>", "(LNinePots$Rules;)V"⟩
abbrev cX1_from : ByteArray := prog_3_method_2_code
def yX1_from : MethodName := ⟨RX1, "from", "(LNinePots$Stand;)LNinePots$Stand;"⟩
abbrev cX1_bestStep : ByteArray := prog_3_method_3_code
def yX1_bestStep : MethodName := ⟨RX1, "bestStep", "(I)I"⟩
abbrev cX1_bestEnds : ByteArray := prog_3_method_4_code
def yX1_bestEnds : MethodName := ⟨RX1, "bestEnds", "(LNinePots$Stand;IIZ)I"⟩
abbrev cX1_goOn : ByteArray := prog_3_method_5_code
def yX1_goOn : MethodName := ⟨RX1, "goOn", "(IIZ)V"⟩
abbrev cX1_keepIfMore : ByteArray := prog_3_method_6_code
def yX1_keepIfMore : MethodName := ⟨RX1, "keepIfMore", "(I)V"⟩
abbrev cX1_leastKeptToRaise : ByteArray := prog_3_method_7_code
def yX1_leastKeptToRaise : MethodName := ⟨RX1, "leastKeptToRaise", "(LNinePots$Stand;I)I"⟩
abbrev cX1_bestBack : ByteArray := prog_3_method_8_code
def yX1_bestBack : MethodName := ⟨RX1, "bestBack", "(LNinePots$Stand;II)I"⟩
abbrev cX1_bestGiven : ByteArray := prog_3_method_9_code
def yX1_bestGiven : MethodName := ⟨RX1, "bestGiven", "(LNinePots$Stand;II)I"⟩
abbrev cX1_endsWithMore : ByteArray := prog_3_method_10_code
def yX1_endsWithMore : MethodName := ⟨RX1, "endsWithMore", "(LNinePots$Stand;III)I"⟩
abbrev cX1_yearsToRest : ByteArray := prog_3_method_11_code
def yX1_yearsToRest : MethodName := ⟨RX1, "yearsToRest", "(LNinePots$Stand;I)I"⟩
abbrev cX1_leastClearing : ByteArray := prog_3_method_12_code
def yX1_leastClearing : MethodName := ⟨RX1, "leastClearing", "(LNinePots$Stand;)I"⟩
def RX2 : String := "NinePots$Reader"
def TX2 : u_T := fun k => match k with
  | 0 => ("NinePots$Reader", "code", "[I", true)
  | 1 => ("NinePots$Reader", "made", "I", false)
  | 2 => ("NinePots$Reader", "bytes", "[I", true)
  | 3 => ("NinePots$Reader", "length", "I", false)
  | 4 => ("NinePots$Reader", "place", "I", false)
  | _ => ("NinePots$Reader", "use", "I", false)
def tyX2 : Nat → FieldType := fun k => match k with
  | 0 => .array .int
  | 1 => .int
  | 2 => .array .int
  | 3 => .int
  | 4 => .int
  | _ => .int
abbrev wsX20 : List Cond := u_ws RX2 TX2 6
theorem nmX2 : ∀ a, a < 6 → ∀ b, b < 6 → a ≠ b → (TX2 a).2.1 ≠ (TX2 b).2.1 := by decide +kernel
theorem tyX2_ok : ∀ k, k < 6 → parseFieldDescriptor (TX2 k).2.2.1 = some (tyX2 k) := by decide +kernel
abbrev cX2_init : ByteArray := prog_4_method_1_code
def yX2_init : MethodName := ⟨RX2, "<init>", "()V"⟩
abbrev cX2_reads : ByteArray := prog_4_method_2_code
def yX2_reads : MethodName := ⟨RX2, "reads", "([III)I"⟩
abbrev cX2_ahead : ByteArray := prog_4_method_3_code
def yX2_ahead : MethodName := ⟨RX2, "ahead", "()I"⟩
abbrev cX2_readsRule : ByteArray := prog_4_method_4_code
def yX2_readsRule : MethodName := ⟨RX2, "readsRule", "(II)Z"⟩
abbrev cX2_ruleOf : ByteArray := prog_4_method_5_code
def yX2_ruleOf : MethodName := ⟨RX2, "ruleOf", "(I)I"⟩
abbrev cX2_readsQ : ByteArray := prog_4_method_6_code
def yX2_readsQ : MethodName := ⟨RX2, "readsQ", "(I)Z"⟩
abbrev cX2_readsNot : ByteArray := prog_4_method_7_code
def yX2_readsNot : MethodName := ⟨RX2, "readsNot", "(I)Z"⟩
abbrev cX2_readsInside : ByteArray := prog_4_method_8_code
def yX2_readsInside : MethodName := ⟨RX2, "readsInside", "(I)Z"⟩
abbrev cX2_readsNumber : ByteArray := prog_4_method_9_code
def yX2_readsNumber : MethodName := ⟨RX2, "readsNumber", "()V"⟩
abbrev cX2_isDigit : ByteArray := prog_4_method_10_code
def yX2_isDigit : MethodName := ⟨RX2, "isDigit", "(I)Z"⟩
abbrev cX2_nameOf : ByteArray := prog_4_method_11_code
def yX2_nameOf : MethodName := ⟨RX2, "nameOf", "(I)I"⟩
abbrev cX2_makes : ByteArray := prog_4_method_12_code
def yX2_makes : MethodName := ⟨RX2, "makes", "(I)V"⟩
def RX3 : String := "NinePots$Rules"
def TX3 : u_T := fun k => match k with
  | 0 => ("NinePots$Rules", "coins", "[I", true)
  | 1 => ("NinePots$Rules", "kinds", "[I", true)
  | 2 => ("NinePots$Rules", "wants", "[I", true)
  | 3 => ("NinePots$Rules", "takes", "[I", true)
  | 4 => ("NinePots$Rules", "worthText", "LNinePots$Formula;", true)
  | 5 => ("NinePots$Rules", "fameText", "LNinePots$Formula;", true)
  | _ => ("NinePots$Rules", "buyers", "I", false)
def tyX3 : Nat → FieldType := fun k => match k with
  | 0 => .array .int
  | 1 => .array .int
  | 2 => .array .int
  | 3 => .array .int
  | 4 => .object "NinePots$Formula"
  | 5 => .object "NinePots$Formula"
  | _ => .int
abbrev wsX30 : List Cond := u_ws RX3 TX3 7
theorem nmX3 : ∀ a, a < 7 → ∀ b, b < 7 → a ≠ b → (TX3 a).2.1 ≠ (TX3 b).2.1 := by decide +kernel
theorem tyX3_ok : ∀ k, k < 7 → parseFieldDescriptor (TX3 k).2.2.1 = some (tyX3 k) := by decide +kernel
abbrev cX3_init : ByteArray := prog_5_method_1_code
def yX3_init : MethodName := ⟨RX3, "<init>", "()V"⟩
abbrev cX3_take : ByteArray := prog_5_method_2_code
def yX3_take : MethodName := ⟨RX3, "take", "(LNinePots$Rules;)V"⟩
abbrev cX3_isBuyer : ByteArray := prog_5_method_3_code
def yX3_isBuyer : MethodName := ⟨RX3, "isBuyer", "(I)Z"⟩
abbrev cX3_formula : ByteArray := prog_5_method_4_code
def yX3_formula : MethodName := ⟨RX3, "formula", "(I)LNinePots$Formula;"⟩
abbrev cX3_plainWorth : ByteArray := prog_5_method_5_code
def yX3_plainWorth : MethodName := ⟨RX3, "plainWorth", "(IIII)I"⟩
abbrev cX3_fame : ByteArray := prog_5_method_6_code
def yX3_fame : MethodName := ⟨RX3, "fame", "(IIII)I"⟩
def RX4 : String := "NinePots$Sheet"
def TX4 : u_T := fun k => match k with
  | 0 => ("NinePots$Sheet", "numbers", "[I", true)
  | 1 => ("NinePots$Sheet", "bits", "I", false)
  | _ => ("NinePots$Sheet", "length", "I", false)
def tyX4 : Nat → FieldType := fun k => match k with
  | 0 => .array .int
  | 1 => .int
  | _ => .int
abbrev wsX40 : List Cond := u_ws RX4 TX4 3
theorem nmX4 : ∀ a, a < 3 → ∀ b, b < 3 → a ≠ b → (TX4 a).2.1 ≠ (TX4 b).2.1 := by decide +kernel
theorem tyX4_ok : ∀ k, k < 3 → parseFieldDescriptor (TX4 k).2.2.1 = some (tyX4 k) := by decide +kernel
abbrev cX4_init : ByteArray := prog_6_method_1_code
def yX4_init : MethodName := ⟨RX4, "<init>", "()V"⟩
abbrev cX4_isMissing : ByteArray := prog_6_method_2_code
def yX4_isMissing : MethodName := ⟨RX4, "isMissing", "()Z"⟩
abbrev cX4_becomes : ByteArray := prog_6_method_3_code
def yX4_becomes : MethodName := ⟨RX4, "becomes", "(II)V"⟩
abbrev cX4_number : ByteArray := prog_6_method_4_code
def yX4_number : MethodName := ⟨RX4, "number", "(I)I"⟩
abbrev cX4_change : ByteArray := prog_6_method_5_code
def yX4_change : MethodName := ⟨RX4, "change", "(II)V"⟩
abbrev cX4_lowest : ByteArray := prog_6_method_6_code
def yX4_lowest : MethodName := ⟨RX4, "lowest", "(I)I"⟩
abbrev cX4_holds : ByteArray := prog_6_method_7_code
def yX4_holds : MethodName := ⟨RX4, "holds", "(II)Z"⟩
def RX5 : String := "NinePots$Stand"
def TX5 : u_T := fun k => match k with
  | 0 => ("NinePots$Stand", "rules", "LNinePots$Rules;", true)
  | 1 => ("NinePots$Stand", "has", "[I", true)
  | 2 => ("NinePots$Stand", "plain", "[I", true)
  | 3 => ("NinePots$Stand", "last", "I", false)
  | 4 => ("NinePots$Stand", "name", "I", false)
  | 5 => ("NinePots$Stand", "makes", "I", false)
  | 6 => ("NinePots$Stand", "kept", "I", false)
  | 7 => ("NinePots$Stand", "purse", "I", false)
  | 8 => ("NinePots$Stand", "pains", "I", false)
  | 9 => ("NinePots$Stand", "sold", "I", false)
  | 10 => ("NinePots$Stand", "stands", "I", false)
  | _ => ("NinePots$Stand", "climb", "I", false)
def tyX5 : Nat → FieldType := fun k => match k with
  | 0 => .object "NinePots$Rules"
  | 1 => .array .int
  | 2 => .array .int
  | 3 => .int
  | 4 => .int
  | 5 => .int
  | 6 => .int
  | 7 => .int
  | 8 => .int
  | 9 => .int
  | 10 => .int
  | _ => .int
abbrev wsX50 : List Cond := u_ws RX5 TX5 12
theorem nmX5 : ∀ a, a < 12 → ∀ b, b < 12 → a ≠ b → (TX5 a).2.1 ≠ (TX5 b).2.1 := by decide +kernel
theorem tyX5_ok : ∀ k, k < 12 → parseFieldDescriptor (TX5 k).2.2.1 = some (tyX5 k) := by decide +kernel
abbrev cX5_init : ByteArray := prog_7_method_1_code
def yX5_init : MethodName := ⟨RX5, "<init>", "(LNinePots$Rules;)V"⟩
abbrev cX5_take : ByteArray := prog_7_method_2_code
def yX5_take : MethodName := ⟨RX5, "take", "(LNinePots$Stand;)V"⟩
abbrev cX5_setting : ByteArray := prog_7_method_3_code
def yX5_setting : MethodName := ⟨RX5, "setting", "(I)I"⟩
abbrev cX5_change : ByteArray := prog_7_method_4_code
def yX5_change : MethodName := ⟨RX5, "change", "(II)V"⟩
abbrev cX5_figure : ByteArray := prog_7_method_5_code
def yX5_figure : MethodName := ⟨RX5, "figure", "(I)I"⟩
abbrev cX5_ends : ByteArray := prog_7_method_6_code
def yX5_ends : MethodName := ⟨RX5, "ends", "()I"⟩
abbrev cX5_hasInAll : ByteArray := prog_7_method_7_code
def yX5_hasInAll : MethodName := ⟨RX5, "hasInAll", "()I"⟩
abbrev cX5_pots : ByteArray := prog_7_method_8_code
def yX5_pots : MethodName := ⟨RX5, "pots", "()I"⟩
abbrev cX5_appraise : ByteArray := prog_7_method_9_code
def yX5_appraise : MethodName := ⟨RX5, "appraise", "()V"⟩
abbrev cX5_worth : ByteArray := prog_7_method_10_code
def yX5_worth : MethodName := ⟨RX5, "worth", "(II)I"⟩
abbrev cX5_due : ByteArray := prog_7_method_11_code
def yX5_due : MethodName := ⟨RX5, "due", "(II)I"⟩
abbrev cX5_buys : ByteArray := prog_7_method_12_code
def yX5_buys : MethodName := ⟨RX5, "buys", "(III)I"⟩
abbrev cX5_takes : ByteArray := prog_7_method_13_code
def yX5_takes : MethodName := ⟨RX5, "takes", "(II)I"⟩
abbrev cX5_sells : ByteArray := prog_7_method_14_code
def yX5_sells : MethodName := ⟨RX5, "sells", "(III)V"⟩
abbrev cX5_settles : ByteArray := prog_7_method_15_code
def yX5_settles : MethodName := ⟨RX5, "settles", "()V"⟩
abbrev cX5_goes : ByteArray := prog_7_method_16_code
def yX5_goes : MethodName := ⟨RX5, "goes", "(III)V"⟩
abbrev cX5_goesYears : ByteArray := prog_7_method_17_code
def yX5_goesYears : MethodName := ⟨RX5, "goesYears", "(II)V"⟩
abbrev cX5_gives : ByteArray := prog_7_method_18_code
def yX5_gives : MethodName := ⟨RX5, "gives", "(I)V"⟩
def RX6 : String := "NinePots$Voices"
def TX6 : u_T := fun k => match k with
  | 0 => ("NinePots$Voices", "bodies", "[I", true)
  | 1 => ("NinePots$Voices", "begun", "I", false)
  | 2 => ("NinePots$Voices", "kind", "I", false)
  | 3 => ("NinePots$Voices", "number", "I", false)
  | _ => ("NinePots$Voices", "most", "I", false)
def tyX6 : Nat → FieldType := fun k => match k with
  | 0 => .array .int
  | 1 => .int
  | 2 => .int
  | 3 => .int
  | _ => .int
abbrev wsX60 : List Cond := u_ws RX6 TX6 5
theorem nmX6 : ∀ a, a < 5 → ∀ b, b < 5 → a ≠ b → (TX6 a).2.1 ≠ (TX6 b).2.1 := by decide +kernel
theorem tyX6_ok : ∀ k, k < 5 → parseFieldDescriptor (TX6 k).2.2.1 = some (tyX6 k) := by decide +kernel
abbrev cX6_init : ByteArray := prog_8_method_1_code
def yX6_init : MethodName := ⟨RX6, "<init>", "()V"⟩
abbrev cX6_speaks : ByteArray := prog_8_method_2_code
def yX6_speaks : MethodName := ⟨RX6, "speaks", "(LNinePots$Rules;III)I"⟩
abbrev cX6_own : ByteArray := prog_8_method_3_code
def yX6_own : MethodName := ⟨RX6, "own", "(III)I"⟩
abbrev cX6_above : ByteArray := prog_8_method_4_code
def yX6_above : MethodName := ⟨RX6, "above", "(IIII)I"⟩
abbrev cX6_bodyFrom : ByteArray := prog_8_method_5_code
def yX6_bodyFrom : MethodName := ⟨RX6, "bodyFrom", "(II)I"⟩
abbrev cX6_body : ByteArray := prog_8_method_6_code
def yX6_body : MethodName := ⟨RX6, "body", "(III)I"⟩
abbrev cX6_begins : ByteArray := prog_8_method_7_code
def yX6_begins : MethodName := ⟨RX6, "begins", "(I)V"⟩
def RX7 : String := "NinePots$Whole"
def TX7 : u_T := fun k => match k with
  | 0 => ("NinePots$Whole", "rules", "LNinePots$Rules;", true)
  | 1 => ("NinePots$Whole", "stand", "LNinePots$Stand;", true)
  | 2 => ("NinePots$Whole", "tape", "[I", true)
  | 3 => ("NinePots$Whole", "waits", "[I", true)
  | 4 => ("NinePots$Whole", "bytes", "I", false)
  | 5 => ("NinePots$Whole", "waiting", "I", false)
  | 6 => ("NinePots$Whole", "now", "I", false)
  | _ => ("NinePots$Whole", "z", "I", false)
def tyX7 : Nat → FieldType := fun k => match k with
  | 0 => .object "NinePots$Rules"
  | 1 => .object "NinePots$Stand"
  | 2 => .array .int
  | 3 => .array .int
  | 4 => .int
  | 5 => .int
  | 6 => .int
  | _ => .int
abbrev wsX70 : List Cond := u_ws RX7 TX7 8
theorem nmX7 : ∀ a, a < 8 → ∀ b, b < 8 → a ≠ b → (TX7 a).2.1 ≠ (TX7 b).2.1 := by decide +kernel
theorem tyX7_ok : ∀ k, k < 8 → parseFieldDescriptor (TX7 k).2.2.1 = some (tyX7 k) := by decide +kernel
abbrev cX7_init : ByteArray := prog_9_method_1_code
def yX7_init : MethodName := ⟨RX7, "<init>", "()V"⟩
abbrev cX7_take : ByteArray := prog_9_method_2_code
def yX7_take : MethodName := ⟨RX7, "take", "(LNinePots$Whole;)V"⟩
abbrev cX7_comes : ByteArray := prog_9_method_3_code
def yX7_comes : MethodName := ⟨RX7, "comes", "(III)I"⟩
abbrev cX7_drawn : ByteArray := prog_9_method_4_code
def yX7_drawn : MethodName := ⟨RX7, "drawn", "()I"⟩
def RX8 : String := "NinePots"
def TX8 : u_T := fun k => match k with
  | 0 => ("NinePots", "whole", "LNinePots$Whole;", true)
  | 1 => ("NinePots", "pictured", "LNinePots$Whole;", true)
  | 2 => ("NinePots", "outlook", "LNinePots$Outlook;", true)
  | 3 => ("NinePots", "voices", "LNinePots$Voices;", true)
  | 4 => ("NinePots", "reader", "LNinePots$Reader;", true)
  | 5 => ("NinePots", "sheets", "[LNinePots$Sheet;", true)
  | 6 => ("NinePots", "failed", "[I", true)
  | _ => ("NinePots", "pictures", "I", false)
def tyX8 : Nat → FieldType := fun k => match k with
  | 0 => .object "NinePots$Whole"
  | 1 => .object "NinePots$Whole"
  | 2 => .object "NinePots$Outlook"
  | 3 => .object "NinePots$Voices"
  | 4 => .object "NinePots$Reader"
  | 5 => .array (.object "NinePots$Sheet")
  | 6 => .array .int
  | _ => .int
abbrev wsX80 : List Cond := u_ws RX8 TX8 8
theorem nmX8 : ∀ a, a < 8 → ∀ b, b < 8 → a ≠ b → (TX8 a).2.1 ≠ (TX8 b).2.1 := by decide +kernel
theorem tyX8_ok : ∀ k, k < 8 → parseFieldDescriptor (TX8 k).2.2.1 = some (tyX8 k) := by decide +kernel
abbrev cX8_init : ByteArray := prog_1_method_1_code
def yX8_init : MethodName := ⟨RX8, "<init>", "()V"⟩
abbrev cX8_coins : ByteArray := prog_1_method_2_code
def yX8_coins : MethodName := ⟨RX8, "coins", "(II)I"⟩
abbrev cX8_set : ByteArray := prog_1_method_3_code
def yX8_set : MethodName := ⟨RX8, "set", "(II)I"⟩
abbrev cX8_buyer : ByteArray := prog_1_method_4_code
def yX8_buyer : MethodName := ⟨RX8, "buyer", "(III)I"⟩
abbrev cX8_ofBuyer : ByteArray := prog_1_method_5_code
def yX8_ofBuyer : MethodName := ⟨RX8, "ofBuyer", "(II)I"⟩
abbrev cX8_as : ByteArray := prog_1_method_6_code
def yX8_as : MethodName := ⟨RX8, "as", "(II)I"⟩
abbrev cX8_has : ByteArray := prog_1_method_7_code
def yX8_has : MethodName := ⟨RX8, "has", "(II)I"⟩
abbrev cX8_buyers : ByteArray := prog_1_method_8_code
def yX8_buyers : MethodName := ⟨RX8, "buyers", "(I)I"⟩
abbrev cX8_bringBuyers : ByteArray := prog_1_method_9_code
def yX8_bringBuyers : MethodName := ⟨RX8, "bringBuyers", "(LNinePots$Sheet;)I"⟩
abbrev cX8_at : ByteArray := prog_1_method_10_code
def yX8_at : MethodName := ⟨RX8, "at", "(IIII)I"⟩
abbrev cX8_feed : ByteArray := prog_1_method_11_code
def yX8_feed : MethodName := ⟨RX8, "feed", "(JI)I"⟩
abbrev cX8_text : ByteArray := prog_1_method_12_code
def yX8_text : MethodName := ⟨RX8, "text", "(I)I"⟩
abbrev cX8_law : ByteArray := prog_1_method_13_code
def yX8_law : MethodName := ⟨RX8, "law", "(IIIII)I"⟩
abbrev cX8_year : ByteArray := prog_1_method_14_code
def yX8_year : MethodName := ⟨RX8, "year", "(II)I"⟩
abbrev cX8_give : ByteArray := prog_1_method_15_code
def yX8_give : MethodName := ⟨RX8, "give", "(I)I"⟩
abbrev cX8_life : ByteArray := prog_1_method_16_code
def yX8_life : MethodName := ⟨RX8, "life", "(II)I"⟩
abbrev cX8_then : ByteArray := prog_1_method_17_code
def yX8_then : MethodName := ⟨RX8, "then", "(III)I"⟩
abbrev cX8_by : ByteArray := prog_1_method_18_code
def yX8_by : MethodName := ⟨RX8, "by", "(II)I"⟩
abbrev cX8_best : ByteArray := prog_1_method_19_code
def yX8_best : MethodName := ⟨RX8, "best", "(II)I"⟩
abbrev cX8_never : ByteArray := prog_1_method_20_code
def yX8_never : MethodName := ⟨RX8, "never", "(II)I"⟩
abbrev cX8_ofBestRow : ByteArray := prog_1_method_21_code
def yX8_ofBestRow : MethodName := ⟨RX8, "ofBestRow", "(IIZ)I"⟩
abbrev cX8_costs : ByteArray := prog_1_method_22_code
def yX8_costs : MethodName := ⟨RX8, "costs", "(I)I"⟩
abbrev cX8_raise : ByteArray := prog_1_method_23_code
def yX8_raise : MethodName := ⟨RX8, "raise", "(I)I"⟩
abbrev cX8_back : ByteArray := prog_1_method_24_code
def yX8_back : MethodName := ⟨RX8, "back", "(II)I"⟩
abbrev cX8_whom : ByteArray := prog_1_method_25_code
def yX8_whom : MethodName := ⟨RX8, "whom", "(II)I"⟩
abbrev cX8_more : ByteArray := prog_1_method_26_code
def yX8_more : MethodName := ⟨RX8, "more", "(III)I"⟩
abbrev cX8_rests : ByteArray := prog_1_method_27_code
def yX8_rests : MethodName := ⟨RX8, "rests", "(I)I"⟩
abbrev cX8_clear : ByteArray := prog_1_method_28_code
def yX8_clear : MethodName := ⟨RX8, "clear", "()I"⟩
abbrev cX8_seed : ByteArray := prog_1_method_29_code
def yX8_seed : MethodName := ⟨RX8, "seed", "(I)I"⟩
abbrev cX8_voice : ByteArray := prog_1_method_30_code
def yX8_voice : MethodName := ⟨RX8, "voice", "(III)I"⟩
abbrev cX8_trace : ByteArray := prog_1_method_31_code
def yX8_trace : MethodName := ⟨RX8, "trace", "(I)I"⟩
abbrev cX8_sheet : ByteArray := prog_1_method_32_code
def yX8_sheet : MethodName := ⟨RX8, "sheet", "(III)I"⟩
abbrev cX8_put : ByteArray := prog_1_method_33_code
def yX8_put : MethodName := ⟨RX8, "put", "(III)I"⟩
abbrev cX8_move : ByteArray := prog_1_method_34_code
def yX8_move : MethodName := ⟨RX8, "move", "(IIIII)I"⟩
abbrev cX8_image : ByteArray := prog_1_method_35_code
def yX8_image : MethodName := ⟨RX8, "image", "()I"⟩
abbrev cX8_restore : ByteArray := prog_1_method_36_code
def yX8_restore : MethodName := ⟨RX8, "restore", "()I"⟩
abbrev cX8_tell : ByteArray := prog_1_method_37_code
def yX8_tell : MethodName := ⟨RX8, "tell", "(I)I"⟩
abbrev cX8_check : ByteArray := prog_1_method_38_code
def yX8_check : MethodName := ⟨RX8, "check", "(I)I"⟩
abbrev cX8_firstUnlike : ByteArray := prog_1_method_39_code
def yX8_firstUnlike : MethodName := ⟨RX8, "firstUnlike", "(II)I"⟩
abbrev cX8_count : ByteArray := prog_1_method_40_code
def yX8_count : MethodName := ⟨RX8, "count", "(I)I"⟩
abbrev cX8_told : ByteArray := prog_1_method_41_code
def yX8_told : MethodName := ⟨RX8, "told", "(I)I"⟩
abbrev cX8_fails : ByteArray := prog_1_method_42_code
def yX8_fails : MethodName := ⟨RX8, "fails", "(I)I"⟩
abbrev cX8_sheetAt : ByteArray := prog_1_method_43_code
def yX8_sheetAt : MethodName := ⟨RX8, "sheetAt", "(I)LNinePots$Sheet;"⟩
abbrev cX8_isWithin : ByteArray := prog_1_method_44_code
def yX8_isWithin : MethodName := ⟨RX8, "isWithin", "(III)Z"⟩
abbrev cX8_isStep : ByteArray := prog_1_method_45_code
def yX8_isStep : MethodName := ⟨RX8, "isStep", "(I)Z"⟩
abbrev cX8_isBuyerAsTold : ByteArray := prog_1_method_46_code
def yX8_isBuyerAsTold : MethodName := ⟨RX8, "isBuyerAsTold", "(III)Z"⟩
abbrev cX8_held : ByteArray := prog_1_method_47_code
def yX8_held : MethodName := ⟨RX8, "held", "(III)I"⟩
abbrev cX8_isOf : ByteArray := prog_1_method_48_code
def yX8_isOf : MethodName := ⟨RX8, "isOf", "(II)Z"⟩
def RX9 : String := "NinePotsModel"
def TX9 : u_T := fun k => match k with
  | 0 => ("NinePotsModel", "now", "[I", true)
  | 1 => ("NinePotsModel", "kept", "[I", true)
  | 2 => ("NinePotsModel", "aside", "[I", true)
  | 3 => ("NinePotsModel", "images", "I", false)
  | 4 => ("NinePotsModel", "errors", "[I", true)
  | 5 => ("NinePotsModel", "settingsMost", "[I", true)
  | 6 => ("NinePotsModel", "NAMED", "[Ljava/lang/String;", true)
  | 7 => ("NinePotsModel", "at", "I", false)
  | 8 => ("NinePotsModel", "open", "I", false)
  | 9 => ("NinePotsModel", "use", "I", false)
  | 10 => ("NinePotsModel", "isWrong", "Z", false)
  | 11 => ("NinePotsModel", "code", "[I", true)
  | 12 => ("NinePotsModel", "coded", "I", false)
  | 13 => ("NinePotsModel", "named", "[I", true)
  | 14 => ("NinePotsModel", "pile", "[I", true)
  | 15 => ("NinePotsModel", "bought", "[I", true)
  | 16 => ("NinePotsModel", "bestRow", "[I", true)
  | 17 => ("NinePotsModel", "bestEnds", "I", false)
  | 18 => ("NinePotsModel", "trace", "[I", true)
  | 19 => ("NinePotsModel", "traced", "I", false)
  | 20 => ("NinePotsModel", "speaker", "I", false)
  | 21 => ("NinePotsModel", "widths", "[I", true)
  | 22 => ("NinePotsModel", "sizes", "[I", true)
  | 23 => ("NinePotsModel", "numbers", "[I", true)
  | _ => ("NinePotsModel", "carried", "[I", true)
def tyX9 : Nat → FieldType := fun k => match k with
  | 0 => .array .int
  | 1 => .array .int
  | 2 => .array .int
  | 3 => .int
  | 4 => .array .int
  | 5 => .array .int
  | 6 => .array (.object "java/lang/String")
  | 7 => .int
  | 8 => .int
  | 9 => .int
  | 10 => .boolean
  | 11 => .array .int
  | 12 => .int
  | 13 => .array .int
  | 14 => .array .int
  | 15 => .array .int
  | 16 => .array .int
  | 17 => .int
  | 18 => .array .int
  | 19 => .int
  | 20 => .int
  | 21 => .array .int
  | 22 => .array .int
  | 23 => .array .int
  | _ => .array .int
abbrev wsX90 : List Cond := u_ws RX9 TX9 25
theorem nmX9 : ∀ a, a < 25 → ∀ b, b < 25 → a ≠ b → (TX9 a).2.1 ≠ (TX9 b).2.1 := by decide +kernel
theorem tyX9_ok : ∀ k, k < 25 → parseFieldDescriptor (TX9 k).2.2.1 = some (tyX9 k) := by decide +kernel
abbrev cX9_init : ByteArray := prog_11_method_1_code
def yX9_init : MethodName := ⟨RX9, "<init>", "()V"⟩
abbrev cX9_finding : ByteArray := prog_11_method_2_code
def yX9_finding : MethodName := ⟨RX9, "finding", "(I)I"⟩
abbrev cX9_within : ByteArray := prog_11_method_3_code
def yX9_within : MethodName := ⟨RX9, "within", "(III)Z"⟩
abbrev cX9_held : ByteArray := prog_11_method_4_code
def yX9_held : MethodName := ⟨RX9, "held", "(III)I"⟩
abbrev cX9_copy : ByteArray := prog_11_method_5_code
def yX9_copy : MethodName := ⟨RX9, "copy", "([I[I)V"⟩
abbrev cX9_become : ByteArray := prog_11_method_6_code
def yX9_become : MethodName := ⟨RX9, "become", "(II)I"⟩
abbrev cX9_putBack : ByteArray := prog_11_method_7_code
def yX9_putBack : MethodName := ⟨RX9, "putBack", "(I)I"⟩
abbrev cX9_isStep : ByteArray := prog_11_method_8_code
def yX9_isStep : MethodName := ⟨RX9, "isStep", "(I)Z"⟩
abbrev cX9_coins : ByteArray := prog_11_method_9_code
def yX9_coins : MethodName := ⟨RX9, "coins", "(II)I"⟩
abbrev cX9_set : ByteArray := prog_11_method_10_code
def yX9_set : MethodName := ⟨RX9, "set", "(II)I"⟩
abbrev cX9_is : ByteArray := prog_11_method_11_code
def yX9_is : MethodName := ⟨RX9, "is", "(I)Z"⟩
abbrev cX9_of : ByteArray := prog_11_method_12_code
def yX9_of : MethodName := ⟨RX9, "of", "(II)I"⟩
abbrev cX9_isAsTold : ByteArray := prog_11_method_13_code
def yX9_isAsTold : MethodName := ⟨RX9, "isAsTold", "(III)Z"⟩
abbrev cX9_comes : ByteArray := prog_11_method_14_code
def yX9_comes : MethodName := ⟨RX9, "comes", "(III)I"⟩
abbrev cX9_buyer : ByteArray := prog_11_method_15_code
def yX9_buyer : MethodName := ⟨RX9, "buyer", "(III)I"⟩
abbrev cX9_ofBuyer : ByteArray := prog_11_method_16_code
def yX9_ofBuyer : MethodName := ⟨RX9, "ofBuyer", "(II)I"⟩
abbrev cX9_above : ByteArray := prog_11_method_17_code
def yX9_above : MethodName := ⟨RX9, "above", "(I)I"⟩
abbrev cX9_as : ByteArray := prog_11_method_18_code
def yX9_as : MethodName := ⟨RX9, "as", "(II)I"⟩
abbrev cX9_has : ByteArray := prog_11_method_19_code
def yX9_has : MethodName := ⟨RX9, "has", "(II)I"⟩
abbrev cX9_buyers : ByteArray := prog_11_method_20_code
def yX9_buyers : MethodName := ⟨RX9, "buyers", "(I)I"⟩
abbrev cX9_plainWorth : ByteArray := prog_11_method_21_code
def yX9_plainWorth : MethodName := ⟨RX9, "plainWorth", "(I)I"⟩
abbrev cX9_worthOf : ByteArray := prog_11_method_22_code
def yX9_worthOf : MethodName := ⟨RX9, "worthOf", "(II)I"⟩
abbrev cX9_dueOf : ByteArray := prog_11_method_23_code
def yX9_dueOf : MethodName := ⟨RX9, "dueOf", "(II)I"⟩
abbrev cX9_isKeeper : ByteArray := prog_11_method_24_code
def yX9_isKeeper : MethodName := ⟨RX9, "isKeeper", "(I)Z"⟩
abbrev cX9_buysOf : ByteArray := prog_11_method_25_code
def yX9_buysOf : MethodName := ⟨RX9, "buysOf", "(III)I"⟩
abbrev cX9_at : ByteArray := prog_11_method_26_code
def yX9_at : MethodName := ⟨RX9, "at", "(IIII)I"⟩
abbrev cX9_feed : ByteArray := prog_11_method_27_code
def yX9_feed : MethodName := ⟨RX9, "feed", "(JI)I"⟩
abbrev cX9_here : ByteArray := prog_11_method_28_code
def yX9_here : MethodName := ⟨RX9, "here", "()I"⟩
abbrev cX9_takes : ByteArray := prog_11_method_29_code
def yX9_takes : MethodName := ⟨RX9, "takes", "(I)Z"⟩
abbrev cX9_codes : ByteArray := prog_11_method_30_code
def yX9_codes : MethodName := ⟨RX9, "codes", "(I)V"⟩
abbrev cX9_either : ByteArray := prog_11_method_31_code
def yX9_either : MethodName := ⟨RX9, "either", "()V"⟩
abbrev cX9_both : ByteArray := prog_11_method_32_code
def yX9_both : MethodName := ⟨RX9, "both", "()V"⟩
abbrev cX9_compared : ByteArray := prog_11_method_33_code
def yX9_compared : MethodName := ⟨RX9, "compared", "()V"⟩
abbrev cX9_sum : ByteArray := prog_11_method_34_code
def yX9_sum : MethodName := ⟨RX9, "sum", "()V"⟩
abbrev cX9_product : ByteArray := prog_11_method_35_code
def yX9_product : MethodName := ⟨RX9, "product", "()V"⟩
abbrev cX9_nameOf : ByteArray := prog_11_method_36_code
def yX9_nameOf : MethodName := ⟨RX9, "nameOf", "(I)I"⟩
abbrev cX9_one : ByteArray := prog_11_method_37_code
def yX9_one : MethodName := ⟨RX9, "one", "()V"⟩
abbrev cX9_text : ByteArray := prog_11_method_38_code
def yX9_text : MethodName := ⟨RX9, "text", "(I)I"⟩
abbrev cX9_done : ByteArray := prog_11_method_39_code
def yX9_done : MethodName := ⟨RX9, "done", "(III)I"⟩
abbrev cX9_worked : ByteArray := prog_11_method_40_code
def yX9_worked : MethodName := ⟨RX9, "worked", "(I)I"⟩
abbrev cX9_given : ByteArray := prog_11_method_41_code
def yX9_given : MethodName := ⟨RX9, "given", "(IIIII)I"⟩
abbrev cX9_law : ByteArray := prog_11_method_42_code
def yX9_law : MethodName := ⟨RX9, "law", "(IIIII)I"⟩
abbrev cX9_goes : ByteArray := prog_11_method_43_code
def yX9_goes : MethodName := ⟨RX9, "goes", "(IIZ)I"⟩
abbrev cX9_year : ByteArray := prog_11_method_44_code
def yX9_year : MethodName := ⟨RX9, "year", "(II)I"⟩
abbrev cX9_gives : ByteArray := prog_11_method_45_code
def yX9_gives : MethodName := ⟨RX9, "gives", "(I)I"⟩
abbrev cX9_give : ByteArray := prog_11_method_46_code
def yX9_give : MethodName := ⟨RX9, "give", "(I)I"⟩
abbrev cX9_drawn : ByteArray := prog_11_method_47_code
def yX9_drawn : MethodName := ⟨RX9, "drawn", "(I)I"⟩
abbrev cX9_life : ByteArray := prog_11_method_48_code
def yX9_life : MethodName := ⟨RX9, "life", "(II)I"⟩
abbrev cX9_yearsGo : ByteArray := prog_11_method_49_code
def yX9_yearsGo : MethodName := ⟨RX9, "yearsGo", "(II)V"⟩
abbrev cX9_ends : ByteArray := prog_11_method_50_code
def yX9_ends : MethodName := ⟨RX9, "ends", "()I"⟩
abbrev cX9_toldOf : ByteArray := prog_11_method_51_code
def yX9_toldOf : MethodName := ⟨RX9, "toldOf", "(I)I"⟩
abbrev cX9_isAhead : ByteArray := prog_11_method_52_code
def yX9_isAhead : MethodName := ⟨RX9, "isAhead", "(I)Z"⟩
abbrev cX9_then : ByteArray := prog_11_method_53_code
def yX9_then : MethodName := ⟨RX9, "then", "(III)I"⟩
abbrev cX9_by : ByteArray := prog_11_method_54_code
def yX9_by : MethodName := ⟨RX9, "by", "(II)I"⟩
abbrev cX9_findBest : ByteArray := prog_11_method_55_code
def yX9_findBest : MethodName := ⟨RX9, "findBest", "(IZ)V"⟩
abbrev cX9_ofBest : ByteArray := prog_11_method_56_code
def yX9_ofBest : MethodName := ⟨RX9, "ofBest", "(IIZ)I"⟩
abbrev cX9_best : ByteArray := prog_11_method_57_code
def yX9_best : MethodName := ⟨RX9, "best", "(II)I"⟩
abbrev cX9_never : ByteArray := prog_11_method_58_code
def yX9_never : MethodName := ⟨RX9, "never", "(II)I"⟩
abbrev cX9_costs : ByteArray := prog_11_method_59_code
def yX9_costs : MethodName := ⟨RX9, "costs", "(I)I"⟩
abbrev cX9_raise : ByteArray := prog_11_method_60_code
def yX9_raise : MethodName := ⟨RX9, "raise", "(I)I"⟩
abbrev cX9_back : ByteArray := prog_11_method_61_code
def yX9_back : MethodName := ⟨RX9, "back", "(II)I"⟩
abbrev cX9_whom : ByteArray := prog_11_method_62_code
def yX9_whom : MethodName := ⟨RX9, "whom", "(II)I"⟩
abbrev cX9_more : ByteArray := prog_11_method_63_code
def yX9_more : MethodName := ⟨RX9, "more", "(III)I"⟩
abbrev cX9_rests : ByteArray := prog_11_method_64_code
def yX9_rests : MethodName := ⟨RX9, "rests", "(I)I"⟩
abbrev cX9_clear : ByteArray := prog_11_method_65_code
def yX9_clear : MethodName := ⟨RX9, "clear", "()I"⟩
abbrev cX9_seed : ByteArray := prog_11_method_66_code
def yX9_seed : MethodName := ⟨RX9, "seed", "(I)I"⟩
abbrev cX9_began : ByteArray := prog_11_method_67_code
def yX9_began : MethodName := ⟨RX9, "began", "(I)V"⟩
abbrev cX9_hasOwn : ByteArray := prog_11_method_68_code
def yX9_hasOwn : MethodName := ⟨RX9, "hasOwn", "(II)Z"⟩
abbrev cX9_voiced : ByteArray := prog_11_method_69_code
def yX9_voiced : MethodName := ⟨RX9, "voiced", "(II)I"⟩
abbrev cX9_bodyFrom : ByteArray := prog_11_method_70_code
def yX9_bodyFrom : MethodName := ⟨RX9, "bodyFrom", "(III)I"⟩
abbrev cX9_body : ByteArray := prog_11_method_71_code
def yX9_body : MethodName := ⟨RX9, "body", "(III)I"⟩
abbrev cX9_voice : ByteArray := prog_11_method_72_code
def yX9_voice : MethodName := ⟨RX9, "voice", "(III)I"⟩
abbrev cX9_trace : ByteArray := prog_11_method_73_code
def yX9_trace : MethodName := ⟨RX9, "trace", "(I)I"⟩
abbrev cX9_isSheet : ByteArray := prog_11_method_74_code
def yX9_isSheet : MethodName := ⟨RX9, "isSheet", "(I)Z"⟩
abbrev cX9_sheet : ByteArray := prog_11_method_75_code
def yX9_sheet : MethodName := ⟨RX9, "sheet", "(III)I"⟩
abbrev cX9_put : ByteArray := prog_11_method_76_code
def yX9_put : MethodName := ⟨RX9, "put", "(III)I"⟩
abbrev cX9_move : ByteArray := prog_11_method_77_code
def yX9_move : MethodName := ⟨RX9, "move", "(IIIII)I"⟩
abbrev cX9_image : ByteArray := prog_11_method_78_code
def yX9_image : MethodName := ⟨RX9, "image", "()I"⟩
abbrev cX9_restore : ByteArray := prog_11_method_79_code
def yX9_restore : MethodName := ⟨RX9, "restore", "()I"⟩
abbrev cX9_tell : ByteArray := prog_11_method_80_code
def yX9_tell : MethodName := ⟨RX9, "tell", "(I)I"⟩
abbrev cX9_check : ByteArray := prog_11_method_81_code
def yX9_check : MethodName := ⟨RX9, "check", "(I)I"⟩
abbrev cX9_count : ByteArray := prog_11_method_82_code
def yX9_count : MethodName := ⟨RX9, "count", "(I)I"⟩
abbrev cX9_told : ByteArray := prog_11_method_83_code
def yX9_told : MethodName := ⟨RX9, "told", "(I)I"⟩
def RJ9 : String := "java/lang/Math"
def TJ9 : u_T := fun k => match k with
  | _ => ("", "", "", false)
def tyJ9 : Nat → FieldType := fun k => match k with
  | _ => .int
abbrev wsJ90 : List Cond := u_ws RJ9 TJ9 0
abbrev cJ9_max_7cf53 : ByteArray := prog_12_method_65_code
def yJ9_max_7cf53 : MethodName := ⟨RJ9, "max", "(II)I"⟩
abbrev cJ9_max_f86c9 : ByteArray := prog_12_method_66_code
def yJ9_max_f86c9 : MethodName := ⟨RJ9, "max", "(JJ)J"⟩
abbrev cJ9_min_7cf53 : ByteArray := prog_12_method_69_code
def yJ9_min_7cf53 : MethodName := ⟨RJ9, "min", "(II)I"⟩
abbrev cJ9_min_f86c9 : ByteArray := prog_12_method_70_code
def yJ9_min_f86c9 : MethodName := ⟨RJ9, "min", "(JJ)J"⟩
def RJ0 : String := "java/lang/String"
def TJ0 : u_T := fun k => match k with
  | _ => ("", "", "", false)
def tyJ0 : Nat → FieldType := fun k => match k with
  | _ => .int
abbrev wsJ00 : List Cond := u_ws RJ0 TJ0 0
abbrev cJ0_length_8abf5 : ByteArray := prog_13_method_54_code
def yJ0_length_8abf5 : MethodName := ⟨RJ0, "length", "()I"⟩
abbrev cJ0_charAt_5068e : ByteArray := prog_13_method_56_code
def yJ0_charAt_5068e : MethodName := ⟨RJ0, "charAt", "(I)C"⟩
abbrev cJ0_coder_7d493 : ByteArray := prog_13_method_152_code
def yJ0_coder_7d493 : MethodName := ⟨RJ0, "coder", "()B"⟩
abbrev cJ0_isLatin1_aae02 : ByteArray := prog_13_method_154_code
def yJ0_isLatin1_aae02 : MethodName := ⟨RJ0, "isLatin1", "()Z"⟩
abbrev cJ0_checkIndex_df160 : ByteArray := prog_13_method_155_code
def yJ0_checkIndex_df160 : MethodName := ⟨RJ0, "checkIndex", "(II)V"⟩
def RJ1 : String := "java/lang/StringLatin1"
def TJ1 : u_T := fun k => match k with
  | _ => ("", "", "", false)
def tyJ1 : Nat → FieldType := fun k => match k with
  | _ => .int
abbrev wsJ10 : List Cond := u_ws RJ1 TJ1 0
abbrev cJ1_charAt_3b067 : ByteArray := prog_14_method_2_code
def yJ1_charAt_3b067 : MethodName := ⟨RJ1, "charAt", "([BI)C"⟩
def RJ2 : String := "java/lang/StringUTF16"
def TJ2 : u_T := fun k => match k with
  | _ => ("", "", "", false)
def tyJ2 : Nat → FieldType := fun k => match k with
  | _ => .int
abbrev wsJ20 : List Cond := u_ws RJ2 TJ2 0
abbrev cJ2_getChar_3b067 : ByteArray := prog_15_method_5_code
def yJ2_getChar_3b067 : MethodName := ⟨RJ2, "getChar", "([BI)C"⟩
abbrev cJ2_length_9d52b : ByteArray := prog_15_method_6_code
def yJ2_length_9d52b : MethodName := ⟨RJ2, "length", "([B)I"⟩
abbrev cJ2_charAt_3b067 : ByteArray := prog_15_method_83_code
def yJ2_charAt_3b067 : MethodName := ⟨RJ2, "charAt", "([BI)C"⟩
abbrev cJ2_checkIndex_2214a : ByteArray := prog_15_method_91_code
def yJ2_checkIndex_2214a : MethodName := ⟨RJ2, "checkIndex", "(I[B)V"⟩
def RJ10 : String := "java/lang/System"
def TJ10 : u_T := fun k => match k with
  | _ => ("", "", "", false)
def tyJ10 : Nat → FieldType := fun k => match k with
  | _ => .int
abbrev wsJ100 : List Cond := u_ws RJ10 TJ10 0
def RJ3 : String := "jdk/internal/util/Preconditions"
def TJ3 : u_T := fun k => match k with
  | _ => ("", "", "", false)
def tyJ3 : Nat → FieldType := fun k => match k with
  | _ => .int
abbrev wsJ30 : List Cond := u_ws RJ3 TJ3 0
abbrev cJ3_checkIndex_8e157 : ByteArray := prog_17_method_11_code
def yJ3_checkIndex_8e157 : MethodName := ⟨RJ3, "checkIndex", "(IILjava/util/function/BiFunction;)I"⟩
def RL : String := "NinePotsLaw"
abbrev cL_law : ByteArray := code
def yL_law : MethodName := ⟨RL, "law", "([I)Z"⟩
abbrev vwCl : List vw_C := [(RX0, TX0, 4), (RX1, TX1, 6), (RX2, TX2, 6), (RX3, TX3, 7), (RX4, TX4, 3), (RX5, TX5, 12), (RX6, TX6, 5), (RX7, TX7, 8), (RX8, TX8, 8), (RX9, TX9, 25)]
