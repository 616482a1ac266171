section
-- ===== PART A: goes FIRST, ahead of the names: the tables' words, and 'selects' of the private methods out of them =====
/-- a private method of a class that the tables say can be made, by its rows of tables_1 -/
def lw_okq (q : MethodName × Nat) : Prop := (q.1.cls ≠ "java/lang/invoke/MethodHandle" ∧ q.1.cls ≠ "java/lang/invoke/VarHandle") ∧ Cond.instantiable q.1.cls q.2 ∈ tables_1 ∧ Cond.privateMethod q.1 ∈ tables_1 ∧ Cond.instanceMethod q.1 ∈ tables_1
theorem lw_p0 : lw_okq (⟨"NinePots", "fails", "(I)I"⟩, 8) := ⟨⟨by decide +kernel, by decide +kernel⟩, List.mem_of_getElem? (i := 18) (by decide +kernel), List.mem_of_getElem? (i := 321) (by decide +kernel), List.mem_of_getElem? (i := 322) (by decide +kernel)⟩
theorem lw_p1 : lw_okq (⟨"NinePots", "sheetAt", "(I)LNinePots$Sheet;"⟩, 8) := ⟨⟨by decide +kernel, by decide +kernel⟩, List.mem_of_getElem? (i := 18) (by decide +kernel), List.mem_of_getElem? (i := 381) (by decide +kernel), List.mem_of_getElem? (i := 382) (by decide +kernel)⟩
theorem lw_p2 : lw_okq (⟨"NinePots", "bringBuyers", "(LNinePots$Sheet;)I"⟩, 8) := ⟨⟨by decide +kernel, by decide +kernel⟩, List.mem_of_getElem? (i := 18) (by decide +kernel), List.mem_of_getElem? (i := 390) (by decide +kernel), List.mem_of_getElem? (i := 391) (by decide +kernel)⟩
theorem lw_p3 : lw_okq (⟨"NinePots$Formula", "named", "(I)I"⟩, 4) := ⟨⟨by decide +kernel, by decide +kernel⟩, List.mem_of_getElem? (i := 38) (by decide +kernel), List.mem_of_getElem? (i := 419) (by decide +kernel), List.mem_of_getElem? (i := 420) (by decide +kernel)⟩
theorem lw_p4 : lw_okq (⟨"NinePots$Stand", "takes", "(II)I"⟩, 12) := ⟨⟨by decide +kernel, by decide +kernel⟩, List.mem_of_getElem? (i := 99) (by decide +kernel), List.mem_of_getElem? (i := 450) (by decide +kernel), List.mem_of_getElem? (i := 451) (by decide +kernel)⟩
theorem lw_p5 : lw_okq (⟨"NinePots$Reader", "readsRule", "(II)Z"⟩, 6) := ⟨⟨by decide +kernel, by decide +kernel⟩, List.mem_of_getElem? (i := 238) (by decide +kernel), List.mem_of_getElem? (i := 473) (by decide +kernel), List.mem_of_getElem? (i := 474) (by decide +kernel)⟩
theorem lw_p6 : lw_okq (⟨"NinePots$Reader", "readsQ", "(I)Z"⟩, 6) := ⟨⟨by decide +kernel, by decide +kernel⟩, List.mem_of_getElem? (i := 238) (by decide +kernel), List.mem_of_getElem? (i := 477) (by decide +kernel), List.mem_of_getElem? (i := 478) (by decide +kernel)⟩
theorem lw_p7 : lw_okq (⟨"NinePots$Reader", "ahead", "()I"⟩, 6) := ⟨⟨by decide +kernel, by decide +kernel⟩, List.mem_of_getElem? (i := 238) (by decide +kernel), List.mem_of_getElem? (i := 481) (by decide +kernel), List.mem_of_getElem? (i := 482) (by decide +kernel)⟩
theorem lw_p8 : lw_okq (⟨"NinePots$Reader", "readsNumber", "()V"⟩, 6) := ⟨⟨by decide +kernel, by decide +kernel⟩, List.mem_of_getElem? (i := 238) (by decide +kernel), List.mem_of_getElem? (i := 489) (by decide +kernel), List.mem_of_getElem? (i := 490) (by decide +kernel)⟩
theorem lw_p9 : lw_okq (⟨"NinePots$Reader", "makes", "(I)V"⟩, 6) := ⟨⟨by decide +kernel, by decide +kernel⟩, List.mem_of_getElem? (i := 238) (by decide +kernel), List.mem_of_getElem? (i := 493) (by decide +kernel), List.mem_of_getElem? (i := 494) (by decide +kernel)⟩
theorem lw_p10 : lw_okq (⟨"NinePots$Reader", "nameOf", "(I)I"⟩, 6) := ⟨⟨by decide +kernel, by decide +kernel⟩, List.mem_of_getElem? (i := 238) (by decide +kernel), List.mem_of_getElem? (i := 497) (by decide +kernel), List.mem_of_getElem? (i := 498) (by decide +kernel)⟩
theorem lw_p11 : lw_okq (⟨"NinePots$Reader", "readsNot", "(I)Z"⟩, 6) := ⟨⟨by decide +kernel, by decide +kernel⟩, List.mem_of_getElem? (i := 238) (by decide +kernel), List.mem_of_getElem? (i := 503) (by decide +kernel), List.mem_of_getElem? (i := 504) (by decide +kernel)⟩
theorem lw_p12 : lw_okq (⟨"NinePots$Reader", "readsInside", "(I)Z"⟩, 6) := ⟨⟨by decide +kernel, by decide +kernel⟩, List.mem_of_getElem? (i := 238) (by decide +kernel), List.mem_of_getElem? (i := 507) (by decide +kernel), List.mem_of_getElem? (i := 508) (by decide +kernel)⟩
theorem lw_p13 : lw_okq (⟨"NinePots", "ofBestRow", "(IIZ)I"⟩, 8) := ⟨⟨by decide +kernel, by decide +kernel⟩, List.mem_of_getElem? (i := 18) (by decide +kernel), List.mem_of_getElem? (i := 617) (by decide +kernel), List.mem_of_getElem? (i := 618) (by decide +kernel)⟩
theorem lw_p14 : lw_okq (⟨"NinePots$Outlook", "goOn", "(IIZ)V"⟩, 6) := ⟨⟨by decide +kernel, by decide +kernel⟩, List.mem_of_getElem? (i := 186) (by decide +kernel), List.mem_of_getElem? (i := 625) (by decide +kernel), List.mem_of_getElem? (i := 626) (by decide +kernel)⟩
theorem lw_p15 : lw_okq (⟨"NinePots$Outlook", "keepIfMore", "(I)V"⟩, 6) := ⟨⟨by decide +kernel, by decide +kernel⟩, List.mem_of_getElem? (i := 186) (by decide +kernel), List.mem_of_getElem? (i := 632) (by decide +kernel), List.mem_of_getElem? (i := 633) (by decide +kernel)⟩
def lw_privs_1 : List (MethodName × Nat) := [(⟨"NinePots", "fails", "(I)I"⟩, 8), (⟨"NinePots", "sheetAt", "(I)LNinePots$Sheet;"⟩, 8), (⟨"NinePots", "bringBuyers", "(LNinePots$Sheet;)I"⟩, 8), (⟨"NinePots$Formula", "named", "(I)I"⟩, 4), (⟨"NinePots$Stand", "takes", "(II)I"⟩, 12), (⟨"NinePots$Reader", "readsRule", "(II)Z"⟩, 6), (⟨"NinePots$Reader", "readsQ", "(I)Z"⟩, 6), (⟨"NinePots$Reader", "ahead", "()I"⟩, 6), (⟨"NinePots$Reader", "readsNumber", "()V"⟩, 6), (⟨"NinePots$Reader", "makes", "(I)V"⟩, 6), (⟨"NinePots$Reader", "nameOf", "(I)I"⟩, 6), (⟨"NinePots$Reader", "readsNot", "(I)Z"⟩, 6), (⟨"NinePots$Reader", "readsInside", "(I)Z"⟩, 6), (⟨"NinePots", "ofBestRow", "(IIZ)I"⟩, 8), (⟨"NinePots$Outlook", "goOn", "(IIZ)V"⟩, 6), (⟨"NinePots$Outlook", "keepIfMore", "(I)V"⟩, 6)]
theorem lw_r1 : ∀ q ∈ lw_privs_1, lw_okq q := List.forall_mem_cons.mpr ⟨lw_p0, List.forall_mem_cons.mpr ⟨lw_p1, List.forall_mem_cons.mpr ⟨lw_p2, List.forall_mem_cons.mpr ⟨lw_p3, List.forall_mem_cons.mpr ⟨lw_p4, List.forall_mem_cons.mpr ⟨lw_p5, List.forall_mem_cons.mpr ⟨lw_p6, List.forall_mem_cons.mpr ⟨lw_p7, List.forall_mem_cons.mpr ⟨lw_p8, List.forall_mem_cons.mpr ⟨lw_p9, List.forall_mem_cons.mpr ⟨lw_p10, List.forall_mem_cons.mpr ⟨lw_p11, List.forall_mem_cons.mpr ⟨lw_p12, List.forall_mem_cons.mpr ⟨lw_p13, List.forall_mem_cons.mpr ⟨lw_p14, List.forall_mem_cons.mpr ⟨lw_p15, fun _ h => absurd h List.not_mem_nil⟩⟩⟩⟩⟩⟩⟩⟩⟩⟩⟩⟩⟩⟩⟩⟩
theorem lw_p16 : lw_okq (⟨"NinePots$Voices", "own", "(III)I"⟩, 5) := ⟨⟨by decide +kernel, by decide +kernel⟩, List.mem_of_getElem? (i := 214) (by decide +kernel), List.mem_of_getElem? (i := 717) (by decide +kernel), List.mem_of_getElem? (i := 718) (by decide +kernel)⟩
theorem lw_p17 : lw_okq (⟨"NinePots$Voices", "body", "(III)I"⟩, 5) := ⟨⟨by decide +kernel, by decide +kernel⟩, List.mem_of_getElem? (i := 214) (by decide +kernel), List.mem_of_getElem? (i := 728) (by decide +kernel), List.mem_of_getElem? (i := 729) (by decide +kernel)⟩
theorem lw_p18 : lw_okq (⟨"NinePots$Voices", "begins", "(I)V"⟩, 5) := ⟨⟨by decide +kernel, by decide +kernel⟩, List.mem_of_getElem? (i := 214) (by decide +kernel), List.mem_of_getElem? (i := 732) (by decide +kernel), List.mem_of_getElem? (i := 733) (by decide +kernel)⟩
theorem lw_p19 : lw_okq (⟨"NinePots$Voices", "above", "(IIII)I"⟩, 5) := ⟨⟨by decide +kernel, by decide +kernel⟩, List.mem_of_getElem? (i := 214) (by decide +kernel), List.mem_of_getElem? (i := 736) (by decide +kernel), List.mem_of_getElem? (i := 737) (by decide +kernel)⟩
theorem lw_p20 : lw_okq (⟨"NinePots$Sheet", "lowest", "(I)I"⟩, 3) := ⟨⟨by decide +kernel, by decide +kernel⟩, List.mem_of_getElem? (i := 266) (by decide +kernel), List.mem_of_getElem? (i := 761) (by decide +kernel), List.mem_of_getElem? (i := 762) (by decide +kernel)⟩
theorem lw_p21 : lw_okq (⟨"NinePots", "firstUnlike", "(II)I"⟩, 8) := ⟨⟨by decide +kernel, by decide +kernel⟩, List.mem_of_getElem? (i := 18) (by decide +kernel), List.mem_of_getElem? (i := 802) (by decide +kernel), List.mem_of_getElem? (i := 803) (by decide +kernel)⟩
theorem lw_p22 : lw_okq (⟨"NinePotsModel", "become", "(II)I"⟩, 25) := ⟨⟨by decide +kernel, by decide +kernel⟩, List.mem_of_getElem? (i := 815) (by decide +kernel), List.mem_of_getElem? (i := 913) (by decide +kernel), List.mem_of_getElem? (i := 914) (by decide +kernel)⟩
theorem lw_p23 : lw_okq (⟨"NinePotsModel", "finding", "(I)I"⟩, 25) := ⟨⟨by decide +kernel, by decide +kernel⟩, List.mem_of_getElem? (i := 815) (by decide +kernel), List.mem_of_getElem? (i := 918) (by decide +kernel), List.mem_of_getElem? (i := 919) (by decide +kernel)⟩
theorem lw_p24 : lw_okq (⟨"NinePotsModel", "comes", "(III)I"⟩, 25) := ⟨⟨by decide +kernel, by decide +kernel⟩, List.mem_of_getElem? (i := 815) (by decide +kernel), List.mem_of_getElem? (i := 936) (by decide +kernel), List.mem_of_getElem? (i := 937) (by decide +kernel)⟩
theorem lw_p25 : lw_okq (⟨"NinePotsModel", "is", "(I)Z"⟩, 25) := ⟨⟨by decide +kernel, by decide +kernel⟩, List.mem_of_getElem? (i := 815) (by decide +kernel), List.mem_of_getElem? (i := 944) (by decide +kernel), List.mem_of_getElem? (i := 945) (by decide +kernel)⟩
theorem lw_p26 : lw_okq (⟨"NinePotsModel", "of", "(II)I"⟩, 25) := ⟨⟨by decide +kernel, by decide +kernel⟩, List.mem_of_getElem? (i := 815) (by decide +kernel), List.mem_of_getElem? (i := 948) (by decide +kernel), List.mem_of_getElem? (i := 949) (by decide +kernel)⟩
theorem lw_p27 : lw_okq (⟨"NinePotsModel", "worthOf", "(II)I"⟩, 25) := ⟨⟨by decide +kernel, by decide +kernel⟩, List.mem_of_getElem? (i := 815) (by decide +kernel), List.mem_of_getElem? (i := 976) (by decide +kernel), List.mem_of_getElem? (i := 977) (by decide +kernel)⟩
theorem lw_p28 : lw_okq (⟨"NinePotsModel", "plainWorth", "(I)I"⟩, 25) := ⟨⟨by decide +kernel, by decide +kernel⟩, List.mem_of_getElem? (i := 815) (by decide +kernel), List.mem_of_getElem? (i := 980) (by decide +kernel), List.mem_of_getElem? (i := 981) (by decide +kernel)⟩
theorem lw_p29 : lw_okq (⟨"NinePotsModel", "given", "(IIIII)I"⟩, 25) := ⟨⟨by decide +kernel, by decide +kernel⟩, List.mem_of_getElem? (i := 815) (by decide +kernel), List.mem_of_getElem? (i := 984) (by decide +kernel), List.mem_of_getElem? (i := 985) (by decide +kernel)⟩
theorem lw_p30 : lw_okq (⟨"NinePotsModel", "worked", "(I)I"⟩, 25) := ⟨⟨by decide +kernel, by decide +kernel⟩, List.mem_of_getElem? (i := 815) (by decide +kernel), List.mem_of_getElem? (i := 988) (by decide +kernel), List.mem_of_getElem? (i := 989) (by decide +kernel)⟩
theorem lw_p31 : lw_okq (⟨"NinePotsModel", "dueOf", "(II)I"⟩, 25) := ⟨⟨by decide +kernel, by decide +kernel⟩, List.mem_of_getElem? (i := 815) (by decide +kernel), List.mem_of_getElem? (i := 1001) (by decide +kernel), List.mem_of_getElem? (i := 1002) (by decide +kernel)⟩
def lw_privs_2 : List (MethodName × Nat) := [(⟨"NinePots$Voices", "own", "(III)I"⟩, 5), (⟨"NinePots$Voices", "body", "(III)I"⟩, 5), (⟨"NinePots$Voices", "begins", "(I)V"⟩, 5), (⟨"NinePots$Voices", "above", "(IIII)I"⟩, 5), (⟨"NinePots$Sheet", "lowest", "(I)I"⟩, 3), (⟨"NinePots", "firstUnlike", "(II)I"⟩, 8), (⟨"NinePotsModel", "become", "(II)I"⟩, 25), (⟨"NinePotsModel", "finding", "(I)I"⟩, 25), (⟨"NinePotsModel", "comes", "(III)I"⟩, 25), (⟨"NinePotsModel", "is", "(I)Z"⟩, 25), (⟨"NinePotsModel", "of", "(II)I"⟩, 25), (⟨"NinePotsModel", "worthOf", "(II)I"⟩, 25), (⟨"NinePotsModel", "plainWorth", "(I)I"⟩, 25), (⟨"NinePotsModel", "given", "(IIIII)I"⟩, 25), (⟨"NinePotsModel", "worked", "(I)I"⟩, 25), (⟨"NinePotsModel", "dueOf", "(II)I"⟩, 25)]
theorem lw_r2 : ∀ q ∈ lw_privs_2, lw_okq q := List.forall_mem_cons.mpr ⟨lw_p16, List.forall_mem_cons.mpr ⟨lw_p17, List.forall_mem_cons.mpr ⟨lw_p18, List.forall_mem_cons.mpr ⟨lw_p19, List.forall_mem_cons.mpr ⟨lw_p20, List.forall_mem_cons.mpr ⟨lw_p21, List.forall_mem_cons.mpr ⟨lw_p22, List.forall_mem_cons.mpr ⟨lw_p23, List.forall_mem_cons.mpr ⟨lw_p24, List.forall_mem_cons.mpr ⟨lw_p25, List.forall_mem_cons.mpr ⟨lw_p26, List.forall_mem_cons.mpr ⟨lw_p27, List.forall_mem_cons.mpr ⟨lw_p28, List.forall_mem_cons.mpr ⟨lw_p29, List.forall_mem_cons.mpr ⟨lw_p30, List.forall_mem_cons.mpr ⟨lw_p31, fun _ h => absurd h List.not_mem_nil⟩⟩⟩⟩⟩⟩⟩⟩⟩⟩⟩⟩⟩⟩⟩⟩
theorem lw_p32 : lw_okq (⟨"NinePotsModel", "buysOf", "(III)I"⟩, 25) := ⟨⟨by decide +kernel, by decide +kernel⟩, List.mem_of_getElem? (i := 815) (by decide +kernel), List.mem_of_getElem? (i := 1005) (by decide +kernel), List.mem_of_getElem? (i := 1006) (by decide +kernel)⟩
theorem lw_p33 : lw_okq (⟨"NinePotsModel", "isKeeper", "(I)Z"⟩, 25) := ⟨⟨by decide +kernel, by decide +kernel⟩, List.mem_of_getElem? (i := 815) (by decide +kernel), List.mem_of_getElem? (i := 1009) (by decide +kernel), List.mem_of_getElem? (i := 1010) (by decide +kernel)⟩
theorem lw_p34 : lw_okq (⟨"NinePotsModel", "either", "()V"⟩, 25) := ⟨⟨by decide +kernel, by decide +kernel⟩, List.mem_of_getElem? (i := 815) (by decide +kernel), List.mem_of_getElem? (i := 1022) (by decide +kernel), List.mem_of_getElem? (i := 1023) (by decide +kernel)⟩
theorem lw_p35 : lw_okq (⟨"NinePotsModel", "both", "()V"⟩, 25) := ⟨⟨by decide +kernel, by decide +kernel⟩, List.mem_of_getElem? (i := 815) (by decide +kernel), List.mem_of_getElem? (i := 1026) (by decide +kernel), List.mem_of_getElem? (i := 1027) (by decide +kernel)⟩
theorem lw_p36 : lw_okq (⟨"NinePotsModel", "compared", "()V"⟩, 25) := ⟨⟨by decide +kernel, by decide +kernel⟩, List.mem_of_getElem? (i := 815) (by decide +kernel), List.mem_of_getElem? (i := 1030) (by decide +kernel), List.mem_of_getElem? (i := 1031) (by decide +kernel)⟩
theorem lw_p37 : lw_okq (⟨"NinePotsModel", "sum", "()V"⟩, 25) := ⟨⟨by decide +kernel, by decide +kernel⟩, List.mem_of_getElem? (i := 815) (by decide +kernel), List.mem_of_getElem? (i := 1034) (by decide +kernel), List.mem_of_getElem? (i := 1035) (by decide +kernel)⟩
theorem lw_p38 : lw_okq (⟨"NinePotsModel", "product", "()V"⟩, 25) := ⟨⟨by decide +kernel, by decide +kernel⟩, List.mem_of_getElem? (i := 815) (by decide +kernel), List.mem_of_getElem? (i := 1038) (by decide +kernel), List.mem_of_getElem? (i := 1039) (by decide +kernel)⟩
theorem lw_p39 : lw_okq (⟨"NinePotsModel", "one", "()V"⟩, 25) := ⟨⟨by decide +kernel, by decide +kernel⟩, List.mem_of_getElem? (i := 815) (by decide +kernel), List.mem_of_getElem? (i := 1042) (by decide +kernel), List.mem_of_getElem? (i := 1043) (by decide +kernel)⟩
theorem lw_p40 : lw_okq (⟨"NinePotsModel", "here", "()I"⟩, 25) := ⟨⟨by decide +kernel, by decide +kernel⟩, List.mem_of_getElem? (i := 815) (by decide +kernel), List.mem_of_getElem? (i := 1046) (by decide +kernel), List.mem_of_getElem? (i := 1047) (by decide +kernel)⟩
theorem lw_p41 : lw_okq (⟨"NinePotsModel", "codes", "(I)V"⟩, 25) := ⟨⟨by decide +kernel, by decide +kernel⟩, List.mem_of_getElem? (i := 815) (by decide +kernel), List.mem_of_getElem? (i := 1050) (by decide +kernel), List.mem_of_getElem? (i := 1051) (by decide +kernel)⟩
theorem lw_p42 : lw_okq (⟨"NinePotsModel", "takes", "(I)Z"⟩, 25) := ⟨⟨by decide +kernel, by decide +kernel⟩, List.mem_of_getElem? (i := 815) (by decide +kernel), List.mem_of_getElem? (i := 1054) (by decide +kernel), List.mem_of_getElem? (i := 1055) (by decide +kernel)⟩
theorem lw_p43 : lw_okq (⟨"NinePotsModel", "nameOf", "(I)I"⟩, 25) := ⟨⟨by decide +kernel, by decide +kernel⟩, List.mem_of_getElem? (i := 815) (by decide +kernel), List.mem_of_getElem? (i := 1058) (by decide +kernel), List.mem_of_getElem? (i := 1059) (by decide +kernel)⟩
theorem lw_p44 : lw_okq (⟨"NinePotsModel", "goes", "(IIZ)I"⟩, 25) := ⟨⟨by decide +kernel, by decide +kernel⟩, List.mem_of_getElem? (i := 815) (by decide +kernel), List.mem_of_getElem? (i := 1119) (by decide +kernel), List.mem_of_getElem? (i := 1120) (by decide +kernel)⟩
theorem lw_p45 : lw_okq (⟨"NinePotsModel", "drawn", "(I)I"⟩, 25) := ⟨⟨by decide +kernel, by decide +kernel⟩, List.mem_of_getElem? (i := 815) (by decide +kernel), List.mem_of_getElem? (i := 1123) (by decide +kernel), List.mem_of_getElem? (i := 1124) (by decide +kernel)⟩
theorem lw_p46 : lw_okq (⟨"NinePotsModel", "gives", "(I)I"⟩, 25) := ⟨⟨by decide +kernel, by decide +kernel⟩, List.mem_of_getElem? (i := 815) (by decide +kernel), List.mem_of_getElem? (i := 1140) (by decide +kernel), List.mem_of_getElem? (i := 1141) (by decide +kernel)⟩
theorem lw_p47 : lw_okq (⟨"NinePotsModel", "yearsGo", "(II)V"⟩, 25) := ⟨⟨by decide +kernel, by decide +kernel⟩, List.mem_of_getElem? (i := 815) (by decide +kernel), List.mem_of_getElem? (i := 1158) (by decide +kernel), List.mem_of_getElem? (i := 1159) (by decide +kernel)⟩
def lw_privs_3 : List (MethodName × Nat) := [(⟨"NinePotsModel", "buysOf", "(III)I"⟩, 25), (⟨"NinePotsModel", "isKeeper", "(I)Z"⟩, 25), (⟨"NinePotsModel", "either", "()V"⟩, 25), (⟨"NinePotsModel", "both", "()V"⟩, 25), (⟨"NinePotsModel", "compared", "()V"⟩, 25), (⟨"NinePotsModel", "sum", "()V"⟩, 25), (⟨"NinePotsModel", "product", "()V"⟩, 25), (⟨"NinePotsModel", "one", "()V"⟩, 25), (⟨"NinePotsModel", "here", "()I"⟩, 25), (⟨"NinePotsModel", "codes", "(I)V"⟩, 25), (⟨"NinePotsModel", "takes", "(I)Z"⟩, 25), (⟨"NinePotsModel", "nameOf", "(I)I"⟩, 25), (⟨"NinePotsModel", "goes", "(IIZ)I"⟩, 25), (⟨"NinePotsModel", "drawn", "(I)I"⟩, 25), (⟨"NinePotsModel", "gives", "(I)I"⟩, 25), (⟨"NinePotsModel", "yearsGo", "(II)V"⟩, 25)]
theorem lw_r3 : ∀ q ∈ lw_privs_3, lw_okq q := List.forall_mem_cons.mpr ⟨lw_p32, List.forall_mem_cons.mpr ⟨lw_p33, List.forall_mem_cons.mpr ⟨lw_p34, List.forall_mem_cons.mpr ⟨lw_p35, List.forall_mem_cons.mpr ⟨lw_p36, List.forall_mem_cons.mpr ⟨lw_p37, List.forall_mem_cons.mpr ⟨lw_p38, List.forall_mem_cons.mpr ⟨lw_p39, List.forall_mem_cons.mpr ⟨lw_p40, List.forall_mem_cons.mpr ⟨lw_p41, List.forall_mem_cons.mpr ⟨lw_p42, List.forall_mem_cons.mpr ⟨lw_p43, List.forall_mem_cons.mpr ⟨lw_p44, List.forall_mem_cons.mpr ⟨lw_p45, List.forall_mem_cons.mpr ⟨lw_p46, List.forall_mem_cons.mpr ⟨lw_p47, fun _ h => absurd h List.not_mem_nil⟩⟩⟩⟩⟩⟩⟩⟩⟩⟩⟩⟩⟩⟩⟩⟩
theorem lw_p48 : lw_okq (⟨"NinePotsModel", "toldOf", "(I)I"⟩, 25) := ⟨⟨by decide +kernel, by decide +kernel⟩, List.mem_of_getElem? (i := 815) (by decide +kernel), List.mem_of_getElem? (i := 1162) (by decide +kernel), List.mem_of_getElem? (i := 1163) (by decide +kernel)⟩
theorem lw_p49 : lw_okq (⟨"NinePotsModel", "ends", "()I"⟩, 25) := ⟨⟨by decide +kernel, by decide +kernel⟩, List.mem_of_getElem? (i := 815) (by decide +kernel), List.mem_of_getElem? (i := 1166) (by decide +kernel), List.mem_of_getElem? (i := 1167) (by decide +kernel)⟩
theorem lw_p50 : lw_okq (⟨"NinePotsModel", "putBack", "(I)I"⟩, 25) := ⟨⟨by decide +kernel, by decide +kernel⟩, List.mem_of_getElem? (i := 815) (by decide +kernel), List.mem_of_getElem? (i := 1170) (by decide +kernel), List.mem_of_getElem? (i := 1171) (by decide +kernel)⟩
theorem lw_p51 : lw_okq (⟨"NinePotsModel", "ofBest", "(IIZ)I"⟩, 25) := ⟨⟨by decide +kernel, by decide +kernel⟩, List.mem_of_getElem? (i := 815) (by decide +kernel), List.mem_of_getElem? (i := 1182) (by decide +kernel), List.mem_of_getElem? (i := 1183) (by decide +kernel)⟩
theorem lw_p52 : lw_okq (⟨"NinePotsModel", "findBest", "(IZ)V"⟩, 25) := ⟨⟨by decide +kernel, by decide +kernel⟩, List.mem_of_getElem? (i := 815) (by decide +kernel), List.mem_of_getElem? (i := 1186) (by decide +kernel), List.mem_of_getElem? (i := 1187) (by decide +kernel)⟩
theorem lw_p53 : lw_okq (⟨"NinePotsModel", "voiced", "(II)I"⟩, 25) := ⟨⟨by decide +kernel, by decide +kernel⟩, List.mem_of_getElem? (i := 815) (by decide +kernel), List.mem_of_getElem? (i := 1230) (by decide +kernel), List.mem_of_getElem? (i := 1231) (by decide +kernel)⟩
theorem lw_p54 : lw_okq (⟨"NinePotsModel", "bodyFrom", "(III)I"⟩, 25) := ⟨⟨by decide +kernel, by decide +kernel⟩, List.mem_of_getElem? (i := 815) (by decide +kernel), List.mem_of_getElem? (i := 1234) (by decide +kernel), List.mem_of_getElem? (i := 1235) (by decide +kernel)⟩
theorem lw_p55 : lw_okq (⟨"NinePotsModel", "body", "(III)I"⟩, 25) := ⟨⟨by decide +kernel, by decide +kernel⟩, List.mem_of_getElem? (i := 815) (by decide +kernel), List.mem_of_getElem? (i := 1241) (by decide +kernel), List.mem_of_getElem? (i := 1242) (by decide +kernel)⟩
theorem lw_p56 : lw_okq (⟨"NinePotsModel", "began", "(I)V"⟩, 25) := ⟨⟨by decide +kernel, by decide +kernel⟩, List.mem_of_getElem? (i := 815) (by decide +kernel), List.mem_of_getElem? (i := 1245) (by decide +kernel), List.mem_of_getElem? (i := 1246) (by decide +kernel)⟩
def lw_privs_4 : List (MethodName × Nat) := [(⟨"NinePotsModel", "toldOf", "(I)I"⟩, 25), (⟨"NinePotsModel", "ends", "()I"⟩, 25), (⟨"NinePotsModel", "putBack", "(I)I"⟩, 25), (⟨"NinePotsModel", "ofBest", "(IIZ)I"⟩, 25), (⟨"NinePotsModel", "findBest", "(IZ)V"⟩, 25), (⟨"NinePotsModel", "voiced", "(II)I"⟩, 25), (⟨"NinePotsModel", "bodyFrom", "(III)I"⟩, 25), (⟨"NinePotsModel", "body", "(III)I"⟩, 25), (⟨"NinePotsModel", "began", "(I)V"⟩, 25)]
theorem lw_r4 : ∀ q ∈ lw_privs_4, lw_okq q := List.forall_mem_cons.mpr ⟨lw_p48, List.forall_mem_cons.mpr ⟨lw_p49, List.forall_mem_cons.mpr ⟨lw_p50, List.forall_mem_cons.mpr ⟨lw_p51, List.forall_mem_cons.mpr ⟨lw_p52, List.forall_mem_cons.mpr ⟨lw_p53, List.forall_mem_cons.mpr ⟨lw_p54, List.forall_mem_cons.mpr ⟨lw_p55, List.forall_mem_cons.mpr ⟨lw_p56, fun _ h => absurd h List.not_mem_nil⟩⟩⟩⟩⟩⟩⟩⟩⟩
def lw_privs : List (MethodName × Nat) := lw_privs_1 ++ (lw_privs_2 ++ (lw_privs_3 ++ (lw_privs_4)))
def lw_tbl : List Cond := k2_sels lw_privs ++ tables_1
theorem lw_privs_ok : ∀ q ∈ lw_privs, lw_okq q := by
  show ∀ q ∈ lw_privs_1 ++ (lw_privs_2 ++ (lw_privs_3 ++ (lw_privs_4))), lw_okq q
  exact List.forall_mem_append.mpr ⟨lw_r1, List.forall_mem_append.mpr ⟨lw_r2, List.forall_mem_append.mpr ⟨lw_r3, lw_r4⟩⟩⟩
def RX0 : String := "NinePots$Formula"
def TX0 : u_T := fun k => match k with
  | 0 => ("NinePots$Formula", "code", "[I", true)
  | 1 => ("NinePots$Formula", "length", "I", false)
  | 2 => ("NinePots$Formula", "names", "[I", true)
  | _ => ("NinePots$Formula", "stack", "[I", true)
def tyX0 : Nat → FieldType := fun k => match k with
  | 0 => .array .int
  | 1 => .int
  | 2 => .array .int
  | _ => .array .int
abbrev wsX00 : List Cond := u_ws RX0 TX0 4
theorem nmX0 : ∀ a, a < 4 → ∀ b, b < 4 → a ≠ b → (TX0 a).2.1 ≠ (TX0 b).2.1 := by decide +kernel
theorem tyX0_ok : ∀ k, k < 4 → parseFieldDescriptor (TX0 k).2.2.1 = some (tyX0 k) := by decide +kernel
abbrev cX0_init : ByteArray := prog_2_method_1_code
def yX0_init : MethodName := ⟨RX0, "<init>", "()V"⟩
abbrev cX0_isMissing : ByteArray := prog_2_method_2_code
def yX0_isMissing : MethodName := ⟨RX0, "isMissing", "()Z"⟩
abbrev cX0_take : ByteArray := prog_2_method_3_code
def yX0_take : MethodName := ⟨RX0, "take", "([II)V"⟩
abbrev cX0_gives : ByteArray := prog_2_method_4_code
def yX0_gives : MethodName := ⟨RX0, "gives", "(IIII)I"⟩
abbrev cX0_named : ByteArray := prog_2_method_5_code
def yX0_named : MethodName := ⟨RX0, "named", "(I)I"⟩
abbrev cX0_joined : ByteArray := prog_2_method_6_code
def yX0_joined : MethodName := ⟨RX0, "joined", "(III)I"⟩
def RX1 : String := "NinePots$Outlook"
def TX1 : u_T := fun k => match k with
  | 0 => ("NinePots$Outlook", "gone", "[LNinePots$Stand;", true)
  | 1 => ("NinePots$Outlook", "scratch", "LNinePots$Stand;", true)
  | 2 => ("NinePots$Outlook", "row", "[I", true)
  | 3 => ("NinePots$Outlook", "bestRow", "[I", true)
  | 4 => ("NinePots$Outlook", "most", "I", false)
  | _ => ("NinePots$Outlook", "found", "Z", false)
def tyX1 : Nat → FieldType := fun k => match k with
  | 0 => .array (.object "NinePots$Stand")
  | 1 => .object "NinePots$Stand"
  | 2 => .array .int
  | 3 => .array .int
  | 4 => .int
  | _ => .boolean
abbrev wsX10 : List Cond := u_ws RX1 TX1 6
theorem nmX1 : ∀ a, a < 6 → ∀ b, b < 6 → a ≠ b → (TX1 a).2.1 ≠ (TX1 b).2.1 := by decide +kernel
theorem tyX1_ok : ∀ k, k < 6 → parseFieldDescriptor (TX1 k).2.2.1 = some (tyX1 k) := by decide +kernel
abbrev cX1_init : ByteArray := prog_3_method_1_code
def yX1_init : MethodName := ⟨RX1, "<init>", "(LNinePots$Rules;)V"⟩
abbrev cX1_from : ByteArray := prog_3_method_2_code
def yX1_from : MethodName := ⟨RX1, "from", "(LNinePots$Stand;)LNinePots$Stand;"⟩
abbrev cX1_bestStep : ByteArray := prog_3_method_3_code
def yX1_bestStep : MethodName := ⟨RX1, "bestStep", "(I)I"⟩
abbrev cX1_bestEnds : ByteArray := prog_3_method_4_code
def yX1_bestEnds : MethodName := ⟨RX1, "bestEnds", "(LNinePots$Stand;IIZ)I"⟩
abbrev cX1_goOn : ByteArray := prog_3_method_5_code
def yX1_goOn : MethodName := ⟨RX1, "goOn", "(IIZ)V"⟩
abbrev cX1_keepIfMore : ByteArray := prog_3_method_6_code
def yX1_keepIfMore : MethodName := ⟨RX1, "keepIfMore", "(I)V"⟩
abbrev cX1_leastKeptToRaise : ByteArray := prog_3_method_7_code
def yX1_leastKeptToRaise : MethodName := ⟨RX1, "leastKeptToRaise", "(LNinePots$Stand;I)I"⟩
abbrev cX1_bestBack : ByteArray := prog_3_method_8_code
def yX1_bestBack : MethodName := ⟨RX1, "bestBack", "(LNinePots$Stand;II)I"⟩
abbrev cX1_bestGiven : ByteArray := prog_3_method_9_code
def yX1_bestGiven : MethodName := ⟨RX1, "bestGiven", "(LNinePots$Stand;II)I"⟩
abbrev cX1_endsWithMore : ByteArray := prog_3_method_10_code
def yX1_endsWithMore : MethodName := ⟨RX1, "endsWithMore", "(LNinePots$Stand;III)I"⟩
abbrev cX1_yearsToRest : ByteArray := prog_3_method_11_code
def yX1_yearsToRest : MethodName := ⟨RX1, "yearsToRest", "(LNinePots$Stand;I)I"⟩
abbrev cX1_leastClearing : ByteArray := prog_3_method_12_code
def yX1_leastClearing : MethodName := ⟨RX1, "leastClearing", "(LNinePots$Stand;)I"⟩
def RX2 : String := "NinePots$Reader"
def TX2 : u_T := fun k => match k with
  | 0 => ("NinePots$Reader", "code", "[I", true)
  | 1 => ("NinePots$Reader", "made", "I", false)
  | 2 => ("NinePots$Reader", "bytes", "[I", true)
  | 3 => ("NinePots$Reader", "length", "I", false)
  | 4 => ("NinePots$Reader", "place", "I", false)
  | _ => ("NinePots$Reader", "use", "I", false)
def tyX2 : Nat → FieldType := fun k => match k with
  | 0 => .array .int
  | 1 => .int
  | 2 => .array .int
  | 3 => .int
  | 4 => .int
  | _ => .int
abbrev wsX20 : List Cond := u_ws RX2 TX2 6
theorem nmX2 : ∀ a, a < 6 → ∀ b, b < 6 → a ≠ b → (TX2 a).2.1 ≠ (TX2 b).2.1 := by decide +kernel
theorem tyX2_ok : ∀ k, k < 6 → parseFieldDescriptor (TX2 k).2.2.1 = some (tyX2 k) := by decide +kernel
abbrev cX2_init : ByteArray := prog_4_method_1_code
def yX2_init : MethodName := ⟨RX2, "<init>", "()V"⟩
abbrev cX2_reads : ByteArray := prog_4_method_2_code
def yX2_reads : MethodName := ⟨RX2, "reads", "([III)I"⟩
abbrev cX2_ahead : ByteArray := prog_4_method_3_code
def yX2_ahead : MethodName := ⟨RX2, "ahead", "()I"⟩
abbrev cX2_readsRule : ByteArray := prog_4_method_4_code
def yX2_readsRule : MethodName := ⟨RX2, "readsRule", "(II)Z"⟩
abbrev cX2_ruleOf : ByteArray := prog_4_method_5_code
def yX2_ruleOf : MethodName := ⟨RX2, "ruleOf", "(I)I"⟩
abbrev cX2_readsQ : ByteArray := prog_4_method_6_code
def yX2_readsQ : MethodName := ⟨RX2, "readsQ", "(I)Z"⟩
abbrev cX2_readsNot : ByteArray := prog_4_method_7_code
def yX2_readsNot : MethodName := ⟨RX2, "readsNot", "(I)Z"⟩
abbrev cX2_readsInside : ByteArray := prog_4_method_8_code
def yX2_readsInside : MethodName := ⟨RX2, "readsInside", "(I)Z"⟩
abbrev cX2_readsNumber : ByteArray := prog_4_method_9_code
def yX2_readsNumber : MethodName := ⟨RX2, "readsNumber", "()V"⟩
abbrev cX2_isDigit : ByteArray := prog_4_method_10_code
def yX2_isDigit : MethodName := ⟨RX2, "isDigit", "(I)Z"⟩
abbrev cX2_nameOf : ByteArray := prog_4_method_11_code
def yX2_nameOf : MethodName := ⟨RX2, "nameOf", "(I)I"⟩
abbrev cX2_makes : ByteArray := prog_4_method_12_code
def yX2_makes : MethodName := ⟨RX2, "makes", "(I)V"⟩
def RX3 : String := "NinePots$Rules"
def TX3 : u_T := fun k => match k with
  | 0 => ("NinePots$Rules", "coins", "[I", true)
  | 1 => ("NinePots$Rules", "kinds", "[I", true)
  | 2 => ("NinePots$Rules", "wants", "[I", true)
  | 3 => ("NinePots$Rules", "takes", "[I", true)
  | 4 => ("NinePots$Rules", "worthText", "LNinePots$Formula;", true)
  | 5 => ("NinePots$Rules", "fameText", "LNinePots$Formula;", true)
  | _ => ("NinePots$Rules", "buyers", "I", false)
def tyX3 : Nat → FieldType := fun k => match k with
  | 0 => .array .int
  | 1 => .array .int
  | 2 => .array .int
  | 3 => .array .int
  | 4 => .object "NinePots$Formula"
  | 5 => .object "NinePots$Formula"
  | _ => .int
abbrev wsX30 : List Cond := u_ws RX3 TX3 7
theorem nmX3 : ∀ a, a < 7 → ∀ b, b < 7 → a ≠ b → (TX3 a).2.1 ≠ (TX3 b).2.1 := by decide +kernel
theorem tyX3_ok : ∀ k, k < 7 → parseFieldDescriptor (TX3 k).2.2.1 = some (tyX3 k) := by decide +kernel
abbrev cX3_init : ByteArray := prog_5_method_1_code
def yX3_init : MethodName := ⟨RX3, "<init>", "()V"⟩
abbrev cX3_take : ByteArray := prog_5_method_2_code
def yX3_take : MethodName := ⟨RX3, "take", "(LNinePots$Rules;)V"⟩
abbrev cX3_isBuyer : ByteArray := prog_5_method_3_code
def yX3_isBuyer : MethodName := ⟨RX3, "isBuyer", "(I)Z"⟩
abbrev cX3_formula : ByteArray := prog_5_method_4_code
def yX3_formula : MethodName := ⟨RX3, "formula", "(I)LNinePots$Formula;"⟩
abbrev cX3_plainWorth : ByteArray := prog_5_method_5_code
def yX3_plainWorth : MethodName := ⟨RX3, "plainWorth", "(IIII)I"⟩
abbrev cX3_fame : ByteArray := prog_5_method_6_code
def yX3_fame : MethodName := ⟨RX3, "fame", "(IIII)I"⟩
def RX4 : String := "NinePots$Sheet"
def TX4 : u_T := fun k => match k with
  | 0 => ("NinePots$Sheet", "numbers", "[I", true)
  | 1 => ("NinePots$Sheet", "bits", "I", false)
  | _ => ("NinePots$Sheet", "length", "I", false)
def tyX4 : Nat → FieldType := fun k => match k with
  | 0 => .array .int
  | 1 => .int
  | _ => .int
abbrev wsX40 : List Cond := u_ws RX4 TX4 3
theorem nmX4 : ∀ a, a < 3 → ∀ b, b < 3 → a ≠ b → (TX4 a).2.1 ≠ (TX4 b).2.1 := by decide +kernel
theorem tyX4_ok : ∀ k, k < 3 → parseFieldDescriptor (TX4 k).2.2.1 = some (tyX4 k) := by decide +kernel
abbrev cX4_init : ByteArray := prog_6_method_1_code
def yX4_init : MethodName := ⟨RX4, "<init>", "()V"⟩
abbrev cX4_isMissing : ByteArray := prog_6_method_2_code
def yX4_isMissing : MethodName := ⟨RX4, "isMissing", "()Z"⟩
abbrev cX4_becomes : ByteArray := prog_6_method_3_code
def yX4_becomes : MethodName := ⟨RX4, "becomes", "(II)V"⟩
abbrev cX4_number : ByteArray := prog_6_method_4_code
def yX4_number : MethodName := ⟨RX4, "number", "(I)I"⟩
abbrev cX4_change : ByteArray := prog_6_method_5_code
def yX4_change : MethodName := ⟨RX4, "change", "(II)V"⟩
abbrev cX4_lowest : ByteArray := prog_6_method_6_code
def yX4_lowest : MethodName := ⟨RX4, "lowest", "(I)I"⟩
abbrev cX4_holds : ByteArray := prog_6_method_7_code
def yX4_holds : MethodName := ⟨RX4, "holds", "(II)Z"⟩
def RX5 : String := "NinePots$Stand"
def TX5 : u_T := fun k => match k with
  | 0 => ("NinePots$Stand", "rules", "LNinePots$Rules;", true)
  | 1 => ("NinePots$Stand", "has", "[I", true)
  | 2 => ("NinePots$Stand", "plain", "[I", true)
  | 3 => ("NinePots$Stand", "last", "I", false)
  | 4 => ("NinePots$Stand", "name", "I", false)
  | 5 => ("NinePots$Stand", "makes", "I", false)
  | 6 => ("NinePots$Stand", "kept", "I", false)
  | 7 => ("NinePots$Stand", "purse", "I", false)
  | 8 => ("NinePots$Stand", "pains", "I", false)
  | 9 => ("NinePots$Stand", "sold", "I", false)
  | 10 => ("NinePots$Stand", "stands", "I", false)
  | _ => ("NinePots$Stand", "climb", "I", false)
def tyX5 : Nat → FieldType := fun k => match k with
  | 0 => .object "NinePots$Rules"
  | 1 => .array .int
  | 2 => .array .int
  | 3 => .int
  | 4 => .int
  | 5 => .int
  | 6 => .int
  | 7 => .int
  | 8 => .int
  | 9 => .int
  | 10 => .int
  | _ => .int
abbrev wsX50 : List Cond := u_ws RX5 TX5 12
theorem nmX5 : ∀ a, a < 12 → ∀ b, b < 12 → a ≠ b → (TX5 a).2.1 ≠ (TX5 b).2.1 := by decide +kernel
theorem tyX5_ok : ∀ k, k < 12 → parseFieldDescriptor (TX5 k).2.2.1 = some (tyX5 k) := by decide +kernel
abbrev cX5_init : ByteArray := prog_7_method_1_code
def yX5_init : MethodName := ⟨RX5, "<init>", "(LNinePots$Rules;)V"⟩
abbrev cX5_take : ByteArray := prog_7_method_2_code
def yX5_take : MethodName := ⟨RX5, "take", "(LNinePots$Stand;)V"⟩
abbrev cX5_setting : ByteArray := prog_7_method_3_code
def yX5_setting : MethodName := ⟨RX5, "setting", "(I)I"⟩
abbrev cX5_change : ByteArray := prog_7_method_4_code
def yX5_change : MethodName := ⟨RX5, "change", "(II)V"⟩
abbrev cX5_figure : ByteArray := prog_7_method_5_code
def yX5_figure : MethodName := ⟨RX5, "figure", "(I)I"⟩
abbrev cX5_ends : ByteArray := prog_7_method_6_code
def yX5_ends : MethodName := ⟨RX5, "ends", "()I"⟩
abbrev cX5_hasInAll : ByteArray := prog_7_method_7_code
def yX5_hasInAll : MethodName := ⟨RX5, "hasInAll", "()I"⟩
abbrev cX5_pots : ByteArray := prog_7_method_8_code
def yX5_pots : MethodName := ⟨RX5, "pots", "()I"⟩
abbrev cX5_appraise : ByteArray := prog_7_method_9_code
def yX5_appraise : MethodName := ⟨RX5, "appraise", "()V"⟩
abbrev cX5_worth : ByteArray := prog_7_method_10_code
def yX5_worth : MethodName := ⟨RX5, "worth", "(II)I"⟩
abbrev cX5_due : ByteArray := prog_7_method_11_code
def yX5_due : MethodName := ⟨RX5, "due", "(II)I"⟩
abbrev cX5_buys : ByteArray := prog_7_method_12_code
def yX5_buys : MethodName := ⟨RX5, "buys", "(III)I"⟩
abbrev cX5_takes : ByteArray := prog_7_method_13_code
def yX5_takes : MethodName := ⟨RX5, "takes", "(II)I"⟩
abbrev cX5_sells : ByteArray := prog_7_method_14_code
def yX5_sells : MethodName := ⟨RX5, "sells", "(III)V"⟩
abbrev cX5_settles : ByteArray := prog_7_method_15_code
def yX5_settles : MethodName := ⟨RX5, "settles", "()V"⟩
abbrev cX5_goes : ByteArray := prog_7_method_16_code
def yX5_goes : MethodName := ⟨RX5, "goes", "(III)V"⟩
abbrev cX5_goesYears : ByteArray := prog_7_method_17_code
def yX5_goesYears : MethodName := ⟨RX5, "goesYears", "(II)V"⟩
abbrev cX5_gives : ByteArray := prog_7_method_18_code
def yX5_gives : MethodName := ⟨RX5, "gives", "(I)V"⟩
def RX6 : String := "NinePots$Voices"
def TX6 : u_T := fun k => match k with
  | 0 => ("NinePots$Voices", "bodies", "[I", true)
  | 1 => ("NinePots$Voices", "begun", "I", false)
  | 2 => ("NinePots$Voices", "kind", "I", false)
  | 3 => ("NinePots$Voices", "number", "I", false)
  | _ => ("NinePots$Voices", "most", "I", false)
def tyX6 : Nat → FieldType := fun k => match k with
  | 0 => .array .int
  | 1 => .int
  | 2 => .int
  | 3 => .int
  | _ => .int
abbrev wsX60 : List Cond := u_ws RX6 TX6 5
theorem nmX6 : ∀ a, a < 5 → ∀ b, b < 5 → a ≠ b → (TX6 a).2.1 ≠ (TX6 b).2.1 := by decide +kernel
theorem tyX6_ok : ∀ k, k < 5 → parseFieldDescriptor (TX6 k).2.2.1 = some (tyX6 k) := by decide +kernel
abbrev cX6_init : ByteArray := prog_8_method_1_code
def yX6_init : MethodName := ⟨RX6, "<init>", "()V"⟩
abbrev cX6_speaks : ByteArray := prog_8_method_2_code
def yX6_speaks : MethodName := ⟨RX6, "speaks", "(LNinePots$Rules;III)I"⟩
abbrev cX6_own : ByteArray := prog_8_method_3_code
def yX6_own : MethodName := ⟨RX6, "own", "(III)I"⟩
abbrev cX6_above : ByteArray := prog_8_method_4_code
def yX6_above : MethodName := ⟨RX6, "above", "(IIII)I"⟩
abbrev cX6_bodyFrom : ByteArray := prog_8_method_5_code
def yX6_bodyFrom : MethodName := ⟨RX6, "bodyFrom", "(II)I"⟩
abbrev cX6_body : ByteArray := prog_8_method_6_code
def yX6_body : MethodName := ⟨RX6, "body", "(III)I"⟩
abbrev cX6_begins : ByteArray := prog_8_method_7_code
def yX6_begins : MethodName := ⟨RX6, "begins", "(I)V"⟩
def RX7 : String := "NinePots$Whole"
def TX7 : u_T := fun k => match k with
  | 0 => ("NinePots$Whole", "rules", "LNinePots$Rules;", true)
  | 1 => ("NinePots$Whole", "stand", "LNinePots$Stand;", true)
  | 2 => ("NinePots$Whole", "tape", "[I", true)
  | 3 => ("NinePots$Whole", "waits", "[I", true)
  | 4 => ("NinePots$Whole", "bytes", "I", false)
  | 5 => ("NinePots$Whole", "waiting", "I", false)
  | 6 => ("NinePots$Whole", "now", "I", false)
  | _ => ("NinePots$Whole", "z", "I", false)
def tyX7 : Nat → FieldType := fun k => match k with
  | 0 => .object "NinePots$Rules"
  | 1 => .object "NinePots$Stand"
  | 2 => .array .int
  | 3 => .array .int
  | 4 => .int
  | 5 => .int
  | 6 => .int
  | _ => .int
abbrev wsX70 : List Cond := u_ws RX7 TX7 8
theorem nmX7 : ∀ a, a < 8 → ∀ b, b < 8 → a ≠ b → (TX7 a).2.1 ≠ (TX7 b).2.1 := by decide +kernel
theorem tyX7_ok : ∀ k, k < 8 → parseFieldDescriptor (TX7 k).2.2.1 = some (tyX7 k) := by decide +kernel
abbrev cX7_init : ByteArray := prog_9_method_1_code
def yX7_init : MethodName := ⟨RX7, "<init>", "()V"⟩
abbrev cX7_take : ByteArray := prog_9_method_2_code
def yX7_take : MethodName := ⟨RX7, "take", "(LNinePots$Whole;)V"⟩
abbrev cX7_comes : ByteArray := prog_9_method_3_code
def yX7_comes : MethodName := ⟨RX7, "comes", "(III)I"⟩
abbrev cX7_drawn : ByteArray := prog_9_method_4_code
def yX7_drawn : MethodName := ⟨RX7, "drawn", "()I"⟩
def RX8 : String := "NinePots"
def TX8 : u_T := fun k => match k with
  | 0 => ("NinePots", "whole", "LNinePots$Whole;", true)
  | 1 => ("NinePots", "pictured", "LNinePots$Whole;", true)
  | 2 => ("NinePots", "outlook", "LNinePots$Outlook;", true)
  | 3 => ("NinePots", "voices", "LNinePots$Voices;", true)
  | 4 => ("NinePots", "reader", "LNinePots$Reader;", true)
  | 5 => ("NinePots", "sheets", "[LNinePots$Sheet;", true)
  | 6 => ("NinePots", "failed", "[I", true)
  | _ => ("NinePots", "pictures", "I", false)
def tyX8 : Nat → FieldType := fun k => match k with
  | 0 => .object "NinePots$Whole"
  | 1 => .object "NinePots$Whole"
  | 2 => .object "NinePots$Outlook"
  | 3 => .object "NinePots$Voices"
  | 4 => .object "NinePots$Reader"
  | 5 => .array (.object "NinePots$Sheet")
  | 6 => .array .int
  | _ => .int
abbrev wsX80 : List Cond := u_ws RX8 TX8 8
theorem nmX8 : ∀ a, a < 8 → ∀ b, b < 8 → a ≠ b → (TX8 a).2.1 ≠ (TX8 b).2.1 := by decide +kernel
theorem tyX8_ok : ∀ k, k < 8 → parseFieldDescriptor (TX8 k).2.2.1 = some (tyX8 k) := by decide +kernel
abbrev cX8_init : ByteArray := prog_1_method_1_code
def yX8_init : MethodName := ⟨RX8, "<init>", "()V"⟩
abbrev cX8_coins : ByteArray := prog_1_method_2_code
def yX8_coins : MethodName := ⟨RX8, "coins", "(II)I"⟩
abbrev cX8_set : ByteArray := prog_1_method_3_code
def yX8_set : MethodName := ⟨RX8, "set", "(II)I"⟩
abbrev cX8_buyer : ByteArray := prog_1_method_4_code
def yX8_buyer : MethodName := ⟨RX8, "buyer", "(III)I"⟩
abbrev cX8_ofBuyer : ByteArray := prog_1_method_5_code
def yX8_ofBuyer : MethodName := ⟨RX8, "ofBuyer", "(II)I"⟩
abbrev cX8_as : ByteArray := prog_1_method_6_code
def yX8_as : MethodName := ⟨RX8, "as", "(II)I"⟩
abbrev cX8_has : ByteArray := prog_1_method_7_code
def yX8_has : MethodName := ⟨RX8, "has", "(II)I"⟩
abbrev cX8_buyers : ByteArray := prog_1_method_8_code
def yX8_buyers : MethodName := ⟨RX8, "buyers", "(I)I"⟩
abbrev cX8_bringBuyers : ByteArray := prog_1_method_9_code
def yX8_bringBuyers : MethodName := ⟨RX8, "bringBuyers", "(LNinePots$Sheet;)I"⟩
abbrev cX8_at : ByteArray := prog_1_method_10_code
def yX8_at : MethodName := ⟨RX8, "at", "(IIII)I"⟩
abbrev cX8_feed : ByteArray := prog_1_method_11_code
def yX8_feed : MethodName := ⟨RX8, "feed", "(JI)I"⟩
abbrev cX8_text : ByteArray := prog_1_method_12_code
def yX8_text : MethodName := ⟨RX8, "text", "(I)I"⟩
abbrev cX8_law : ByteArray := prog_1_method_13_code
def yX8_law : MethodName := ⟨RX8, "law", "(IIIII)I"⟩
abbrev cX8_year : ByteArray := prog_1_method_14_code
def yX8_year : MethodName := ⟨RX8, "year", "(II)I"⟩
abbrev cX8_give : ByteArray := prog_1_method_15_code
def yX8_give : MethodName := ⟨RX8, "give", "(I)I"⟩
abbrev cX8_life : ByteArray := prog_1_method_16_code
def yX8_life : MethodName := ⟨RX8, "life", "(II)I"⟩
abbrev cX8_then : ByteArray := prog_1_method_17_code
def yX8_then : MethodName := ⟨RX8, "then", "(III)I"⟩
abbrev cX8_by : ByteArray := prog_1_method_18_code
def yX8_by : MethodName := ⟨RX8, "by", "(II)I"⟩
abbrev cX8_best : ByteArray := prog_1_method_19_code
def yX8_best : MethodName := ⟨RX8, "best", "(II)I"⟩
abbrev cX8_never : ByteArray := prog_1_method_20_code
def yX8_never : MethodName := ⟨RX8, "never", "(II)I"⟩
abbrev cX8_ofBestRow : ByteArray := prog_1_method_21_code
def yX8_ofBestRow : MethodName := ⟨RX8, "ofBestRow", "(IIZ)I"⟩
abbrev cX8_costs : ByteArray := prog_1_method_22_code
def yX8_costs : MethodName := ⟨RX8, "costs", "(I)I"⟩
abbrev cX8_raise : ByteArray := prog_1_method_23_code
def yX8_raise : MethodName := ⟨RX8, "raise", "(I)I"⟩
abbrev cX8_back : ByteArray := prog_1_method_24_code
def yX8_back : MethodName := ⟨RX8, "back", "(II)I"⟩
abbrev cX8_whom : ByteArray := prog_1_method_25_code
def yX8_whom : MethodName := ⟨RX8, "whom", "(II)I"⟩
abbrev cX8_more : ByteArray := prog_1_method_26_code
def yX8_more : MethodName := ⟨RX8, "more", "(III)I"⟩
abbrev cX8_rests : ByteArray := prog_1_method_27_code
def yX8_rests : MethodName := ⟨RX8, "rests", "(I)I"⟩
abbrev cX8_clear : ByteArray := prog_1_method_28_code
def yX8_clear : MethodName := ⟨RX8, "clear", "()I"⟩
abbrev cX8_seed : ByteArray := prog_1_method_29_code
def yX8_seed : MethodName := ⟨RX8, "seed", "(I)I"⟩
abbrev cX8_voice : ByteArray := prog_1_method_30_code
def yX8_voice : MethodName := ⟨RX8, "voice", "(III)I"⟩
abbrev cX8_trace : ByteArray := prog_1_method_31_code
def yX8_trace : MethodName := ⟨RX8, "trace", "(I)I"⟩
abbrev cX8_sheet : ByteArray := prog_1_method_32_code
def yX8_sheet : MethodName := ⟨RX8, "sheet", "(III)I"⟩
abbrev cX8_put : ByteArray := prog_1_method_33_code
def yX8_put : MethodName := ⟨RX8, "put", "(III)I"⟩
abbrev cX8_move : ByteArray := prog_1_method_34_code
def yX8_move : MethodName := ⟨RX8, "move", "(IIIII)I"⟩
abbrev cX8_image : ByteArray := prog_1_method_35_code
def yX8_image : MethodName := ⟨RX8, "image", "()I"⟩
abbrev cX8_restore : ByteArray := prog_1_method_36_code
def yX8_restore : MethodName := ⟨RX8, "restore", "()I"⟩
abbrev cX8_tell : ByteArray := prog_1_method_37_code
def yX8_tell : MethodName := ⟨RX8, "tell", "(I)I"⟩
abbrev cX8_check : ByteArray := prog_1_method_38_code
def yX8_check : MethodName := ⟨RX8, "check", "(I)I"⟩
abbrev cX8_firstUnlike : ByteArray := prog_1_method_39_code
def yX8_firstUnlike : MethodName := ⟨RX8, "firstUnlike", "(II)I"⟩
abbrev cX8_count : ByteArray := prog_1_method_40_code
def yX8_count : MethodName := ⟨RX8, "count", "(I)I"⟩
abbrev cX8_told : ByteArray := prog_1_method_41_code
def yX8_told : MethodName := ⟨RX8, "told", "(I)I"⟩
abbrev cX8_fails : ByteArray := prog_1_method_42_code
def yX8_fails : MethodName := ⟨RX8, "fails", "(I)I"⟩
abbrev cX8_sheetAt : ByteArray := prog_1_method_43_code
def yX8_sheetAt : MethodName := ⟨RX8, "sheetAt", "(I)LNinePots$Sheet;"⟩
abbrev cX8_isWithin : ByteArray := prog_1_method_44_code
def yX8_isWithin : MethodName := ⟨RX8, "isWithin", "(III)Z"⟩
abbrev cX8_isStep : ByteArray := prog_1_method_45_code
def yX8_isStep : MethodName := ⟨RX8, "isStep", "(I)Z"⟩
abbrev cX8_isBuyerAsTold : ByteArray := prog_1_method_46_code
def yX8_isBuyerAsTold : MethodName := ⟨RX8, "isBuyerAsTold", "(III)Z"⟩
abbrev cX8_held : ByteArray := prog_1_method_47_code
def yX8_held : MethodName := ⟨RX8, "held", "(III)I"⟩
abbrev cX8_isOf : ByteArray := prog_1_method_48_code
def yX8_isOf : MethodName := ⟨RX8, "isOf", "(II)Z"⟩
def RX9 : String := "NinePotsModel"
def TX9 : u_T := fun k => match k with
  | 0 => ("NinePotsModel", "now", "[I", true)
  | 1 => ("NinePotsModel", "kept", "[I", true)
  | 2 => ("NinePotsModel", "aside", "[I", true)
  | 3 => ("NinePotsModel", "images", "I", false)
  | 4 => ("NinePotsModel", "errors", "[I", true)
  | 5 => ("NinePotsModel", "settingsMost", "[I", true)
  | 6 => ("NinePotsModel", "NAMED", "[Ljava/lang/String;", true)
  | 7 => ("NinePotsModel", "at", "I", false)
  | 8 => ("NinePotsModel", "open", "I", false)
  | 9 => ("NinePotsModel", "use", "I", false)
  | 10 => ("NinePotsModel", "isWrong", "Z", false)
  | 11 => ("NinePotsModel", "code", "[I", true)
  | 12 => ("NinePotsModel", "coded", "I", false)
  | 13 => ("NinePotsModel", "named", "[I", true)
  | 14 => ("NinePotsModel", "pile", "[I", true)
  | 15 => ("NinePotsModel", "bought", "[I", true)
  | 16 => ("NinePotsModel", "bestRow", "[I", true)
  | 17 => ("NinePotsModel", "bestEnds", "I", false)
  | 18 => ("NinePotsModel", "trace", "[I", true)
  | 19 => ("NinePotsModel", "traced", "I", false)
  | 20 => ("NinePotsModel", "speaker", "I", false)
  | 21 => ("NinePotsModel", "widths", "[I", true)
  | 22 => ("NinePotsModel", "sizes", "[I", true)
  | 23 => ("NinePotsModel", "numbers", "[I", true)
  | _ => ("NinePotsModel", "carried", "[I", true)
def tyX9 : Nat → FieldType := fun k => match k with
  | 0 => .array .int
  | 1 => .array .int
  | 2 => .array .int
  | 3 => .int
  | 4 => .array .int
  | 5 => .array .int
  | 6 => .array (.object "java/lang/String")
  | 7 => .int
  | 8 => .int
  | 9 => .int
  | 10 => .boolean
  | 11 => .array .int
  | 12 => .int
  | 13 => .array .int
  | 14 => .array .int
  | 15 => .array .int
  | 16 => .array .int
  | 17 => .int
  | 18 => .array .int
  | 19 => .int
  | 20 => .int
  | 21 => .array .int
  | 22 => .array .int
  | 23 => .array .int
  | _ => .array .int
abbrev wsX90 : List Cond := u_ws RX9 TX9 25
theorem nmX9 : ∀ a, a < 25 → ∀ b, b < 25 → a ≠ b → (TX9 a).2.1 ≠ (TX9 b).2.1 := by decide +kernel
theorem tyX9_ok : ∀ k, k < 25 → parseFieldDescriptor (TX9 k).2.2.1 = some (tyX9 k) := by decide +kernel
abbrev cX9_init : ByteArray := prog_11_method_1_code
def yX9_init : MethodName := ⟨RX9, "<init>", "()V"⟩
abbrev cX9_finding : ByteArray := prog_11_method_2_code
def yX9_finding : MethodName := ⟨RX9, "finding", "(I)I"⟩
abbrev cX9_within : ByteArray := prog_11_method_3_code
def yX9_within : MethodName := ⟨RX9, "within", "(III)Z"⟩
abbrev cX9_held : ByteArray := prog_11_method_4_code
def yX9_held : MethodName := ⟨RX9, "held", "(III)I"⟩
abbrev cX9_copy : ByteArray := prog_11_method_5_code
def yX9_copy : MethodName := ⟨RX9, "copy", "([I[I)V"⟩
abbrev cX9_become : ByteArray := prog_11_method_6_code
def yX9_become : MethodName := ⟨RX9, "become", "(II)I"⟩
abbrev cX9_putBack : ByteArray := prog_11_method_7_code
def yX9_putBack : MethodName := ⟨RX9, "putBack", "(I)I"⟩
abbrev cX9_isStep : ByteArray := prog_11_method_8_code
def yX9_isStep : MethodName := ⟨RX9, "isStep", "(I)Z"⟩
abbrev cX9_coins : ByteArray := prog_11_method_9_code
def yX9_coins : MethodName := ⟨RX9, "coins", "(II)I"⟩
abbrev cX9_set : ByteArray := prog_11_method_10_code
def yX9_set : MethodName := ⟨RX9, "set", "(II)I"⟩
abbrev cX9_is : ByteArray := prog_11_method_11_code
def yX9_is : MethodName := ⟨RX9, "is", "(I)Z"⟩
abbrev cX9_of : ByteArray := prog_11_method_12_code
def yX9_of : MethodName := ⟨RX9, "of", "(II)I"⟩
abbrev cX9_isAsTold : ByteArray := prog_11_method_13_code
def yX9_isAsTold : MethodName := ⟨RX9, "isAsTold", "(III)Z"⟩
abbrev cX9_comes : ByteArray := prog_11_method_14_code
def yX9_comes : MethodName := ⟨RX9, "comes", "(III)I"⟩
abbrev cX9_buyer : ByteArray := prog_11_method_15_code
def yX9_buyer : MethodName := ⟨RX9, "buyer", "(III)I"⟩
abbrev cX9_ofBuyer : ByteArray := prog_11_method_16_code
def yX9_ofBuyer : MethodName := ⟨RX9, "ofBuyer", "(II)I"⟩
abbrev cX9_above : ByteArray := prog_11_method_17_code
def yX9_above : MethodName := ⟨RX9, "above", "(I)I"⟩
abbrev cX9_as : ByteArray := prog_11_method_18_code
def yX9_as : MethodName := ⟨RX9, "as", "(II)I"⟩
abbrev cX9_has : ByteArray := prog_11_method_19_code
def yX9_has : MethodName := ⟨RX9, "has", "(II)I"⟩
abbrev cX9_buyers : ByteArray := prog_11_method_20_code
def yX9_buyers : MethodName := ⟨RX9, "buyers", "(I)I"⟩
abbrev cX9_plainWorth : ByteArray := prog_11_method_21_code
def yX9_plainWorth : MethodName := ⟨RX9, "plainWorth", "(I)I"⟩
abbrev cX9_worthOf : ByteArray := prog_11_method_22_code
def yX9_worthOf : MethodName := ⟨RX9, "worthOf", "(II)I"⟩
abbrev cX9_dueOf : ByteArray := prog_11_method_23_code
def yX9_dueOf : MethodName := ⟨RX9, "dueOf", "(II)I"⟩
abbrev cX9_isKeeper : ByteArray := prog_11_method_24_code
def yX9_isKeeper : MethodName := ⟨RX9, "isKeeper", "(I)Z"⟩
abbrev cX9_buysOf : ByteArray := prog_11_method_25_code
def yX9_buysOf : MethodName := ⟨RX9, "buysOf", "(III)I"⟩
abbrev cX9_at : ByteArray := prog_11_method_26_code
def yX9_at : MethodName := ⟨RX9, "at", "(IIII)I"⟩
abbrev cX9_feed : ByteArray := prog_11_method_27_code
def yX9_feed : MethodName := ⟨RX9, "feed", "(JI)I"⟩
abbrev cX9_here : ByteArray := prog_11_method_28_code
def yX9_here : MethodName := ⟨RX9, "here", "()I"⟩
abbrev cX9_takes : ByteArray := prog_11_method_29_code
def yX9_takes : MethodName := ⟨RX9, "takes", "(I)Z"⟩
abbrev cX9_codes : ByteArray := prog_11_method_30_code
def yX9_codes : MethodName := ⟨RX9, "codes", "(I)V"⟩
abbrev cX9_either : ByteArray := prog_11_method_31_code
def yX9_either : MethodName := ⟨RX9, "either", "()V"⟩
abbrev cX9_both : ByteArray := prog_11_method_32_code
def yX9_both : MethodName := ⟨RX9, "both", "()V"⟩
abbrev cX9_compared : ByteArray := prog_11_method_33_code
def yX9_compared : MethodName := ⟨RX9, "compared", "()V"⟩
abbrev cX9_sum : ByteArray := prog_11_method_34_code
def yX9_sum : MethodName := ⟨RX9, "sum", "()V"⟩
abbrev cX9_product : ByteArray := prog_11_method_35_code
def yX9_product : MethodName := ⟨RX9, "product", "()V"⟩
abbrev cX9_nameOf : ByteArray := prog_11_method_36_code
def yX9_nameOf : MethodName := ⟨RX9, "nameOf", "(I)I"⟩
abbrev cX9_one : ByteArray := prog_11_method_37_code
def yX9_one : MethodName := ⟨RX9, "one", "()V"⟩
abbrev cX9_text : ByteArray := prog_11_method_38_code
def yX9_text : MethodName := ⟨RX9, "text", "(I)I"⟩
abbrev cX9_done : ByteArray := prog_11_method_39_code
def yX9_done : MethodName := ⟨RX9, "done", "(III)I"⟩
abbrev cX9_worked : ByteArray := prog_11_method_40_code
def yX9_worked : MethodName := ⟨RX9, "worked", "(I)I"⟩
abbrev cX9_given : ByteArray := prog_11_method_41_code
def yX9_given : MethodName := ⟨RX9, "given", "(IIIII)I"⟩
abbrev cX9_law : ByteArray := prog_11_method_42_code
def yX9_law : MethodName := ⟨RX9, "law", "(IIIII)I"⟩
abbrev cX9_goes : ByteArray := prog_11_method_43_code
def yX9_goes : MethodName := ⟨RX9, "goes", "(IIZ)I"⟩
abbrev cX9_year : ByteArray := prog_11_method_44_code
def yX9_year : MethodName := ⟨RX9, "year", "(II)I"⟩
abbrev cX9_gives : ByteArray := prog_11_method_45_code
def yX9_gives : MethodName := ⟨RX9, "gives", "(I)I"⟩
abbrev cX9_give : ByteArray := prog_11_method_46_code
def yX9_give : MethodName := ⟨RX9, "give", "(I)I"⟩
abbrev cX9_drawn : ByteArray := prog_11_method_47_code
def yX9_drawn : MethodName := ⟨RX9, "drawn", "(I)I"⟩
abbrev cX9_life : ByteArray := prog_11_method_48_code
def yX9_life : MethodName := ⟨RX9, "life", "(II)I"⟩
abbrev cX9_yearsGo : ByteArray := prog_11_method_49_code
def yX9_yearsGo : MethodName := ⟨RX9, "yearsGo", "(II)V"⟩
abbrev cX9_ends : ByteArray := prog_11_method_50_code
def yX9_ends : MethodName := ⟨RX9, "ends", "()I"⟩
abbrev cX9_toldOf : ByteArray := prog_11_method_51_code
def yX9_toldOf : MethodName := ⟨RX9, "toldOf", "(I)I"⟩
abbrev cX9_isAhead : ByteArray := prog_11_method_52_code
def yX9_isAhead : MethodName := ⟨RX9, "isAhead", "(I)Z"⟩
abbrev cX9_then : ByteArray := prog_11_method_53_code
def yX9_then : MethodName := ⟨RX9, "then", "(III)I"⟩
abbrev cX9_by : ByteArray := prog_11_method_54_code
def yX9_by : MethodName := ⟨RX9, "by", "(II)I"⟩
abbrev cX9_findBest : ByteArray := prog_11_method_55_code
def yX9_findBest : MethodName := ⟨RX9, "findBest", "(IZ)V"⟩
abbrev cX9_ofBest : ByteArray := prog_11_method_56_code
def yX9_ofBest : MethodName := ⟨RX9, "ofBest", "(IIZ)I"⟩
abbrev cX9_best : ByteArray := prog_11_method_57_code
def yX9_best : MethodName := ⟨RX9, "best", "(II)I"⟩
abbrev cX9_never : ByteArray := prog_11_method_58_code
def yX9_never : MethodName := ⟨RX9, "never", "(II)I"⟩
abbrev cX9_costs : ByteArray := prog_11_method_59_code
def yX9_costs : MethodName := ⟨RX9, "costs", "(I)I"⟩
abbrev cX9_raise : ByteArray := prog_11_method_60_code
def yX9_raise : MethodName := ⟨RX9, "raise", "(I)I"⟩
abbrev cX9_back : ByteArray := prog_11_method_61_code
def yX9_back : MethodName := ⟨RX9, "back", "(II)I"⟩
abbrev cX9_whom : ByteArray := prog_11_method_62_code
def yX9_whom : MethodName := ⟨RX9, "whom", "(II)I"⟩
abbrev cX9_more : ByteArray := prog_11_method_63_code
def yX9_more : MethodName := ⟨RX9, "more", "(III)I"⟩
abbrev cX9_rests : ByteArray := prog_11_method_64_code
def yX9_rests : MethodName := ⟨RX9, "rests", "(I)I"⟩
abbrev cX9_clear : ByteArray := prog_11_method_65_code
def yX9_clear : MethodName := ⟨RX9, "clear", "()I"⟩
abbrev cX9_seed : ByteArray := prog_11_method_66_code
def yX9_seed : MethodName := ⟨RX9, "seed", "(I)I"⟩
abbrev cX9_began : ByteArray := prog_11_method_67_code
def yX9_began : MethodName := ⟨RX9, "began", "(I)V"⟩
abbrev cX9_hasOwn : ByteArray := prog_11_method_68_code
def yX9_hasOwn : MethodName := ⟨RX9, "hasOwn", "(II)Z"⟩
abbrev cX9_voiced : ByteArray := prog_11_method_69_code
def yX9_voiced : MethodName := ⟨RX9, "voiced", "(II)I"⟩
abbrev cX9_bodyFrom : ByteArray := prog_11_method_70_code
def yX9_bodyFrom : MethodName := ⟨RX9, "bodyFrom", "(III)I"⟩
abbrev cX9_body : ByteArray := prog_11_method_71_code
def yX9_body : MethodName := ⟨RX9, "body", "(III)I"⟩
abbrev cX9_voice : ByteArray := prog_11_method_72_code
def yX9_voice : MethodName := ⟨RX9, "voice", "(III)I"⟩
abbrev cX9_trace : ByteArray := prog_11_method_73_code
def yX9_trace : MethodName := ⟨RX9, "trace", "(I)I"⟩
abbrev cX9_isSheet : ByteArray := prog_11_method_74_code
def yX9_isSheet : MethodName := ⟨RX9, "isSheet", "(I)Z"⟩
abbrev cX9_sheet : ByteArray := prog_11_method_75_code
def yX9_sheet : MethodName := ⟨RX9, "sheet", "(III)I"⟩
abbrev cX9_put : ByteArray := prog_11_method_76_code
def yX9_put : MethodName := ⟨RX9, "put", "(III)I"⟩
abbrev cX9_move : ByteArray := prog_11_method_77_code
def yX9_move : MethodName := ⟨RX9, "move", "(IIIII)I"⟩
abbrev cX9_image : ByteArray := prog_11_method_78_code
def yX9_image : MethodName := ⟨RX9, "image", "()I"⟩
abbrev cX9_restore : ByteArray := prog_11_method_79_code
def yX9_restore : MethodName := ⟨RX9, "restore", "()I"⟩
abbrev cX9_tell : ByteArray := prog_11_method_80_code
def yX9_tell : MethodName := ⟨RX9, "tell", "(I)I"⟩
abbrev cX9_check : ByteArray := prog_11_method_81_code
def yX9_check : MethodName := ⟨RX9, "check", "(I)I"⟩
abbrev cX9_count : ByteArray := prog_11_method_82_code
def yX9_count : MethodName := ⟨RX9, "count", "(I)I"⟩
abbrev cX9_told : ByteArray := prog_11_method_83_code
def yX9_told : MethodName := ⟨RX9, "told", "(I)I"⟩
def RJ9 : String := "java/lang/Math"
def TJ9 : u_T := fun k => match k with
  | _ => ("", "", "", false)
def tyJ9 : Nat → FieldType := fun k => match k with
  | _ => .int
abbrev wsJ90 : List Cond := u_ws RJ9 TJ9 0
abbrev cJ9_max_7cf53 : ByteArray := prog_12_method_65_code
def yJ9_max_7cf53 : MethodName := ⟨RJ9, "max", "(II)I"⟩
abbrev cJ9_max_f86c9 : ByteArray := prog_12_method_66_code
def yJ9_max_f86c9 : MethodName := ⟨RJ9, "max", "(JJ)J"⟩
abbrev cJ9_min_7cf53 : ByteArray := prog_12_method_69_code
def yJ9_min_7cf53 : MethodName := ⟨RJ9, "min", "(II)I"⟩
abbrev cJ9_min_f86c9 : ByteArray := prog_12_method_70_code
def yJ9_min_f86c9 : MethodName := ⟨RJ9, "min", "(JJ)J"⟩
def RJ0 : String := "java/lang/String"
def TJ0 : u_T := fun k => match k with
  | _ => ("", "", "", false)
def tyJ0 : Nat → FieldType := fun k => match k with
  | _ => .int
abbrev wsJ00 : List Cond := u_ws RJ0 TJ0 0
abbrev cJ0_length_8abf5 : ByteArray := prog_13_method_54_code
def yJ0_length_8abf5 : MethodName := ⟨RJ0, "length", "()I"⟩
abbrev cJ0_charAt_5068e : ByteArray := prog_13_method_56_code
def yJ0_charAt_5068e : MethodName := ⟨RJ0, "charAt", "(I)C"⟩
abbrev cJ0_coder_7d493 : ByteArray := prog_13_method_152_code
def yJ0_coder_7d493 : MethodName := ⟨RJ0, "coder", "()B"⟩
abbrev cJ0_isLatin1_aae02 : ByteArray := prog_13_method_154_code
def yJ0_isLatin1_aae02 : MethodName := ⟨RJ0, "isLatin1", "()Z"⟩
abbrev cJ0_checkIndex_df160 : ByteArray := prog_13_method_155_code
def yJ0_checkIndex_df160 : MethodName := ⟨RJ0, "checkIndex", "(II)V"⟩
def RJ1 : String := "java/lang/StringLatin1"
def TJ1 : u_T := fun k => match k with
  | _ => ("", "", "", false)
def tyJ1 : Nat → FieldType := fun k => match k with
  | _ => .int
abbrev wsJ10 : List Cond := u_ws RJ1 TJ1 0
abbrev cJ1_charAt_3b067 : ByteArray := prog_14_method_2_code
def yJ1_charAt_3b067 : MethodName := ⟨RJ1, "charAt", "([BI)C"⟩
def RJ2 : String := "java/lang/StringUTF16"
def TJ2 : u_T := fun k => match k with
  | _ => ("", "", "", false)
def tyJ2 : Nat → FieldType := fun k => match k with
  | _ => .int
abbrev wsJ20 : List Cond := u_ws RJ2 TJ2 0
abbrev cJ2_getChar_3b067 : ByteArray := prog_15_method_5_code
def yJ2_getChar_3b067 : MethodName := ⟨RJ2, "getChar", "([BI)C"⟩
abbrev cJ2_length_9d52b : ByteArray := prog_15_method_6_code
def yJ2_length_9d52b : MethodName := ⟨RJ2, "length", "([B)I"⟩
abbrev cJ2_charAt_3b067 : ByteArray := prog_15_method_83_code
def yJ2_charAt_3b067 : MethodName := ⟨RJ2, "charAt", "([BI)C"⟩
abbrev cJ2_checkIndex_2214a : ByteArray := prog_15_method_91_code
def yJ2_checkIndex_2214a : MethodName := ⟨RJ2, "checkIndex", "(I[B)V"⟩
def RJ10 : String := "java/lang/System"
def TJ10 : u_T := fun k => match k with
  | _ => ("", "", "", false)
def tyJ10 : Nat → FieldType := fun k => match k with
  | _ => .int
abbrev wsJ100 : List Cond := u_ws RJ10 TJ10 0
def RJ3 : String := "jdk/internal/util/Preconditions"
def TJ3 : u_T := fun k => match k with
  | _ => ("", "", "", false)
def tyJ3 : Nat → FieldType := fun k => match k with
  | _ => .int
abbrev wsJ30 : List Cond := u_ws RJ3 TJ3 0
abbrev cJ3_checkIndex_8e157 : ByteArray := prog_17_method_11_code
def yJ3_checkIndex_8e157 : MethodName := ⟨RJ3, "checkIndex", "(IILjava/util/function/BiFunction;)I"⟩
def RL : String := "NinePotsLaw"
abbrev cL_law : ByteArray := code
def yL_law : MethodName := ⟨RL, "law", "([I)Z"⟩
abbrev vwCl : List vw_C := [(RX0, TX0, 4), (RX1, TX1, 6), (RX2, TX2, 6), (RX3, TX3, 7), (RX4, TX4, 3), (RX5, TX5, 12), (RX6, TX6, 5), (RX7, TX7, 8), (RX8, TX8, 8), (RX9, TX9, 25)]
end
section
/-! ===== the system's memory by labels: cell k holds the numbers M k; what is a reference never changes behind the constructors, and stands in the shapes ng_HS ===== -/
abbrev ng_M : Type := Nat → Nat → Int32
def ng_row (M : ng_M) (k : Nat) (g : Nat → Int32) : ng_M := fun j => if j = k then g else M j
/-- an object (its class's number; its fields: a label, or a number), a row of numbers (how many), a row of references (how many, the number of its type, labels) -/
abbrev ng_Sh : Type := (Nat × List (Option Nat)) ⊕ (Nat ⊕ (Nat × Nat × (Nat → Option Nat)))
/-- a method: name, code, locals, answer -/
abbrev ng_Y : Type := MethodName × ByteArray × Nat × Option FieldType
abbrev ng_L : Type := List (Option Value)
def ng_HS : List ng_Sh := [.inl (8, [some 1, some 20, some 39, some 58, some 60, some 63, some 72, none]), .inl (7, [some 2, some 15, some 18, some 19, none, none, none, none]), .inl (3, [some 3, some 4, some 5, some 6, some 7, some 11, none]), .inr (.inl 10), .inr (.inl 8), .inr (.inl 8), .inr (.inl 8), .inl (0, [some 8, none, some 9, some 10]), .inr (.inl 50), .inr (.inl 4), .inr (.inl 50), .inl (0, [some 12, none, some 13, some 14]), .inr (.inl 50), .inr (.inl 4), .inr (.inl 50), .inl (5, [some 2, some 16, some 17, none, none, none, none, none, none, none, none, none]), .inr (.inl 8), .inr (.inl 8), .inr (.inl 50), .inr (.inl 20), .inl (7, [some 21, some 34, some 37, some 38, none, none, none, none]), .inl (3, [some 22, some 23, some 24, some 25, some 26, some 30, none]), .inr (.inl 10), .inr (.inl 8), .inr (.inl 8), .inr (.inl 8), .inl (0, [some 27, none, some 28, some 29]), .inr (.inl 50), .inr (.inl 4), .inr (.inl 50), .inl (0, [some 31, none, some 32, some 33]), .inr (.inl 50), .inr (.inl 4), .inr (.inl 50), .inl (5, [some 21, some 35, some 36, none, none, none, none, none, none, none, none, none]), .inr (.inl 8), .inr (.inl 8), .inr (.inl 50), .inr (.inl 20), .inl (1, [some 40, some 41, some 56, some 57, none, none]), .inr (.inr (4, 2, fun i => ([44, 47, 50, 53] : List Nat)[i]?)), .inl (5, [some 2, some 42, some 43, none, none, none, none, none, none, none, none, none]), .inr (.inl 8), .inr (.inl 8), .inl (5, [some 2, some 45, some 46, none, none, none, none, none, none, none, none, none]), .inr (.inl 8), .inr (.inl 8), .inl (5, [some 2, some 48, some 49, none, none, none, none, none, none, none, none, none]), .inr (.inl 8), .inr (.inl 8), .inl (5, [some 2, some 51, some 52, none, none, none, none, none, none, none, none, none]), .inr (.inl 8), .inr (.inl 8), .inl (5, [some 2, some 54, some 55, none, none, none, none, none, none, none, none, none]), .inr (.inl 8), .inr (.inl 8), .inr (.inl 3), .inr (.inl 3), .inl (6, [some 59, none, none, none, none]), .inr (.inl 40), .inl (2, [some 61, none, some 62, none, none, none]), .inr (.inl 50), .inr (.inl 50), .inr (.inr (4, 1, fun i => ([64, 66, 68, 70] : List Nat)[i]?)), .inl (4, [some 65, none, none]), .inr (.inl 40), .inl (4, [some 67, none, none]), .inr (.inl 40), .inl (4, [some 69, none, none]), .inr (.inl 40), .inl (4, [some 71, none, none]), .inr (.inl 40), .inr (.inl 6), .inl (9, [some 74, some 75, some 76, none, some 77, some 78, some 79, none, none, none, none, some 80, none, some 81, some 82, some 83, some 84, none, some 85, none, none, some 86, some 87, some 88, some 89]), .inr (.inl 227), .inr (.inl 227), .inr (.inl 227), .inr (.inl 6), .inr (.inl 6), .inr (.inr (2, 3, fun i => ([1010, 1011] : List Nat)[i]?)), .inr (.inl 60), .inr (.inl 4), .inr (.inl 60), .inr (.inl 8), .inr (.inl 3), .inr (.inl 40), .inr (.inl 4), .inr (.inl 4), .inr (.inl 160), .inr (.inl 40)]
def ng_kst (X : Nat × (Nat → Int32)) : List (FieldType × Nat × (Nat → Int32)) := [(.int, 6, fun j => ([0, 0, 0, 0, -99999999, 0] : List Int32).getD j 0), (.int, 6, fun j => ([9, 12, 20, 60, 99999999, 999] : List Int32).getD j 0), (.int, 7, fun j => ([-1, 0, 1, 0, 3, 0, 1] : List Int32).getD j 0), (.char, 8, fun j => ([119, 110, 108, 104, 115, 107, 110, 117] : List Int32).getD j 0), (.int, 28, fun j => ([10, 11, 12, 13, 0, 20, 0, 0, 30, 0, 0, 0, 0, 0, 40, 0, 50, 0, 0, 51, 0, 60, 0, 0, 0, 0, 70, 71] : List Int32).getD j 0), (.byte, 4, fun j => ([119, 110, 108, 104] : List Int32).getD j 0), (.byte, 4, fun j => ([115, 107, 110, 117] : List Int32).getD j 0), (.int, X.1, X.2)]
def ng_stats : List (String × String × String × Value) := [("NinePots", "SETTING_LOW", "[I", .ref 1000), ("NinePots", "SETTING_HIGH", "[I", .ref 1001), ("NinePots", "ABOVE", "[I", .ref 1002), ("NinePots$Reader", "NAMES", "[C", .ref 1003), ("NinePots$Voices", "BODY_OF", "[I", .ref 1004), ("java/lang/String", "COMPACT_STRINGS", "Z", .int 1)]
def ng_ofs : List (String × String × String × Value × Nat) := [("java/lang/String", "value", "[B", .ref 1005, 1010), ("java/lang/String", "coder", "B", .int 0, 1010), ("java/lang/String", "value", "[B", .ref 1006, 1011), ("java/lang/String", "coder", "B", .int 0, 1011)]
def ng_nm : List (String × Nat × MethodName × String) := [("NinePots", 11, ⟨"NinePots$Whole", "<init>", "()V"⟩, "NinePots"), ("NinePots$Rules", 26, ⟨"NinePots$Formula", "<init>", "()V"⟩, "NinePots"), ("NinePots", 34, ⟨"NinePots$Voices", "<init>", "()V"⟩, "NinePots"), ("NinePots", 41, ⟨"NinePots$Reader", "<init>", "()V"⟩, "NinePots"), ("NinePots", 56, ⟨"NinePots$Sheet", "<init>", "()V"⟩, "NinePots"), ("NinePots$Rules", 54, ⟨"NinePots", "isWithin", "(III)Z"⟩, "NinePots"), ("NinePots$Sheet", 26, ⟨"NinePots", "isWithin", "(III)Z"⟩, "NinePots"), ("NinePots$Rules", 67, ⟨"NinePots", "held", "(III)I"⟩, "NinePots"), ("NinePots$Reader", 28, ⟨"NinePots", "held", "(III)I"⟩, "NinePots"), ("NinePots$Reader", 84, ⟨"NinePots", "isWithin", "(III)Z"⟩, "NinePots"), ("NinePots$Formula", 31, ⟨"NinePots", "held", "(III)I"⟩, "NinePots"), ("NinePots$Stand", 110, ⟨"NinePots", "held", "(III)I"⟩, "NinePots"), ("NinePots$Stand", 129, ⟨"NinePots", "isOf", "(II)Z"⟩, "NinePots"), ("NinePots$Outlook", 35, ⟨"NinePots", "isWithin", "(III)Z"⟩, "NinePots"), ("NinePots$Outlook", 107, ⟨"NinePots", "held", "(III)I"⟩, "NinePots"), ("NinePots$Voices", 50, ⟨"NinePots", "isWithin", "(III)Z"⟩, "NinePots"), ("NinePots$Sheet", 19, ⟨"NinePots", "held", "(III)I"⟩, "NinePots")]
def ng_nf : List (String × Nat × String × String × String × String) := [("NinePots$Voices", 47, "NinePots", "ABOVE", "[I", "NinePots")]
def ng_G : List Cond := lw_tbl.filter goodWord
theorem ng_inG {w : Cond} {i : Nat} (h : lw_tbl[i]? = some w) (hg : goodWord w = true) : w ∈ ng_G := List.mem_filter.mpr ⟨List.mem_of_getElem? h, hg⟩
theorem ng_goodG {w : Cond} (h : w ∈ ng_G) : (w.onTables && w.keeps) = true ∨ ∃ ty, w = .arrayClass ty := good_of_word (List.mem_filter.mp h).2
/-- a value with labels as the machine has it: labels are addresses there -/
def ng_v (ad : Nat → Nat) : Value → Value
  | .ref k => .ref (ad k)
  | v => v
theorem ng_v_cat (ad : Nat → Nat) (v : Value) : (ng_v ad v).category = v.category := by cases v <;> rfl
def ng_fs (ad : Nat → Nat) (g : Nat → Int32) (fs : List (Option Nat)) : List Value := fs.mapIdx (fun i o => match o with | some r => Value.ref (ad r) | none => Value.int (g i))
def ng_we (cA : Nat → ClassId) (ad : Nat → Nat) (g : Nat → Int32) : ng_Sh → va_E
  | .inl q => .inr (q.1, ng_fs ad g q.2)
  | .inr (.inl n) => .inl (cA 0, n, .inl g)
  | .inr (.inr q) => .inl (cA q.2.1, q.1, .inr (.inr (.inr (.inr (fun i => (q.2.2 i).map ad)))))
def ng_wd (cA : Nat → ClassId) (ad : Nat → Nat) (M : ng_M) : va_W := ng_HS.mapIdx (fun k sh => (ad k, ng_we cA ad (M k) sh))
def ng_tys (cA : Nat → ClassId) : List (ClassId × FieldType) := [(cA 0, .int), (cA 1, .object "NinePots$Sheet"), (cA 2, .object "NinePots$Stand"), (cA 3, .object "java/lang/String")]
theorem ng_wd_get {cA : Nat → ClassId} {ad : Nat → Nat} {M : ng_M} {k : Nat} {sh : ng_Sh} (h : ng_HS[k]? = some sh) : (ng_wd cA ad M)[k]? = some (ad k, ng_we cA ad (M k) sh) := by
  simp [ng_wd, List.getElem?_mapIdx, h]
theorem ng_wd_set {cA : Nat → ClassId} {ad : Nat → Nat} {M : ng_M} {k : Nat} {sh : ng_Sh} {g : Nat → Int32} {e : va_E} (h : ng_HS[k]? = some sh) (he : e = ng_we cA ad g sh) : (ng_wd cA ad M).set k (ad k, e) = ng_wd cA ad (ng_row M k g) := by
  subst he
  apply List.ext_getElem?
  intro i
  by_cases hi : i = k
  · subst hi
    have hl : i < (ng_wd cA ad M).length := (List.getElem?_eq_some_iff.mp (ng_wd_get (cA := cA) (ad := ad) (M := M) h)).1
    rw [List.getElem?_set_self hl, ng_wd_get h]
    simp [ng_row]
  · rw [List.getElem?_set_ne (Ne.symm hi)]
    simp [ng_wd, List.getElem?_mapIdx, ng_row, hi]
theorem ng_fs_int {ad : Nat → Nat} {g : Nat → Int32} {fs : List (Option Nat)} {k : Nat} (h : fs[k]? = some none) : (ng_fs ad g fs)[k]? = some (.int (g k)) := by
  simp [ng_fs, List.getElem?_mapIdx, h]
theorem ng_fs_ref {ad : Nat → Nat} {g : Nat → Int32} {fs : List (Option Nat)} {k r : Nat} (h : fs[k]? = some (some r)) : (ng_fs ad g fs)[k]? = some (.ref (ad r)) := by
  simp [ng_fs, List.getElem?_mapIdx, h]
theorem ng_fs_set {ad : Nat → Nat} {g : Nat → Int32} {fs : List (Option Nat)} {k : Nat} {v : Int32} (h : fs[k]? = some none) : (ng_fs ad g fs).set k (.int v) = ng_fs ad (upd g k v) fs := by
  apply List.ext_getElem?
  intro i
  by_cases hi : i = k
  · subst hi
    have hl : i < (ng_fs ad g fs).length := (List.getElem?_eq_some_iff.mp (ng_fs_int (ad := ad) (g := g) h)).1
    rw [List.getElem?_set_self hl, ng_fs_int h]
    simp [upd]
  · rw [List.getElem?_set_ne (Ne.symm hi)]
    simp only [ng_fs, List.getElem?_mapIdx]
    cases fs[i]? with
    | none => rfl
    | some o => cases o <;> simp [upd, hi]
/-- what never changes: the nest's links, static fields, constant rows (label 1000 and on; the script is the last), constant texts -/
def ng_Cs (ad : Nat → Nat) (A : Nat → Prop) (X : Nat × (Nat → Int32)) (U : State) : Prop :=
  (∀ q ∈ ng_nm, va_Nw (.methodLinkNest q.1 q.2.1 q.2.2.1 q.2.2.2) U) ∧ (∀ q ∈ ng_nf, va_Nw (.fieldLinkNest q.1 q.2.1 q.2.2.1 q.2.2.2.1 q.2.2.2.2.1 q.2.2.2.2.2) U) ∧
  (∀ q ∈ ng_stats, va_Z q.1 q.2.1 q.2.2.1 (ng_v ad q.2.2.2) A U U.heap) ∧
  (∀ (i : Nat) (q : FieldType × Nat × (Nat → Int32)), (ng_kst X)[i]? = some q → va_T q.1 (ad (1000 + i)) q.2.1 (fun j => .int (q.2.2 j)) A U U.heap) ∧
  (∀ q ∈ ng_ofs, va_OF q.1 q.2.1 q.2.2.1 (ng_v ad q.2.2.2.1) (ad q.2.2.2.2) A U U.heap ∧ va_O "java/lang/String" (ad q.2.2.2.2) A U U.heap)
theorem ng_Cs.to {ad : Nat → Nat} {A : Nat → Prop} {X : Nat × (Nat → Int32)} {s U : State} (h : ng_Cs ad A X s) (hW : s.WarmedH U.vm) (hq : ∀ a : Nat, a < s.heap.size → ¬ A a → U.heap[a]? = s.heap[a]?) : ng_Cs ad A X U := by
  obtain ⟨h1, h2, h3, h4, h5⟩ := h
  exact ⟨fun q hm => va_Nw.warmM hW (h1 q hm), fun q hm => va_Nw.warmF hW (h2 q hm), fun q hm => ((h3 q hm).kept hq).moved hW.alike, fun i q hm => ((h4 i q hm).kept hq).moved hW.alike, fun q hm => ⟨((h5 q hm).1.kept hq).moved hW.alike, ((h5 q hm).2.kept hq).moved hW.alike⟩⟩
theorem ng_Cs.call {ad : Nat → Nat} {A : Nat → Prop} {X : Nat × (Nat → Int32)} {U : State} {g : JFrame} {mk : MethodId} {a : Array Value} (h : ng_Cs ad A X U) : ng_Cs ad A X (U.calling g mk a) := by
  obtain ⟨h1, h2, h3, h4, h5⟩ := h
  have e : U.vm.Alike (U.calling g mk a).vm := Vm.Alike.refl U.vm
  exact ⟨fun q hm => va_Nw.same rfl rfl (h1 q hm), fun q hm => va_Nw.same rfl rfl (h2 q hm), fun q hm => (h3 q hm).moved e, fun i q hm => (h4 i q hm).moved e, fun q hm => ⟨(h5 q hm).1.moved e, (h5 q hm).2.moved e⟩⟩
/-- the locals: as many as the list has, what it names stands there -/
def ng_lh (ad : Nat → Nat) (ls : Array Slot) (n : Nat) (lv : ng_L) : Prop := lv.length = n ∧ ls.size = n ∧ lv_wf ls ∧ ∀ (i : Nat) (v : Value), lv[i]? = some (some v) → ls[i]? = some (.val (ng_v ad v))
def ng_al (ad : Nat → Nat) (lv : ng_L) : List (Nat × Value) := (List.range lv.length).filterMap (fun i => match lv[i]? with | some (some v) => some (i, ng_v ad v) | _ => none)
theorem ng_al_mem {ad : Nat → Nat} {lv : ng_L} {i : Nat} {v : Value} (h : lv[i]? = some (some v)) : (i, ng_v ad v) ∈ ng_al ad lv := by
  refine List.mem_filterMap.mpr ⟨i, List.mem_range.mpr (List.getElem?_eq_some_iff.mp h).1, ?_⟩
  simp [h]
theorem ng_al_of {ad : Nat → Nat} {lv : ng_L} {q : Nat × Value} (h : q ∈ ng_al ad lv) : ∃ v, lv[q.1]? = some (some v) ∧ q.2 = ng_v ad v := by
  obtain ⟨i, -, h2⟩ := List.mem_filterMap.mp h
  split at h2
  · rename_i v hv
    cases h2
    exact ⟨v, hv, rfl⟩
  · cases h2
theorem ng_lh.has {ad : Nat → Nat} {ls : Array Slot} {n : Nat} {lv : ng_L} (h : ng_lh ad ls n lv) : lv_has ls n (ng_al ad lv) := by
  obtain ⟨-, h1, h2, h3⟩ := h
  refine ⟨h1, h2, fun q hq => ?_⟩
  obtain ⟨v, hv, e⟩ := ng_al_of hq
  rw [e]
  exact h3 q.1 v hv
def ng_nl : Option Value → Bool
  | some v => v.category == 1
  | none => true
theorem ng_lh.store {ad : Nat → Nat} {ls ls' : Array Slot} {n i : Nat} {lv : ng_L} {v : Value} (h : ng_lh ad ls n lv) (hp : ∀ j u, j + 1 = i → lv[j]? = some (some u) → u.category = 1)
    (h' : lv_has ls' n ((i, ng_v ad v) :: (ng_al ad lv).filter (fun q => !(q.1 == i) && !(q.1 + 1 == i && q.2.category == 2)))) : ng_lh ad ls' n (lv.set i (some v)) := by
  refine ⟨by rw [List.length_set]; exact h.1, h'.1, h'.2.1, fun j u hj => ?_⟩
  by_cases hji : j = i
  · subst hji
    have hl : j < lv.length := by
      have := (List.getElem?_eq_some_iff.mp hj).1
      rwa [List.length_set] at this
    rw [List.getElem?_set_self hl] at hj
    cases hj
    exact h'.2.2 (j, ng_v ad v) List.mem_cons_self
  · rw [List.getElem?_set_ne (Ne.symm hji)] at hj
    refine h'.2.2 (j, ng_v ad u) (List.mem_cons_of_mem _ (List.mem_filter.mpr ⟨ng_al_mem hj, ?_⟩))
    by_cases hk : j + 1 = i
    · have := hp j u hk hj
      simp [hji, hk, ng_v_cat, this]
    · simp [hji, hk]
theorem ng_lh.store2 {ad : Nat → Nat} {ls ls' : Array Slot} {n i : Nat} {lv : ng_L} {v : Value} (h : ng_lh ad ls n lv) (hi : i + 1 < n) (hp : ∀ j u, j + 1 = i → lv[j]? = some (some u) → u.category = 1)
    (h' : lv_has ls' n ((i, ng_v ad v) :: (ng_al ad lv).filter (fun q => !(q.1 == i) && (!(q.1 == i + 1) && !(q.1 + 1 == i && q.2.category == 2))))) : ng_lh ad ls' n ((lv.set i (some v)).set (i + 1) none) := by
  refine ⟨by rw [List.length_set, List.length_set]; exact h.1, h'.1, h'.2.1, fun j u hj => ?_⟩
  by_cases hj1 : j = i + 1
  · subst hj1
    rw [List.getElem?_set_self (by rw [List.length_set]; rw [h.1]; exact hi)] at hj
    cases hj
  · rw [List.getElem?_set_ne (Ne.symm hj1)] at hj
    by_cases hji : j = i
    · subst hji
      have hl : j < lv.length := by rw [h.1]; omega
      rw [List.getElem?_set_self hl] at hj
      cases hj
      exact h'.2.2 (j, ng_v ad v) List.mem_cons_self
    · rw [List.getElem?_set_ne (Ne.symm hji)] at hj
      refine h'.2.2 (j, ng_v ad u) (List.mem_cons_of_mem _ (List.mem_filter.mpr ⟨ng_al_mem hj, ?_⟩))
      by_cases hk : j + 1 = i
      · have := hp j u hk hj
        simp [hji, hk, hj1, ng_v_cat, this]
        try omega
      · simp [hji, hk, hj1]
/-- the end of a method: the instruction that goes back, with its answer -/
def ng_rt (cc : ByteArray) (pc : Nat) (r : Option Value) : Prop := (∃ v, r = some (.int v) ∧ decode cc pc = .ok (.ireturn, 1)) ∨ (r = none ∧ decode cc pc = .ok (.return_, 1)) ∨ ((r = some .null ∨ ∃ k, r = some (.ref k)) ∧ decode cc pc = .ok (.areturn, 1))
def ng_Cx (D : va_G) (cA : Nat → ClassId) (ad : Nat → Nat) (A : Nat → Prop) (X : Nat × (Nat → Int32)) (y : ng_Y) (d : Nat) (p : Program) (R : Room) (s : State) (m : MethodId) (args : Array Value) (c : Code) (cells slots : Nat) : Prop :=
  CallFix p m c y.2.1 y.2.2.1 s args ng_G y.1.cls ∧ va_K D vwCl (ng_tys cA) s ∧ ng_Cs ad A X s ∧ (∀ M, va_D A (ng_wd cA ad M)) ∧ d ≤ R.frames ∧ 40 * d ≤ R.locals ∧ cells ≤ R.cells ∧ slots ≤ R.slots
/-- from pc, with these locals and this stack, over the memory M: the method y comes to its end, with an answer and a memory that F has; d calls may stand open above it -/
def ng_Go (X : Nat × (Nat → Int32)) (y : ng_Y) (d pc : Nat) (lv : ng_L) (st : List Value) (M : ng_M) (F : Option Value → ng_M → Prop) : Prop :=
  ∀ (l : Launch) (D : va_G) (cA : Nat → ClassId) (ad : Nat → Nat) (A : Nat → Prop) (p : Program) (e : Env) (R : Room) (s : State) (m : MethodId) (args : Array Value) (below : List Frame) (meth : Method) (c : Code) (cells slots : Nat) (Q : State → Prop),
    ng_Cx D cA ad A X y d p R s m args c cells slots →
    (∀ (r : Option Value) (M' : ng_M) (H' : Heap) (locs' : List Loc) (ls' : Array Slot) (pc' : Nat), F r M' → va_P D vwCl (ng_wd cA ad M') H' → va_S A s.heap H' locs' → ng_rt y.2.1 pc' r → W p l e R s m args below meth c H' locs' cells slots Q (F0 m pc' ls' (r.map (ng_v ad)).toList)) →
    ∀ (H : Heap) (locs : List Loc) (ls : Array Slot), va_P D vwCl (ng_wd cA ad M) H → va_S A s.heap H locs → ng_lh ad ls y.2.2.1 lv → W p l e R s m args below meth c H locs cells slots Q (F0 m pc ls (st.map (ng_v ad)))
def ng_rm (d : Nat) : Room := { frames := d, cells := 0, slots := 0, locals := 40 * d }
def ng_ws (y : ng_Y) : List Cond := Cond.code y.1 y.2.1 y.2.2.1 y.2.2.2 :: ng_G
def ng_W (D : va_G) (cA : Nat → ClassId) (ad : Nat → Nat) (A : Nat → Prop) (X : Nat × (Nat → Int32)) (M : ng_M) (U : State) : Prop := va_P D vwCl (ng_wd cA ad M) U.heap ∧ va_K D vwCl (ng_tys cA) U ∧ ng_Cs ad A X U
def ng_Q (D : va_G) (cA : Nat → ClassId) (ad : Nat → Nat) (A : Nat → Prop) (F : Option Value → ng_M → Prop) : Array Value → State → Outcome → State → Prop := fun _ st o t => (∃ (r : Option Value) (M' : ng_M), o = .returned (r.map (ng_v ad)) ∧ F r M' ∧ va_P D vwCl (ng_wd cA ad M') t.heap) ∧ va_F A st t
/-- the contract of a method: from M it answers, F has the answer and the memory; at most d calls stand open -/
def ng_Ev (X : Nat × (Nat → Int32)) (d : Nat) (y : ng_Y) (as : List Value) (M : ng_M) (F : Option Value → ng_M → Prop) : Prop :=
  ∀ (l : Launch) (D : va_G) (cA : Nat → ClassId) (ad : Nat → Nat) (A : Nat → Prop), (∀ M, va_D A (ng_wd cA ad M)) → ∀ d' : Nat, d ≤ d' → Met l y.1 (ng_ws y) (ng_rm d') (va_Pc (as.map (ng_v ad)) (ng_W D cA ad A X M)) (ng_Q D cA ad A F) 0 0 A
theorem ng_Ev.up {X : Nat × (Nat → Int32)} {d d' : Nat} {y : ng_Y} {as : List Value} {M : ng_M} {F : Option Value → ng_M → Prop} (h : ng_Ev X d y as M F) (hd : d ≤ d') : ng_Ev X d' y as M F := fun l D cA ad A hD e he => h l D cA ad A hD e (Nat.le_trans hd he)
theorem ng_Go.imp {X : Nat × (Nat → Int32)} {y : ng_Y} {d pc : Nat} {lv : ng_L} {st : List Value} {M : ng_M} {F G : Option Value → ng_M → Prop} (h : ng_Go X y d pc lv st M F) (hFG : ∀ r M', F r M' → G r M') : ng_Go X y d pc lv st M G := by
  intro l D cA ad A p e R s m args below meth c cells slots Q C fin H locs ls hP hS hl
  exact h l D cA ad A p e R s m args below meth c cells slots Q C (fun r M' H' locs' ls' pc' hF => fin r M' H' locs' ls' pc' (hFG r M' hF)) H locs ls hP hS hl
theorem ng_blind {D : va_G} {cA : Nat → ClassId} {ad : Nat → Nat} {A : Nat → Prop} {X : Nat × (Nat → Int32)} {M : ng_M} {av : List Value} : FrameBlind (va_Pc av (ng_W D cA ad A X M)) := by
  intro a U g mk h
  obtain ⟨h1, h2, h3, h4⟩ := h
  exact ⟨h1, h2, va_K.moved (u := U) (U := U.calling g mk a) (Vm.Alike.refl U.vm) h3, h4.call⟩

section NgRules
variable {X : Nat × (Nat → Int32)} {y : ng_Y} {d pc : Nat} {lv : ng_L} {st : List Value} {M : ng_M} {F : Option Value → ng_M → Prop}
theorem ng_iconst {n : Int} {v : Int32} (hd : decode y.2.1 pc = .ok (.iconst n, 1)) (hv : Int32.ofInt n = v) (k : ng_Go X y d (pc + 1) lv (.int v :: st) M F) : ng_Go X y d pc lv st M F := by
  intro l D cA ad A p e R s m args below meth c cells slots Q C fin H locs ls hP hS hl
  exact lv_iconst C.1.1 C.1.2.1 hd hv (k l D cA ad A p e R s m args below meth c cells slots Q C fin H locs ls hP hS hl)
theorem ng_iconst_m1 (hd : decode y.2.1 pc = .ok (.iconst (-1), 1)) (k : ng_Go X y d (pc + 1) lv (.int (-1) :: st) M F) : ng_Go X y d pc lv st M F := ng_iconst hd (by decide) k
theorem ng_iconst_0 (hd : decode y.2.1 pc = .ok (.iconst 0, 1)) (k : ng_Go X y d (pc + 1) lv (.int 0 :: st) M F) : ng_Go X y d pc lv st M F := ng_iconst hd (by decide) k
theorem ng_iconst_1 (hd : decode y.2.1 pc = .ok (.iconst 1, 1)) (k : ng_Go X y d (pc + 1) lv (.int 1 :: st) M F) : ng_Go X y d pc lv st M F := ng_iconst hd (by decide) k
theorem ng_iconst_2 (hd : decode y.2.1 pc = .ok (.iconst 2, 1)) (k : ng_Go X y d (pc + 1) lv (.int 2 :: st) M F) : ng_Go X y d pc lv st M F := ng_iconst hd (by decide) k
theorem ng_iconst_3 (hd : decode y.2.1 pc = .ok (.iconst 3, 1)) (k : ng_Go X y d (pc + 1) lv (.int 3 :: st) M F) : ng_Go X y d pc lv st M F := ng_iconst hd (by decide) k
theorem ng_iconst_4 (hd : decode y.2.1 pc = .ok (.iconst 4, 1)) (k : ng_Go X y d (pc + 1) lv (.int 4 :: st) M F) : ng_Go X y d pc lv st M F := ng_iconst hd (by decide) k
theorem ng_iconst_5 (hd : decode y.2.1 pc = .ok (.iconst 5, 1)) (k : ng_Go X y d (pc + 1) lv (.int 5 :: st) M F) : ng_Go X y d pc lv st M F := ng_iconst hd (by decide) k
theorem ng_bipush {n : Int} {v : Int32} (hd : decode y.2.1 pc = .ok (.bipush n, 2)) (hv : (Int8.ofInt n).toInt32 = v) (k : ng_Go X y d (pc + 2) lv (.int v :: st) M F) : ng_Go X y d pc lv st M F := by
  intro l D cA ad A p e R s m args below meth c cells slots Q C fin H locs ls hP hS hl
  exact lv_bipush C.1.1 C.1.2.1 hd hv (k l D cA ad A p e R s m args below meth c cells slots Q C fin H locs ls hP hS hl)
theorem ng_sipush {n : Int} {v : Int32} (hd : decode y.2.1 pc = .ok (.sipush n, 3)) (hv : (Int16.ofInt n).toInt32 = v) (k : ng_Go X y d (pc + 3) lv (.int v :: st) M F) : ng_Go X y d pc lv st M F := by
  intro l D cA ad A p e R s m args below meth c cells slots Q C fin H locs ls hP hS hl
  exact lv_sipush C.1.1 C.1.2.1 hd hv (k l D cA ad A p e R s m args below meth c cells slots Q C fin H locs ls hP hS hl)
theorem ng_ldc {i : Nat} {v : Int32} (hd : decode y.2.1 pc = .ok (.ldc i, 2)) (hv : Jvm.Cond.constant y.1.cls i v ∈ ng_G) (k : ng_Go X y d (pc + 2) lv (.int v :: st) M F) : ng_Go X y d pc lv st M F := by
  intro l D cA ad A p e R s m args below meth c cells slots Q C fin H locs ls hP hS hl
  exact lv_ldc C.1.1 C.1.2.1 C.1.2.2.2.1 (C.1.2.2.2.2 _ hv) hd (k l D cA ad A p e R s m args below meth c cells slots Q C fin H locs ls hP hS hl)
theorem ng_ldc2 {i : Nat} {v : Int64} (hd : decode y.2.1 pc = .ok (.ldc2_w i, 3)) (hv : Jvm.Cond.constantLong y.1.cls i v ∈ ng_G) (k : ng_Go X y d (pc + 3) lv (.long v :: st) M F) : ng_Go X y d pc lv st M F := by
  intro l D cA ad A p e R s m args below meth c cells slots Q C fin H locs ls hP hS hl
  exact lv_ldc2 C.1.1 C.1.2.1 C.1.2.2.2.1 (C.1.2.2.2.2 _ hv) hd (k l D cA ad A p e R s m args below meth c cells slots Q C fin H locs ls hP hS hl)
theorem ng_null (hd : decode y.2.1 pc = .ok (.aconst_null, 1)) (k : ng_Go X y d (pc + 1) lv (.null :: st) M F) : ng_Go X y d pc lv st M F := by
  intro l D cA ad A p e R s m args below meth c cells slots Q C fin H locs ls hP hS hl
  exact lv_null C.1.1 C.1.2.1 hd (k l D cA ad A p e R s m args below meth c cells slots Q C fin H locs ls hP hS hl)
theorem ng_iload_0 {v : Int32} {t : ng_L} (hd : decode y.2.1 pc = .ok (.iload_n 0, 1)) (k : ng_Go X y d (pc + 1) (some (.int v) :: t) (.int v :: st) M F) : ng_Go X y d pc (some (.int v) :: t) st M F := by
  intro l D cA ad A p e R s m args below meth c cells slots Q C fin H locs ls hP hS hl
  exact lv_iload_n C.1.1 C.1.2.1 hd rfl (hl.2.2.2 0 _ rfl) (k l D cA ad A p e R s m args below meth c cells slots Q C fin H locs ls hP hS hl)
theorem ng_aload_0 {v : Nat} {t : ng_L} (hd : decode y.2.1 pc = .ok (.aload_n 0, 1)) (k : ng_Go X y d (pc + 1) (some (.ref v) :: t) (.ref v :: st) M F) : ng_Go X y d pc (some (.ref v) :: t) st M F := by
  intro l D cA ad A p e R s m args below meth c cells slots Q C fin H locs ls hP hS hl
  exact lv_aload_n C.1.1 C.1.2.1 hd rfl (hl.2.2.2 0 _ rfl) (k l D cA ad A p e R s m args below meth c cells slots Q C fin H locs ls hP hS hl)
theorem ng_lload_0 {v : Int64} {t : ng_L} (hd : decode y.2.1 pc = .ok (.lload_n 0, 1)) (k : ng_Go X y d (pc + 1) (some (.long v) :: t) (.long v :: st) M F) : ng_Go X y d pc (some (.long v) :: t) st M F := by
  intro l D cA ad A p e R s m args below meth c cells slots Q C fin H locs ls hP hS hl
  exact lv_lload_n C.1.1 C.1.2.1 hd rfl (hl.2.2.2 0 _ rfl) (k l D cA ad A p e R s m args below meth c cells slots Q C fin H locs ls hP hS hl)
theorem ng_iload_1 {x0 : Option Value} {v : Int32} {t : ng_L} (hd : decode y.2.1 pc = .ok (.iload_n 1, 1)) (k : ng_Go X y d (pc + 1) (x0 :: some (.int v) :: t) (.int v :: st) M F) : ng_Go X y d pc (x0 :: some (.int v) :: t) st M F := by
  intro l D cA ad A p e R s m args below meth c cells slots Q C fin H locs ls hP hS hl
  exact lv_iload_n C.1.1 C.1.2.1 hd rfl (hl.2.2.2 1 _ rfl) (k l D cA ad A p e R s m args below meth c cells slots Q C fin H locs ls hP hS hl)
theorem ng_istore_1 {x0 x1 : Option Value} {v : Int32} {t : ng_L} (hd : decode y.2.1 pc = .ok (.istore_n 1, 1)) (hp : ng_nl x0 = true) (k : ng_Go X y d (pc + 1) (x0 :: some (.int v) :: t) st M F) : ng_Go X y d pc (x0 :: x1 :: t) (.int v :: st) M F := by
  intro l D cA ad A p e R s m args below meth c cells slots Q C fin H locs ls hP hS hl
  refine lv_istore_n C.1.1 C.1.2.1 hd rfl hl.has (by rw [← hl.1]; simp only [List.length_cons]; omega) rfl (fun ls' h' => ?_)
  exact k l D cA ad A p e R s m args below meth c cells slots Q C fin H locs ls' hP hS (ng_lh.store (v := .int v) hl (fun j u hj hu => by
    have e : j = 0 := by omega
    subst e
    simp at hu
    subst hu
    simpa [ng_nl] using hp) h')
theorem ng_aload_1 {x0 : Option Value} {v : Nat} {t : ng_L} (hd : decode y.2.1 pc = .ok (.aload_n 1, 1)) (k : ng_Go X y d (pc + 1) (x0 :: some (.ref v) :: t) (.ref v :: st) M F) : ng_Go X y d pc (x0 :: some (.ref v) :: t) st M F := by
  intro l D cA ad A p e R s m args below meth c cells slots Q C fin H locs ls hP hS hl
  exact lv_aload_n C.1.1 C.1.2.1 hd rfl (hl.2.2.2 1 _ rfl) (k l D cA ad A p e R s m args below meth c cells slots Q C fin H locs ls hP hS hl)
theorem ng_astore_1 {x0 x1 : Option Value} {v : Nat} {t : ng_L} (hd : decode y.2.1 pc = .ok (.astore_n 1, 1)) (hp : ng_nl x0 = true) (k : ng_Go X y d (pc + 1) (x0 :: some (.ref v) :: t) st M F) : ng_Go X y d pc (x0 :: x1 :: t) (.ref v :: st) M F := by
  intro l D cA ad A p e R s m args below meth c cells slots Q C fin H locs ls hP hS hl
  refine lv_astore_n C.1.1 C.1.2.1 hd rfl hl.has (by rw [← hl.1]; simp only [List.length_cons]; omega) rfl (fun ls' h' => ?_)
  exact k l D cA ad A p e R s m args below meth c cells slots Q C fin H locs ls' hP hS (ng_lh.store (v := .ref v) hl (fun j u hj hu => by
    have e : j = 0 := by omega
    subst e
    simp at hu
    subst hu
    simpa [ng_nl] using hp) h')
theorem ng_lload_1 {x0 : Option Value} {v : Int64} {t : ng_L} (hd : decode y.2.1 pc = .ok (.lload_n 1, 1)) (k : ng_Go X y d (pc + 1) (x0 :: some (.long v) :: t) (.long v :: st) M F) : ng_Go X y d pc (x0 :: some (.long v) :: t) st M F := by
  intro l D cA ad A p e R s m args below meth c cells slots Q C fin H locs ls hP hS hl
  exact lv_lload_n C.1.1 C.1.2.1 hd rfl (hl.2.2.2 1 _ rfl) (k l D cA ad A p e R s m args below meth c cells slots Q C fin H locs ls hP hS hl)
theorem ng_lstore_1 {x0 x1 x2 : Option Value} {v : Int64} {t : ng_L} (hd : decode y.2.1 pc = .ok (.lstore_n 1, 1)) (hp : ng_nl x0 = true) (k : ng_Go X y d (pc + 1) (x0 :: some (.long v) :: none :: t) st M F) : ng_Go X y d pc (x0 :: x1 :: x2 :: t) (.long v :: st) M F := by
  intro l D cA ad A p e R s m args below meth c cells slots Q C fin H locs ls hP hS hl
  have hn : 1 + 1 < y.2.2.1 := by rw [← hl.1]; simp only [List.length_cons]; omega
  refine lv_lstore_n C.1.1 C.1.2.1 hd rfl hl.has hn rfl (fun ls' h' => ?_)
  exact k l D cA ad A p e R s m args below meth c cells slots Q C fin H locs ls' hP hS (ng_lh.store2 (v := .long v) hl hn (fun j u hj hu => by
    have e : j = 0 := by omega
    subst e
    simp at hu
    subst hu
    simpa [ng_nl] using hp) h')
theorem ng_iinc_1 {x0 : Option Value} {v w : Int32} {n : Int} {t : ng_L} (hd : decode y.2.1 pc = .ok (.iinc 1 n, 3)) (hv : Int32.ofInt n = w) (hp : ng_nl x0 = true) (k : ng_Go X y d (pc + 3) (x0 :: some (.int (v + w)) :: t) st M F) : ng_Go X y d pc (x0 :: some (.int v) :: t) st M F := by
  intro l D cA ad A p e R s m args below meth c cells slots Q C fin H locs ls hP hS hl
  obtain ⟨q, hq⟩ := List.getElem?_of_mem (ng_al_mem (ad := ad) (lv := x0 :: some (.int v) :: t) (i := 1) (v := .int v) rfl)
  refine lv_iinc (v := v + w) C.1.1 C.1.2.1 hd hl.has (k := q) hq (by rw [hv]) (by rw [← hl.1]; simp only [List.length_cons]; omega) rfl (fun ls' h' => ?_)
  exact k l D cA ad A p e R s m args below meth c cells slots Q C fin H locs ls' hP hS (ng_lh.store (v := .int (v + w)) hl (fun j u hj hu => by
    have e : j = 0 := by omega
    subst e
    simp at hu
    subst hu
    simpa [ng_nl] using hp) h')
theorem ng_iload_2 {x0 x1 : Option Value} {v : Int32} {t : ng_L} (hd : decode y.2.1 pc = .ok (.iload_n 2, 1)) (k : ng_Go X y d (pc + 1) (x0 :: x1 :: some (.int v) :: t) (.int v :: st) M F) : ng_Go X y d pc (x0 :: x1 :: some (.int v) :: t) st M F := by
  intro l D cA ad A p e R s m args below meth c cells slots Q C fin H locs ls hP hS hl
  exact lv_iload_n C.1.1 C.1.2.1 hd rfl (hl.2.2.2 2 _ rfl) (k l D cA ad A p e R s m args below meth c cells slots Q C fin H locs ls hP hS hl)
theorem ng_istore_2 {x0 x1 x2 : Option Value} {v : Int32} {t : ng_L} (hd : decode y.2.1 pc = .ok (.istore_n 2, 1)) (hp : ng_nl x1 = true) (k : ng_Go X y d (pc + 1) (x0 :: x1 :: some (.int v) :: t) st M F) : ng_Go X y d pc (x0 :: x1 :: x2 :: t) (.int v :: st) M F := by
  intro l D cA ad A p e R s m args below meth c cells slots Q C fin H locs ls hP hS hl
  refine lv_istore_n C.1.1 C.1.2.1 hd rfl hl.has (by rw [← hl.1]; simp only [List.length_cons]; omega) rfl (fun ls' h' => ?_)
  exact k l D cA ad A p e R s m args below meth c cells slots Q C fin H locs ls' hP hS (ng_lh.store (v := .int v) hl (fun j u hj hu => by
    have e : j = 1 := by omega
    subst e
    simp at hu
    subst hu
    simpa [ng_nl] using hp) h')
theorem ng_aload_2 {x0 x1 : Option Value} {v : Nat} {t : ng_L} (hd : decode y.2.1 pc = .ok (.aload_n 2, 1)) (k : ng_Go X y d (pc + 1) (x0 :: x1 :: some (.ref v) :: t) (.ref v :: st) M F) : ng_Go X y d pc (x0 :: x1 :: some (.ref v) :: t) st M F := by
  intro l D cA ad A p e R s m args below meth c cells slots Q C fin H locs ls hP hS hl
  exact lv_aload_n C.1.1 C.1.2.1 hd rfl (hl.2.2.2 2 _ rfl) (k l D cA ad A p e R s m args below meth c cells slots Q C fin H locs ls hP hS hl)
theorem ng_astore_2 {x0 x1 x2 : Option Value} {v : Nat} {t : ng_L} (hd : decode y.2.1 pc = .ok (.astore_n 2, 1)) (hp : ng_nl x1 = true) (k : ng_Go X y d (pc + 1) (x0 :: x1 :: some (.ref v) :: t) st M F) : ng_Go X y d pc (x0 :: x1 :: x2 :: t) (.ref v :: st) M F := by
  intro l D cA ad A p e R s m args below meth c cells slots Q C fin H locs ls hP hS hl
  refine lv_astore_n C.1.1 C.1.2.1 hd rfl hl.has (by rw [← hl.1]; simp only [List.length_cons]; omega) rfl (fun ls' h' => ?_)
  exact k l D cA ad A p e R s m args below meth c cells slots Q C fin H locs ls' hP hS (ng_lh.store (v := .ref v) hl (fun j u hj hu => by
    have e : j = 1 := by omega
    subst e
    simp at hu
    subst hu
    simpa [ng_nl] using hp) h')
theorem ng_lload_2 {x0 x1 : Option Value} {v : Int64} {t : ng_L} (hd : decode y.2.1 pc = .ok (.lload_n 2, 1)) (k : ng_Go X y d (pc + 1) (x0 :: x1 :: some (.long v) :: t) (.long v :: st) M F) : ng_Go X y d pc (x0 :: x1 :: some (.long v) :: t) st M F := by
  intro l D cA ad A p e R s m args below meth c cells slots Q C fin H locs ls hP hS hl
  exact lv_lload_n C.1.1 C.1.2.1 hd rfl (hl.2.2.2 2 _ rfl) (k l D cA ad A p e R s m args below meth c cells slots Q C fin H locs ls hP hS hl)
theorem ng_lstore_2 {x0 x1 x2 x3 : Option Value} {v : Int64} {t : ng_L} (hd : decode y.2.1 pc = .ok (.lstore_n 2, 1)) (hp : ng_nl x1 = true) (k : ng_Go X y d (pc + 1) (x0 :: x1 :: some (.long v) :: none :: t) st M F) : ng_Go X y d pc (x0 :: x1 :: x2 :: x3 :: t) (.long v :: st) M F := by
  intro l D cA ad A p e R s m args below meth c cells slots Q C fin H locs ls hP hS hl
  have hn : 2 + 1 < y.2.2.1 := by rw [← hl.1]; simp only [List.length_cons]; omega
  refine lv_lstore_n C.1.1 C.1.2.1 hd rfl hl.has hn rfl (fun ls' h' => ?_)
  exact k l D cA ad A p e R s m args below meth c cells slots Q C fin H locs ls' hP hS (ng_lh.store2 (v := .long v) hl hn (fun j u hj hu => by
    have e : j = 1 := by omega
    subst e
    simp at hu
    subst hu
    simpa [ng_nl] using hp) h')
theorem ng_iinc_2 {x0 x1 : Option Value} {v w : Int32} {n : Int} {t : ng_L} (hd : decode y.2.1 pc = .ok (.iinc 2 n, 3)) (hv : Int32.ofInt n = w) (hp : ng_nl x1 = true) (k : ng_Go X y d (pc + 3) (x0 :: x1 :: some (.int (v + w)) :: t) st M F) : ng_Go X y d pc (x0 :: x1 :: some (.int v) :: t) st M F := by
  intro l D cA ad A p e R s m args below meth c cells slots Q C fin H locs ls hP hS hl
  obtain ⟨q, hq⟩ := List.getElem?_of_mem (ng_al_mem (ad := ad) (lv := x0 :: x1 :: some (.int v) :: t) (i := 2) (v := .int v) rfl)
  refine lv_iinc (v := v + w) C.1.1 C.1.2.1 hd hl.has (k := q) hq (by rw [hv]) (by rw [← hl.1]; simp only [List.length_cons]; omega) rfl (fun ls' h' => ?_)
  exact k l D cA ad A p e R s m args below meth c cells slots Q C fin H locs ls' hP hS (ng_lh.store (v := .int (v + w)) hl (fun j u hj hu => by
    have e : j = 1 := by omega
    subst e
    simp at hu
    subst hu
    simpa [ng_nl] using hp) h')
theorem ng_iload_3 {x0 x1 x2 : Option Value} {v : Int32} {t : ng_L} (hd : decode y.2.1 pc = .ok (.iload_n 3, 1)) (k : ng_Go X y d (pc + 1) (x0 :: x1 :: x2 :: some (.int v) :: t) (.int v :: st) M F) : ng_Go X y d pc (x0 :: x1 :: x2 :: some (.int v) :: t) st M F := by
  intro l D cA ad A p e R s m args below meth c cells slots Q C fin H locs ls hP hS hl
  exact lv_iload_n C.1.1 C.1.2.1 hd rfl (hl.2.2.2 3 _ rfl) (k l D cA ad A p e R s m args below meth c cells slots Q C fin H locs ls hP hS hl)
theorem ng_istore_3 {x0 x1 x2 x3 : Option Value} {v : Int32} {t : ng_L} (hd : decode y.2.1 pc = .ok (.istore_n 3, 1)) (hp : ng_nl x2 = true) (k : ng_Go X y d (pc + 1) (x0 :: x1 :: x2 :: some (.int v) :: t) st M F) : ng_Go X y d pc (x0 :: x1 :: x2 :: x3 :: t) (.int v :: st) M F := by
  intro l D cA ad A p e R s m args below meth c cells slots Q C fin H locs ls hP hS hl
  refine lv_istore_n C.1.1 C.1.2.1 hd rfl hl.has (by rw [← hl.1]; simp only [List.length_cons]; omega) rfl (fun ls' h' => ?_)
  exact k l D cA ad A p e R s m args below meth c cells slots Q C fin H locs ls' hP hS (ng_lh.store (v := .int v) hl (fun j u hj hu => by
    have e : j = 2 := by omega
    subst e
    simp at hu
    subst hu
    simpa [ng_nl] using hp) h')
theorem ng_aload_3 {x0 x1 x2 : Option Value} {v : Nat} {t : ng_L} (hd : decode y.2.1 pc = .ok (.aload_n 3, 1)) (k : ng_Go X y d (pc + 1) (x0 :: x1 :: x2 :: some (.ref v) :: t) (.ref v :: st) M F) : ng_Go X y d pc (x0 :: x1 :: x2 :: some (.ref v) :: t) st M F := by
  intro l D cA ad A p e R s m args below meth c cells slots Q C fin H locs ls hP hS hl
  exact lv_aload_n C.1.1 C.1.2.1 hd rfl (hl.2.2.2 3 _ rfl) (k l D cA ad A p e R s m args below meth c cells slots Q C fin H locs ls hP hS hl)
theorem ng_astore_3 {x0 x1 x2 x3 : Option Value} {v : Nat} {t : ng_L} (hd : decode y.2.1 pc = .ok (.astore_n 3, 1)) (hp : ng_nl x2 = true) (k : ng_Go X y d (pc + 1) (x0 :: x1 :: x2 :: some (.ref v) :: t) st M F) : ng_Go X y d pc (x0 :: x1 :: x2 :: x3 :: t) (.ref v :: st) M F := by
  intro l D cA ad A p e R s m args below meth c cells slots Q C fin H locs ls hP hS hl
  refine lv_astore_n C.1.1 C.1.2.1 hd rfl hl.has (by rw [← hl.1]; simp only [List.length_cons]; omega) rfl (fun ls' h' => ?_)
  exact k l D cA ad A p e R s m args below meth c cells slots Q C fin H locs ls' hP hS (ng_lh.store (v := .ref v) hl (fun j u hj hu => by
    have e : j = 2 := by omega
    subst e
    simp at hu
    subst hu
    simpa [ng_nl] using hp) h')
theorem ng_lload_3 {x0 x1 x2 : Option Value} {v : Int64} {t : ng_L} (hd : decode y.2.1 pc = .ok (.lload_n 3, 1)) (k : ng_Go X y d (pc + 1) (x0 :: x1 :: x2 :: some (.long v) :: t) (.long v :: st) M F) : ng_Go X y d pc (x0 :: x1 :: x2 :: some (.long v) :: t) st M F := by
  intro l D cA ad A p e R s m args below meth c cells slots Q C fin H locs ls hP hS hl
  exact lv_lload_n C.1.1 C.1.2.1 hd rfl (hl.2.2.2 3 _ rfl) (k l D cA ad A p e R s m args below meth c cells slots Q C fin H locs ls hP hS hl)
theorem ng_lstore_3 {x0 x1 x2 x3 x4 : Option Value} {v : Int64} {t : ng_L} (hd : decode y.2.1 pc = .ok (.lstore_n 3, 1)) (hp : ng_nl x2 = true) (k : ng_Go X y d (pc + 1) (x0 :: x1 :: x2 :: some (.long v) :: none :: t) st M F) : ng_Go X y d pc (x0 :: x1 :: x2 :: x3 :: x4 :: t) (.long v :: st) M F := by
  intro l D cA ad A p e R s m args below meth c cells slots Q C fin H locs ls hP hS hl
  have hn : 3 + 1 < y.2.2.1 := by rw [← hl.1]; simp only [List.length_cons]; omega
  refine lv_lstore_n C.1.1 C.1.2.1 hd rfl hl.has hn rfl (fun ls' h' => ?_)
  exact k l D cA ad A p e R s m args below meth c cells slots Q C fin H locs ls' hP hS (ng_lh.store2 (v := .long v) hl hn (fun j u hj hu => by
    have e : j = 2 := by omega
    subst e
    simp at hu
    subst hu
    simpa [ng_nl] using hp) h')
theorem ng_iinc_3 {x0 x1 x2 : Option Value} {v w : Int32} {n : Int} {t : ng_L} (hd : decode y.2.1 pc = .ok (.iinc 3 n, 3)) (hv : Int32.ofInt n = w) (hp : ng_nl x2 = true) (k : ng_Go X y d (pc + 3) (x0 :: x1 :: x2 :: some (.int (v + w)) :: t) st M F) : ng_Go X y d pc (x0 :: x1 :: x2 :: some (.int v) :: t) st M F := by
  intro l D cA ad A p e R s m args below meth c cells slots Q C fin H locs ls hP hS hl
  obtain ⟨q, hq⟩ := List.getElem?_of_mem (ng_al_mem (ad := ad) (lv := x0 :: x1 :: x2 :: some (.int v) :: t) (i := 3) (v := .int v) rfl)
  refine lv_iinc (v := v + w) C.1.1 C.1.2.1 hd hl.has (k := q) hq (by rw [hv]) (by rw [← hl.1]; simp only [List.length_cons]; omega) rfl (fun ls' h' => ?_)
  exact k l D cA ad A p e R s m args below meth c cells slots Q C fin H locs ls' hP hS (ng_lh.store (v := .int (v + w)) hl (fun j u hj hu => by
    have e : j = 2 := by omega
    subst e
    simp at hu
    subst hu
    simpa [ng_nl] using hp) h')
theorem ng_iload_4 {x0 x1 x2 x3 : Option Value} {v : Int32} {t : ng_L} (hd : decode y.2.1 pc = .ok (.iload 4, 2)) (k : ng_Go X y d (pc + 2) (x0 :: x1 :: x2 :: x3 :: some (.int v) :: t) (.int v :: st) M F) : ng_Go X y d pc (x0 :: x1 :: x2 :: x3 :: some (.int v) :: t) st M F := by
  intro l D cA ad A p e R s m args below meth c cells slots Q C fin H locs ls hP hS hl
  exact lv_iload C.1.1 C.1.2.1 hd (hl.2.2.2 4 _ rfl) (k l D cA ad A p e R s m args below meth c cells slots Q C fin H locs ls hP hS hl)
theorem ng_istore_4 {x0 x1 x2 x3 x4 : Option Value} {v : Int32} {t : ng_L} (hd : decode y.2.1 pc = .ok (.istore 4, 2)) (hp : ng_nl x3 = true) (k : ng_Go X y d (pc + 2) (x0 :: x1 :: x2 :: x3 :: some (.int v) :: t) st M F) : ng_Go X y d pc (x0 :: x1 :: x2 :: x3 :: x4 :: t) (.int v :: st) M F := by
  intro l D cA ad A p e R s m args below meth c cells slots Q C fin H locs ls hP hS hl
  refine lv_istore C.1.1 C.1.2.1 hd hl.has (by rw [← hl.1]; simp only [List.length_cons]; omega) rfl (fun ls' h' => ?_)
  exact k l D cA ad A p e R s m args below meth c cells slots Q C fin H locs ls' hP hS (ng_lh.store (v := .int v) hl (fun j u hj hu => by
    have e : j = 3 := by omega
    subst e
    simp at hu
    subst hu
    simpa [ng_nl] using hp) h')
theorem ng_aload_4 {x0 x1 x2 x3 : Option Value} {v : Nat} {t : ng_L} (hd : decode y.2.1 pc = .ok (.aload 4, 2)) (k : ng_Go X y d (pc + 2) (x0 :: x1 :: x2 :: x3 :: some (.ref v) :: t) (.ref v :: st) M F) : ng_Go X y d pc (x0 :: x1 :: x2 :: x3 :: some (.ref v) :: t) st M F := by
  intro l D cA ad A p e R s m args below meth c cells slots Q C fin H locs ls hP hS hl
  exact lv_aload C.1.1 C.1.2.1 hd (hl.2.2.2 4 _ rfl) (k l D cA ad A p e R s m args below meth c cells slots Q C fin H locs ls hP hS hl)
theorem ng_astore_4 {x0 x1 x2 x3 x4 : Option Value} {v : Nat} {t : ng_L} (hd : decode y.2.1 pc = .ok (.astore 4, 2)) (hp : ng_nl x3 = true) (k : ng_Go X y d (pc + 2) (x0 :: x1 :: x2 :: x3 :: some (.ref v) :: t) st M F) : ng_Go X y d pc (x0 :: x1 :: x2 :: x3 :: x4 :: t) (.ref v :: st) M F := by
  intro l D cA ad A p e R s m args below meth c cells slots Q C fin H locs ls hP hS hl
  refine lv_astore C.1.1 C.1.2.1 hd hl.has (by rw [← hl.1]; simp only [List.length_cons]; omega) rfl (fun ls' h' => ?_)
  exact k l D cA ad A p e R s m args below meth c cells slots Q C fin H locs ls' hP hS (ng_lh.store (v := .ref v) hl (fun j u hj hu => by
    have e : j = 3 := by omega
    subst e
    simp at hu
    subst hu
    simpa [ng_nl] using hp) h')
theorem ng_lload_4 {x0 x1 x2 x3 : Option Value} {v : Int64} {t : ng_L} (hd : decode y.2.1 pc = .ok (.lload 4, 2)) (k : ng_Go X y d (pc + 2) (x0 :: x1 :: x2 :: x3 :: some (.long v) :: t) (.long v :: st) M F) : ng_Go X y d pc (x0 :: x1 :: x2 :: x3 :: some (.long v) :: t) st M F := by
  intro l D cA ad A p e R s m args below meth c cells slots Q C fin H locs ls hP hS hl
  exact lv_lload C.1.1 C.1.2.1 hd (hl.2.2.2 4 _ rfl) (k l D cA ad A p e R s m args below meth c cells slots Q C fin H locs ls hP hS hl)
theorem ng_lstore_4 {x0 x1 x2 x3 x4 x5 : Option Value} {v : Int64} {t : ng_L} (hd : decode y.2.1 pc = .ok (.lstore 4, 2)) (hp : ng_nl x3 = true) (k : ng_Go X y d (pc + 2) (x0 :: x1 :: x2 :: x3 :: some (.long v) :: none :: t) st M F) : ng_Go X y d pc (x0 :: x1 :: x2 :: x3 :: x4 :: x5 :: t) (.long v :: st) M F := by
  intro l D cA ad A p e R s m args below meth c cells slots Q C fin H locs ls hP hS hl
  have hn : 4 + 1 < y.2.2.1 := by rw [← hl.1]; simp only [List.length_cons]; omega
  refine lv_lstore C.1.1 C.1.2.1 hd hl.has hn rfl (fun ls' h' => ?_)
  exact k l D cA ad A p e R s m args below meth c cells slots Q C fin H locs ls' hP hS (ng_lh.store2 (v := .long v) hl hn (fun j u hj hu => by
    have e : j = 3 := by omega
    subst e
    simp at hu
    subst hu
    simpa [ng_nl] using hp) h')
theorem ng_iinc_4 {x0 x1 x2 x3 : Option Value} {v w : Int32} {n : Int} {t : ng_L} (hd : decode y.2.1 pc = .ok (.iinc 4 n, 3)) (hv : Int32.ofInt n = w) (hp : ng_nl x3 = true) (k : ng_Go X y d (pc + 3) (x0 :: x1 :: x2 :: x3 :: some (.int (v + w)) :: t) st M F) : ng_Go X y d pc (x0 :: x1 :: x2 :: x3 :: some (.int v) :: t) st M F := by
  intro l D cA ad A p e R s m args below meth c cells slots Q C fin H locs ls hP hS hl
  obtain ⟨q, hq⟩ := List.getElem?_of_mem (ng_al_mem (ad := ad) (lv := x0 :: x1 :: x2 :: x3 :: some (.int v) :: t) (i := 4) (v := .int v) rfl)
  refine lv_iinc (v := v + w) C.1.1 C.1.2.1 hd hl.has (k := q) hq (by rw [hv]) (by rw [← hl.1]; simp only [List.length_cons]; omega) rfl (fun ls' h' => ?_)
  exact k l D cA ad A p e R s m args below meth c cells slots Q C fin H locs ls' hP hS (ng_lh.store (v := .int (v + w)) hl (fun j u hj hu => by
    have e : j = 3 := by omega
    subst e
    simp at hu
    subst hu
    simpa [ng_nl] using hp) h')
theorem ng_iload_5 {x0 x1 x2 x3 x4 : Option Value} {v : Int32} {t : ng_L} (hd : decode y.2.1 pc = .ok (.iload 5, 2)) (k : ng_Go X y d (pc + 2) (x0 :: x1 :: x2 :: x3 :: x4 :: some (.int v) :: t) (.int v :: st) M F) : ng_Go X y d pc (x0 :: x1 :: x2 :: x3 :: x4 :: some (.int v) :: t) st M F := by
  intro l D cA ad A p e R s m args below meth c cells slots Q C fin H locs ls hP hS hl
  exact lv_iload C.1.1 C.1.2.1 hd (hl.2.2.2 5 _ rfl) (k l D cA ad A p e R s m args below meth c cells slots Q C fin H locs ls hP hS hl)
theorem ng_istore_5 {x0 x1 x2 x3 x4 x5 : Option Value} {v : Int32} {t : ng_L} (hd : decode y.2.1 pc = .ok (.istore 5, 2)) (hp : ng_nl x4 = true) (k : ng_Go X y d (pc + 2) (x0 :: x1 :: x2 :: x3 :: x4 :: some (.int v) :: t) st M F) : ng_Go X y d pc (x0 :: x1 :: x2 :: x3 :: x4 :: x5 :: t) (.int v :: st) M F := by
  intro l D cA ad A p e R s m args below meth c cells slots Q C fin H locs ls hP hS hl
  refine lv_istore C.1.1 C.1.2.1 hd hl.has (by rw [← hl.1]; simp only [List.length_cons]; omega) rfl (fun ls' h' => ?_)
  exact k l D cA ad A p e R s m args below meth c cells slots Q C fin H locs ls' hP hS (ng_lh.store (v := .int v) hl (fun j u hj hu => by
    have e : j = 4 := by omega
    subst e
    simp at hu
    subst hu
    simpa [ng_nl] using hp) h')
theorem ng_aload_5 {x0 x1 x2 x3 x4 : Option Value} {v : Nat} {t : ng_L} (hd : decode y.2.1 pc = .ok (.aload 5, 2)) (k : ng_Go X y d (pc + 2) (x0 :: x1 :: x2 :: x3 :: x4 :: some (.ref v) :: t) (.ref v :: st) M F) : ng_Go X y d pc (x0 :: x1 :: x2 :: x3 :: x4 :: some (.ref v) :: t) st M F := by
  intro l D cA ad A p e R s m args below meth c cells slots Q C fin H locs ls hP hS hl
  exact lv_aload C.1.1 C.1.2.1 hd (hl.2.2.2 5 _ rfl) (k l D cA ad A p e R s m args below meth c cells slots Q C fin H locs ls hP hS hl)
theorem ng_astore_5 {x0 x1 x2 x3 x4 x5 : Option Value} {v : Nat} {t : ng_L} (hd : decode y.2.1 pc = .ok (.astore 5, 2)) (hp : ng_nl x4 = true) (k : ng_Go X y d (pc + 2) (x0 :: x1 :: x2 :: x3 :: x4 :: some (.ref v) :: t) st M F) : ng_Go X y d pc (x0 :: x1 :: x2 :: x3 :: x4 :: x5 :: t) (.ref v :: st) M F := by
  intro l D cA ad A p e R s m args below meth c cells slots Q C fin H locs ls hP hS hl
  refine lv_astore C.1.1 C.1.2.1 hd hl.has (by rw [← hl.1]; simp only [List.length_cons]; omega) rfl (fun ls' h' => ?_)
  exact k l D cA ad A p e R s m args below meth c cells slots Q C fin H locs ls' hP hS (ng_lh.store (v := .ref v) hl (fun j u hj hu => by
    have e : j = 4 := by omega
    subst e
    simp at hu
    subst hu
    simpa [ng_nl] using hp) h')
theorem ng_lload_5 {x0 x1 x2 x3 x4 : Option Value} {v : Int64} {t : ng_L} (hd : decode y.2.1 pc = .ok (.lload 5, 2)) (k : ng_Go X y d (pc + 2) (x0 :: x1 :: x2 :: x3 :: x4 :: some (.long v) :: t) (.long v :: st) M F) : ng_Go X y d pc (x0 :: x1 :: x2 :: x3 :: x4 :: some (.long v) :: t) st M F := by
  intro l D cA ad A p e R s m args below meth c cells slots Q C fin H locs ls hP hS hl
  exact lv_lload C.1.1 C.1.2.1 hd (hl.2.2.2 5 _ rfl) (k l D cA ad A p e R s m args below meth c cells slots Q C fin H locs ls hP hS hl)
theorem ng_lstore_5 {x0 x1 x2 x3 x4 x5 x6 : Option Value} {v : Int64} {t : ng_L} (hd : decode y.2.1 pc = .ok (.lstore 5, 2)) (hp : ng_nl x4 = true) (k : ng_Go X y d (pc + 2) (x0 :: x1 :: x2 :: x3 :: x4 :: some (.long v) :: none :: t) st M F) : ng_Go X y d pc (x0 :: x1 :: x2 :: x3 :: x4 :: x5 :: x6 :: t) (.long v :: st) M F := by
  intro l D cA ad A p e R s m args below meth c cells slots Q C fin H locs ls hP hS hl
  have hn : 5 + 1 < y.2.2.1 := by rw [← hl.1]; simp only [List.length_cons]; omega
  refine lv_lstore C.1.1 C.1.2.1 hd hl.has hn rfl (fun ls' h' => ?_)
  exact k l D cA ad A p e R s m args below meth c cells slots Q C fin H locs ls' hP hS (ng_lh.store2 (v := .long v) hl hn (fun j u hj hu => by
    have e : j = 4 := by omega
    subst e
    simp at hu
    subst hu
    simpa [ng_nl] using hp) h')
theorem ng_iinc_5 {x0 x1 x2 x3 x4 : Option Value} {v w : Int32} {n : Int} {t : ng_L} (hd : decode y.2.1 pc = .ok (.iinc 5 n, 3)) (hv : Int32.ofInt n = w) (hp : ng_nl x4 = true) (k : ng_Go X y d (pc + 3) (x0 :: x1 :: x2 :: x3 :: x4 :: some (.int (v + w)) :: t) st M F) : ng_Go X y d pc (x0 :: x1 :: x2 :: x3 :: x4 :: some (.int v) :: t) st M F := by
  intro l D cA ad A p e R s m args below meth c cells slots Q C fin H locs ls hP hS hl
  obtain ⟨q, hq⟩ := List.getElem?_of_mem (ng_al_mem (ad := ad) (lv := x0 :: x1 :: x2 :: x3 :: x4 :: some (.int v) :: t) (i := 5) (v := .int v) rfl)
  refine lv_iinc (v := v + w) C.1.1 C.1.2.1 hd hl.has (k := q) hq (by rw [hv]) (by rw [← hl.1]; simp only [List.length_cons]; omega) rfl (fun ls' h' => ?_)
  exact k l D cA ad A p e R s m args below meth c cells slots Q C fin H locs ls' hP hS (ng_lh.store (v := .int (v + w)) hl (fun j u hj hu => by
    have e : j = 4 := by omega
    subst e
    simp at hu
    subst hu
    simpa [ng_nl] using hp) h')
theorem ng_iload_6 {x0 x1 x2 x3 x4 x5 : Option Value} {v : Int32} {t : ng_L} (hd : decode y.2.1 pc = .ok (.iload 6, 2)) (k : ng_Go X y d (pc + 2) (x0 :: x1 :: x2 :: x3 :: x4 :: x5 :: some (.int v) :: t) (.int v :: st) M F) : ng_Go X y d pc (x0 :: x1 :: x2 :: x3 :: x4 :: x5 :: some (.int v) :: t) st M F := by
  intro l D cA ad A p e R s m args below meth c cells slots Q C fin H locs ls hP hS hl
  exact lv_iload C.1.1 C.1.2.1 hd (hl.2.2.2 6 _ rfl) (k l D cA ad A p e R s m args below meth c cells slots Q C fin H locs ls hP hS hl)
theorem ng_istore_6 {x0 x1 x2 x3 x4 x5 x6 : Option Value} {v : Int32} {t : ng_L} (hd : decode y.2.1 pc = .ok (.istore 6, 2)) (hp : ng_nl x5 = true) (k : ng_Go X y d (pc + 2) (x0 :: x1 :: x2 :: x3 :: x4 :: x5 :: some (.int v) :: t) st M F) : ng_Go X y d pc (x0 :: x1 :: x2 :: x3 :: x4 :: x5 :: x6 :: t) (.int v :: st) M F := by
  intro l D cA ad A p e R s m args below meth c cells slots Q C fin H locs ls hP hS hl
  refine lv_istore C.1.1 C.1.2.1 hd hl.has (by rw [← hl.1]; simp only [List.length_cons]; omega) rfl (fun ls' h' => ?_)
  exact k l D cA ad A p e R s m args below meth c cells slots Q C fin H locs ls' hP hS (ng_lh.store (v := .int v) hl (fun j u hj hu => by
    have e : j = 5 := by omega
    subst e
    simp at hu
    subst hu
    simpa [ng_nl] using hp) h')
theorem ng_aload_6 {x0 x1 x2 x3 x4 x5 : Option Value} {v : Nat} {t : ng_L} (hd : decode y.2.1 pc = .ok (.aload 6, 2)) (k : ng_Go X y d (pc + 2) (x0 :: x1 :: x2 :: x3 :: x4 :: x5 :: some (.ref v) :: t) (.ref v :: st) M F) : ng_Go X y d pc (x0 :: x1 :: x2 :: x3 :: x4 :: x5 :: some (.ref v) :: t) st M F := by
  intro l D cA ad A p e R s m args below meth c cells slots Q C fin H locs ls hP hS hl
  exact lv_aload C.1.1 C.1.2.1 hd (hl.2.2.2 6 _ rfl) (k l D cA ad A p e R s m args below meth c cells slots Q C fin H locs ls hP hS hl)
theorem ng_astore_6 {x0 x1 x2 x3 x4 x5 x6 : Option Value} {v : Nat} {t : ng_L} (hd : decode y.2.1 pc = .ok (.astore 6, 2)) (hp : ng_nl x5 = true) (k : ng_Go X y d (pc + 2) (x0 :: x1 :: x2 :: x3 :: x4 :: x5 :: some (.ref v) :: t) st M F) : ng_Go X y d pc (x0 :: x1 :: x2 :: x3 :: x4 :: x5 :: x6 :: t) (.ref v :: st) M F := by
  intro l D cA ad A p e R s m args below meth c cells slots Q C fin H locs ls hP hS hl
  refine lv_astore C.1.1 C.1.2.1 hd hl.has (by rw [← hl.1]; simp only [List.length_cons]; omega) rfl (fun ls' h' => ?_)
  exact k l D cA ad A p e R s m args below meth c cells slots Q C fin H locs ls' hP hS (ng_lh.store (v := .ref v) hl (fun j u hj hu => by
    have e : j = 5 := by omega
    subst e
    simp at hu
    subst hu
    simpa [ng_nl] using hp) h')
theorem ng_lload_6 {x0 x1 x2 x3 x4 x5 : Option Value} {v : Int64} {t : ng_L} (hd : decode y.2.1 pc = .ok (.lload 6, 2)) (k : ng_Go X y d (pc + 2) (x0 :: x1 :: x2 :: x3 :: x4 :: x5 :: some (.long v) :: t) (.long v :: st) M F) : ng_Go X y d pc (x0 :: x1 :: x2 :: x3 :: x4 :: x5 :: some (.long v) :: t) st M F := by
  intro l D cA ad A p e R s m args below meth c cells slots Q C fin H locs ls hP hS hl
  exact lv_lload C.1.1 C.1.2.1 hd (hl.2.2.2 6 _ rfl) (k l D cA ad A p e R s m args below meth c cells slots Q C fin H locs ls hP hS hl)
theorem ng_lstore_6 {x0 x1 x2 x3 x4 x5 x6 x7 : Option Value} {v : Int64} {t : ng_L} (hd : decode y.2.1 pc = .ok (.lstore 6, 2)) (hp : ng_nl x5 = true) (k : ng_Go X y d (pc + 2) (x0 :: x1 :: x2 :: x3 :: x4 :: x5 :: some (.long v) :: none :: t) st M F) : ng_Go X y d pc (x0 :: x1 :: x2 :: x3 :: x4 :: x5 :: x6 :: x7 :: t) (.long v :: st) M F := by
  intro l D cA ad A p e R s m args below meth c cells slots Q C fin H locs ls hP hS hl
  have hn : 6 + 1 < y.2.2.1 := by rw [← hl.1]; simp only [List.length_cons]; omega
  refine lv_lstore C.1.1 C.1.2.1 hd hl.has hn rfl (fun ls' h' => ?_)
  exact k l D cA ad A p e R s m args below meth c cells slots Q C fin H locs ls' hP hS (ng_lh.store2 (v := .long v) hl hn (fun j u hj hu => by
    have e : j = 5 := by omega
    subst e
    simp at hu
    subst hu
    simpa [ng_nl] using hp) h')
theorem ng_iinc_6 {x0 x1 x2 x3 x4 x5 : Option Value} {v w : Int32} {n : Int} {t : ng_L} (hd : decode y.2.1 pc = .ok (.iinc 6 n, 3)) (hv : Int32.ofInt n = w) (hp : ng_nl x5 = true) (k : ng_Go X y d (pc + 3) (x0 :: x1 :: x2 :: x3 :: x4 :: x5 :: some (.int (v + w)) :: t) st M F) : ng_Go X y d pc (x0 :: x1 :: x2 :: x3 :: x4 :: x5 :: some (.int v) :: t) st M F := by
  intro l D cA ad A p e R s m args below meth c cells slots Q C fin H locs ls hP hS hl
  obtain ⟨q, hq⟩ := List.getElem?_of_mem (ng_al_mem (ad := ad) (lv := x0 :: x1 :: x2 :: x3 :: x4 :: x5 :: some (.int v) :: t) (i := 6) (v := .int v) rfl)
  refine lv_iinc (v := v + w) C.1.1 C.1.2.1 hd hl.has (k := q) hq (by rw [hv]) (by rw [← hl.1]; simp only [List.length_cons]; omega) rfl (fun ls' h' => ?_)
  exact k l D cA ad A p e R s m args below meth c cells slots Q C fin H locs ls' hP hS (ng_lh.store (v := .int (v + w)) hl (fun j u hj hu => by
    have e : j = 5 := by omega
    subst e
    simp at hu
    subst hu
    simpa [ng_nl] using hp) h')
theorem ng_iload_7 {x0 x1 x2 x3 x4 x5 x6 : Option Value} {v : Int32} {t : ng_L} (hd : decode y.2.1 pc = .ok (.iload 7, 2)) (k : ng_Go X y d (pc + 2) (x0 :: x1 :: x2 :: x3 :: x4 :: x5 :: x6 :: some (.int v) :: t) (.int v :: st) M F) : ng_Go X y d pc (x0 :: x1 :: x2 :: x3 :: x4 :: x5 :: x6 :: some (.int v) :: t) st M F := by
  intro l D cA ad A p e R s m args below meth c cells slots Q C fin H locs ls hP hS hl
  exact lv_iload C.1.1 C.1.2.1 hd (hl.2.2.2 7 _ rfl) (k l D cA ad A p e R s m args below meth c cells slots Q C fin H locs ls hP hS hl)
theorem ng_istore_7 {x0 x1 x2 x3 x4 x5 x6 x7 : Option Value} {v : Int32} {t : ng_L} (hd : decode y.2.1 pc = .ok (.istore 7, 2)) (hp : ng_nl x6 = true) (k : ng_Go X y d (pc + 2) (x0 :: x1 :: x2 :: x3 :: x4 :: x5 :: x6 :: some (.int v) :: t) st M F) : ng_Go X y d pc (x0 :: x1 :: x2 :: x3 :: x4 :: x5 :: x6 :: x7 :: t) (.int v :: st) M F := by
  intro l D cA ad A p e R s m args below meth c cells slots Q C fin H locs ls hP hS hl
  refine lv_istore C.1.1 C.1.2.1 hd hl.has (by rw [← hl.1]; simp only [List.length_cons]; omega) rfl (fun ls' h' => ?_)
  exact k l D cA ad A p e R s m args below meth c cells slots Q C fin H locs ls' hP hS (ng_lh.store (v := .int v) hl (fun j u hj hu => by
    have e : j = 6 := by omega
    subst e
    simp at hu
    subst hu
    simpa [ng_nl] using hp) h')
theorem ng_aload_7 {x0 x1 x2 x3 x4 x5 x6 : Option Value} {v : Nat} {t : ng_L} (hd : decode y.2.1 pc = .ok (.aload 7, 2)) (k : ng_Go X y d (pc + 2) (x0 :: x1 :: x2 :: x3 :: x4 :: x5 :: x6 :: some (.ref v) :: t) (.ref v :: st) M F) : ng_Go X y d pc (x0 :: x1 :: x2 :: x3 :: x4 :: x5 :: x6 :: some (.ref v) :: t) st M F := by
  intro l D cA ad A p e R s m args below meth c cells slots Q C fin H locs ls hP hS hl
  exact lv_aload C.1.1 C.1.2.1 hd (hl.2.2.2 7 _ rfl) (k l D cA ad A p e R s m args below meth c cells slots Q C fin H locs ls hP hS hl)
theorem ng_astore_7 {x0 x1 x2 x3 x4 x5 x6 x7 : Option Value} {v : Nat} {t : ng_L} (hd : decode y.2.1 pc = .ok (.astore 7, 2)) (hp : ng_nl x6 = true) (k : ng_Go X y d (pc + 2) (x0 :: x1 :: x2 :: x3 :: x4 :: x5 :: x6 :: some (.ref v) :: t) st M F) : ng_Go X y d pc (x0 :: x1 :: x2 :: x3 :: x4 :: x5 :: x6 :: x7 :: t) (.ref v :: st) M F := by
  intro l D cA ad A p e R s m args below meth c cells slots Q C fin H locs ls hP hS hl
  refine lv_astore C.1.1 C.1.2.1 hd hl.has (by rw [← hl.1]; simp only [List.length_cons]; omega) rfl (fun ls' h' => ?_)
  exact k l D cA ad A p e R s m args below meth c cells slots Q C fin H locs ls' hP hS (ng_lh.store (v := .ref v) hl (fun j u hj hu => by
    have e : j = 6 := by omega
    subst e
    simp at hu
    subst hu
    simpa [ng_nl] using hp) h')
theorem ng_lload_7 {x0 x1 x2 x3 x4 x5 x6 : Option Value} {v : Int64} {t : ng_L} (hd : decode y.2.1 pc = .ok (.lload 7, 2)) (k : ng_Go X y d (pc + 2) (x0 :: x1 :: x2 :: x3 :: x4 :: x5 :: x6 :: some (.long v) :: t) (.long v :: st) M F) : ng_Go X y d pc (x0 :: x1 :: x2 :: x3 :: x4 :: x5 :: x6 :: some (.long v) :: t) st M F := by
  intro l D cA ad A p e R s m args below meth c cells slots Q C fin H locs ls hP hS hl
  exact lv_lload C.1.1 C.1.2.1 hd (hl.2.2.2 7 _ rfl) (k l D cA ad A p e R s m args below meth c cells slots Q C fin H locs ls hP hS hl)
theorem ng_lstore_7 {x0 x1 x2 x3 x4 x5 x6 x7 x8 : Option Value} {v : Int64} {t : ng_L} (hd : decode y.2.1 pc = .ok (.lstore 7, 2)) (hp : ng_nl x6 = true) (k : ng_Go X y d (pc + 2) (x0 :: x1 :: x2 :: x3 :: x4 :: x5 :: x6 :: some (.long v) :: none :: t) st M F) : ng_Go X y d pc (x0 :: x1 :: x2 :: x3 :: x4 :: x5 :: x6 :: x7 :: x8 :: t) (.long v :: st) M F := by
  intro l D cA ad A p e R s m args below meth c cells slots Q C fin H locs ls hP hS hl
  have hn : 7 + 1 < y.2.2.1 := by rw [← hl.1]; simp only [List.length_cons]; omega
  refine lv_lstore C.1.1 C.1.2.1 hd hl.has hn rfl (fun ls' h' => ?_)
  exact k l D cA ad A p e R s m args below meth c cells slots Q C fin H locs ls' hP hS (ng_lh.store2 (v := .long v) hl hn (fun j u hj hu => by
    have e : j = 6 := by omega
    subst e
    simp at hu
    subst hu
    simpa [ng_nl] using hp) h')
theorem ng_iinc_7 {x0 x1 x2 x3 x4 x5 x6 : Option Value} {v w : Int32} {n : Int} {t : ng_L} (hd : decode y.2.1 pc = .ok (.iinc 7 n, 3)) (hv : Int32.ofInt n = w) (hp : ng_nl x6 = true) (k : ng_Go X y d (pc + 3) (x0 :: x1 :: x2 :: x3 :: x4 :: x5 :: x6 :: some (.int (v + w)) :: t) st M F) : ng_Go X y d pc (x0 :: x1 :: x2 :: x3 :: x4 :: x5 :: x6 :: some (.int v) :: t) st M F := by
  intro l D cA ad A p e R s m args below meth c cells slots Q C fin H locs ls hP hS hl
  obtain ⟨q, hq⟩ := List.getElem?_of_mem (ng_al_mem (ad := ad) (lv := x0 :: x1 :: x2 :: x3 :: x4 :: x5 :: x6 :: some (.int v) :: t) (i := 7) (v := .int v) rfl)
  refine lv_iinc (v := v + w) C.1.1 C.1.2.1 hd hl.has (k := q) hq (by rw [hv]) (by rw [← hl.1]; simp only [List.length_cons]; omega) rfl (fun ls' h' => ?_)
  exact k l D cA ad A p e R s m args below meth c cells slots Q C fin H locs ls' hP hS (ng_lh.store (v := .int (v + w)) hl (fun j u hj hu => by
    have e : j = 6 := by omega
    subst e
    simp at hu
    subst hu
    simpa [ng_nl] using hp) h')
theorem ng_iload_8 {x0 x1 x2 x3 x4 x5 x6 x7 : Option Value} {v : Int32} {t : ng_L} (hd : decode y.2.1 pc = .ok (.iload 8, 2)) (k : ng_Go X y d (pc + 2) (x0 :: x1 :: x2 :: x3 :: x4 :: x5 :: x6 :: x7 :: some (.int v) :: t) (.int v :: st) M F) : ng_Go X y d pc (x0 :: x1 :: x2 :: x3 :: x4 :: x5 :: x6 :: x7 :: some (.int v) :: t) st M F := by
  intro l D cA ad A p e R s m args below meth c cells slots Q C fin H locs ls hP hS hl
  exact lv_iload C.1.1 C.1.2.1 hd (hl.2.2.2 8 _ rfl) (k l D cA ad A p e R s m args below meth c cells slots Q C fin H locs ls hP hS hl)
theorem ng_istore_8 {x0 x1 x2 x3 x4 x5 x6 x7 x8 : Option Value} {v : Int32} {t : ng_L} (hd : decode y.2.1 pc = .ok (.istore 8, 2)) (hp : ng_nl x7 = true) (k : ng_Go X y d (pc + 2) (x0 :: x1 :: x2 :: x3 :: x4 :: x5 :: x6 :: x7 :: some (.int v) :: t) st M F) : ng_Go X y d pc (x0 :: x1 :: x2 :: x3 :: x4 :: x5 :: x6 :: x7 :: x8 :: t) (.int v :: st) M F := by
  intro l D cA ad A p e R s m args below meth c cells slots Q C fin H locs ls hP hS hl
  refine lv_istore C.1.1 C.1.2.1 hd hl.has (by rw [← hl.1]; simp only [List.length_cons]; omega) rfl (fun ls' h' => ?_)
  exact k l D cA ad A p e R s m args below meth c cells slots Q C fin H locs ls' hP hS (ng_lh.store (v := .int v) hl (fun j u hj hu => by
    have e : j = 7 := by omega
    subst e
    simp at hu
    subst hu
    simpa [ng_nl] using hp) h')
theorem ng_aload_8 {x0 x1 x2 x3 x4 x5 x6 x7 : Option Value} {v : Nat} {t : ng_L} (hd : decode y.2.1 pc = .ok (.aload 8, 2)) (k : ng_Go X y d (pc + 2) (x0 :: x1 :: x2 :: x3 :: x4 :: x5 :: x6 :: x7 :: some (.ref v) :: t) (.ref v :: st) M F) : ng_Go X y d pc (x0 :: x1 :: x2 :: x3 :: x4 :: x5 :: x6 :: x7 :: some (.ref v) :: t) st M F := by
  intro l D cA ad A p e R s m args below meth c cells slots Q C fin H locs ls hP hS hl
  exact lv_aload C.1.1 C.1.2.1 hd (hl.2.2.2 8 _ rfl) (k l D cA ad A p e R s m args below meth c cells slots Q C fin H locs ls hP hS hl)
theorem ng_astore_8 {x0 x1 x2 x3 x4 x5 x6 x7 x8 : Option Value} {v : Nat} {t : ng_L} (hd : decode y.2.1 pc = .ok (.astore 8, 2)) (hp : ng_nl x7 = true) (k : ng_Go X y d (pc + 2) (x0 :: x1 :: x2 :: x3 :: x4 :: x5 :: x6 :: x7 :: some (.ref v) :: t) st M F) : ng_Go X y d pc (x0 :: x1 :: x2 :: x3 :: x4 :: x5 :: x6 :: x7 :: x8 :: t) (.ref v :: st) M F := by
  intro l D cA ad A p e R s m args below meth c cells slots Q C fin H locs ls hP hS hl
  refine lv_astore C.1.1 C.1.2.1 hd hl.has (by rw [← hl.1]; simp only [List.length_cons]; omega) rfl (fun ls' h' => ?_)
  exact k l D cA ad A p e R s m args below meth c cells slots Q C fin H locs ls' hP hS (ng_lh.store (v := .ref v) hl (fun j u hj hu => by
    have e : j = 7 := by omega
    subst e
    simp at hu
    subst hu
    simpa [ng_nl] using hp) h')
theorem ng_lload_8 {x0 x1 x2 x3 x4 x5 x6 x7 : Option Value} {v : Int64} {t : ng_L} (hd : decode y.2.1 pc = .ok (.lload 8, 2)) (k : ng_Go X y d (pc + 2) (x0 :: x1 :: x2 :: x3 :: x4 :: x5 :: x6 :: x7 :: some (.long v) :: t) (.long v :: st) M F) : ng_Go X y d pc (x0 :: x1 :: x2 :: x3 :: x4 :: x5 :: x6 :: x7 :: some (.long v) :: t) st M F := by
  intro l D cA ad A p e R s m args below meth c cells slots Q C fin H locs ls hP hS hl
  exact lv_lload C.1.1 C.1.2.1 hd (hl.2.2.2 8 _ rfl) (k l D cA ad A p e R s m args below meth c cells slots Q C fin H locs ls hP hS hl)
theorem ng_lstore_8 {x0 x1 x2 x3 x4 x5 x6 x7 x8 x9 : Option Value} {v : Int64} {t : ng_L} (hd : decode y.2.1 pc = .ok (.lstore 8, 2)) (hp : ng_nl x7 = true) (k : ng_Go X y d (pc + 2) (x0 :: x1 :: x2 :: x3 :: x4 :: x5 :: x6 :: x7 :: some (.long v) :: none :: t) st M F) : ng_Go X y d pc (x0 :: x1 :: x2 :: x3 :: x4 :: x5 :: x6 :: x7 :: x8 :: x9 :: t) (.long v :: st) M F := by
  intro l D cA ad A p e R s m args below meth c cells slots Q C fin H locs ls hP hS hl
  have hn : 8 + 1 < y.2.2.1 := by rw [← hl.1]; simp only [List.length_cons]; omega
  refine lv_lstore C.1.1 C.1.2.1 hd hl.has hn rfl (fun ls' h' => ?_)
  exact k l D cA ad A p e R s m args below meth c cells slots Q C fin H locs ls' hP hS (ng_lh.store2 (v := .long v) hl hn (fun j u hj hu => by
    have e : j = 7 := by omega
    subst e
    simp at hu
    subst hu
    simpa [ng_nl] using hp) h')
theorem ng_iinc_8 {x0 x1 x2 x3 x4 x5 x6 x7 : Option Value} {v w : Int32} {n : Int} {t : ng_L} (hd : decode y.2.1 pc = .ok (.iinc 8 n, 3)) (hv : Int32.ofInt n = w) (hp : ng_nl x7 = true) (k : ng_Go X y d (pc + 3) (x0 :: x1 :: x2 :: x3 :: x4 :: x5 :: x6 :: x7 :: some (.int (v + w)) :: t) st M F) : ng_Go X y d pc (x0 :: x1 :: x2 :: x3 :: x4 :: x5 :: x6 :: x7 :: some (.int v) :: t) st M F := by
  intro l D cA ad A p e R s m args below meth c cells slots Q C fin H locs ls hP hS hl
  obtain ⟨q, hq⟩ := List.getElem?_of_mem (ng_al_mem (ad := ad) (lv := x0 :: x1 :: x2 :: x3 :: x4 :: x5 :: x6 :: x7 :: some (.int v) :: t) (i := 8) (v := .int v) rfl)
  refine lv_iinc (v := v + w) C.1.1 C.1.2.1 hd hl.has (k := q) hq (by rw [hv]) (by rw [← hl.1]; simp only [List.length_cons]; omega) rfl (fun ls' h' => ?_)
  exact k l D cA ad A p e R s m args below meth c cells slots Q C fin H locs ls' hP hS (ng_lh.store (v := .int (v + w)) hl (fun j u hj hu => by
    have e : j = 7 := by omega
    subst e
    simp at hu
    subst hu
    simpa [ng_nl] using hp) h')
theorem ng_iload_9 {x0 x1 x2 x3 x4 x5 x6 x7 x8 : Option Value} {v : Int32} {t : ng_L} (hd : decode y.2.1 pc = .ok (.iload 9, 2)) (k : ng_Go X y d (pc + 2) (x0 :: x1 :: x2 :: x3 :: x4 :: x5 :: x6 :: x7 :: x8 :: some (.int v) :: t) (.int v :: st) M F) : ng_Go X y d pc (x0 :: x1 :: x2 :: x3 :: x4 :: x5 :: x6 :: x7 :: x8 :: some (.int v) :: t) st M F := by
  intro l D cA ad A p e R s m args below meth c cells slots Q C fin H locs ls hP hS hl
  exact lv_iload C.1.1 C.1.2.1 hd (hl.2.2.2 9 _ rfl) (k l D cA ad A p e R s m args below meth c cells slots Q C fin H locs ls hP hS hl)
theorem ng_istore_9 {x0 x1 x2 x3 x4 x5 x6 x7 x8 x9 : Option Value} {v : Int32} {t : ng_L} (hd : decode y.2.1 pc = .ok (.istore 9, 2)) (hp : ng_nl x8 = true) (k : ng_Go X y d (pc + 2) (x0 :: x1 :: x2 :: x3 :: x4 :: x5 :: x6 :: x7 :: x8 :: some (.int v) :: t) st M F) : ng_Go X y d pc (x0 :: x1 :: x2 :: x3 :: x4 :: x5 :: x6 :: x7 :: x8 :: x9 :: t) (.int v :: st) M F := by
  intro l D cA ad A p e R s m args below meth c cells slots Q C fin H locs ls hP hS hl
  refine lv_istore C.1.1 C.1.2.1 hd hl.has (by rw [← hl.1]; simp only [List.length_cons]; omega) rfl (fun ls' h' => ?_)
  exact k l D cA ad A p e R s m args below meth c cells slots Q C fin H locs ls' hP hS (ng_lh.store (v := .int v) hl (fun j u hj hu => by
    have e : j = 8 := by omega
    subst e
    simp at hu
    subst hu
    simpa [ng_nl] using hp) h')
theorem ng_aload_9 {x0 x1 x2 x3 x4 x5 x6 x7 x8 : Option Value} {v : Nat} {t : ng_L} (hd : decode y.2.1 pc = .ok (.aload 9, 2)) (k : ng_Go X y d (pc + 2) (x0 :: x1 :: x2 :: x3 :: x4 :: x5 :: x6 :: x7 :: x8 :: some (.ref v) :: t) (.ref v :: st) M F) : ng_Go X y d pc (x0 :: x1 :: x2 :: x3 :: x4 :: x5 :: x6 :: x7 :: x8 :: some (.ref v) :: t) st M F := by
  intro l D cA ad A p e R s m args below meth c cells slots Q C fin H locs ls hP hS hl
  exact lv_aload C.1.1 C.1.2.1 hd (hl.2.2.2 9 _ rfl) (k l D cA ad A p e R s m args below meth c cells slots Q C fin H locs ls hP hS hl)
theorem ng_astore_9 {x0 x1 x2 x3 x4 x5 x6 x7 x8 x9 : Option Value} {v : Nat} {t : ng_L} (hd : decode y.2.1 pc = .ok (.astore 9, 2)) (hp : ng_nl x8 = true) (k : ng_Go X y d (pc + 2) (x0 :: x1 :: x2 :: x3 :: x4 :: x5 :: x6 :: x7 :: x8 :: some (.ref v) :: t) st M F) : ng_Go X y d pc (x0 :: x1 :: x2 :: x3 :: x4 :: x5 :: x6 :: x7 :: x8 :: x9 :: t) (.ref v :: st) M F := by
  intro l D cA ad A p e R s m args below meth c cells slots Q C fin H locs ls hP hS hl
  refine lv_astore C.1.1 C.1.2.1 hd hl.has (by rw [← hl.1]; simp only [List.length_cons]; omega) rfl (fun ls' h' => ?_)
  exact k l D cA ad A p e R s m args below meth c cells slots Q C fin H locs ls' hP hS (ng_lh.store (v := .ref v) hl (fun j u hj hu => by
    have e : j = 8 := by omega
    subst e
    simp at hu
    subst hu
    simpa [ng_nl] using hp) h')
theorem ng_lload_9 {x0 x1 x2 x3 x4 x5 x6 x7 x8 : Option Value} {v : Int64} {t : ng_L} (hd : decode y.2.1 pc = .ok (.lload 9, 2)) (k : ng_Go X y d (pc + 2) (x0 :: x1 :: x2 :: x3 :: x4 :: x5 :: x6 :: x7 :: x8 :: some (.long v) :: t) (.long v :: st) M F) : ng_Go X y d pc (x0 :: x1 :: x2 :: x3 :: x4 :: x5 :: x6 :: x7 :: x8 :: some (.long v) :: t) st M F := by
  intro l D cA ad A p e R s m args below meth c cells slots Q C fin H locs ls hP hS hl
  exact lv_lload C.1.1 C.1.2.1 hd (hl.2.2.2 9 _ rfl) (k l D cA ad A p e R s m args below meth c cells slots Q C fin H locs ls hP hS hl)
theorem ng_lstore_9 {x0 x1 x2 x3 x4 x5 x6 x7 x8 x9 x10 : Option Value} {v : Int64} {t : ng_L} (hd : decode y.2.1 pc = .ok (.lstore 9, 2)) (hp : ng_nl x8 = true) (k : ng_Go X y d (pc + 2) (x0 :: x1 :: x2 :: x3 :: x4 :: x5 :: x6 :: x7 :: x8 :: some (.long v) :: none :: t) st M F) : ng_Go X y d pc (x0 :: x1 :: x2 :: x3 :: x4 :: x5 :: x6 :: x7 :: x8 :: x9 :: x10 :: t) (.long v :: st) M F := by
  intro l D cA ad A p e R s m args below meth c cells slots Q C fin H locs ls hP hS hl
  have hn : 9 + 1 < y.2.2.1 := by rw [← hl.1]; simp only [List.length_cons]; omega
  refine lv_lstore C.1.1 C.1.2.1 hd hl.has hn rfl (fun ls' h' => ?_)
  exact k l D cA ad A p e R s m args below meth c cells slots Q C fin H locs ls' hP hS (ng_lh.store2 (v := .long v) hl hn (fun j u hj hu => by
    have e : j = 8 := by omega
    subst e
    simp at hu
    subst hu
    simpa [ng_nl] using hp) h')
theorem ng_iinc_9 {x0 x1 x2 x3 x4 x5 x6 x7 x8 : Option Value} {v w : Int32} {n : Int} {t : ng_L} (hd : decode y.2.1 pc = .ok (.iinc 9 n, 3)) (hv : Int32.ofInt n = w) (hp : ng_nl x8 = true) (k : ng_Go X y d (pc + 3) (x0 :: x1 :: x2 :: x3 :: x4 :: x5 :: x6 :: x7 :: x8 :: some (.int (v + w)) :: t) st M F) : ng_Go X y d pc (x0 :: x1 :: x2 :: x3 :: x4 :: x5 :: x6 :: x7 :: x8 :: some (.int v) :: t) st M F := by
  intro l D cA ad A p e R s m args below meth c cells slots Q C fin H locs ls hP hS hl
  obtain ⟨q, hq⟩ := List.getElem?_of_mem (ng_al_mem (ad := ad) (lv := x0 :: x1 :: x2 :: x3 :: x4 :: x5 :: x6 :: x7 :: x8 :: some (.int v) :: t) (i := 9) (v := .int v) rfl)
  refine lv_iinc (v := v + w) C.1.1 C.1.2.1 hd hl.has (k := q) hq (by rw [hv]) (by rw [← hl.1]; simp only [List.length_cons]; omega) rfl (fun ls' h' => ?_)
  exact k l D cA ad A p e R s m args below meth c cells slots Q C fin H locs ls' hP hS (ng_lh.store (v := .int (v + w)) hl (fun j u hj hu => by
    have e : j = 8 := by omega
    subst e
    simp at hu
    subst hu
    simpa [ng_nl] using hp) h')
theorem ng_iload_10 {x0 x1 x2 x3 x4 x5 x6 x7 x8 x9 : Option Value} {v : Int32} {t : ng_L} (hd : decode y.2.1 pc = .ok (.iload 10, 2)) (k : ng_Go X y d (pc + 2) (x0 :: x1 :: x2 :: x3 :: x4 :: x5 :: x6 :: x7 :: x8 :: x9 :: some (.int v) :: t) (.int v :: st) M F) : ng_Go X y d pc (x0 :: x1 :: x2 :: x3 :: x4 :: x5 :: x6 :: x7 :: x8 :: x9 :: some (.int v) :: t) st M F := by
  intro l D cA ad A p e R s m args below meth c cells slots Q C fin H locs ls hP hS hl
  exact lv_iload C.1.1 C.1.2.1 hd (hl.2.2.2 10 _ rfl) (k l D cA ad A p e R s m args below meth c cells slots Q C fin H locs ls hP hS hl)
theorem ng_istore_10 {x0 x1 x2 x3 x4 x5 x6 x7 x8 x9 x10 : Option Value} {v : Int32} {t : ng_L} (hd : decode y.2.1 pc = .ok (.istore 10, 2)) (hp : ng_nl x9 = true) (k : ng_Go X y d (pc + 2) (x0 :: x1 :: x2 :: x3 :: x4 :: x5 :: x6 :: x7 :: x8 :: x9 :: some (.int v) :: t) st M F) : ng_Go X y d pc (x0 :: x1 :: x2 :: x3 :: x4 :: x5 :: x6 :: x7 :: x8 :: x9 :: x10 :: t) (.int v :: st) M F := by
  intro l D cA ad A p e R s m args below meth c cells slots Q C fin H locs ls hP hS hl
  refine lv_istore C.1.1 C.1.2.1 hd hl.has (by rw [← hl.1]; simp only [List.length_cons]; omega) rfl (fun ls' h' => ?_)
  exact k l D cA ad A p e R s m args below meth c cells slots Q C fin H locs ls' hP hS (ng_lh.store (v := .int v) hl (fun j u hj hu => by
    have e : j = 9 := by omega
    subst e
    simp at hu
    subst hu
    simpa [ng_nl] using hp) h')
theorem ng_aload_10 {x0 x1 x2 x3 x4 x5 x6 x7 x8 x9 : Option Value} {v : Nat} {t : ng_L} (hd : decode y.2.1 pc = .ok (.aload 10, 2)) (k : ng_Go X y d (pc + 2) (x0 :: x1 :: x2 :: x3 :: x4 :: x5 :: x6 :: x7 :: x8 :: x9 :: some (.ref v) :: t) (.ref v :: st) M F) : ng_Go X y d pc (x0 :: x1 :: x2 :: x3 :: x4 :: x5 :: x6 :: x7 :: x8 :: x9 :: some (.ref v) :: t) st M F := by
  intro l D cA ad A p e R s m args below meth c cells slots Q C fin H locs ls hP hS hl
  exact lv_aload C.1.1 C.1.2.1 hd (hl.2.2.2 10 _ rfl) (k l D cA ad A p e R s m args below meth c cells slots Q C fin H locs ls hP hS hl)
theorem ng_astore_10 {x0 x1 x2 x3 x4 x5 x6 x7 x8 x9 x10 : Option Value} {v : Nat} {t : ng_L} (hd : decode y.2.1 pc = .ok (.astore 10, 2)) (hp : ng_nl x9 = true) (k : ng_Go X y d (pc + 2) (x0 :: x1 :: x2 :: x3 :: x4 :: x5 :: x6 :: x7 :: x8 :: x9 :: some (.ref v) :: t) st M F) : ng_Go X y d pc (x0 :: x1 :: x2 :: x3 :: x4 :: x5 :: x6 :: x7 :: x8 :: x9 :: x10 :: t) (.ref v :: st) M F := by
  intro l D cA ad A p e R s m args below meth c cells slots Q C fin H locs ls hP hS hl
  refine lv_astore C.1.1 C.1.2.1 hd hl.has (by rw [← hl.1]; simp only [List.length_cons]; omega) rfl (fun ls' h' => ?_)
  exact k l D cA ad A p e R s m args below meth c cells slots Q C fin H locs ls' hP hS (ng_lh.store (v := .ref v) hl (fun j u hj hu => by
    have e : j = 9 := by omega
    subst e
    simp at hu
    subst hu
    simpa [ng_nl] using hp) h')
theorem ng_lload_10 {x0 x1 x2 x3 x4 x5 x6 x7 x8 x9 : Option Value} {v : Int64} {t : ng_L} (hd : decode y.2.1 pc = .ok (.lload 10, 2)) (k : ng_Go X y d (pc + 2) (x0 :: x1 :: x2 :: x3 :: x4 :: x5 :: x6 :: x7 :: x8 :: x9 :: some (.long v) :: t) (.long v :: st) M F) : ng_Go X y d pc (x0 :: x1 :: x2 :: x3 :: x4 :: x5 :: x6 :: x7 :: x8 :: x9 :: some (.long v) :: t) st M F := by
  intro l D cA ad A p e R s m args below meth c cells slots Q C fin H locs ls hP hS hl
  exact lv_lload C.1.1 C.1.2.1 hd (hl.2.2.2 10 _ rfl) (k l D cA ad A p e R s m args below meth c cells slots Q C fin H locs ls hP hS hl)
theorem ng_lstore_10 {x0 x1 x2 x3 x4 x5 x6 x7 x8 x9 x10 x11 : Option Value} {v : Int64} {t : ng_L} (hd : decode y.2.1 pc = .ok (.lstore 10, 2)) (hp : ng_nl x9 = true) (k : ng_Go X y d (pc + 2) (x0 :: x1 :: x2 :: x3 :: x4 :: x5 :: x6 :: x7 :: x8 :: x9 :: some (.long v) :: none :: t) st M F) : ng_Go X y d pc (x0 :: x1 :: x2 :: x3 :: x4 :: x5 :: x6 :: x7 :: x8 :: x9 :: x10 :: x11 :: t) (.long v :: st) M F := by
  intro l D cA ad A p e R s m args below meth c cells slots Q C fin H locs ls hP hS hl
  have hn : 10 + 1 < y.2.2.1 := by rw [← hl.1]; simp only [List.length_cons]; omega
  refine lv_lstore C.1.1 C.1.2.1 hd hl.has hn rfl (fun ls' h' => ?_)
  exact k l D cA ad A p e R s m args below meth c cells slots Q C fin H locs ls' hP hS (ng_lh.store2 (v := .long v) hl hn (fun j u hj hu => by
    have e : j = 9 := by omega
    subst e
    simp at hu
    subst hu
    simpa [ng_nl] using hp) h')
theorem ng_iinc_10 {x0 x1 x2 x3 x4 x5 x6 x7 x8 x9 : Option Value} {v w : Int32} {n : Int} {t : ng_L} (hd : decode y.2.1 pc = .ok (.iinc 10 n, 3)) (hv : Int32.ofInt n = w) (hp : ng_nl x9 = true) (k : ng_Go X y d (pc + 3) (x0 :: x1 :: x2 :: x3 :: x4 :: x5 :: x6 :: x7 :: x8 :: x9 :: some (.int (v + w)) :: t) st M F) : ng_Go X y d pc (x0 :: x1 :: x2 :: x3 :: x4 :: x5 :: x6 :: x7 :: x8 :: x9 :: some (.int v) :: t) st M F := by
  intro l D cA ad A p e R s m args below meth c cells slots Q C fin H locs ls hP hS hl
  obtain ⟨q, hq⟩ := List.getElem?_of_mem (ng_al_mem (ad := ad) (lv := x0 :: x1 :: x2 :: x3 :: x4 :: x5 :: x6 :: x7 :: x8 :: x9 :: some (.int v) :: t) (i := 10) (v := .int v) rfl)
  refine lv_iinc (v := v + w) C.1.1 C.1.2.1 hd hl.has (k := q) hq (by rw [hv]) (by rw [← hl.1]; simp only [List.length_cons]; omega) rfl (fun ls' h' => ?_)
  exact k l D cA ad A p e R s m args below meth c cells slots Q C fin H locs ls' hP hS (ng_lh.store (v := .int (v + w)) hl (fun j u hj hu => by
    have e : j = 9 := by omega
    subst e
    simp at hu
    subst hu
    simpa [ng_nl] using hp) h')
theorem ng_iload_11 {x0 x1 x2 x3 x4 x5 x6 x7 x8 x9 x10 : Option Value} {v : Int32} {t : ng_L} (hd : decode y.2.1 pc = .ok (.iload 11, 2)) (k : ng_Go X y d (pc + 2) (x0 :: x1 :: x2 :: x3 :: x4 :: x5 :: x6 :: x7 :: x8 :: x9 :: x10 :: some (.int v) :: t) (.int v :: st) M F) : ng_Go X y d pc (x0 :: x1 :: x2 :: x3 :: x4 :: x5 :: x6 :: x7 :: x8 :: x9 :: x10 :: some (.int v) :: t) st M F := by
  intro l D cA ad A p e R s m args below meth c cells slots Q C fin H locs ls hP hS hl
  exact lv_iload C.1.1 C.1.2.1 hd (hl.2.2.2 11 _ rfl) (k l D cA ad A p e R s m args below meth c cells slots Q C fin H locs ls hP hS hl)
theorem ng_istore_11 {x0 x1 x2 x3 x4 x5 x6 x7 x8 x9 x10 x11 : Option Value} {v : Int32} {t : ng_L} (hd : decode y.2.1 pc = .ok (.istore 11, 2)) (hp : ng_nl x10 = true) (k : ng_Go X y d (pc + 2) (x0 :: x1 :: x2 :: x3 :: x4 :: x5 :: x6 :: x7 :: x8 :: x9 :: x10 :: some (.int v) :: t) st M F) : ng_Go X y d pc (x0 :: x1 :: x2 :: x3 :: x4 :: x5 :: x6 :: x7 :: x8 :: x9 :: x10 :: x11 :: t) (.int v :: st) M F := by
  intro l D cA ad A p e R s m args below meth c cells slots Q C fin H locs ls hP hS hl
  refine lv_istore C.1.1 C.1.2.1 hd hl.has (by rw [← hl.1]; simp only [List.length_cons]; omega) rfl (fun ls' h' => ?_)
  exact k l D cA ad A p e R s m args below meth c cells slots Q C fin H locs ls' hP hS (ng_lh.store (v := .int v) hl (fun j u hj hu => by
    have e : j = 10 := by omega
    subst e
    simp at hu
    subst hu
    simpa [ng_nl] using hp) h')
theorem ng_aload_11 {x0 x1 x2 x3 x4 x5 x6 x7 x8 x9 x10 : Option Value} {v : Nat} {t : ng_L} (hd : decode y.2.1 pc = .ok (.aload 11, 2)) (k : ng_Go X y d (pc + 2) (x0 :: x1 :: x2 :: x3 :: x4 :: x5 :: x6 :: x7 :: x8 :: x9 :: x10 :: some (.ref v) :: t) (.ref v :: st) M F) : ng_Go X y d pc (x0 :: x1 :: x2 :: x3 :: x4 :: x5 :: x6 :: x7 :: x8 :: x9 :: x10 :: some (.ref v) :: t) st M F := by
  intro l D cA ad A p e R s m args below meth c cells slots Q C fin H locs ls hP hS hl
  exact lv_aload C.1.1 C.1.2.1 hd (hl.2.2.2 11 _ rfl) (k l D cA ad A p e R s m args below meth c cells slots Q C fin H locs ls hP hS hl)
theorem ng_astore_11 {x0 x1 x2 x3 x4 x5 x6 x7 x8 x9 x10 x11 : Option Value} {v : Nat} {t : ng_L} (hd : decode y.2.1 pc = .ok (.astore 11, 2)) (hp : ng_nl x10 = true) (k : ng_Go X y d (pc + 2) (x0 :: x1 :: x2 :: x3 :: x4 :: x5 :: x6 :: x7 :: x8 :: x9 :: x10 :: some (.ref v) :: t) st M F) : ng_Go X y d pc (x0 :: x1 :: x2 :: x3 :: x4 :: x5 :: x6 :: x7 :: x8 :: x9 :: x10 :: x11 :: t) (.ref v :: st) M F := by
  intro l D cA ad A p e R s m args below meth c cells slots Q C fin H locs ls hP hS hl
  refine lv_astore C.1.1 C.1.2.1 hd hl.has (by rw [← hl.1]; simp only [List.length_cons]; omega) rfl (fun ls' h' => ?_)
  exact k l D cA ad A p e R s m args below meth c cells slots Q C fin H locs ls' hP hS (ng_lh.store (v := .ref v) hl (fun j u hj hu => by
    have e : j = 10 := by omega
    subst e
    simp at hu
    subst hu
    simpa [ng_nl] using hp) h')
theorem ng_lload_11 {x0 x1 x2 x3 x4 x5 x6 x7 x8 x9 x10 : Option Value} {v : Int64} {t : ng_L} (hd : decode y.2.1 pc = .ok (.lload 11, 2)) (k : ng_Go X y d (pc + 2) (x0 :: x1 :: x2 :: x3 :: x4 :: x5 :: x6 :: x7 :: x8 :: x9 :: x10 :: some (.long v) :: t) (.long v :: st) M F) : ng_Go X y d pc (x0 :: x1 :: x2 :: x3 :: x4 :: x5 :: x6 :: x7 :: x8 :: x9 :: x10 :: some (.long v) :: t) st M F := by
  intro l D cA ad A p e R s m args below meth c cells slots Q C fin H locs ls hP hS hl
  exact lv_lload C.1.1 C.1.2.1 hd (hl.2.2.2 11 _ rfl) (k l D cA ad A p e R s m args below meth c cells slots Q C fin H locs ls hP hS hl)
theorem ng_lstore_11 {x0 x1 x2 x3 x4 x5 x6 x7 x8 x9 x10 x11 x12 : Option Value} {v : Int64} {t : ng_L} (hd : decode y.2.1 pc = .ok (.lstore 11, 2)) (hp : ng_nl x10 = true) (k : ng_Go X y d (pc + 2) (x0 :: x1 :: x2 :: x3 :: x4 :: x5 :: x6 :: x7 :: x8 :: x9 :: x10 :: some (.long v) :: none :: t) st M F) : ng_Go X y d pc (x0 :: x1 :: x2 :: x3 :: x4 :: x5 :: x6 :: x7 :: x8 :: x9 :: x10 :: x11 :: x12 :: t) (.long v :: st) M F := by
  intro l D cA ad A p e R s m args below meth c cells slots Q C fin H locs ls hP hS hl
  have hn : 11 + 1 < y.2.2.1 := by rw [← hl.1]; simp only [List.length_cons]; omega
  refine lv_lstore C.1.1 C.1.2.1 hd hl.has hn rfl (fun ls' h' => ?_)
  exact k l D cA ad A p e R s m args below meth c cells slots Q C fin H locs ls' hP hS (ng_lh.store2 (v := .long v) hl hn (fun j u hj hu => by
    have e : j = 10 := by omega
    subst e
    simp at hu
    subst hu
    simpa [ng_nl] using hp) h')
theorem ng_iinc_11 {x0 x1 x2 x3 x4 x5 x6 x7 x8 x9 x10 : Option Value} {v w : Int32} {n : Int} {t : ng_L} (hd : decode y.2.1 pc = .ok (.iinc 11 n, 3)) (hv : Int32.ofInt n = w) (hp : ng_nl x10 = true) (k : ng_Go X y d (pc + 3) (x0 :: x1 :: x2 :: x3 :: x4 :: x5 :: x6 :: x7 :: x8 :: x9 :: x10 :: some (.int (v + w)) :: t) st M F) : ng_Go X y d pc (x0 :: x1 :: x2 :: x3 :: x4 :: x5 :: x6 :: x7 :: x8 :: x9 :: x10 :: some (.int v) :: t) st M F := by
  intro l D cA ad A p e R s m args below meth c cells slots Q C fin H locs ls hP hS hl
  obtain ⟨q, hq⟩ := List.getElem?_of_mem (ng_al_mem (ad := ad) (lv := x0 :: x1 :: x2 :: x3 :: x4 :: x5 :: x6 :: x7 :: x8 :: x9 :: x10 :: some (.int v) :: t) (i := 11) (v := .int v) rfl)
  refine lv_iinc (v := v + w) C.1.1 C.1.2.1 hd hl.has (k := q) hq (by rw [hv]) (by rw [← hl.1]; simp only [List.length_cons]; omega) rfl (fun ls' h' => ?_)
  exact k l D cA ad A p e R s m args below meth c cells slots Q C fin H locs ls' hP hS (ng_lh.store (v := .int (v + w)) hl (fun j u hj hu => by
    have e : j = 10 := by omega
    subst e
    simp at hu
    subst hu
    simpa [ng_nl] using hp) h')
theorem ng_iload_12 {x0 x1 x2 x3 x4 x5 x6 x7 x8 x9 x10 x11 : Option Value} {v : Int32} {t : ng_L} (hd : decode y.2.1 pc = .ok (.iload 12, 2)) (k : ng_Go X y d (pc + 2) (x0 :: x1 :: x2 :: x3 :: x4 :: x5 :: x6 :: x7 :: x8 :: x9 :: x10 :: x11 :: some (.int v) :: t) (.int v :: st) M F) : ng_Go X y d pc (x0 :: x1 :: x2 :: x3 :: x4 :: x5 :: x6 :: x7 :: x8 :: x9 :: x10 :: x11 :: some (.int v) :: t) st M F := by
  intro l D cA ad A p e R s m args below meth c cells slots Q C fin H locs ls hP hS hl
  exact lv_iload C.1.1 C.1.2.1 hd (hl.2.2.2 12 _ rfl) (k l D cA ad A p e R s m args below meth c cells slots Q C fin H locs ls hP hS hl)
theorem ng_istore_12 {x0 x1 x2 x3 x4 x5 x6 x7 x8 x9 x10 x11 x12 : Option Value} {v : Int32} {t : ng_L} (hd : decode y.2.1 pc = .ok (.istore 12, 2)) (hp : ng_nl x11 = true) (k : ng_Go X y d (pc + 2) (x0 :: x1 :: x2 :: x3 :: x4 :: x5 :: x6 :: x7 :: x8 :: x9 :: x10 :: x11 :: some (.int v) :: t) st M F) : ng_Go X y d pc (x0 :: x1 :: x2 :: x3 :: x4 :: x5 :: x6 :: x7 :: x8 :: x9 :: x10 :: x11 :: x12 :: t) (.int v :: st) M F := by
  intro l D cA ad A p e R s m args below meth c cells slots Q C fin H locs ls hP hS hl
  refine lv_istore C.1.1 C.1.2.1 hd hl.has (by rw [← hl.1]; simp only [List.length_cons]; omega) rfl (fun ls' h' => ?_)
  exact k l D cA ad A p e R s m args below meth c cells slots Q C fin H locs ls' hP hS (ng_lh.store (v := .int v) hl (fun j u hj hu => by
    have e : j = 11 := by omega
    subst e
    simp at hu
    subst hu
    simpa [ng_nl] using hp) h')
theorem ng_aload_12 {x0 x1 x2 x3 x4 x5 x6 x7 x8 x9 x10 x11 : Option Value} {v : Nat} {t : ng_L} (hd : decode y.2.1 pc = .ok (.aload 12, 2)) (k : ng_Go X y d (pc + 2) (x0 :: x1 :: x2 :: x3 :: x4 :: x5 :: x6 :: x7 :: x8 :: x9 :: x10 :: x11 :: some (.ref v) :: t) (.ref v :: st) M F) : ng_Go X y d pc (x0 :: x1 :: x2 :: x3 :: x4 :: x5 :: x6 :: x7 :: x8 :: x9 :: x10 :: x11 :: some (.ref v) :: t) st M F := by
  intro l D cA ad A p e R s m args below meth c cells slots Q C fin H locs ls hP hS hl
  exact lv_aload C.1.1 C.1.2.1 hd (hl.2.2.2 12 _ rfl) (k l D cA ad A p e R s m args below meth c cells slots Q C fin H locs ls hP hS hl)
theorem ng_astore_12 {x0 x1 x2 x3 x4 x5 x6 x7 x8 x9 x10 x11 x12 : Option Value} {v : Nat} {t : ng_L} (hd : decode y.2.1 pc = .ok (.astore 12, 2)) (hp : ng_nl x11 = true) (k : ng_Go X y d (pc + 2) (x0 :: x1 :: x2 :: x3 :: x4 :: x5 :: x6 :: x7 :: x8 :: x9 :: x10 :: x11 :: some (.ref v) :: t) st M F) : ng_Go X y d pc (x0 :: x1 :: x2 :: x3 :: x4 :: x5 :: x6 :: x7 :: x8 :: x9 :: x10 :: x11 :: x12 :: t) (.ref v :: st) M F := by
  intro l D cA ad A p e R s m args below meth c cells slots Q C fin H locs ls hP hS hl
  refine lv_astore C.1.1 C.1.2.1 hd hl.has (by rw [← hl.1]; simp only [List.length_cons]; omega) rfl (fun ls' h' => ?_)
  exact k l D cA ad A p e R s m args below meth c cells slots Q C fin H locs ls' hP hS (ng_lh.store (v := .ref v) hl (fun j u hj hu => by
    have e : j = 11 := by omega
    subst e
    simp at hu
    subst hu
    simpa [ng_nl] using hp) h')
theorem ng_lload_12 {x0 x1 x2 x3 x4 x5 x6 x7 x8 x9 x10 x11 : Option Value} {v : Int64} {t : ng_L} (hd : decode y.2.1 pc = .ok (.lload 12, 2)) (k : ng_Go X y d (pc + 2) (x0 :: x1 :: x2 :: x3 :: x4 :: x5 :: x6 :: x7 :: x8 :: x9 :: x10 :: x11 :: some (.long v) :: t) (.long v :: st) M F) : ng_Go X y d pc (x0 :: x1 :: x2 :: x3 :: x4 :: x5 :: x6 :: x7 :: x8 :: x9 :: x10 :: x11 :: some (.long v) :: t) st M F := by
  intro l D cA ad A p e R s m args below meth c cells slots Q C fin H locs ls hP hS hl
  exact lv_lload C.1.1 C.1.2.1 hd (hl.2.2.2 12 _ rfl) (k l D cA ad A p e R s m args below meth c cells slots Q C fin H locs ls hP hS hl)
theorem ng_lstore_12 {x0 x1 x2 x3 x4 x5 x6 x7 x8 x9 x10 x11 x12 x13 : Option Value} {v : Int64} {t : ng_L} (hd : decode y.2.1 pc = .ok (.lstore 12, 2)) (hp : ng_nl x11 = true) (k : ng_Go X y d (pc + 2) (x0 :: x1 :: x2 :: x3 :: x4 :: x5 :: x6 :: x7 :: x8 :: x9 :: x10 :: x11 :: some (.long v) :: none :: t) st M F) : ng_Go X y d pc (x0 :: x1 :: x2 :: x3 :: x4 :: x5 :: x6 :: x7 :: x8 :: x9 :: x10 :: x11 :: x12 :: x13 :: t) (.long v :: st) M F := by
  intro l D cA ad A p e R s m args below meth c cells slots Q C fin H locs ls hP hS hl
  have hn : 12 + 1 < y.2.2.1 := by rw [← hl.1]; simp only [List.length_cons]; omega
  refine lv_lstore C.1.1 C.1.2.1 hd hl.has hn rfl (fun ls' h' => ?_)
  exact k l D cA ad A p e R s m args below meth c cells slots Q C fin H locs ls' hP hS (ng_lh.store2 (v := .long v) hl hn (fun j u hj hu => by
    have e : j = 11 := by omega
    subst e
    simp at hu
    subst hu
    simpa [ng_nl] using hp) h')
theorem ng_iinc_12 {x0 x1 x2 x3 x4 x5 x6 x7 x8 x9 x10 x11 : Option Value} {v w : Int32} {n : Int} {t : ng_L} (hd : decode y.2.1 pc = .ok (.iinc 12 n, 3)) (hv : Int32.ofInt n = w) (hp : ng_nl x11 = true) (k : ng_Go X y d (pc + 3) (x0 :: x1 :: x2 :: x3 :: x4 :: x5 :: x6 :: x7 :: x8 :: x9 :: x10 :: x11 :: some (.int (v + w)) :: t) st M F) : ng_Go X y d pc (x0 :: x1 :: x2 :: x3 :: x4 :: x5 :: x6 :: x7 :: x8 :: x9 :: x10 :: x11 :: some (.int v) :: t) st M F := by
  intro l D cA ad A p e R s m args below meth c cells slots Q C fin H locs ls hP hS hl
  obtain ⟨q, hq⟩ := List.getElem?_of_mem (ng_al_mem (ad := ad) (lv := x0 :: x1 :: x2 :: x3 :: x4 :: x5 :: x6 :: x7 :: x8 :: x9 :: x10 :: x11 :: some (.int v) :: t) (i := 12) (v := .int v) rfl)
  refine lv_iinc (v := v + w) C.1.1 C.1.2.1 hd hl.has (k := q) hq (by rw [hv]) (by rw [← hl.1]; simp only [List.length_cons]; omega) rfl (fun ls' h' => ?_)
  exact k l D cA ad A p e R s m args below meth c cells slots Q C fin H locs ls' hP hS (ng_lh.store (v := .int (v + w)) hl (fun j u hj hu => by
    have e : j = 11 := by omega
    subst e
    simp at hu
    subst hu
    simpa [ng_nl] using hp) h')
theorem ng_iadd {a b : Int32} (hd : decode y.2.1 pc = .ok (.iadd, 1)) (k : ng_Go X y d (pc + 1) lv (.int (a + b) :: st) M F) : ng_Go X y d pc lv (.int b :: .int a :: st) M F := by
  intro l D cA ad A p e R s m args below meth c cells slots Q C fin H locs ls hP hS hl
  exact lv_iadd C.1.1 C.1.2.1 hd (k l D cA ad A p e R s m args below meth c cells slots Q C fin H locs ls hP hS hl)
theorem ng_isub {a b : Int32} (hd : decode y.2.1 pc = .ok (.isub, 1)) (k : ng_Go X y d (pc + 1) lv (.int (a - b) :: st) M F) : ng_Go X y d pc lv (.int b :: .int a :: st) M F := by
  intro l D cA ad A p e R s m args below meth c cells slots Q C fin H locs ls hP hS hl
  exact lv_isub C.1.1 C.1.2.1 hd (k l D cA ad A p e R s m args below meth c cells slots Q C fin H locs ls hP hS hl)
theorem ng_imul {a b : Int32} (hd : decode y.2.1 pc = .ok (.imul, 1)) (k : ng_Go X y d (pc + 1) lv (.int (a * b) :: st) M F) : ng_Go X y d pc lv (.int b :: .int a :: st) M F := by
  intro l D cA ad A p e R s m args below meth c cells slots Q C fin H locs ls hP hS hl
  exact lv_imul C.1.1 C.1.2.1 hd (k l D cA ad A p e R s m args below meth c cells slots Q C fin H locs ls hP hS hl)
theorem ng_iand {a b : Int32} (hd : decode y.2.1 pc = .ok (.iand, 1)) (k : ng_Go X y d (pc + 1) lv (.int (a &&& b) :: st) M F) : ng_Go X y d pc lv (.int b :: .int a :: st) M F := by
  intro l D cA ad A p e R s m args below meth c cells slots Q C fin H locs ls hP hS hl
  exact lv_iand C.1.1 C.1.2.1 hd (k l D cA ad A p e R s m args below meth c cells slots Q C fin H locs ls hP hS hl)
theorem ng_ior {a b : Int32} (hd : decode y.2.1 pc = .ok (.ior, 1)) (k : ng_Go X y d (pc + 1) lv (.int (a ||| b) :: st) M F) : ng_Go X y d pc lv (.int b :: .int a :: st) M F := by
  intro l D cA ad A p e R s m args below meth c cells slots Q C fin H locs ls hP hS hl
  exact lv_ior C.1.1 C.1.2.1 hd (k l D cA ad A p e R s m args below meth c cells slots Q C fin H locs ls hP hS hl)
theorem ng_ixor {a b : Int32} (hd : decode y.2.1 pc = .ok (.ixor, 1)) (k : ng_Go X y d (pc + 1) lv (.int (a ^^^ b) :: st) M F) : ng_Go X y d pc lv (.int b :: .int a :: st) M F := by
  intro l D cA ad A p e R s m args below meth c cells slots Q C fin H locs ls hP hS hl
  exact lv_ixor C.1.1 C.1.2.1 hd (k l D cA ad A p e R s m args below meth c cells slots Q C fin H locs ls hP hS hl)
theorem ng_ishl {a b : Int32} (hd : decode y.2.1 pc = .ok (.ishl, 1)) (k : ng_Go X y d (pc + 1) lv (.int (a <<< (b &&& 31)) :: st) M F) : ng_Go X y d pc lv (.int b :: .int a :: st) M F := by
  intro l D cA ad A p e R s m args below meth c cells slots Q C fin H locs ls hP hS hl
  exact lv_ishl C.1.1 C.1.2.1 hd (k l D cA ad A p e R s m args below meth c cells slots Q C fin H locs ls hP hS hl)
theorem ng_ishr {a b : Int32} (hd : decode y.2.1 pc = .ok (.ishr, 1)) (k : ng_Go X y d (pc + 1) lv (.int (a >>> (b &&& 31)) :: st) M F) : ng_Go X y d pc lv (.int b :: .int a :: st) M F := by
  intro l D cA ad A p e R s m args below meth c cells slots Q C fin H locs ls hP hS hl
  exact lv_ishr C.1.1 C.1.2.1 hd (k l D cA ad A p e R s m args below meth c cells slots Q C fin H locs ls hP hS hl)
theorem ng_idiv {a b : Int32} (hd : decode y.2.1 pc = .ok (.idiv, 1)) (hne : ¬ b = 0) (k : ng_Go X y d (pc + 1) lv (.int (a / b) :: st) M F) : ng_Go X y d pc lv (.int b :: .int a :: st) M F := by
  intro l D cA ad A p e R s m args below meth c cells slots Q C fin H locs ls hP hS hl
  exact lv_idiv C.1.1 C.1.2.1 hd hne (k l D cA ad A p e R s m args below meth c cells slots Q C fin H locs ls hP hS hl)
theorem ng_irem {a b : Int32} (hd : decode y.2.1 pc = .ok (.irem, 1)) (hne : ¬ b = 0) (k : ng_Go X y d (pc + 1) lv (.int (a - a / b * b) :: st) M F) : ng_Go X y d pc lv (.int b :: .int a :: st) M F := by
  intro l D cA ad A p e R s m args below meth c cells slots Q C fin H locs ls hP hS hl
  exact lv_irem C.1.1 C.1.2.1 hd hne (k l D cA ad A p e R s m args below meth c cells slots Q C fin H locs ls hP hS hl)
theorem ng_ineg {a : Int32} (hd : decode y.2.1 pc = .ok (.ineg, 1)) (k : ng_Go X y d (pc + 1) lv (.int (-a) :: st) M F) : ng_Go X y d pc lv (.int a :: st) M F := by
  intro l D cA ad A p e R s m args below meth c cells slots Q C fin H locs ls hP hS hl
  exact lv_ineg C.1.1 C.1.2.1 hd (k l D cA ad A p e R s m args below meth c cells slots Q C fin H locs ls hP hS hl)
theorem ng_iushr {a b : Int32} (hd : decode y.2.1 pc = .ok (.iushr, 1)) (k : ng_Go X y d (pc + 1) lv (.int ((a.toUInt32 >>> (b.toUInt32 &&& Int32.toUInt32 31)).toInt32) :: st) M F) : ng_Go X y d pc lv (.int b :: .int a :: st) M F := by
  intro l D cA ad A p e R s m args below meth c cells slots Q C fin H locs ls hP hS hl
  exact lv_iushr C.1.1 C.1.2.1 hd rfl (k l D cA ad A p e R s m args below meth c cells slots Q C fin H locs ls hP hS hl)
theorem ng_ladd {a b : Int64} (hd : decode y.2.1 pc = .ok (.ladd, 1)) (k : ng_Go X y d (pc + 1) lv (.long (a + b) :: st) M F) : ng_Go X y d pc lv (.long b :: .long a :: st) M F := by
  intro l D cA ad A p e R s m args below meth c cells slots Q C fin H locs ls hP hS hl
  exact lv_ladd C.1.1 C.1.2.1 hd (k l D cA ad A p e R s m args below meth c cells slots Q C fin H locs ls hP hS hl)
theorem ng_lsub {a b : Int64} (hd : decode y.2.1 pc = .ok (.lsub, 1)) (k : ng_Go X y d (pc + 1) lv (.long (a - b) :: st) M F) : ng_Go X y d pc lv (.long b :: .long a :: st) M F := by
  intro l D cA ad A p e R s m args below meth c cells slots Q C fin H locs ls hP hS hl
  exact lv_lsub C.1.1 C.1.2.1 hd (k l D cA ad A p e R s m args below meth c cells slots Q C fin H locs ls hP hS hl)
theorem ng_lmul {a b : Int64} (hd : decode y.2.1 pc = .ok (.lmul, 1)) (k : ng_Go X y d (pc + 1) lv (.long (a * b) :: st) M F) : ng_Go X y d pc lv (.long b :: .long a :: st) M F := by
  intro l D cA ad A p e R s m args below meth c cells slots Q C fin H locs ls hP hS hl
  exact lv_lmul C.1.1 C.1.2.1 hd (k l D cA ad A p e R s m args below meth c cells slots Q C fin H locs ls hP hS hl)
theorem ng_land {a b : Int64} (hd : decode y.2.1 pc = .ok (.land, 1)) (k : ng_Go X y d (pc + 1) lv (.long (a &&& b) :: st) M F) : ng_Go X y d pc lv (.long b :: .long a :: st) M F := by
  intro l D cA ad A p e R s m args below meth c cells slots Q C fin H locs ls hP hS hl
  exact lv_land C.1.1 C.1.2.1 hd (k l D cA ad A p e R s m args below meth c cells slots Q C fin H locs ls hP hS hl)
theorem ng_lor {a b : Int64} (hd : decode y.2.1 pc = .ok (.lor, 1)) (k : ng_Go X y d (pc + 1) lv (.long (a ||| b) :: st) M F) : ng_Go X y d pc lv (.long b :: .long a :: st) M F := by
  intro l D cA ad A p e R s m args below meth c cells slots Q C fin H locs ls hP hS hl
  exact lv_lor C.1.1 C.1.2.1 hd (k l D cA ad A p e R s m args below meth c cells slots Q C fin H locs ls hP hS hl)
theorem ng_lushr {a : Int64} {b : Int32} (hd : decode y.2.1 pc = .ok (.lushr, 1)) (k : ng_Go X y d (pc + 1) lv (.long ((a.toUInt64 >>> (b.toInt64.toUInt64 &&& Int64.toUInt64 63)).toInt64) :: st) M F) : ng_Go X y d pc lv (.int b :: .long a :: st) M F := by
  intro l D cA ad A p e R s m args below meth c cells slots Q C fin H locs ls hP hS hl
  exact lv_lushr C.1.1 C.1.2.1 hd rfl (k l D cA ad A p e R s m args below meth c cells slots Q C fin H locs ls hP hS hl)
theorem ng_lshl {a : Int64} {b : Int32} (hd : decode y.2.1 pc = .ok (.lshl, 1)) (k : ng_Go X y d (pc + 1) lv (.long (a <<< (b.toInt64 &&& 63)) :: st) M F) : ng_Go X y d pc lv (.int b :: .long a :: st) M F := by
  intro l D cA ad A p e R s m args below meth c cells slots Q C fin H locs ls hP hS hl
  exact lv_lshl C.1.1 C.1.2.1 hd rfl (k l D cA ad A p e R s m args below meth c cells slots Q C fin H locs ls hP hS hl)
theorem ng_lshr {a : Int64} {b : Int32} (hd : decode y.2.1 pc = .ok (.lshr, 1)) (k : ng_Go X y d (pc + 1) lv (.long (a >>> (b.toInt64 &&& 63)) :: st) M F) : ng_Go X y d pc lv (.int b :: .long a :: st) M F := by
  intro l D cA ad A p e R s m args below meth c cells slots Q C fin H locs ls hP hS hl
  exact lv_lshr C.1.1 C.1.2.1 hd rfl (k l D cA ad A p e R s m args below meth c cells slots Q C fin H locs ls hP hS hl)
theorem ng_i2l {a : Int32} (hd : decode y.2.1 pc = .ok (.i2l, 1)) (k : ng_Go X y d (pc + 1) lv (.long (a.toInt64) :: st) M F) : ng_Go X y d pc lv (.int a :: st) M F := by
  intro l D cA ad A p e R s m args below meth c cells slots Q C fin H locs ls hP hS hl
  exact lv_i2l C.1.1 C.1.2.1 hd rfl (k l D cA ad A p e R s m args below meth c cells slots Q C fin H locs ls hP hS hl)
theorem ng_l2i {a : Int64} (hd : decode y.2.1 pc = .ok (.l2i, 1)) (k : ng_Go X y d (pc + 1) lv (.int (a.toInt32) :: st) M F) : ng_Go X y d pc lv (.long a :: st) M F := by
  intro l D cA ad A p e R s m args below meth c cells slots Q C fin H locs ls hP hS hl
  exact lv_l2i C.1.1 C.1.2.1 hd rfl (k l D cA ad A p e R s m args below meth c cells slots Q C fin H locs ls hP hS hl)
theorem ng_i2b {a : Int32} (hd : decode y.2.1 pc = .ok (.i2b, 1)) (k : ng_Go X y d (pc + 1) lv (.int (a.toInt8.toInt32) :: st) M F) : ng_Go X y d pc lv (.int a :: st) M F := by
  intro l D cA ad A p e R s m args below meth c cells slots Q C fin H locs ls hP hS hl
  exact lv_i2b C.1.1 C.1.2.1 hd rfl (k l D cA ad A p e R s m args below meth c cells slots Q C fin H locs ls hP hS hl)
theorem ng_i2s {a : Int32} (hd : decode y.2.1 pc = .ok (.i2s, 1)) (k : ng_Go X y d (pc + 1) lv (.int (a.toInt16.toInt32) :: st) M F) : ng_Go X y d pc lv (.int a :: st) M F := by
  intro l D cA ad A p e R s m args below meth c cells slots Q C fin H locs ls hP hS hl
  exact lv_i2s C.1.1 C.1.2.1 hd rfl (k l D cA ad A p e R s m args below meth c cells slots Q C fin H locs ls hP hS hl)
theorem ng_i2c {a : Int32} (hd : decode y.2.1 pc = .ok (.i2c, 1)) (k : ng_Go X y d (pc + 1) lv (.int ((a.toUInt32 % 65536).toInt32) :: st) M F) : ng_Go X y d pc lv (.int a :: st) M F := by
  intro l D cA ad A p e R s m args below meth c cells slots Q C fin H locs ls hP hS hl
  exact lv_i2c C.1.1 C.1.2.1 hd rfl (k l D cA ad A p e R s m args below meth c cells slots Q C fin H locs ls hP hS hl)
theorem ng_lcmp {a b : Int64} (hd : decode y.2.1 pc = .ok (.lcmp, 1)) (k : ng_Go X y d (pc + 1) lv (.int (lg_cmp a b) :: st) M F) : ng_Go X y d pc lv (.long b :: .long a :: st) M F := by
  intro l D cA ad A p e R s m args below meth c cells slots Q C fin H locs ls hP hS hl
  exact W.lcmp C.1.1 C.1.2.1 hd (k l D cA ad A p e R s m args below meth c cells slots Q C fin H locs ls hP hS hl)
theorem ng_dup {a : Value} (hd : decode y.2.1 pc = .ok (.dup, 1)) (ha : a.category = 1) (k : ng_Go X y d (pc + 1) lv (a :: a :: st) M F) : ng_Go X y d pc lv (a :: st) M F := by
  intro l D cA ad A p e R s m args below meth c cells slots Q C fin H locs ls hP hS hl
  exact lv_dup C.1.1 C.1.2.1 hd (by rw [ng_v_cat]; exact ha) (k l D cA ad A p e R s m args below meth c cells slots Q C fin H locs ls hP hS hl)
theorem ng_pop {a : Value} (hd : decode y.2.1 pc = .ok (.pop, 1)) (ha : a.category = 1) (k : ng_Go X y d (pc + 1) lv st M F) : ng_Go X y d pc lv (a :: st) M F := by
  intro l D cA ad A p e R s m args below meth c cells slots Q C fin H locs ls hP hS hl
  exact lv_pop C.1.1 C.1.2.1 hd (by rw [ng_v_cat]; exact ha) (k l D cA ad A p e R s m args below meth c cells slots Q C fin H locs ls hP hS hl)
theorem ng_dup2 {a b : Value} (hd : decode y.2.1 pc = .ok (.dup2, 1)) (ha : a.category = 1) (hb : b.category = 1) (k : ng_Go X y d (pc + 1) lv (a :: b :: a :: b :: st) M F) : ng_Go X y d pc lv (a :: b :: st) M F := by
  intro l D cA ad A p e R s m args below meth c cells slots Q C fin H locs ls hP hS hl
  exact lv_dup2_11 C.1.1 C.1.2.1 hd (by rw [ng_v_cat]; exact ha) (by rw [ng_v_cat]; exact hb) (k l D cA ad A p e R s m args below meth c cells slots Q C fin H locs ls hP hS hl)
theorem ng_if_eq {a : Int32} {off : Int} (tgt : Nat) (hd : decode y.2.1 pc = .ok (.ifCond .eq off, 3)) (ht : (pc : Int) + off = (tgt : Int)) (kt : a = 0 → ng_Go X y d tgt lv st M F) (kf : ¬ a = 0 → ng_Go X y d (pc + 3) lv st M F) : ng_Go X y d pc lv (.int a :: st) M F := by
  intro l D cA ad A p e R s m args below meth c cells slots Q C fin H locs ls hP hS hl
  exact lv_if_eq C.1.1 C.1.2.1 hd ht (fun h => (kt h l D cA ad A p e R s m args below meth c cells slots Q C fin H locs ls hP hS hl)) (fun h => (kf h l D cA ad A p e R s m args below meth c cells slots Q C fin H locs ls hP hS hl))
theorem ng_icmp_eq {a b : Int32} {off : Int} (tgt : Nat) (hd : decode y.2.1 pc = .ok (.if_icmp .eq off, 3)) (ht : (pc : Int) + off = (tgt : Int)) (kt : a = b → ng_Go X y d tgt lv st M F) (kf : ¬ a = b → ng_Go X y d (pc + 3) lv st M F) : ng_Go X y d pc lv (.int b :: .int a :: st) M F := by
  intro l D cA ad A p e R s m args below meth c cells slots Q C fin H locs ls hP hS hl
  exact lv_icmp_eq C.1.1 C.1.2.1 hd ht (fun h => (kt h l D cA ad A p e R s m args below meth c cells slots Q C fin H locs ls hP hS hl)) (fun h => (kf h l D cA ad A p e R s m args below meth c cells slots Q C fin H locs ls hP hS hl))
theorem ng_if_ne {a : Int32} {off : Int} (tgt : Nat) (hd : decode y.2.1 pc = .ok (.ifCond .ne off, 3)) (ht : (pc : Int) + off = (tgt : Int)) (kt : ¬ a = 0 → ng_Go X y d tgt lv st M F) (kf : a = 0 → ng_Go X y d (pc + 3) lv st M F) : ng_Go X y d pc lv (.int a :: st) M F := by
  intro l D cA ad A p e R s m args below meth c cells slots Q C fin H locs ls hP hS hl
  exact lv_if_ne C.1.1 C.1.2.1 hd ht (fun h => (kt h l D cA ad A p e R s m args below meth c cells slots Q C fin H locs ls hP hS hl)) (fun h => (kf h l D cA ad A p e R s m args below meth c cells slots Q C fin H locs ls hP hS hl))
theorem ng_icmp_ne {a b : Int32} {off : Int} (tgt : Nat) (hd : decode y.2.1 pc = .ok (.if_icmp .ne off, 3)) (ht : (pc : Int) + off = (tgt : Int)) (kt : ¬ a = b → ng_Go X y d tgt lv st M F) (kf : a = b → ng_Go X y d (pc + 3) lv st M F) : ng_Go X y d pc lv (.int b :: .int a :: st) M F := by
  intro l D cA ad A p e R s m args below meth c cells slots Q C fin H locs ls hP hS hl
  exact lv_icmp_ne C.1.1 C.1.2.1 hd ht (fun h => (kt h l D cA ad A p e R s m args below meth c cells slots Q C fin H locs ls hP hS hl)) (fun h => (kf h l D cA ad A p e R s m args below meth c cells slots Q C fin H locs ls hP hS hl))
theorem ng_if_lt {a : Int32} {off : Int} (tgt : Nat) (hd : decode y.2.1 pc = .ok (.ifCond .lt off, 3)) (ht : (pc : Int) + off = (tgt : Int)) (kt : a < 0 → ng_Go X y d tgt lv st M F) (kf : ¬ a < 0 → ng_Go X y d (pc + 3) lv st M F) : ng_Go X y d pc lv (.int a :: st) M F := by
  intro l D cA ad A p e R s m args below meth c cells slots Q C fin H locs ls hP hS hl
  exact lv_if_lt C.1.1 C.1.2.1 hd ht (fun h => (kt h l D cA ad A p e R s m args below meth c cells slots Q C fin H locs ls hP hS hl)) (fun h => (kf h l D cA ad A p e R s m args below meth c cells slots Q C fin H locs ls hP hS hl))
theorem ng_icmp_lt {a b : Int32} {off : Int} (tgt : Nat) (hd : decode y.2.1 pc = .ok (.if_icmp .lt off, 3)) (ht : (pc : Int) + off = (tgt : Int)) (kt : a < b → ng_Go X y d tgt lv st M F) (kf : ¬ a < b → ng_Go X y d (pc + 3) lv st M F) : ng_Go X y d pc lv (.int b :: .int a :: st) M F := by
  intro l D cA ad A p e R s m args below meth c cells slots Q C fin H locs ls hP hS hl
  exact lv_icmp_lt C.1.1 C.1.2.1 hd ht (fun h => (kt h l D cA ad A p e R s m args below meth c cells slots Q C fin H locs ls hP hS hl)) (fun h => (kf h l D cA ad A p e R s m args below meth c cells slots Q C fin H locs ls hP hS hl))
theorem ng_if_ge {a : Int32} {off : Int} (tgt : Nat) (hd : decode y.2.1 pc = .ok (.ifCond .ge off, 3)) (ht : (pc : Int) + off = (tgt : Int)) (kt : 0 ≤ a → ng_Go X y d tgt lv st M F) (kf : ¬ 0 ≤ a → ng_Go X y d (pc + 3) lv st M F) : ng_Go X y d pc lv (.int a :: st) M F := by
  intro l D cA ad A p e R s m args below meth c cells slots Q C fin H locs ls hP hS hl
  exact lv_if_ge C.1.1 C.1.2.1 hd ht (fun h => (kt h l D cA ad A p e R s m args below meth c cells slots Q C fin H locs ls hP hS hl)) (fun h => (kf h l D cA ad A p e R s m args below meth c cells slots Q C fin H locs ls hP hS hl))
theorem ng_icmp_ge {a b : Int32} {off : Int} (tgt : Nat) (hd : decode y.2.1 pc = .ok (.if_icmp .ge off, 3)) (ht : (pc : Int) + off = (tgt : Int)) (kt : b ≤ a → ng_Go X y d tgt lv st M F) (kf : ¬ b ≤ a → ng_Go X y d (pc + 3) lv st M F) : ng_Go X y d pc lv (.int b :: .int a :: st) M F := by
  intro l D cA ad A p e R s m args below meth c cells slots Q C fin H locs ls hP hS hl
  exact lv_icmp_ge C.1.1 C.1.2.1 hd ht (fun h => (kt h l D cA ad A p e R s m args below meth c cells slots Q C fin H locs ls hP hS hl)) (fun h => (kf h l D cA ad A p e R s m args below meth c cells slots Q C fin H locs ls hP hS hl))
theorem ng_if_gt {a : Int32} {off : Int} (tgt : Nat) (hd : decode y.2.1 pc = .ok (.ifCond .gt off, 3)) (ht : (pc : Int) + off = (tgt : Int)) (kt : 0 < a → ng_Go X y d tgt lv st M F) (kf : ¬ 0 < a → ng_Go X y d (pc + 3) lv st M F) : ng_Go X y d pc lv (.int a :: st) M F := by
  intro l D cA ad A p e R s m args below meth c cells slots Q C fin H locs ls hP hS hl
  exact lv_if_gt C.1.1 C.1.2.1 hd ht (fun h => (kt h l D cA ad A p e R s m args below meth c cells slots Q C fin H locs ls hP hS hl)) (fun h => (kf h l D cA ad A p e R s m args below meth c cells slots Q C fin H locs ls hP hS hl))
theorem ng_icmp_gt {a b : Int32} {off : Int} (tgt : Nat) (hd : decode y.2.1 pc = .ok (.if_icmp .gt off, 3)) (ht : (pc : Int) + off = (tgt : Int)) (kt : b < a → ng_Go X y d tgt lv st M F) (kf : ¬ b < a → ng_Go X y d (pc + 3) lv st M F) : ng_Go X y d pc lv (.int b :: .int a :: st) M F := by
  intro l D cA ad A p e R s m args below meth c cells slots Q C fin H locs ls hP hS hl
  exact lv_icmp_gt C.1.1 C.1.2.1 hd ht (fun h => (kt h l D cA ad A p e R s m args below meth c cells slots Q C fin H locs ls hP hS hl)) (fun h => (kf h l D cA ad A p e R s m args below meth c cells slots Q C fin H locs ls hP hS hl))
theorem ng_if_le {a : Int32} {off : Int} (tgt : Nat) (hd : decode y.2.1 pc = .ok (.ifCond .le off, 3)) (ht : (pc : Int) + off = (tgt : Int)) (kt : a ≤ 0 → ng_Go X y d tgt lv st M F) (kf : ¬ a ≤ 0 → ng_Go X y d (pc + 3) lv st M F) : ng_Go X y d pc lv (.int a :: st) M F := by
  intro l D cA ad A p e R s m args below meth c cells slots Q C fin H locs ls hP hS hl
  exact lv_if_le C.1.1 C.1.2.1 hd ht (fun h => (kt h l D cA ad A p e R s m args below meth c cells slots Q C fin H locs ls hP hS hl)) (fun h => (kf h l D cA ad A p e R s m args below meth c cells slots Q C fin H locs ls hP hS hl))
theorem ng_icmp_le {a b : Int32} {off : Int} (tgt : Nat) (hd : decode y.2.1 pc = .ok (.if_icmp .le off, 3)) (ht : (pc : Int) + off = (tgt : Int)) (kt : a ≤ b → ng_Go X y d tgt lv st M F) (kf : ¬ a ≤ b → ng_Go X y d (pc + 3) lv st M F) : ng_Go X y d pc lv (.int b :: .int a :: st) M F := by
  intro l D cA ad A p e R s m args below meth c cells slots Q C fin H locs ls hP hS hl
  exact lv_icmp_le C.1.1 C.1.2.1 hd ht (fun h => (kt h l D cA ad A p e R s m args below meth c cells slots Q C fin H locs ls hP hS hl)) (fun h => (kf h l D cA ad A p e R s m args below meth c cells slots Q C fin H locs ls hP hS hl))
theorem ng_goto {off : Int} (tgt : Nat) (hd : decode y.2.1 pc = .ok (.goto off, 3)) (ht : (pc : Int) + off = (tgt : Int)) (k : ng_Go X y d tgt lv st M F) : ng_Go X y d pc lv st M F := by
  intro l D cA ad A p e R s m args below meth c cells slots Q C fin H locs ls hP hS hl
  exact lv_goto C.1.1 C.1.2.1 hd ht (k l D cA ad A p e R s m args below meth c cells slots Q C fin H locs ls hP hS hl)
theorem ng_ifnonnull {off : Int} {a : Nat} (tgt : Nat) (hd : decode y.2.1 pc = .ok (.ifnonnull off, 3)) (ht : (pc : Int) + off = (tgt : Int)) (k : ng_Go X y d tgt lv st M F) : ng_Go X y d pc lv (.ref a :: st) M F := by
  intro l D cA ad A p e R s m args below meth c cells slots Q C fin H locs ls hP hS hl
  exact lv_ifnonnull C.1.1 C.1.2.1 hd ht (k l D cA ad A p e R s m args below meth c cells slots Q C fin H locs ls hP hS hl)
theorem ng_ifnull {off : Int} {a : Nat} (hd : decode y.2.1 pc = .ok (.ifnull off, 3)) (k : ng_Go X y d (pc + 3) lv st M F) : ng_Go X y d pc lv (.ref a :: st) M F := by
  intro l D cA ad A p e R s m args below meth c cells slots Q C fin H locs ls hP hS hl
  exact lv_ifnull C.1.1 C.1.2.1 hd (k l D cA ad A p e R s m args below meth c cells slots Q C fin H locs ls hP hS hl)
theorem ng_ifnullN {off : Int} (tgt : Nat) (hd : decode y.2.1 pc = .ok (.ifnull off, 3)) (ht : (pc : Int) + off = (tgt : Int)) (k : ng_Go X y d tgt lv st M F) : ng_Go X y d pc lv (.null :: st) M F := by
  intro l D cA ad A p e R s m args below meth c cells slots Q C fin H locs ls hP hS hl
  exact lv_ifnullN C.1.1 C.1.2.1 hd ht (k l D cA ad A p e R s m args below meth c cells slots Q C fin H locs ls hP hS hl)
theorem ng_ifnonnullN {off : Int} (hd : decode y.2.1 pc = .ok (.ifnonnull off, 3)) (k : ng_Go X y d (pc + 3) lv st M F) : ng_Go X y d pc lv (.null :: st) M F := by
  intro l D cA ad A p e R s m args below meth c cells slots Q C fin H locs ls hP hS hl
  exact lv_ifnonnullN C.1.1 C.1.2.1 hd (k l D cA ad A p e R s m args below meth c cells slots Q C fin H locs ls hP hS hl)
theorem ng_aloadN_0 {t : ng_L} (hd : decode y.2.1 pc = .ok (.aload_n 0, 1)) (k : ng_Go X y d (pc + 1) (some .null :: t) (.null :: st) M F) : ng_Go X y d pc (some .null :: t) st M F := by
  intro l D cA ad A p e R s m args below meth c cells slots Q C fin H locs ls hP hS hl
  exact lv_aload_nN C.1.1 C.1.2.1 hd rfl (hl.2.2.2 0 _ rfl) (k l D cA ad A p e R s m args below meth c cells slots Q C fin H locs ls hP hS hl)
theorem ng_aloadN_1 {x0 : Option Value} {t : ng_L} (hd : decode y.2.1 pc = .ok (.aload_n 1, 1)) (k : ng_Go X y d (pc + 1) (x0 :: some .null :: t) (.null :: st) M F) : ng_Go X y d pc (x0 :: some .null :: t) st M F := by
  intro l D cA ad A p e R s m args below meth c cells slots Q C fin H locs ls hP hS hl
  exact lv_aload_nN C.1.1 C.1.2.1 hd rfl (hl.2.2.2 1 _ rfl) (k l D cA ad A p e R s m args below meth c cells slots Q C fin H locs ls hP hS hl)
theorem ng_astoreN_1 {x0 x1 : Option Value} {t : ng_L} (hd : decode y.2.1 pc = .ok (.astore_n 1, 1)) (hp : ng_nl x0 = true) (k : ng_Go X y d (pc + 1) (x0 :: some .null :: t) st M F) : ng_Go X y d pc (x0 :: x1 :: t) (.null :: st) M F := by
  intro l D cA ad A p e R s m args below meth c cells slots Q C fin H locs ls hP hS hl
  refine lv_astore_nN C.1.1 C.1.2.1 hd rfl hl.has (by rw [← hl.1]; simp only [List.length_cons]; omega) rfl (fun ls' h' => ?_)
  exact k l D cA ad A p e R s m args below meth c cells slots Q C fin H locs ls' hP hS (ng_lh.store (v := .null) hl (fun j u hj hu => by
    have e : j = 0 := by omega
    subst e
    simp at hu
    subst hu
    simpa [ng_nl] using hp) h')
theorem ng_aloadN_2 {x0 x1 : Option Value} {t : ng_L} (hd : decode y.2.1 pc = .ok (.aload_n 2, 1)) (k : ng_Go X y d (pc + 1) (x0 :: x1 :: some .null :: t) (.null :: st) M F) : ng_Go X y d pc (x0 :: x1 :: some .null :: t) st M F := by
  intro l D cA ad A p e R s m args below meth c cells slots Q C fin H locs ls hP hS hl
  exact lv_aload_nN C.1.1 C.1.2.1 hd rfl (hl.2.2.2 2 _ rfl) (k l D cA ad A p e R s m args below meth c cells slots Q C fin H locs ls hP hS hl)
theorem ng_astoreN_2 {x0 x1 x2 : Option Value} {t : ng_L} (hd : decode y.2.1 pc = .ok (.astore_n 2, 1)) (hp : ng_nl x1 = true) (k : ng_Go X y d (pc + 1) (x0 :: x1 :: some .null :: t) st M F) : ng_Go X y d pc (x0 :: x1 :: x2 :: t) (.null :: st) M F := by
  intro l D cA ad A p e R s m args below meth c cells slots Q C fin H locs ls hP hS hl
  refine lv_astore_nN C.1.1 C.1.2.1 hd rfl hl.has (by rw [← hl.1]; simp only [List.length_cons]; omega) rfl (fun ls' h' => ?_)
  exact k l D cA ad A p e R s m args below meth c cells slots Q C fin H locs ls' hP hS (ng_lh.store (v := .null) hl (fun j u hj hu => by
    have e : j = 1 := by omega
    subst e
    simp at hu
    subst hu
    simpa [ng_nl] using hp) h')
theorem ng_aloadN_3 {x0 x1 x2 : Option Value} {t : ng_L} (hd : decode y.2.1 pc = .ok (.aload_n 3, 1)) (k : ng_Go X y d (pc + 1) (x0 :: x1 :: x2 :: some .null :: t) (.null :: st) M F) : ng_Go X y d pc (x0 :: x1 :: x2 :: some .null :: t) st M F := by
  intro l D cA ad A p e R s m args below meth c cells slots Q C fin H locs ls hP hS hl
  exact lv_aload_nN C.1.1 C.1.2.1 hd rfl (hl.2.2.2 3 _ rfl) (k l D cA ad A p e R s m args below meth c cells slots Q C fin H locs ls hP hS hl)
theorem ng_astoreN_3 {x0 x1 x2 x3 : Option Value} {t : ng_L} (hd : decode y.2.1 pc = .ok (.astore_n 3, 1)) (hp : ng_nl x2 = true) (k : ng_Go X y d (pc + 1) (x0 :: x1 :: x2 :: some .null :: t) st M F) : ng_Go X y d pc (x0 :: x1 :: x2 :: x3 :: t) (.null :: st) M F := by
  intro l D cA ad A p e R s m args below meth c cells slots Q C fin H locs ls hP hS hl
  refine lv_astore_nN C.1.1 C.1.2.1 hd rfl hl.has (by rw [← hl.1]; simp only [List.length_cons]; omega) rfl (fun ls' h' => ?_)
  exact k l D cA ad A p e R s m args below meth c cells slots Q C fin H locs ls' hP hS (ng_lh.store (v := .null) hl (fun j u hj hu => by
    have e : j = 2 := by omega
    subst e
    simp at hu
    subst hu
    simpa [ng_nl] using hp) h')
theorem ng_aloadN_4 {x0 x1 x2 x3 : Option Value} {t : ng_L} (hd : decode y.2.1 pc = .ok (.aload 4, 2)) (k : ng_Go X y d (pc + 2) (x0 :: x1 :: x2 :: x3 :: some .null :: t) (.null :: st) M F) : ng_Go X y d pc (x0 :: x1 :: x2 :: x3 :: some .null :: t) st M F := by
  intro l D cA ad A p e R s m args below meth c cells slots Q C fin H locs ls hP hS hl
  exact lv_aloadN C.1.1 C.1.2.1 hd (hl.2.2.2 4 _ rfl) (k l D cA ad A p e R s m args below meth c cells slots Q C fin H locs ls hP hS hl)
theorem ng_astoreN_4 {x0 x1 x2 x3 x4 : Option Value} {t : ng_L} (hd : decode y.2.1 pc = .ok (.astore 4, 2)) (hp : ng_nl x3 = true) (k : ng_Go X y d (pc + 2) (x0 :: x1 :: x2 :: x3 :: some .null :: t) st M F) : ng_Go X y d pc (x0 :: x1 :: x2 :: x3 :: x4 :: t) (.null :: st) M F := by
  intro l D cA ad A p e R s m args below meth c cells slots Q C fin H locs ls hP hS hl
  refine lv_astoreN C.1.1 C.1.2.1 hd hl.has (by rw [← hl.1]; simp only [List.length_cons]; omega) rfl (fun ls' h' => ?_)
  exact k l D cA ad A p e R s m args below meth c cells slots Q C fin H locs ls' hP hS (ng_lh.store (v := .null) hl (fun j u hj hu => by
    have e : j = 3 := by omega
    subst e
    simp at hu
    subst hu
    simpa [ng_nl] using hp) h')
theorem ng_aloadN_5 {x0 x1 x2 x3 x4 : Option Value} {t : ng_L} (hd : decode y.2.1 pc = .ok (.aload 5, 2)) (k : ng_Go X y d (pc + 2) (x0 :: x1 :: x2 :: x3 :: x4 :: some .null :: t) (.null :: st) M F) : ng_Go X y d pc (x0 :: x1 :: x2 :: x3 :: x4 :: some .null :: t) st M F := by
  intro l D cA ad A p e R s m args below meth c cells slots Q C fin H locs ls hP hS hl
  exact lv_aloadN C.1.1 C.1.2.1 hd (hl.2.2.2 5 _ rfl) (k l D cA ad A p e R s m args below meth c cells slots Q C fin H locs ls hP hS hl)
theorem ng_astoreN_5 {x0 x1 x2 x3 x4 x5 : Option Value} {t : ng_L} (hd : decode y.2.1 pc = .ok (.astore 5, 2)) (hp : ng_nl x4 = true) (k : ng_Go X y d (pc + 2) (x0 :: x1 :: x2 :: x3 :: x4 :: some .null :: t) st M F) : ng_Go X y d pc (x0 :: x1 :: x2 :: x3 :: x4 :: x5 :: t) (.null :: st) M F := by
  intro l D cA ad A p e R s m args below meth c cells slots Q C fin H locs ls hP hS hl
  refine lv_astoreN C.1.1 C.1.2.1 hd hl.has (by rw [← hl.1]; simp only [List.length_cons]; omega) rfl (fun ls' h' => ?_)
  exact k l D cA ad A p e R s m args below meth c cells slots Q C fin H locs ls' hP hS (ng_lh.store (v := .null) hl (fun j u hj hu => by
    have e : j = 4 := by omega
    subst e
    simp at hu
    subst hu
    simpa [ng_nl] using hp) h')
theorem ng_aloadN_6 {x0 x1 x2 x3 x4 x5 : Option Value} {t : ng_L} (hd : decode y.2.1 pc = .ok (.aload 6, 2)) (k : ng_Go X y d (pc + 2) (x0 :: x1 :: x2 :: x3 :: x4 :: x5 :: some .null :: t) (.null :: st) M F) : ng_Go X y d pc (x0 :: x1 :: x2 :: x3 :: x4 :: x5 :: some .null :: t) st M F := by
  intro l D cA ad A p e R s m args below meth c cells slots Q C fin H locs ls hP hS hl
  exact lv_aloadN C.1.1 C.1.2.1 hd (hl.2.2.2 6 _ rfl) (k l D cA ad A p e R s m args below meth c cells slots Q C fin H locs ls hP hS hl)
theorem ng_astoreN_6 {x0 x1 x2 x3 x4 x5 x6 : Option Value} {t : ng_L} (hd : decode y.2.1 pc = .ok (.astore 6, 2)) (hp : ng_nl x5 = true) (k : ng_Go X y d (pc + 2) (x0 :: x1 :: x2 :: x3 :: x4 :: x5 :: some .null :: t) st M F) : ng_Go X y d pc (x0 :: x1 :: x2 :: x3 :: x4 :: x5 :: x6 :: t) (.null :: st) M F := by
  intro l D cA ad A p e R s m args below meth c cells slots Q C fin H locs ls hP hS hl
  refine lv_astoreN C.1.1 C.1.2.1 hd hl.has (by rw [← hl.1]; simp only [List.length_cons]; omega) rfl (fun ls' h' => ?_)
  exact k l D cA ad A p e R s m args below meth c cells slots Q C fin H locs ls' hP hS (ng_lh.store (v := .null) hl (fun j u hj hu => by
    have e : j = 5 := by omega
    subst e
    simp at hu
    subst hu
    simpa [ng_nl] using hp) h')
theorem ng_aloadN_7 {x0 x1 x2 x3 x4 x5 x6 : Option Value} {t : ng_L} (hd : decode y.2.1 pc = .ok (.aload 7, 2)) (k : ng_Go X y d (pc + 2) (x0 :: x1 :: x2 :: x3 :: x4 :: x5 :: x6 :: some .null :: t) (.null :: st) M F) : ng_Go X y d pc (x0 :: x1 :: x2 :: x3 :: x4 :: x5 :: x6 :: some .null :: t) st M F := by
  intro l D cA ad A p e R s m args below meth c cells slots Q C fin H locs ls hP hS hl
  exact lv_aloadN C.1.1 C.1.2.1 hd (hl.2.2.2 7 _ rfl) (k l D cA ad A p e R s m args below meth c cells slots Q C fin H locs ls hP hS hl)
theorem ng_astoreN_7 {x0 x1 x2 x3 x4 x5 x6 x7 : Option Value} {t : ng_L} (hd : decode y.2.1 pc = .ok (.astore 7, 2)) (hp : ng_nl x6 = true) (k : ng_Go X y d (pc + 2) (x0 :: x1 :: x2 :: x3 :: x4 :: x5 :: x6 :: some .null :: t) st M F) : ng_Go X y d pc (x0 :: x1 :: x2 :: x3 :: x4 :: x5 :: x6 :: x7 :: t) (.null :: st) M F := by
  intro l D cA ad A p e R s m args below meth c cells slots Q C fin H locs ls hP hS hl
  refine lv_astoreN C.1.1 C.1.2.1 hd hl.has (by rw [← hl.1]; simp only [List.length_cons]; omega) rfl (fun ls' h' => ?_)
  exact k l D cA ad A p e R s m args below meth c cells slots Q C fin H locs ls' hP hS (ng_lh.store (v := .null) hl (fun j u hj hu => by
    have e : j = 6 := by omega
    subst e
    simp at hu
    subst hu
    simpa [ng_nl] using hp) h')
theorem ng_aloadN_8 {x0 x1 x2 x3 x4 x5 x6 x7 : Option Value} {t : ng_L} (hd : decode y.2.1 pc = .ok (.aload 8, 2)) (k : ng_Go X y d (pc + 2) (x0 :: x1 :: x2 :: x3 :: x4 :: x5 :: x6 :: x7 :: some .null :: t) (.null :: st) M F) : ng_Go X y d pc (x0 :: x1 :: x2 :: x3 :: x4 :: x5 :: x6 :: x7 :: some .null :: t) st M F := by
  intro l D cA ad A p e R s m args below meth c cells slots Q C fin H locs ls hP hS hl
  exact lv_aloadN C.1.1 C.1.2.1 hd (hl.2.2.2 8 _ rfl) (k l D cA ad A p e R s m args below meth c cells slots Q C fin H locs ls hP hS hl)
theorem ng_astoreN_8 {x0 x1 x2 x3 x4 x5 x6 x7 x8 : Option Value} {t : ng_L} (hd : decode y.2.1 pc = .ok (.astore 8, 2)) (hp : ng_nl x7 = true) (k : ng_Go X y d (pc + 2) (x0 :: x1 :: x2 :: x3 :: x4 :: x5 :: x6 :: x7 :: some .null :: t) st M F) : ng_Go X y d pc (x0 :: x1 :: x2 :: x3 :: x4 :: x5 :: x6 :: x7 :: x8 :: t) (.null :: st) M F := by
  intro l D cA ad A p e R s m args below meth c cells slots Q C fin H locs ls hP hS hl
  refine lv_astoreN C.1.1 C.1.2.1 hd hl.has (by rw [← hl.1]; simp only [List.length_cons]; omega) rfl (fun ls' h' => ?_)
  exact k l D cA ad A p e R s m args below meth c cells slots Q C fin H locs ls' hP hS (ng_lh.store (v := .null) hl (fun j u hj hu => by
    have e : j = 7 := by omega
    subst e
    simp at hu
    subst hu
    simpa [ng_nl] using hp) h')
theorem ng_aloadN_9 {x0 x1 x2 x3 x4 x5 x6 x7 x8 : Option Value} {t : ng_L} (hd : decode y.2.1 pc = .ok (.aload 9, 2)) (k : ng_Go X y d (pc + 2) (x0 :: x1 :: x2 :: x3 :: x4 :: x5 :: x6 :: x7 :: x8 :: some .null :: t) (.null :: st) M F) : ng_Go X y d pc (x0 :: x1 :: x2 :: x3 :: x4 :: x5 :: x6 :: x7 :: x8 :: some .null :: t) st M F := by
  intro l D cA ad A p e R s m args below meth c cells slots Q C fin H locs ls hP hS hl
  exact lv_aloadN C.1.1 C.1.2.1 hd (hl.2.2.2 9 _ rfl) (k l D cA ad A p e R s m args below meth c cells slots Q C fin H locs ls hP hS hl)
theorem ng_astoreN_9 {x0 x1 x2 x3 x4 x5 x6 x7 x8 x9 : Option Value} {t : ng_L} (hd : decode y.2.1 pc = .ok (.astore 9, 2)) (hp : ng_nl x8 = true) (k : ng_Go X y d (pc + 2) (x0 :: x1 :: x2 :: x3 :: x4 :: x5 :: x6 :: x7 :: x8 :: some .null :: t) st M F) : ng_Go X y d pc (x0 :: x1 :: x2 :: x3 :: x4 :: x5 :: x6 :: x7 :: x8 :: x9 :: t) (.null :: st) M F := by
  intro l D cA ad A p e R s m args below meth c cells slots Q C fin H locs ls hP hS hl
  refine lv_astoreN C.1.1 C.1.2.1 hd hl.has (by rw [← hl.1]; simp only [List.length_cons]; omega) rfl (fun ls' h' => ?_)
  exact k l D cA ad A p e R s m args below meth c cells slots Q C fin H locs ls' hP hS (ng_lh.store (v := .null) hl (fun j u hj hu => by
    have e : j = 8 := by omega
    subst e
    simp at hu
    subst hu
    simpa [ng_nl] using hp) h')
theorem ng_aloadN_10 {x0 x1 x2 x3 x4 x5 x6 x7 x8 x9 : Option Value} {t : ng_L} (hd : decode y.2.1 pc = .ok (.aload 10, 2)) (k : ng_Go X y d (pc + 2) (x0 :: x1 :: x2 :: x3 :: x4 :: x5 :: x6 :: x7 :: x8 :: x9 :: some .null :: t) (.null :: st) M F) : ng_Go X y d pc (x0 :: x1 :: x2 :: x3 :: x4 :: x5 :: x6 :: x7 :: x8 :: x9 :: some .null :: t) st M F := by
  intro l D cA ad A p e R s m args below meth c cells slots Q C fin H locs ls hP hS hl
  exact lv_aloadN C.1.1 C.1.2.1 hd (hl.2.2.2 10 _ rfl) (k l D cA ad A p e R s m args below meth c cells slots Q C fin H locs ls hP hS hl)
theorem ng_astoreN_10 {x0 x1 x2 x3 x4 x5 x6 x7 x8 x9 x10 : Option Value} {t : ng_L} (hd : decode y.2.1 pc = .ok (.astore 10, 2)) (hp : ng_nl x9 = true) (k : ng_Go X y d (pc + 2) (x0 :: x1 :: x2 :: x3 :: x4 :: x5 :: x6 :: x7 :: x8 :: x9 :: some .null :: t) st M F) : ng_Go X y d pc (x0 :: x1 :: x2 :: x3 :: x4 :: x5 :: x6 :: x7 :: x8 :: x9 :: x10 :: t) (.null :: st) M F := by
  intro l D cA ad A p e R s m args below meth c cells slots Q C fin H locs ls hP hS hl
  refine lv_astoreN C.1.1 C.1.2.1 hd hl.has (by rw [← hl.1]; simp only [List.length_cons]; omega) rfl (fun ls' h' => ?_)
  exact k l D cA ad A p e R s m args below meth c cells slots Q C fin H locs ls' hP hS (ng_lh.store (v := .null) hl (fun j u hj hu => by
    have e : j = 9 := by omega
    subst e
    simp at hu
    subst hu
    simpa [ng_nl] using hp) h')
theorem ng_aloadN_11 {x0 x1 x2 x3 x4 x5 x6 x7 x8 x9 x10 : Option Value} {t : ng_L} (hd : decode y.2.1 pc = .ok (.aload 11, 2)) (k : ng_Go X y d (pc + 2) (x0 :: x1 :: x2 :: x3 :: x4 :: x5 :: x6 :: x7 :: x8 :: x9 :: x10 :: some .null :: t) (.null :: st) M F) : ng_Go X y d pc (x0 :: x1 :: x2 :: x3 :: x4 :: x5 :: x6 :: x7 :: x8 :: x9 :: x10 :: some .null :: t) st M F := by
  intro l D cA ad A p e R s m args below meth c cells slots Q C fin H locs ls hP hS hl
  exact lv_aloadN C.1.1 C.1.2.1 hd (hl.2.2.2 11 _ rfl) (k l D cA ad A p e R s m args below meth c cells slots Q C fin H locs ls hP hS hl)
theorem ng_astoreN_11 {x0 x1 x2 x3 x4 x5 x6 x7 x8 x9 x10 x11 : Option Value} {t : ng_L} (hd : decode y.2.1 pc = .ok (.astore 11, 2)) (hp : ng_nl x10 = true) (k : ng_Go X y d (pc + 2) (x0 :: x1 :: x2 :: x3 :: x4 :: x5 :: x6 :: x7 :: x8 :: x9 :: x10 :: some .null :: t) st M F) : ng_Go X y d pc (x0 :: x1 :: x2 :: x3 :: x4 :: x5 :: x6 :: x7 :: x8 :: x9 :: x10 :: x11 :: t) (.null :: st) M F := by
  intro l D cA ad A p e R s m args below meth c cells slots Q C fin H locs ls hP hS hl
  refine lv_astoreN C.1.1 C.1.2.1 hd hl.has (by rw [← hl.1]; simp only [List.length_cons]; omega) rfl (fun ls' h' => ?_)
  exact k l D cA ad A p e R s m args below meth c cells slots Q C fin H locs ls' hP hS (ng_lh.store (v := .null) hl (fun j u hj hu => by
    have e : j = 10 := by omega
    subst e
    simp at hu
    subst hu
    simpa [ng_nl] using hp) h')
theorem ng_aloadN_12 {x0 x1 x2 x3 x4 x5 x6 x7 x8 x9 x10 x11 : Option Value} {t : ng_L} (hd : decode y.2.1 pc = .ok (.aload 12, 2)) (k : ng_Go X y d (pc + 2) (x0 :: x1 :: x2 :: x3 :: x4 :: x5 :: x6 :: x7 :: x8 :: x9 :: x10 :: x11 :: some .null :: t) (.null :: st) M F) : ng_Go X y d pc (x0 :: x1 :: x2 :: x3 :: x4 :: x5 :: x6 :: x7 :: x8 :: x9 :: x10 :: x11 :: some .null :: t) st M F := by
  intro l D cA ad A p e R s m args below meth c cells slots Q C fin H locs ls hP hS hl
  exact lv_aloadN C.1.1 C.1.2.1 hd (hl.2.2.2 12 _ rfl) (k l D cA ad A p e R s m args below meth c cells slots Q C fin H locs ls hP hS hl)
theorem ng_astoreN_12 {x0 x1 x2 x3 x4 x5 x6 x7 x8 x9 x10 x11 x12 : Option Value} {t : ng_L} (hd : decode y.2.1 pc = .ok (.astore 12, 2)) (hp : ng_nl x11 = true) (k : ng_Go X y d (pc + 2) (x0 :: x1 :: x2 :: x3 :: x4 :: x5 :: x6 :: x7 :: x8 :: x9 :: x10 :: x11 :: some .null :: t) st M F) : ng_Go X y d pc (x0 :: x1 :: x2 :: x3 :: x4 :: x5 :: x6 :: x7 :: x8 :: x9 :: x10 :: x11 :: x12 :: t) (.null :: st) M F := by
  intro l D cA ad A p e R s m args below meth c cells slots Q C fin H locs ls hP hS hl
  refine lv_astoreN C.1.1 C.1.2.1 hd hl.has (by rw [← hl.1]; simp only [List.length_cons]; omega) rfl (fun ls' h' => ?_)
  exact k l D cA ad A p e R s m args below meth c cells slots Q C fin H locs ls' hP hS (ng_lh.store (v := .null) hl (fun j u hj hu => by
    have e : j = 11 := by omega
    subst e
    simp at hu
    subst hu
    simpa [ng_nl] using hp) h')
end NgRules
end
section
section NgMem
variable {X : Nat × (Nat → Int32)} {y : ng_Y} {d pc : Nat} {lv : ng_L} {st : List Value} {M : ng_M} {F : Option Value → ng_M → Prop}
/-- the entry idx of the class own names field f of the class number ci -/
def ng_FL (own : String) (idx ci f : Nat) : Prop := ∃ (C : String) (T : u_T) (N : Nat), vwCl[ci]? = some (C, T, N) ∧ f < N ∧ Cond.fieldLink own idx (T f).1 (T f).2.1 (T f).2.2.1 ∈ ng_G ∧ ∀ w ∈ u_ws C T N, w ∈ ng_G
def ng_FP (own : String) (idx ci f : Nat) (ty : FieldType) : Prop := ∃ (C : String) (T : u_T) (N : Nat) (ty0 : Nat → FieldType), vwCl[ci]? = some (C, T, N) ∧ f < N ∧ Cond.fieldLink own idx (T f).1 (T f).2.1 (T f).2.2.1 ∈ ng_G ∧ (∀ w ∈ u_ws C T N, w ∈ ng_G) ∧ (∀ k, k < N → parseFieldDescriptor (T k).2.2.1 = some (ty0 k)) ∧ (∀ a, a < N → ∀ b, b < N → a ≠ b → (T a).2.1 ≠ (T b).2.1) ∧ (T f).2.2.2 = false ∧ parseFieldDescriptor (T f).2.2.1 = some ty
theorem ng_getI {idx ci f k : Nat} {fs : List (Option Nat)} (hd : decode y.2.1 pc = .ok (.getfield idx, 3)) (hf : ng_FL y.1.cls idx ci f) (hs : ng_HS[k]? = some (.inl (ci, fs))) (hn : fs[f]? = some none) (kk : ng_Go X y d (pc + 3) lv (.int (M k f) :: st) M F) : ng_Go X y d pc lv (.ref k :: st) M F := by
  intro l D cA ad A p e R s m args below meth c cells slots Q C fin H locs ls hP hS hl
  obtain ⟨Cn, T, N, h1, h2, h3, h4⟩ := hf
  exact va_get C.1.1 C.1.2.1 C.1.2.2.2.2 h4 C.1.2.2.2.1 C.2.1 hP k (ng_wd_get hs) h1 f h2 (C.1.2.2.2.2 _ h3) (fun _ h => h) (ng_fs_int hn) hd (kk l D cA ad A p e R s m args below meth c cells slots Q C fin H locs ls hP hS hl)
theorem ng_getR {idx ci f k r : Nat} {fs : List (Option Nat)} (hd : decode y.2.1 pc = .ok (.getfield idx, 3)) (hf : ng_FL y.1.cls idx ci f) (hs : ng_HS[k]? = some (.inl (ci, fs))) (hn : fs[f]? = some (some r)) (kk : ng_Go X y d (pc + 3) lv (.ref r :: st) M F) : ng_Go X y d pc lv (.ref k :: st) M F := by
  intro l D cA ad A p e R s m args below meth c cells slots Q C fin H locs ls hP hS hl
  obtain ⟨Cn, T, N, h1, h2, h3, h4⟩ := hf
  exact va_get C.1.1 C.1.2.1 C.1.2.2.2.2 h4 C.1.2.2.2.1 C.2.1 hP k (ng_wd_get hs) h1 f h2 (C.1.2.2.2.2 _ h3) (fun _ h => h) (ng_fs_ref hn) hd (kk l D cA ad A p e R s m args below meth c cells slots Q C fin H locs ls hP hS hl)
theorem ng_put {idx ci f k : Nat} {fs : List (Option Nat)} {v : Int32} {ty : FieldType} (hd : decode y.2.1 pc = .ok (.putfield idx, 3)) (hf : ng_FP y.1.cls idx ci f ty) (hs : ng_HS[k]? = some (.inl (ci, fs))) (hn : fs[f]? = some none) (hv : narrow ty (.int v) = .int v) (hft : fits ty (.int v) = true) (kk : ng_Go X y d (pc + 3) lv st (ng_row M k (upd (M k) f v)) F) : ng_Go X y d pc lv (.int v :: .ref k :: st) M F := by
  intro l D cA ad A p e R s m args below meth c cells slots Q C fin H locs ls hP hS hl
  obtain ⟨Cn, T, N, ty0, h1, h2, h3, h4, h5, h6, h7, h8⟩ := hf
  refine va_put C.1.1 C.1.2.1 C.1.2.2.2.2 h4 ty0 h5 h6 C.1.2.2.2.1 C.2.1 hP (C.2.2.2.1 M) hS k (ng_wd_get hs) h1 f h2 (C.1.2.2.2.2 _ h3) (fun _ h => h) h7 h8 hv hft (List.getElem?_eq_some_iff.mp (ng_fs_int hn)).1 hd (fun H1 locs1 hP1 _ hS1 => ?_)
  have hP1 : va_P D vwCl ((ng_wd cA ad M).set k (ad k, .inr (ci, (ng_fs ad (M k) fs).set f (.int v)))) H1 := hP1
  rw [ng_wd_set (cA := cA) (ad := ad) (M := M) (g := upd (M k) f v) (e := .inr (ci, (ng_fs ad (M k) fs).set f (.int v))) hs (by rw [ng_fs_set hn]; rfl)] at hP1
  exact kk l D cA ad A p e R s m args below meth c cells slots Q C fin H1 locs1 ls hP1 hS1 hl
theorem ng_iald {k n : Nat} {i : Int32} (hd : decode y.2.1 pc = .ok (.iaload, 1)) (hs : ng_HS[k]? = some (.inr (.inl n))) (hin : vp_in i n) (kk : ng_Go X y d (pc + 1) lv (.int (M k i.toNatClampNeg) :: st) M F) : ng_Go X y d pc lv (.int i :: .ref k :: st) M F := by
  intro l D cA ad A p e R s m args below meth c cells slots Q C fin H locs ls hP hS hl
  exact va_iald C.1.1 C.1.2.1 C.2.1 hP k 0 (ng_wd_get hs) rfl hin hd (kk l D cA ad A p e R s m args below meth c cells slots Q C fin H locs ls hP hS hl)
theorem ng_iast {k n : Nat} {i v : Int32} (hd : decode y.2.1 pc = .ok (.iastore, 1)) (hs : ng_HS[k]? = some (.inr (.inl n))) (hin : vp_in i n) (kk : ng_Go X y d (pc + 1) lv st (ng_row M k (upd (M k) i.toNatClampNeg v)) F) : ng_Go X y d pc lv (.int v :: .int i :: .ref k :: st) M F := by
  intro l D cA ad A p e R s m args below meth c cells slots Q C fin H locs ls hP hS hl
  refine va_iast C.1.1 C.1.2.1 C.2.1 hP (C.2.2.2.1 M) hS k 0 (ng_wd_get hs) rfl hin hd (fun H1 locs1 hP1 _ hS1 => ?_)
  rw [ng_wd_set (cA := cA) (ad := ad) (M := M) (g := upd (M k) i.toNatClampNeg v) (e := .inl (cA 0, n, .inl (upd (M k) i.toNatClampNeg v))) hs rfl] at hP1
  exact kk l D cA ad A p e R s m args below meth c cells slots Q C fin H1 locs1 ls hP1 hS1 hl
theorem ng_alen {k n : Nat} (hd : decode y.2.1 pc = .ok (.arraylength, 1)) (hs : ng_HS[k]? = some (.inr (.inl n))) (kk : ng_Go X y d (pc + 1) lv (.int (Int32.ofNat n) :: st) M F) : ng_Go X y d pc lv (.ref k :: st) M F := by
  intro l D cA ad A p e R s m args below meth c cells slots Q C fin H locs ls hP hS hl
  exact va_alen C.1.1 C.1.2.1 C.2.1 hP k 0 (ng_wd_get hs) rfl rfl hd (kk l D cA ad A p e R s m args below meth c cells slots Q C fin H locs ls hP hS hl)
theorem ng_alenR {k n t : Nat} {f : Nat → Option Nat} (hd : decode y.2.1 pc = .ok (.arraylength, 1)) (hs : ng_HS[k]? = some (.inr (.inr (n, t, f)))) (ht : t = 1 ∨ t = 2 ∨ t = 3) (kk : ng_Go X y d (pc + 1) lv (.int (Int32.ofNat n) :: st) M F) : ng_Go X y d pc lv (.ref k :: st) M F := by
  intro l D cA ad A p e R s m args below meth c cells slots Q C fin H locs ls hP hS hl
  rcases ht with rfl | rfl | rfl
  · exact va_alen C.1.1 C.1.2.1 C.2.1 hP k 1 (ng_wd_get hs) rfl rfl hd (kk l D cA ad A p e R s m args below meth c cells slots Q C fin H locs ls hP hS hl)
  · exact va_alen C.1.1 C.1.2.1 C.2.1 hP k 2 (ng_wd_get hs) rfl rfl hd (kk l D cA ad A p e R s m args below meth c cells slots Q C fin H locs ls hP hS hl)
  · exact va_alen C.1.1 C.1.2.1 C.2.1 hP k 3 (ng_wd_get hs) rfl rfl hd (kk l D cA ad A p e R s m args below meth c cells slots Q C fin H locs ls hP hS hl)
theorem ng_aald {k n t r : Nat} {i : Int32} {f : Nat → Option Nat} (hd : decode y.2.1 pc = .ok (.aaload, 1)) (hs : ng_HS[k]? = some (.inr (.inr (n, t, f)))) (ht : t = 1 ∨ t = 2 ∨ t = 3) (hin : vp_in i n) (hr : f i.toNatClampNeg = some r) (kk : ng_Go X y d (pc + 1) lv (.ref r :: st) M F) : ng_Go X y d pc lv (.int i :: .ref k :: st) M F := by
  intro l D cA ad A p e R s m args below meth c cells slots Q C fin H locs ls hP hS hl
  have k2 := kk l D cA ad A p e R s m args below meth c cells slots Q C fin H locs ls hP hS hl
  have e1 : va_rf ((f i.toNatClampNeg).map ad) = .ref (ad r) := by rw [hr]; rfl
  rcases ht with rfl | rfl | rfl
  · exact va_aldq C.1.1 C.1.2.1 C.2.1 hP k 1 (ng_wd_get hs) rfl hin hd (by dsimp only; rw [e1]; exact k2)
  · exact va_aldq C.1.1 C.1.2.1 C.2.1 hP k 2 (ng_wd_get hs) rfl hin hd (by dsimp only; rw [e1]; exact k2)
  · exact va_aldq C.1.1 C.1.2.1 C.2.1 hP k 3 (ng_wd_get hs) rfl hin hd (by dsimp only; rw [e1]; exact k2)
theorem ng_gets {idx : Nat} {C0 n0 d0 : String} {v : Value} (hd : decode y.2.1 pc = .ok (.getstatic idx, 3)) (hq : (C0, n0, d0, v) ∈ ng_stats) (hf : Cond.fieldLink y.1.cls idx C0 n0 d0 ∈ ng_G) (kk : ng_Go X y d (pc + 3) lv (v :: st) M F) : ng_Go X y d pc lv st M F := by
  intro l D cA ad A p e R s m args below meth c cells slots Q C fin H locs ls hP hS hl
  exact va_gets C.1.1 C.1.2.1 (C.2.2.1.2.2.1 _ hq) hS C.1.2.2.2.1 (C.1.2.2.2.2 _ hf) (fun _ h => h) hd (kk l D cA ad A p e R s m args below meth c cells slots Q C fin H locs ls hP hS hl)
theorem ng_getsN {idx : Nat} {C0 n0 d0 host : String} {v : Value} (hd : decode y.2.1 pc = .ok (.getstatic idx, 3)) (hq : (C0, n0, d0, v) ∈ ng_stats) (hf : (y.1.cls, idx, C0, n0, d0, host) ∈ ng_nf) (kk : ng_Go X y d (pc + 3) lv (v :: st) M F) : ng_Go X y d pc lv st M F := by
  intro l D cA ad A p e R s m args below meth c cells slots Q C fin H locs ls hP hS hl
  exact va_getsN C.1.1 C.1.2.1 (C.2.2.1.2.2.1 _ hq) hS C.1.2.2.2.1 (va_Nw.use rfl (C.2.2.1.2.1 _ hf)) (fun _ h => h) hd (kk l D cA ad A p e R s m args below meth c cells slots Q C fin H locs ls hP hS hl)
theorem ng_kld {k n : Nat} {i : Int32} {f : Nat → Int32} (hd : decode y.2.1 pc = .ok (.iaload, 1)) (hk : (ng_kst X)[k]? = some (.int, n, f)) (hin : vp_in i n) (kk : ng_Go X y d (pc + 1) lv (.int (f i.toNatClampNeg) :: st) M F) : ng_Go X y d pc lv (.int i :: .ref (1000 + k) :: st) M F := by
  intro l D cA ad A p e R s m args below meth c cells slots Q C fin H locs ls hP hS hl
  exact va_ti C.1.1 C.1.2.1 (C.2.2.1.2.2.2.1 _ _ hk) hS hin rfl hd (kk l D cA ad A p e R s m args below meth c cells slots Q C fin H locs ls hP hS hl)
theorem ng_kldc {k n : Nat} {i : Int32} {f : Nat → Int32} (hd : decode y.2.1 pc = .ok (.caload, 1)) (hk : (ng_kst X)[k]? = some (.char, n, f)) (hin : vp_in i n) (kk : ng_Go X y d (pc + 1) lv (.int (f i.toNatClampNeg) :: st) M F) : ng_Go X y d pc lv (.int i :: .ref (1000 + k) :: st) M F := by
  intro l D cA ad A p e R s m args below meth c cells slots Q C fin H locs ls hP hS hl
  exact va_tc C.1.1 C.1.2.1 (C.2.2.1.2.2.2.1 _ _ hk) hS hin rfl hd (kk l D cA ad A p e R s m args below meth c cells slots Q C fin H locs ls hP hS hl)
theorem ng_kldb {k n : Nat} {i : Int32} {f : Nat → Int32} (hd : decode y.2.1 pc = .ok (.baload, 1)) (hk : (ng_kst X)[k]? = some (.byte, n, f)) (hin : vp_in i n) (kk : ng_Go X y d (pc + 1) lv (.int (f i.toNatClampNeg) :: st) M F) : ng_Go X y d pc lv (.int i :: .ref (1000 + k) :: st) M F := by
  intro l D cA ad A p e R s m args below meth c cells slots Q C fin H locs ls hP hS hl
  exact va_tb C.1.1 C.1.2.1 (C.2.2.1.2.2.2.1 _ _ hk) hS hin rfl hd (kk l D cA ad A p e R s m args below meth c cells slots Q C fin H locs ls hP hS hl)
theorem ng_klen {k n : Nat} {f : Nat → Int32} {ty : FieldType} (hd : decode y.2.1 pc = .ok (.arraylength, 1)) (hk : (ng_kst X)[k]? = some (ty, n, f)) (kk : ng_Go X y d (pc + 1) lv (.int (Int32.ofNat n) :: st) M F) : ng_Go X y d pc lv (.ref (1000 + k) :: st) M F := by
  intro l D cA ad A p e R s m args below meth c cells slots Q C fin H locs ls hP hS hl
  exact va_tlen C.1.1 C.1.2.1 (C.2.2.1.2.2.2.1 _ _ hk) hS rfl hd (kk l D cA ad A p e R s m args below meth c cells slots Q C fin H locs ls hP hS hl)
theorem ng_kget {idx k : Nat} {o0 n0 d0 : String} {v : Value} (hd : decode y.2.1 pc = .ok (.getfield idx, 3)) (hq : (o0, n0, d0, v, k) ∈ ng_ofs) (hf : Cond.fieldLink y.1.cls idx o0 n0 d0 ∈ ng_G) (kk : ng_Go X y d (pc + 3) lv (v :: st) M F) : ng_Go X y d pc lv (.ref k :: st) M F := by
  intro l D cA ad A p e R s m args below meth c cells slots Q C fin H locs ls hP hS hl
  exact vk_getf C.1.1 C.1.2.1 (C.2.2.1.2.2.2.2 _ hq).1 hS C.1.2.2.2.1 (C.1.2.2.2.2 _ hf) (fun _ h => h) hd (kk l D cA ad A p e R s m args below meth c cells slots Q C fin H locs ls hP hS hl)
theorem ng_arraycopy {idx k0 k1 n0 n1 : Nat} {sp dp n : Int32} (hd : decode y.2.1 pc = .ok (.invokestatic idx, 3)) (hlink : Cond.methodLink y.1.cls idx arraycopyName ∈ ng_G) (hnat : Cond.native arraycopyName ∈ ng_G) (hstat : Cond.static arraycopyName ∈ ng_G) (hini : Cond.initialized "java/lang/System" ∈ ng_G)
    (hs0 : ng_HS[k0]? = some (.inr (.inl n0))) (hs1 : ng_HS[k1]? = some (.inr (.inl n1))) (h1 : ¬ sp < 0) (h2 : ¬ dp < 0) (h3 : ¬ n < 0) (h4 : sp.toNatClampNeg + n.toNatClampNeg ≤ n0) (h5 : dp.toNatClampNeg + n.toNatClampNeg ≤ n1) (hst : (st.map fun v => v.category).sum ≤ 8)
    (kk : ng_Go X y (d + 1) (pc + 3) lv st (ng_row M k1 (va_cpy (M k0) (M k1) sp.toNatClampNeg dp.toNatClampNeg n.toNatClampNeg)) F) : ng_Go X y (d + 1) pc lv (.int n :: .int dp :: .ref k1 :: .int sp :: .ref k0 :: st) M F := by
  intro l D cA ad A p e R s m args below meth c cells slots Q C fin H locs ls hP hS hl
  have hc8 : ((st.map (ng_v ad)).map fun v => v.category).sum ≤ 8 := by
    rw [List.map_map, show ((fun v : Value => v.category) ∘ ng_v ad) = fun v => v.category from funext (ng_v_cat ad)]
    exact hst
  have hR := C.2.2.2.2
  have hnw : nativeFrameWords "java/lang/System" "arraycopy" 5 + 11 ≤ 32 := by decide +kernel
  refine va_copyi C.1.1 C.1.2.1 (C.1.2.2.1.trans hl.2.1.symm) C.1.2.2.2.1 (C.1.2.2.2.2 _ hlink) (C.1.2.2.2.2 _ hnat) (C.1.2.2.2.2 _ hstat) (C.1.2.2.2.2 _ hini) C.2.1 hP (C.2.2.2.1 M) hS k0 k1 0 0 (ng_wd_get hs0) (ng_wd_get hs1) rfl rfl rfl h1 h2 h3 h4 h5 (fun _ _ => rfl) (by omega) (by omega) hd (fun H1 locs1 hP1 _ hS1 => ?_)
  rw [ng_wd_set (cA := cA) (ad := ad) (M := M) (g := va_cpy (M k0) (M k1) sp.toNatClampNeg dp.toNatClampNeg n.toNatClampNeg) (e := .inl (cA 0, n1, .inl (va_cpy (M k0) (M k1) sp.toNatClampNeg dp.toNatClampNeg n.toNatClampNeg))) hs1 rfl] at hP1
  exact kk l D cA ad A p e R s m args below meth c cells slots Q C fin H1 locs1 ls hP1 hS1 hl
theorem ng_mmax {idx : Nat} {a b : Int32} (hd : decode y.2.1 pc = .ok (.invokestatic idx, 3)) (hlink : Cond.methodLink y.1.cls idx Lib.Math.max.name ∈ ng_G) (hstat : Cond.static Lib.Math.max.name ∈ ng_G) (hini : Cond.initialized "java/lang/Math" ∈ ng_G) (hcode : Cond.code Lib.Math.max.name Lib.Math.max.code 2 (some .int) ∈ ng_G) (hst : (st.map fun v => v.category).sum ≤ 8)
    (kk : ng_Go X y (d + 1) (pc + 3) lv (.int (if a < b then b else a) :: st) M F) : ng_Go X y (d + 1) pc lv (.int b :: .int a :: st) M F := by
  intro l D cA ad A p e R s m args below meth c cells slots Q C fin H locs ls hP hS hl
  have hc8 : ((st.map (ng_v ad)).map fun v => v.category).sum ≤ 8 := by
    rw [List.map_map, show ((fun v : Value => v.category) ∘ ng_v ad) = fun v => v.category from funext (ng_v_cat ad)]
    exact hst
  have hR := C.2.2.2.2
  exact va_mmax C.1.1 C.1.2.1 (C.1.2.2.1.trans hl.2.1.symm) C.1.2.2.2.1 (C.1.2.2.2.2 _ hlink) (C.1.2.2.2.2 _ hstat) (C.1.2.2.2.2 _ hini) (C.1.2.2.2.2 _ hcode) (by omega) (by omega) hR.2.2.1 hR.2.2.2 hd (kk l D cA ad A p e R s m args below meth c cells slots Q C fin H locs ls hP hS hl)
theorem ng_mmin {idx : Nat} {a b : Int32} (hd : decode y.2.1 pc = .ok (.invokestatic idx, 3)) (hlink : Cond.methodLink y.1.cls idx Lib.Math.min.name ∈ ng_G) (hstat : Cond.static Lib.Math.min.name ∈ ng_G) (hini : Cond.initialized "java/lang/Math" ∈ ng_G) (hcode : Cond.code Lib.Math.min.name Lib.Math.min.code 2 (some .int) ∈ ng_G) (hst : (st.map fun v => v.category).sum ≤ 8)
    (kk : ng_Go X y (d + 1) (pc + 3) lv (.int (if b < a then b else a) :: st) M F) : ng_Go X y (d + 1) pc lv (.int b :: .int a :: st) M F := by
  intro l D cA ad A p e R s m args below meth c cells slots Q C fin H locs ls hP hS hl
  have hc8 : ((st.map (ng_v ad)).map fun v => v.category).sum ≤ 8 := by
    rw [List.map_map, show ((fun v : Value => v.category) ∘ ng_v ad) = fun v => v.category from funext (ng_v_cat ad)]
    exact hst
  have hR := C.2.2.2.2
  exact va_mmin C.1.1 C.1.2.1 (C.1.2.2.1.trans hl.2.1.symm) C.1.2.2.2.1 (C.1.2.2.2.2 _ hlink) (C.1.2.2.2.2 _ hstat) (C.1.2.2.2.2 _ hini) (C.1.2.2.2.2 _ hcode) (by omega) (by omega) hR.2.2.1 hR.2.2.2 hd (kk l D cA ad A p e R s m args below meth c cells slots Q C fin H locs ls hP hS hl)
theorem ng_mmaxl {idx : Nat} {a b : Int64} (hd : decode y.2.1 pc = .ok (.invokestatic idx, 3)) (hlink : Cond.methodLink y.1.cls idx Lib.MathLoose.max_long.x ∈ ng_G) (hstat : Cond.static Lib.MathLoose.max_long.x ∈ ng_G) (hini : Cond.initialized "java/lang/Math" ∈ ng_G) (hcode : Cond.code Lib.MathLoose.max_long.x Lib.MathLoose.max_long.code 4 (some .long) ∈ ng_G) (hst : (st.map fun v => v.category).sum ≤ 8)
    (kk : ng_Go X y (d + 1) (pc + 3) lv (.long (if b < a then a else b) :: st) M F) : ng_Go X y (d + 1) pc lv (.long b :: .long a :: st) M F := by
  intro l D cA ad A p e R s m args below meth c cells slots Q C fin H locs ls hP hS hl
  have hc8 : ((st.map (ng_v ad)).map fun v => v.category).sum ≤ 8 := by
    rw [List.map_map, show ((fun v : Value => v.category) ∘ ng_v ad) = fun v => v.category from funext (ng_v_cat ad)]
    exact hst
  have hR := C.2.2.2.2
  exact va_mmax_long C.1.1 C.1.2.1 (C.1.2.2.1.trans hl.2.1.symm) C.1.2.2.2.1 (C.1.2.2.2.2 _ hlink) (C.1.2.2.2.2 _ hstat) (C.1.2.2.2.2 _ hini) (C.1.2.2.2.2 _ hcode) (by omega) (by omega) hR.2.2.1 hR.2.2.2 hd (kk l D cA ad A p e R s m args below meth c cells slots Q C fin H locs ls hP hS hl)
theorem ng_mminl {idx : Nat} {a b : Int64} (hd : decode y.2.1 pc = .ok (.invokestatic idx, 3)) (hlink : Cond.methodLink y.1.cls idx Lib.MathLoose.min_long.x ∈ ng_G) (hstat : Cond.static Lib.MathLoose.min_long.x ∈ ng_G) (hini : Cond.initialized "java/lang/Math" ∈ ng_G) (hcode : Cond.code Lib.MathLoose.min_long.x Lib.MathLoose.min_long.code 4 (some .long) ∈ ng_G) (hst : (st.map fun v => v.category).sum ≤ 8)
    (kk : ng_Go X y (d + 1) (pc + 3) lv (.long (if b < a then b else a) :: st) M F) : ng_Go X y (d + 1) pc lv (.long b :: .long a :: st) M F := by
  intro l D cA ad A p e R s m args below meth c cells slots Q C fin H locs ls hP hS hl
  have hc8 : ((st.map (ng_v ad)).map fun v => v.category).sum ≤ 8 := by
    rw [List.map_map, show ((fun v : Value => v.category) ∘ ng_v ad) = fun v => v.category from funext (ng_v_cat ad)]
    exact hst
  have hR := C.2.2.2.2
  exact va_mmin_long C.1.1 C.1.2.1 (C.1.2.2.1.trans hl.2.1.symm) C.1.2.2.2.1 (C.1.2.2.2.2 _ hlink) (C.1.2.2.2.2 _ hstat) (C.1.2.2.2.2 _ hini) (C.1.2.2.2.2 _ hcode) (by omega) (by omega) hR.2.2.1 hR.2.2.2 hd (kk l D cA ad A p e R s m args below meth c cells slots Q C fin H locs ls hP hS hl)
theorem ng_ireturn {v : Int32} (hd : decode y.2.1 pc = .ok (.ireturn, 1)) (h : F (some (.int v)) M) : ng_Go X y d pc lv [.int v] M F := by
  intro l D cA ad A p e R s m args below meth c cells slots Q C fin H locs ls hP hS hl
  exact fin _ _ _ _ _ _ h hP hS (Or.inl ⟨v, rfl, hd⟩)
theorem ng_return (hd : decode y.2.1 pc = .ok (.return_, 1)) (h : F none M) : ng_Go X y d pc lv [] M F := by
  intro l D cA ad A p e R s m args below meth c cells slots Q C fin H locs ls hP hS hl
  exact fin _ _ _ _ _ _ h hP hS (Or.inr (Or.inl ⟨rfl, hd⟩))
theorem ng_areturn {k : Nat} (hd : decode y.2.1 pc = .ok (.areturn, 1)) (h : F (some (.ref k)) M) : ng_Go X y d pc lv [.ref k] M F := by
  intro l D cA ad A p e R s m args below meth c cells slots Q C fin H locs ls hP hS hl
  exact fin _ _ _ _ _ _ h hP hS (Or.inr (Or.inr ⟨Or.inr ⟨k, rfl⟩, hd⟩))
theorem ng_areturnN (hd : decode y.2.1 pc = .ok (.areturn, 1)) (h : F (some .null) M) : ng_Go X y d pc lv [.null] M F := by
  intro l D cA ad A p e R s m args below meth c cells slots Q C fin H locs ls hP hS hl
  exact fin _ _ _ _ _ _ h hP hS (Or.inr (Or.inr ⟨Or.inl rfl, hd⟩))
end NgMem
end
section
section NgCalls
variable {X : Nat × (Nat → Int32)} {y : ng_Y} {d pc : Nat} {lv : ng_L} {st : List Value} {M : ng_M} {F : Option Value → ng_M → Prop}
/-- what the tables say of a method that is called: n parameters -/
def ng_MY (y : ng_Y) (n : Nat) : Prop := Cond.code y.1 y.2.1 y.2.2.1 y.2.2.2 ∈ ng_G ∧ Cond.initialized y.1.cls ∈ ng_G ∧ (y.1.cls ≠ "java/lang/invoke/MethodHandle" ∧ y.1.cls ≠ "java/lang/invoke/VarHandle" ∧ (parseMethodDescriptor y.1.desc).map (fun d => d.parameters.length) = some n) ∧ y.2.2.1 ≤ 21
theorem ng_goodIn {y : ng_Y} {n : Nat} (h : ng_MY y n) : GoodIn ng_G (ng_ws y) := fun w hw => by
  rcases List.mem_cons.mp hw with rfl | hw
  · exact ⟨h.1, ng_goodG h.1⟩
  · exact ⟨hw, ng_goodG hw⟩
theorem ng_cat8 {ad : Nat → Nat} (hst : (st.map fun v => v.category).sum ≤ 8) : ((st.map (ng_v ad)).map fun v => v.category).sum ≤ 8 := by
  rw [List.map_map, show ((fun v : Value => v.category) ∘ ng_v ad) = fun v => v.category from funext (ng_v_cat ad)]
  exact hst
theorem ng_after {l : Launch} {D : va_G} {cA : Nat → ClassId} {ad : Nat → Nat} {A : Nat → Prop} {p : Program} {e : Env} {R : Room} {s : State} {m : MethodId} {args : Array Value} {below : List Frame} {meth : Method} {c : Code} {cells slots : Nat} {Q : State → Prop} {H : Heap} {locs : List Loc} {ls : Array Slot} {st0 : List Value} {as : Array Value} {F1 : Option Value → ng_M → Prop}
    (hr : va_Run p l e R s m args below meth c H locs cells slots 0 0 (F0 m pc ls st0) (st.map (ng_v ad)) (ng_Q D cA ad A F1 as) A) (hS : va_S A s.heap H locs) (C : ng_Cx D cA ad A X y d p R s m args c cells slots)
    (fin : ∀ (r : Option Value) (M' : ng_M) (H' : Heap) (locs' : List Loc) (ls' : Array Slot) (pc' : Nat), F r M' → va_P D vwCl (ng_wd cA ad M') H' → va_S A s.heap H' locs' → ng_rt y.2.1 pc' r → W p l e R s m args below meth c H' locs' cells slots Q (F0 m pc' ls' (r.map (ng_v ad)).toList))
    (hl : ng_lh ad ls y.2.2.1 lv) (kk : ∀ (r : Option Value) (M1 : ng_M), F1 r M1 → ng_Go X y d (pc + 3) lv (r.toList ++ st) M1 F) : W p l e R s m args below meth c H locs cells slots Q (F0 m pc ls st0) := by
  intro T hT X'
  obtain ⟨v, st₀, t, T', L, h0, X'', hL, e1, e2, ⟨⟨r, M1, hv, hF1, hP1⟩, hz, hk⟩, stp⟩ := hr T hT X'
  have hv' : v = r.map (ng_v ad) := by injection hv
  subst hv'
  rw [h0] at hz hk
  have hS1 : va_S A s.heap T'.heap (locs ++ L) := ⟨Nat.le_trans hS.1 (by rw [e1]; exact hz), fun q h1 h2 => by rw [e1, hk q (Nat.lt_of_lt_of_le h1 hS.1) h2]; exact hS.2.1 q h1 h2, fun q hq => (List.mem_append.mp hq).elim (hS.2.2 q) (hL q)⟩
  have g := kk r M1 hF1 l D cA ad A p e R s m args below meth c cells slots Q C fin T'.heap (locs ++ L) ls (by rw [e1]; exact hP1) hS1 hl
  have es : (r.toList ++ st).map (ng_v ad) = (r.map (ng_v ad)).toList ++ st.map (ng_v ad) := by cases r <;> simp
  rw [es] at g
  obtain ⟨t2, a1, b1⟩ := g T' rfl X''
  exact ⟨t2, stp t2 a1, b1⟩
theorem ng_pre {D : va_G} {cA : Nat → ClassId} {ad : Nat → Nat} {A : Nat → Prop} {p : Program} {R : Room} {s : State} {m : MethodId} {args : Array Value} {c : Code} {cells slots : Nat} {H : Heap} {locs : List Loc} (C : ng_Cx D cA ad A X y d p R s m args c cells slots) (hP : va_P D vwCl (ng_wd cA ad M) H) (hS : va_S A s.heap H locs) (av : List Value) : ∀ U : State, U.heap = H → s.WarmedH U.vm → va_Pc av (ng_W D cA ad A X M) av.toArray U :=
  fun U hU hW => ⟨rfl, by rw [hU]; exact hP, va_K.moved hW.alike C.2.1, C.2.2.1.to hW (fun a h1 h2 => by rw [hU]; exact hS.2.1 a h1 h2)⟩
theorem ng_callV {idx k ci n d' : Nat} {fs : List (Option Nat)} {y2 : ng_Y} {As : List Value} {F1 : Option Value → ng_M → Prop} (hd : decode y.2.1 pc = .ok (.invokevirtual idx, 3)) (hlink : Cond.methodLink y.1.cls idx y2.1 ∈ ng_G) (hin : Cond.instanceMethod y2.1 ∈ ng_G ∧ Cond.selects y2.1.cls y2.1 y2.1 ∈ ng_G) (hm : ng_MY y2 n) (hn : As.length = n) (hs : ng_HS[k]? = some (.inl (ci, fs))) (hc : ∃ (T : u_T) (N : Nat), vwCl[ci]? = some (y2.1.cls, T, N)) (hst : (st.map fun v => v.category).sum ≤ 8)
    (he : ng_Ev X d' y2 (.ref k :: As) M F1) (hdd : d' ≤ d) (kk : ∀ (r : Option Value) (M1 : ng_M), F1 r M1 → ng_Go X y (d + 1) (pc + 3) lv (r.toList ++ st) M1 F) : ng_Go X y (d + 1) pc lv (As.reverse ++ .ref k :: st) M F := by
  intro l D cA ad A p e R s m args below meth c cells slots Q C fin H locs ls hP hS hl
  obtain ⟨T0, N0, hc⟩ := hc
  have hM := he l D cA ad A C.2.2.2.1 d hdd
  have hR := C.2.2.2.2
  have hmm := hm.2.2.2
  have cw : CallW R s args y.1.cls y2.1.cls idx y2.1 y2.2.1 y2.2.2.1 y2.2.2.2 (ng_ws y2) (ng_rm d) 0 0 n := ⟨callB_of n C.1.2.2.2.2 (ng_goodIn hm) rfl rfl rfl (C.1.2.2.2.2 _ hm.2.1) (C.1.2.2.2.2 _ hlink) hm.2.2.1 ⟨hR.1, by show 8 + (y2.2.2.1 + 11) + 40 * d ≤ R.locals; omega⟩, C.1.2.2.2.2 _ hin.1, C.1.2.2.2.2 _ hin.2⟩
  have hp : PreV s H y2.1.cls (ad k) (va_Pc ((Value.ref k :: As).map (ng_v ad)) (ng_W D cA ad A X M)) (As.map (ng_v ad)) := ⟨ng_blind, va_recv C.2.1 hP hc (ng_wd_get hs), ng_pre C hP hS _⟩
  exact ng_after (va_runV (As := As.map (ng_v ad)) (rest := st.map (ng_v ad)) C.1 hM cw hp rfl (by rw [List.length_map]; exact hn) hl.2.1 (by simp [ng_v, List.map_reverse]) (lv_room (ng_cat8 hst)) hd ⟨hR.2.2.1, hR.2.2.2⟩) hS C fin hl kk
theorem ng_callVK {idx k n d' : Nat} {q : String × String × String × Value} {y2 : ng_Y} {As : List Value} {F1 : Option Value → ng_M → Prop} (hd : decode y.2.1 pc = .ok (.invokevirtual idx, 3)) (hlink : Cond.methodLink y.1.cls idx y2.1 ∈ ng_G) (hin : Cond.instanceMethod y2.1 ∈ ng_G ∧ Cond.selects y2.1.cls y2.1 y2.1 ∈ ng_G) (hm : ng_MY y2 n) (hn : As.length = n) (hs : (q.1, q.2.1, q.2.2.1, q.2.2.2, k) ∈ ng_ofs) (hc : y2.1.cls = "java/lang/String") (hst : (st.map fun v => v.category).sum ≤ 8)
    (he : ng_Ev X d' y2 (.ref k :: As) M F1) (hdd : d' ≤ d) (kk : ∀ (r : Option Value) (M1 : ng_M), F1 r M1 → ng_Go X y (d + 1) (pc + 3) lv (r.toList ++ st) M1 F) : ng_Go X y (d + 1) pc lv (As.reverse ++ .ref k :: st) M F := by
  intro l D cA ad A p e R s m args below meth c cells slots Q C fin H locs ls hP hS hl
  have hM := he l D cA ad A C.2.2.2.1 d hdd
  have hR := C.2.2.2.2
  have hmm := hm.2.2.2
  have cw : CallW R s args y.1.cls y2.1.cls idx y2.1 y2.2.1 y2.2.2.1 y2.2.2.2 (ng_ws y2) (ng_rm d) 0 0 n := ⟨callB_of n C.1.2.2.2.2 (ng_goodIn hm) rfl rfl rfl (C.1.2.2.2.2 _ hm.2.1) (C.1.2.2.2.2 _ hlink) hm.2.2.1 ⟨hR.1, by show 8 + (y2.2.2.1 + 11) + 40 * d ≤ R.locals; omega⟩, C.1.2.2.2.2 _ hin.1, C.1.2.2.2.2 _ hin.2⟩
  have hO := ((C.2.2.1.2.2.2.2 _ hs).2).kept hS.2.1
  have hp : PreV s H y2.1.cls (ad k) (va_Pc ((Value.ref k :: As).map (ng_v ad)) (ng_W D cA ad A X M)) (As.map (ng_v ad)) := ⟨ng_blind, by obtain ⟨cell, h1, h2, h3, -⟩ := hO; exact ⟨cell, h1, h2, by rw [hc]; exact h3⟩, ng_pre C hP hS _⟩
  exact ng_after (va_runV (As := As.map (ng_v ad)) (rest := st.map (ng_v ad)) C.1 hM cw hp rfl (by rw [List.length_map]; exact hn) hl.2.1 (by simp [ng_v, List.map_reverse]) (lv_room (ng_cat8 hst)) hd ⟨hR.2.2.1, hR.2.2.2⟩) hS C fin hl kk
theorem ng_callS {idx n d' : Nat} {y2 : ng_Y} {As : List Value} {F1 : Option Value → ng_M → Prop} (hd : decode y.2.1 pc = .ok (.invokestatic idx, 3)) (hlink : Cond.methodLink y.1.cls idx y2.1 ∈ ng_G) (hin : Cond.static y2.1 ∈ ng_G) (hm : ng_MY y2 n) (hn : As.length = n) (hst : (st.map fun v => v.category).sum ≤ 8)
    (he : ng_Ev X d' y2 As M F1) (hdd : d' ≤ d) (kk : ∀ (r : Option Value) (M1 : ng_M), F1 r M1 → ng_Go X y (d + 1) (pc + 3) lv (r.toList ++ st) M1 F) : ng_Go X y (d + 1) pc lv (As.reverse ++ st) M F := by
  intro l D cA ad A p e R s m args below meth c cells slots Q C fin H locs ls hP hS hl
  have hM := he l D cA ad A C.2.2.2.1 d hdd
  have hR := C.2.2.2.2
  have hmm := hm.2.2.2
  have cw : CallB R s args y.1.cls idx y2.1 y2.2.1 y2.2.2.1 y2.2.2.2 (ng_ws y2) (ng_rm d) 0 0 n ∧ (Cond.static y2.1).before args s = true := ⟨callB_of n C.1.2.2.2.2 (ng_goodIn hm) rfl rfl rfl (C.1.2.2.2.2 _ hm.2.1) (C.1.2.2.2.2 _ hlink) hm.2.2.1 ⟨hR.1, by show 8 + (y2.2.2.1 + 11) + 40 * d ≤ R.locals; omega⟩, C.1.2.2.2.2 _ hin⟩
  have hp : PreS s H (va_Pc (As.map (ng_v ad)) (ng_W D cA ad A X M)) (As.map (ng_v ad)) := ⟨ng_blind, ng_pre C hP hS _⟩
  exact ng_after (va_runS (As := As.map (ng_v ad)) (rest := st.map (ng_v ad)) C.1 hM cw hp rfl (by rw [List.length_map]; exact hn) hl.2.1 (by simp [List.map_reverse]) (lv_room (ng_cat8 hst)) hd ⟨hR.2.2.1, hR.2.2.2⟩) hS C fin hl kk
theorem ng_callSN {idx n d' : Nat} {host : String} {y2 : ng_Y} {As : List Value} {F1 : Option Value → ng_M → Prop} (hd : decode y.2.1 pc = .ok (.invokestatic idx, 3)) (hlink : (y.1.cls, idx, y2.1, host) ∈ ng_nm) (hin : Cond.static y2.1 ∈ ng_G) (hm : ng_MY y2 n) (hn : As.length = n) (hst : (st.map fun v => v.category).sum ≤ 8)
    (he : ng_Ev X d' y2 As M F1) (hdd : d' ≤ d) (kk : ∀ (r : Option Value) (M1 : ng_M), F1 r M1 → ng_Go X y (d + 1) (pc + 3) lv (r.toList ++ st) M1 F) : ng_Go X y (d + 1) pc lv (As.reverse ++ st) M F := by
  intro l D cA ad A p e R s m args below meth c cells slots Q C fin H locs ls hP hS hl
  have hM := he l D cA ad A C.2.2.2.1 d hdd
  have hR := C.2.2.2.2
  have hmm := hm.2.2.2
  have cw : va_CN R s args y.1.cls idx y2.1 host y2.2.1 y2.2.2.1 y2.2.2.2 (ng_ws y2) (ng_rm d) 0 0 n ∧ (Cond.static y2.1).before args s = true ∧ True := ⟨va_cnB n C.1.2.2.2.2 (ng_goodIn hm) rfl rfl rfl (C.2.2.1.1 _ hlink) (C.1.2.2.2.2 _ hm.2.1) hm.2.2.1 ⟨hR.1, by show 8 + (y2.2.2.1 + 11) + 40 * d ≤ R.locals; omega⟩, C.1.2.2.2.2 _ hin, trivial⟩
  have hp : PreS s H (va_Pc (As.map (ng_v ad)) (ng_W D cA ad A X M)) (As.map (ng_v ad)) := ⟨ng_blind, ng_pre C hP hS _⟩
  exact ng_after (va_runSN (As := As.map (ng_v ad)) (rest := st.map (ng_v ad)) C.1 hM cw hp rfl (by rw [List.length_map]; exact hn) hl.2.1 (by simp [List.map_reverse]) (lv_room (ng_cat8 hst)) hd ⟨hR.2.2.1, hR.2.2.2⟩) hS C fin hl kk
theorem ng_callV_0 {idx k ci d' : Nat} {fs : List (Option Nat)} {y2 : ng_Y} {F1 : Option Value → ng_M → Prop} (hd : decode y.2.1 pc = .ok (.invokevirtual idx, 3)) (hlink : Cond.methodLink y.1.cls idx y2.1 ∈ ng_G) (hin : Cond.instanceMethod y2.1 ∈ ng_G ∧ Cond.selects y2.1.cls y2.1 y2.1 ∈ ng_G) (hm : ng_MY y2 0) (hs : ng_HS[k]? = some (.inl (ci, fs))) (hc : ∃ (T : u_T) (N : Nat), vwCl[ci]? = some (y2.1.cls, T, N)) (hst : (st.map fun v => v.category).sum ≤ 8)
    (he : ng_Ev X d' y2 (.ref k :: []) M F1) (hdd : d' ≤ d) (kk : ∀ (r : Option Value) (M1 : ng_M), F1 r M1 → ng_Go X y (d + 1) (pc + 3) lv (r.toList ++ st) M1 F) : ng_Go X y (d + 1) pc lv (.ref k :: st) M F := ng_callV (As := []) hd hlink hin hm rfl hs hc hst he hdd kk
theorem ng_callS_0 {idx d' : Nat} {y2 : ng_Y} {F1 : Option Value → ng_M → Prop} (hd : decode y.2.1 pc = .ok (.invokestatic idx, 3)) (hlink : Cond.methodLink y.1.cls idx y2.1 ∈ ng_G) (hin : Cond.static y2.1 ∈ ng_G) (hm : ng_MY y2 0) (hst : (st.map fun v => v.category).sum ≤ 8)
    (he : ng_Ev X d' y2 [] M F1) (hdd : d' ≤ d) (kk : ∀ (r : Option Value) (M1 : ng_M), F1 r M1 → ng_Go X y (d + 1) (pc + 3) lv (r.toList ++ st) M1 F) : ng_Go X y (d + 1) pc lv (st) M F := ng_callS (As := []) hd hlink hin hm rfl hst he hdd kk
theorem ng_callSN_0 {idx d' : Nat} {host : String} {y2 : ng_Y} {F1 : Option Value → ng_M → Prop} (hd : decode y.2.1 pc = .ok (.invokestatic idx, 3)) (hlink : (y.1.cls, idx, y2.1, host) ∈ ng_nm) (hin : Cond.static y2.1 ∈ ng_G) (hm : ng_MY y2 0) (hst : (st.map fun v => v.category).sum ≤ 8)
    (he : ng_Ev X d' y2 [] M F1) (hdd : d' ≤ d) (kk : ∀ (r : Option Value) (M1 : ng_M), F1 r M1 → ng_Go X y (d + 1) (pc + 3) lv (r.toList ++ st) M1 F) : ng_Go X y (d + 1) pc lv (st) M F := ng_callSN (As := []) hd hlink hin hm rfl hst he hdd kk
theorem ng_callV_1 {idx k ci d' : Nat} {a1 : Value} {fs : List (Option Nat)} {y2 : ng_Y} {F1 : Option Value → ng_M → Prop} (hd : decode y.2.1 pc = .ok (.invokevirtual idx, 3)) (hlink : Cond.methodLink y.1.cls idx y2.1 ∈ ng_G) (hin : Cond.instanceMethod y2.1 ∈ ng_G ∧ Cond.selects y2.1.cls y2.1 y2.1 ∈ ng_G) (hm : ng_MY y2 1) (hs : ng_HS[k]? = some (.inl (ci, fs))) (hc : ∃ (T : u_T) (N : Nat), vwCl[ci]? = some (y2.1.cls, T, N)) (hst : (st.map fun v => v.category).sum ≤ 8)
    (he : ng_Ev X d' y2 (.ref k :: [a1]) M F1) (hdd : d' ≤ d) (kk : ∀ (r : Option Value) (M1 : ng_M), F1 r M1 → ng_Go X y (d + 1) (pc + 3) lv (r.toList ++ st) M1 F) : ng_Go X y (d + 1) pc lv (a1 :: .ref k :: st) M F := ng_callV (As := [a1]) hd hlink hin hm rfl hs hc hst he hdd kk
theorem ng_callS_1 {idx d' : Nat} {a1 : Value} {y2 : ng_Y} {F1 : Option Value → ng_M → Prop} (hd : decode y.2.1 pc = .ok (.invokestatic idx, 3)) (hlink : Cond.methodLink y.1.cls idx y2.1 ∈ ng_G) (hin : Cond.static y2.1 ∈ ng_G) (hm : ng_MY y2 1) (hst : (st.map fun v => v.category).sum ≤ 8)
    (he : ng_Ev X d' y2 [a1] M F1) (hdd : d' ≤ d) (kk : ∀ (r : Option Value) (M1 : ng_M), F1 r M1 → ng_Go X y (d + 1) (pc + 3) lv (r.toList ++ st) M1 F) : ng_Go X y (d + 1) pc lv (a1 :: st) M F := ng_callS (As := [a1]) hd hlink hin hm rfl hst he hdd kk
theorem ng_callSN_1 {idx d' : Nat} {host : String} {a1 : Value} {y2 : ng_Y} {F1 : Option Value → ng_M → Prop} (hd : decode y.2.1 pc = .ok (.invokestatic idx, 3)) (hlink : (y.1.cls, idx, y2.1, host) ∈ ng_nm) (hin : Cond.static y2.1 ∈ ng_G) (hm : ng_MY y2 1) (hst : (st.map fun v => v.category).sum ≤ 8)
    (he : ng_Ev X d' y2 [a1] M F1) (hdd : d' ≤ d) (kk : ∀ (r : Option Value) (M1 : ng_M), F1 r M1 → ng_Go X y (d + 1) (pc + 3) lv (r.toList ++ st) M1 F) : ng_Go X y (d + 1) pc lv (a1 :: st) M F := ng_callSN (As := [a1]) hd hlink hin hm rfl hst he hdd kk
theorem ng_callV_2 {idx k ci d' : Nat} {a1 a2 : Value} {fs : List (Option Nat)} {y2 : ng_Y} {F1 : Option Value → ng_M → Prop} (hd : decode y.2.1 pc = .ok (.invokevirtual idx, 3)) (hlink : Cond.methodLink y.1.cls idx y2.1 ∈ ng_G) (hin : Cond.instanceMethod y2.1 ∈ ng_G ∧ Cond.selects y2.1.cls y2.1 y2.1 ∈ ng_G) (hm : ng_MY y2 2) (hs : ng_HS[k]? = some (.inl (ci, fs))) (hc : ∃ (T : u_T) (N : Nat), vwCl[ci]? = some (y2.1.cls, T, N)) (hst : (st.map fun v => v.category).sum ≤ 8)
    (he : ng_Ev X d' y2 (.ref k :: [a1, a2]) M F1) (hdd : d' ≤ d) (kk : ∀ (r : Option Value) (M1 : ng_M), F1 r M1 → ng_Go X y (d + 1) (pc + 3) lv (r.toList ++ st) M1 F) : ng_Go X y (d + 1) pc lv (a2 :: a1 :: .ref k :: st) M F := ng_callV (As := [a1, a2]) hd hlink hin hm rfl hs hc hst he hdd kk
theorem ng_callS_2 {idx d' : Nat} {a1 a2 : Value} {y2 : ng_Y} {F1 : Option Value → ng_M → Prop} (hd : decode y.2.1 pc = .ok (.invokestatic idx, 3)) (hlink : Cond.methodLink y.1.cls idx y2.1 ∈ ng_G) (hin : Cond.static y2.1 ∈ ng_G) (hm : ng_MY y2 2) (hst : (st.map fun v => v.category).sum ≤ 8)
    (he : ng_Ev X d' y2 [a1, a2] M F1) (hdd : d' ≤ d) (kk : ∀ (r : Option Value) (M1 : ng_M), F1 r M1 → ng_Go X y (d + 1) (pc + 3) lv (r.toList ++ st) M1 F) : ng_Go X y (d + 1) pc lv (a2 :: a1 :: st) M F := ng_callS (As := [a1, a2]) hd hlink hin hm rfl hst he hdd kk
theorem ng_callSN_2 {idx d' : Nat} {host : String} {a1 a2 : Value} {y2 : ng_Y} {F1 : Option Value → ng_M → Prop} (hd : decode y.2.1 pc = .ok (.invokestatic idx, 3)) (hlink : (y.1.cls, idx, y2.1, host) ∈ ng_nm) (hin : Cond.static y2.1 ∈ ng_G) (hm : ng_MY y2 2) (hst : (st.map fun v => v.category).sum ≤ 8)
    (he : ng_Ev X d' y2 [a1, a2] M F1) (hdd : d' ≤ d) (kk : ∀ (r : Option Value) (M1 : ng_M), F1 r M1 → ng_Go X y (d + 1) (pc + 3) lv (r.toList ++ st) M1 F) : ng_Go X y (d + 1) pc lv (a2 :: a1 :: st) M F := ng_callSN (As := [a1, a2]) hd hlink hin hm rfl hst he hdd kk
theorem ng_callV_3 {idx k ci d' : Nat} {a1 a2 a3 : Value} {fs : List (Option Nat)} {y2 : ng_Y} {F1 : Option Value → ng_M → Prop} (hd : decode y.2.1 pc = .ok (.invokevirtual idx, 3)) (hlink : Cond.methodLink y.1.cls idx y2.1 ∈ ng_G) (hin : Cond.instanceMethod y2.1 ∈ ng_G ∧ Cond.selects y2.1.cls y2.1 y2.1 ∈ ng_G) (hm : ng_MY y2 3) (hs : ng_HS[k]? = some (.inl (ci, fs))) (hc : ∃ (T : u_T) (N : Nat), vwCl[ci]? = some (y2.1.cls, T, N)) (hst : (st.map fun v => v.category).sum ≤ 8)
    (he : ng_Ev X d' y2 (.ref k :: [a1, a2, a3]) M F1) (hdd : d' ≤ d) (kk : ∀ (r : Option Value) (M1 : ng_M), F1 r M1 → ng_Go X y (d + 1) (pc + 3) lv (r.toList ++ st) M1 F) : ng_Go X y (d + 1) pc lv (a3 :: a2 :: a1 :: .ref k :: st) M F := ng_callV (As := [a1, a2, a3]) hd hlink hin hm rfl hs hc hst he hdd kk
theorem ng_callS_3 {idx d' : Nat} {a1 a2 a3 : Value} {y2 : ng_Y} {F1 : Option Value → ng_M → Prop} (hd : decode y.2.1 pc = .ok (.invokestatic idx, 3)) (hlink : Cond.methodLink y.1.cls idx y2.1 ∈ ng_G) (hin : Cond.static y2.1 ∈ ng_G) (hm : ng_MY y2 3) (hst : (st.map fun v => v.category).sum ≤ 8)
    (he : ng_Ev X d' y2 [a1, a2, a3] M F1) (hdd : d' ≤ d) (kk : ∀ (r : Option Value) (M1 : ng_M), F1 r M1 → ng_Go X y (d + 1) (pc + 3) lv (r.toList ++ st) M1 F) : ng_Go X y (d + 1) pc lv (a3 :: a2 :: a1 :: st) M F := ng_callS (As := [a1, a2, a3]) hd hlink hin hm rfl hst he hdd kk
theorem ng_callSN_3 {idx d' : Nat} {host : String} {a1 a2 a3 : Value} {y2 : ng_Y} {F1 : Option Value → ng_M → Prop} (hd : decode y.2.1 pc = .ok (.invokestatic idx, 3)) (hlink : (y.1.cls, idx, y2.1, host) ∈ ng_nm) (hin : Cond.static y2.1 ∈ ng_G) (hm : ng_MY y2 3) (hst : (st.map fun v => v.category).sum ≤ 8)
    (he : ng_Ev X d' y2 [a1, a2, a3] M F1) (hdd : d' ≤ d) (kk : ∀ (r : Option Value) (M1 : ng_M), F1 r M1 → ng_Go X y (d + 1) (pc + 3) lv (r.toList ++ st) M1 F) : ng_Go X y (d + 1) pc lv (a3 :: a2 :: a1 :: st) M F := ng_callSN (As := [a1, a2, a3]) hd hlink hin hm rfl hst he hdd kk
theorem ng_callV_4 {idx k ci d' : Nat} {a1 a2 a3 a4 : Value} {fs : List (Option Nat)} {y2 : ng_Y} {F1 : Option Value → ng_M → Prop} (hd : decode y.2.1 pc = .ok (.invokevirtual idx, 3)) (hlink : Cond.methodLink y.1.cls idx y2.1 ∈ ng_G) (hin : Cond.instanceMethod y2.1 ∈ ng_G ∧ Cond.selects y2.1.cls y2.1 y2.1 ∈ ng_G) (hm : ng_MY y2 4) (hs : ng_HS[k]? = some (.inl (ci, fs))) (hc : ∃ (T : u_T) (N : Nat), vwCl[ci]? = some (y2.1.cls, T, N)) (hst : (st.map fun v => v.category).sum ≤ 8)
    (he : ng_Ev X d' y2 (.ref k :: [a1, a2, a3, a4]) M F1) (hdd : d' ≤ d) (kk : ∀ (r : Option Value) (M1 : ng_M), F1 r M1 → ng_Go X y (d + 1) (pc + 3) lv (r.toList ++ st) M1 F) : ng_Go X y (d + 1) pc lv (a4 :: a3 :: a2 :: a1 :: .ref k :: st) M F := ng_callV (As := [a1, a2, a3, a4]) hd hlink hin hm rfl hs hc hst he hdd kk
theorem ng_callS_4 {idx d' : Nat} {a1 a2 a3 a4 : Value} {y2 : ng_Y} {F1 : Option Value → ng_M → Prop} (hd : decode y.2.1 pc = .ok (.invokestatic idx, 3)) (hlink : Cond.methodLink y.1.cls idx y2.1 ∈ ng_G) (hin : Cond.static y2.1 ∈ ng_G) (hm : ng_MY y2 4) (hst : (st.map fun v => v.category).sum ≤ 8)
    (he : ng_Ev X d' y2 [a1, a2, a3, a4] M F1) (hdd : d' ≤ d) (kk : ∀ (r : Option Value) (M1 : ng_M), F1 r M1 → ng_Go X y (d + 1) (pc + 3) lv (r.toList ++ st) M1 F) : ng_Go X y (d + 1) pc lv (a4 :: a3 :: a2 :: a1 :: st) M F := ng_callS (As := [a1, a2, a3, a4]) hd hlink hin hm rfl hst he hdd kk
theorem ng_callSN_4 {idx d' : Nat} {host : String} {a1 a2 a3 a4 : Value} {y2 : ng_Y} {F1 : Option Value → ng_M → Prop} (hd : decode y.2.1 pc = .ok (.invokestatic idx, 3)) (hlink : (y.1.cls, idx, y2.1, host) ∈ ng_nm) (hin : Cond.static y2.1 ∈ ng_G) (hm : ng_MY y2 4) (hst : (st.map fun v => v.category).sum ≤ 8)
    (he : ng_Ev X d' y2 [a1, a2, a3, a4] M F1) (hdd : d' ≤ d) (kk : ∀ (r : Option Value) (M1 : ng_M), F1 r M1 → ng_Go X y (d + 1) (pc + 3) lv (r.toList ++ st) M1 F) : ng_Go X y (d + 1) pc lv (a4 :: a3 :: a2 :: a1 :: st) M F := ng_callSN (As := [a1, a2, a3, a4]) hd hlink hin hm rfl hst he hdd kk
theorem ng_callV_5 {idx k ci d' : Nat} {a1 a2 a3 a4 a5 : Value} {fs : List (Option Nat)} {y2 : ng_Y} {F1 : Option Value → ng_M → Prop} (hd : decode y.2.1 pc = .ok (.invokevirtual idx, 3)) (hlink : Cond.methodLink y.1.cls idx y2.1 ∈ ng_G) (hin : Cond.instanceMethod y2.1 ∈ ng_G ∧ Cond.selects y2.1.cls y2.1 y2.1 ∈ ng_G) (hm : ng_MY y2 5) (hs : ng_HS[k]? = some (.inl (ci, fs))) (hc : ∃ (T : u_T) (N : Nat), vwCl[ci]? = some (y2.1.cls, T, N)) (hst : (st.map fun v => v.category).sum ≤ 8)
    (he : ng_Ev X d' y2 (.ref k :: [a1, a2, a3, a4, a5]) M F1) (hdd : d' ≤ d) (kk : ∀ (r : Option Value) (M1 : ng_M), F1 r M1 → ng_Go X y (d + 1) (pc + 3) lv (r.toList ++ st) M1 F) : ng_Go X y (d + 1) pc lv (a5 :: a4 :: a3 :: a2 :: a1 :: .ref k :: st) M F := ng_callV (As := [a1, a2, a3, a4, a5]) hd hlink hin hm rfl hs hc hst he hdd kk
theorem ng_callS_5 {idx d' : Nat} {a1 a2 a3 a4 a5 : Value} {y2 : ng_Y} {F1 : Option Value → ng_M → Prop} (hd : decode y.2.1 pc = .ok (.invokestatic idx, 3)) (hlink : Cond.methodLink y.1.cls idx y2.1 ∈ ng_G) (hin : Cond.static y2.1 ∈ ng_G) (hm : ng_MY y2 5) (hst : (st.map fun v => v.category).sum ≤ 8)
    (he : ng_Ev X d' y2 [a1, a2, a3, a4, a5] M F1) (hdd : d' ≤ d) (kk : ∀ (r : Option Value) (M1 : ng_M), F1 r M1 → ng_Go X y (d + 1) (pc + 3) lv (r.toList ++ st) M1 F) : ng_Go X y (d + 1) pc lv (a5 :: a4 :: a3 :: a2 :: a1 :: st) M F := ng_callS (As := [a1, a2, a3, a4, a5]) hd hlink hin hm rfl hst he hdd kk
theorem ng_callSN_5 {idx d' : Nat} {host : String} {a1 a2 a3 a4 a5 : Value} {y2 : ng_Y} {F1 : Option Value → ng_M → Prop} (hd : decode y.2.1 pc = .ok (.invokestatic idx, 3)) (hlink : (y.1.cls, idx, y2.1, host) ∈ ng_nm) (hin : Cond.static y2.1 ∈ ng_G) (hm : ng_MY y2 5) (hst : (st.map fun v => v.category).sum ≤ 8)
    (he : ng_Ev X d' y2 [a1, a2, a3, a4, a5] M F1) (hdd : d' ≤ d) (kk : ∀ (r : Option Value) (M1 : ng_M), F1 r M1 → ng_Go X y (d + 1) (pc + 3) lv (r.toList ++ st) M1 F) : ng_Go X y (d + 1) pc lv (a5 :: a4 :: a3 :: a2 :: a1 :: st) M F := ng_callSN (As := [a1, a2, a3, a4, a5]) hd hlink hin hm rfl hst he hdd kk
theorem ng_callS_6 {idx d' : Nat} {a1 a2 a3 a4 a5 a6 : Value} {y2 : ng_Y} {F1 : Option Value → ng_M → Prop} (hd : decode y.2.1 pc = .ok (.invokestatic idx, 3)) (hlink : Cond.methodLink y.1.cls idx y2.1 ∈ ng_G) (hin : Cond.static y2.1 ∈ ng_G) (hm : ng_MY y2 6) (hst : (st.map fun v => v.category).sum ≤ 8)
    (he : ng_Ev X d' y2 [a1, a2, a3, a4, a5, a6] M F1) (hdd : d' ≤ d) (kk : ∀ (r : Option Value) (M1 : ng_M), F1 r M1 → ng_Go X y (d + 1) (pc + 3) lv (r.toList ++ st) M1 F) : ng_Go X y (d + 1) pc lv (a6 :: a5 :: a4 :: a3 :: a2 :: a1 :: st) M F := ng_callS (As := [a1, a2, a3, a4, a5, a6]) hd hlink hin hm rfl hst he hdd kk
theorem ng_callSN_6 {idx d' : Nat} {host : String} {a1 a2 a3 a4 a5 a6 : Value} {y2 : ng_Y} {F1 : Option Value → ng_M → Prop} (hd : decode y.2.1 pc = .ok (.invokestatic idx, 3)) (hlink : (y.1.cls, idx, y2.1, host) ∈ ng_nm) (hin : Cond.static y2.1 ∈ ng_G) (hm : ng_MY y2 6) (hst : (st.map fun v => v.category).sum ≤ 8)
    (he : ng_Ev X d' y2 [a1, a2, a3, a4, a5, a6] M F1) (hdd : d' ≤ d) (kk : ∀ (r : Option Value) (M1 : ng_M), F1 r M1 → ng_Go X y (d + 1) (pc + 3) lv (r.toList ++ st) M1 F) : ng_Go X y (d + 1) pc lv (a6 :: a5 :: a4 :: a3 :: a2 :: a1 :: st) M F := ng_callSN (As := [a1, a2, a3, a4, a5, a6]) hd hlink hin hm rfl hst he hdd kk
def ng_ent (as : List Value) (n : Nat) : ng_L := as.flatMap (fun v => if v.category = 2 then [some v, none] else [some v]) ++ List.replicate (n - (lg_sl as).length) none
theorem ng_sl_len (ad : Nat → Nat) : ∀ as : List Value, (lg_sl (as.map (ng_v ad))).length = (lg_sl as).length ∧ (as.flatMap (fun v => if v.category = 2 then [some v, none] else [some v])).length = (lg_sl as).length
  | [] => ⟨rfl, rfl⟩
  | v :: as => by
    obtain ⟨h1, h2⟩ := ng_sl_len ad as
    simp only [lg_sl, List.map_cons, List.flatMap_cons, List.length_append, ng_v_cat] at h1 h2 ⊢
    refine ⟨?_, ?_⟩
    · rw [h1]; split <;> rfl
    · rw [h2]; split <;> rfl
theorem ng_sl_at (ad : Nat → Nat) : ∀ (as : List Value) (i : Nat) (v : Value), (as.flatMap (fun v => if v.category = 2 then [some v, none] else [some v]))[i]? = some (some v) → (lg_sl (as.map (ng_v ad)))[i]? = some (.val (ng_v ad v))
  | [], i, v, h => by simp at h
  | u :: as, i, v, h => by
    have ih := ng_sl_at ad as
    rw [List.flatMap_cons] at h
    have e : lg_sl ((u :: as).map (ng_v ad)) = (if u.category = 2 then [Slot.val (ng_v ad u), .second] else [Slot.val (ng_v ad u)]) ++ lg_sl (as.map (ng_v ad)) := by
      simp [lg_sl, ng_v_cat]
    rw [e]
    by_cases hc : u.category = 2
    · simp only [hc, if_true] at h ⊢
      match i, h with
      | 0, h => simp at h ⊢; rw [h]
      | 1, h => simp at h
      | i + 2, h => simpa using ih i v (by simpa using h)
    · simp only [hc, if_false] at h ⊢
      match i, h with
      | 0, h => simp at h ⊢; rw [h]
      | i + 1, h => simpa using ih i v (by simpa using h)
theorem ng_ent_lh (ad : Nat → Nat) (as : List Value) (n : Nat) (h : (lg_sl as).length ≤ n) : ng_lh ad ((lg_sl (as.map (ng_v ad)) ++ List.replicate (n - (lg_sl (as.map (ng_v ad))).length) Slot.unset).toArray) n (ng_ent as n) := by
  obtain ⟨h1, h2⟩ := ng_sl_len ad as
  have hl := lv_entry (as.map (ng_v ad)) (n := n) (by rw [h1]; exact h)
  refine ⟨by simp only [ng_ent, List.length_append, List.length_replicate, h2]; omega, hl.1, hl.2.1, fun i v hi => ?_⟩
  rw [List.getElem?_toArray]
  by_cases hlt : i < (lg_sl as).length
  · rw [ng_ent, List.getElem?_append_left (by rw [h2]; exact hlt)] at hi
    rw [List.getElem?_append_left (by rw [h1]; exact hlt)]
    exact ng_sl_at ad as i v hi
  · rw [ng_ent, List.getElem?_append_right (by rw [h2]; omega)] at hi
    have := List.getElem?_eq_some_iff.mp hi
    simp at this
theorem ng_Ev.of {as : List Value} (hy : plainName y.1.cls = true) (hlen : (lg_sl as).length ≤ y.2.2.1) (hlv : ng_ent as y.2.2.1 = lv)
    (hF : ∀ r M', F r M' → (∃ v ty, r = some (.int v) ∧ y.2.2.2 = some ty ∧ narrow ty (.int v) = .int v) ∨ (r = none ∧ y.2.2.2 = none) ∨ ((r = some .null ∨ ∃ k, r = some (.ref k)) ∧ ∃ nm, y.2.2.2 = some (.object nm))) (h : ng_Go X y d 0 lv [] M F) : ng_Ev X d y as M F := by
  intro l D cA ad A hD d' hd'
  refine Met.ofW (cc := y.2.1) (maxL := y.2.2.1) (ret := y.2.2.2) hy rfl ?_
  intro p e s m args below meth c s₁ B hml hv
  obtain ⟨rfl, hP, hK, hC⟩ := hv
  have hts := atoms_spec (ws := ng_ws y) B.pre
  have hown : s.vm.findClass y.1.cls = some m.cls := findClass_of_methodNamed B.named
  have hlocks := B.notSynchronized
  rw [lg_entry_eq]
  subst hlv
  refine h l D cA ad A p e (headSpec (ng_ws y) (ng_rm d')).room s m _ below meth c 0 0 _ ⟨⟨B.exec, B.bytes, hml, hown, fun w hw => hts w (List.mem_cons_of_mem _ hw)⟩, hK, hC, hD, hd', by show 40 * d ≤ 40 * d'; omega, Nat.zero_le _, Nat.zero_le _⟩ ?_ s.heap [] _ hP va_S.rf (ng_ent_lh ad as _ hlen)
  intro r M' H' locs' ls' pc' hF' hP' hS' hrt
  have post : ∀ t : State, t.heap = H' → s.WarmedH t.vm → ng_Q D cA ad A F ((as.map (ng_v ad)).toArray) s (.returned (r.map (ng_v ad))) t := fun t ht hW => ⟨⟨r, M', rfl, hF', by rw [ht]; exact hP'⟩, hS'.F ht⟩
  rcases hF r M' hF' with ⟨v, ty, rfl, h1, h2⟩ | ⟨rfl, h1⟩ | ⟨h0, nm, h1⟩
  · rcases hrt with ⟨v', e1, hd⟩ | ⟨e1, -⟩ | ⟨e1, -⟩
    · exact W.zret B.exec B.bytes (B.returns.trans h1) h2 post (fun q hq => hS'.2.2 q hq) hd hlocks
    · cases e1
    · rcases e1 with e1 | ⟨k, e1⟩ <;> cases e1
  · rcases hrt with ⟨v', e1, hd⟩ | ⟨-, hd⟩ | ⟨e1, -⟩
    · cases e1
    · exact W.vret B.exec B.bytes (B.returns.trans h1) post (fun q hq => hS'.2.2 q hq) hd hlocks
    · rcases e1 with e1 | ⟨k, e1⟩ <;> cases e1
  · rcases hrt with ⟨v', e1, hd⟩ | ⟨e1, -⟩ | ⟨-, hd⟩
    · rcases h0 with rfl | ⟨k, rfl⟩ <;> cases e1
    · rcases h0 with rfl | ⟨k, rfl⟩ <;> cases e1
    · rcases h0 with rfl | ⟨k, rfl⟩
      · exact W.aret B.exec B.bytes (B.returns.trans h1) (Or.inl ⟨nm, rfl⟩) (Or.inl rfl) post (fun q hq => hS'.2.2 q hq) hd hlocks
      · exact W.aret B.exec B.bytes (B.returns.trans h1) (Or.inl ⟨nm, rfl⟩) (Or.inr ⟨ad k, rfl⟩) post (fun q hq => hS'.2.2 q hq) hd hlocks
end NgCalls
end
