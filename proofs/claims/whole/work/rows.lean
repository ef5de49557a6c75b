section
-- ===== PART A: goes FIRST, ahead of the names: the tables' words, and 'selects' of the private methods out of them =====
/-- a private method of a class that the tables say can be made, by its rows of tables_1 -/
def lw_okq (q : MethodName × Nat) : Prop := (q.1.cls ≠ "java/lang/invoke/MethodHandle" ∧ q.1.cls ≠ "java/lang/invoke/VarHandle") ∧ Cond.instantiable q.1.cls q.2 ∈ tables_1 ∧ Cond.privateMethod q.1 ∈ tables_1 ∧ Cond.instanceMethod q.1 ∈ tables_1
theorem lw_p0 : lw_okq (⟨"java/lang/Throwable", "fillInStackTrace", "(I)Ljava/lang/Throwable;"⟩, 6) := ⟨⟨by decide +kernel, by decide +kernel⟩, List.mem_of_getElem? (i := 325) (by decide +kernel), List.mem_of_getElem? (i := 323) (by decide +kernel), List.mem_of_getElem? (i := 324) (by decide +kernel)⟩
theorem lw_p1 : lw_okq (⟨"Voucherworks", "addBought", "(II)V"⟩, 7) := ⟨⟨by decide +kernel, by decide +kernel⟩, List.mem_of_getElem? (i := 19) (by decide +kernel), List.mem_of_getElem? (i := 416) (by decide +kernel), List.mem_of_getElem? (i := 417) (by decide +kernel)⟩
theorem lw_p2 : lw_okq (⟨"Voucherworks", "isOfDead", "(I)Z"⟩, 7) := ⟨⟨by decide +kernel, by decide +kernel⟩, List.mem_of_getElem? (i := 19) (by decide +kernel), List.mem_of_getElem? (i := 431) (by decide +kernel), List.mem_of_getElem? (i := 432) (by decide +kernel)⟩
theorem lw_p3 : lw_okq (⟨"Voucherworks", "addGift", "(IIII)V"⟩, 7) := ⟨⟨by decide +kernel, by decide +kernel⟩, List.mem_of_getElem? (i := 19) (by decide +kernel), List.mem_of_getElem? (i := 435) (by decide +kernel), List.mem_of_getElem? (i := 436) (by decide +kernel)⟩
theorem lw_p4 : lw_okq (⟨"Voucherworks$Campaigns", "leastFrom", "(III)I"⟩, 8) := ⟨⟨by decide +kernel, by decide +kernel⟩, List.mem_of_getElem? (i := 182) (by decide +kernel), List.mem_of_getElem? (i := 484) (by decide +kernel), List.mem_of_getElem? (i := 485) (by decide +kernel)⟩
theorem lw_p5 : lw_okq (⟨"Voucherworks$Campaigns", "reduced", "(II)I"⟩, 8) := ⟨⟨by decide +kernel, by decide +kernel⟩, List.mem_of_getElem? (i := 182) (by decide +kernel), List.mem_of_getElem? (i := 488) (by decide +kernel), List.mem_of_getElem? (i := 489) (by decide +kernel)⟩
theorem lw_p6 : lw_okq (⟨"Voucherworks$Campaigns", "mark", "(II)V"⟩, 8) := ⟨⟨by decide +kernel, by decide +kernel⟩, List.mem_of_getElem? (i := 182) (by decide +kernel), List.mem_of_getElem? (i := 512) (by decide +kernel), List.mem_of_getElem? (i := 513) (by decide +kernel)⟩
theorem lw_p7 : lw_okq (⟨"Voucherworks$Campaigns", "isWithoutBars", "(I)Z"⟩, 8) := ⟨⟨by decide +kernel, by decide +kernel⟩, List.mem_of_getElem? (i := 182) (by decide +kernel), List.mem_of_getElem? (i := 522) (by decide +kernel), List.mem_of_getElem? (i := 523) (by decide +kernel)⟩
theorem lw_p8 : lw_okq (⟨"Voucherworks$Campaigns", "markPricesOf", "(I)V"⟩, 8) := ⟨⟨by decide +kernel, by decide +kernel⟩, List.mem_of_getElem? (i := 182) (by decide +kernel), List.mem_of_getElem? (i := 526) (by decide +kernel), List.mem_of_getElem? (i := 527) (by decide +kernel)⟩
theorem lw_p9 : lw_okq (⟨"Voucherworks$Campaigns", "applyToWord", "(IIII)V"⟩, 8) := ⟨⟨by decide +kernel, by decide +kernel⟩, List.mem_of_getElem? (i := 182) (by decide +kernel), List.mem_of_getElem? (i := 530) (by decide +kernel), List.mem_of_getElem? (i := 531) (by decide +kernel)⟩
theorem lw_p10 : lw_okq (⟨"Voucherworks", "reasonAgainst", "(II)I"⟩, 7) := ⟨⟨by decide +kernel, by decide +kernel⟩, List.mem_of_getElem? (i := 19) (by decide +kernel), List.mem_of_getElem? (i := 548) (by decide +kernel), List.mem_of_getElem? (i := 549) (by decide +kernel)⟩
theorem lw_p11 : lw_okq (⟨"Voucherworks$Lots", "putInRow", "(II)V"⟩, 8) := ⟨⟨by decide +kernel, by decide +kernel⟩, List.mem_of_getElem? (i := 143) (by decide +kernel), List.mem_of_getElem? (i := 561) (by decide +kernel), List.mem_of_getElem? (i := 562) (by decide +kernel)⟩
theorem lw_p12 : lw_okq (⟨"Voucherworks$Lots", "isAhead", "(II)Z"⟩, 8) := ⟨⟨by decide +kernel, by decide +kernel⟩, List.mem_of_getElem? (i := 143) (by decide +kernel), List.mem_of_getElem? (i := 565) (by decide +kernel), List.mem_of_getElem? (i := 566) (by decide +kernel)⟩
theorem lw_p13 : lw_okq (⟨"Voucherworks", "marksOf", "(I)I"⟩, 7) := ⟨⟨by decide +kernel, by decide +kernel⟩, List.mem_of_getElem? (i := 19) (by decide +kernel), List.mem_of_getElem? (i := 619) (by decide +kernel), List.mem_of_getElem? (i := 620) (by decide +kernel)⟩
theorem lw_p14 : lw_okq (⟨"Voucherworks$Payments", "isPending", "(II)Z"⟩, 6) := ⟨⟨by decide +kernel, by decide +kernel⟩, List.mem_of_getElem? (i := 217) (by decide +kernel), List.mem_of_getElem? (i := 627) (by decide +kernel), List.mem_of_getElem? (i := 628) (by decide +kernel)⟩
theorem lw_p15 : lw_okq (⟨"Voucherworks", "endLots", "(I)V"⟩, 7) := ⟨⟨by decide +kernel, by decide +kernel⟩, List.mem_of_getElem? (i := 19) (by decide +kernel), List.mem_of_getElem? (i := 681) (by decide +kernel), List.mem_of_getElem? (i := 682) (by decide +kernel)⟩
def lw_privs_1 : List (MethodName × Nat) := [(⟨"java/lang/Throwable", "fillInStackTrace", "(I)Ljava/lang/Throwable;"⟩, 6), (⟨"Voucherworks", "addBought", "(II)V"⟩, 7), (⟨"Voucherworks", "isOfDead", "(I)Z"⟩, 7), (⟨"Voucherworks", "addGift", "(IIII)V"⟩, 7), (⟨"Voucherworks$Campaigns", "leastFrom", "(III)I"⟩, 8), (⟨"Voucherworks$Campaigns", "reduced", "(II)I"⟩, 8), (⟨"Voucherworks$Campaigns", "mark", "(II)V"⟩, 8), (⟨"Voucherworks$Campaigns", "isWithoutBars", "(I)Z"⟩, 8), (⟨"Voucherworks$Campaigns", "markPricesOf", "(I)V"⟩, 8), (⟨"Voucherworks$Campaigns", "applyToWord", "(IIII)V"⟩, 8), (⟨"Voucherworks", "reasonAgainst", "(II)I"⟩, 7), (⟨"Voucherworks$Lots", "putInRow", "(II)V"⟩, 8), (⟨"Voucherworks$Lots", "isAhead", "(II)Z"⟩, 8), (⟨"Voucherworks", "marksOf", "(I)I"⟩, 7), (⟨"Voucherworks$Payments", "isPending", "(II)Z"⟩, 6), (⟨"Voucherworks", "endLots", "(I)V"⟩, 7)]
theorem lw_r1 : ∀ q ∈ lw_privs_1, lw_okq q := List.forall_mem_cons.mpr ⟨lw_p0, List.forall_mem_cons.mpr ⟨lw_p1, List.forall_mem_cons.mpr ⟨lw_p2, List.forall_mem_cons.mpr ⟨lw_p3, List.forall_mem_cons.mpr ⟨lw_p4, List.forall_mem_cons.mpr ⟨lw_p5, List.forall_mem_cons.mpr ⟨lw_p6, List.forall_mem_cons.mpr ⟨lw_p7, List.forall_mem_cons.mpr ⟨lw_p8, List.forall_mem_cons.mpr ⟨lw_p9, List.forall_mem_cons.mpr ⟨lw_p10, List.forall_mem_cons.mpr ⟨lw_p11, List.forall_mem_cons.mpr ⟨lw_p12, List.forall_mem_cons.mpr ⟨lw_p13, List.forall_mem_cons.mpr ⟨lw_p14, List.forall_mem_cons.mpr ⟨lw_p15, fun _ h => absurd h List.not_mem_nil⟩⟩⟩⟩⟩⟩⟩⟩⟩⟩⟩⟩⟩⟩⟩⟩
theorem lw_p16 : lw_okq (⟨"Voucherworks", "endLot", "(II)V"⟩, 7) := ⟨⟨by decide +kernel, by decide +kernel⟩, List.mem_of_getElem? (i := 19) (by decide +kernel), List.mem_of_getElem? (i := 685) (by decide +kernel), List.mem_of_getElem? (i := 686) (by decide +kernel)⟩
theorem lw_p17 : lw_okq (⟨"Voucherworks", "takeFee", "(I)V"⟩, 7) := ⟨⟨by decide +kernel, by decide +kernel⟩, List.mem_of_getElem? (i := 19) (by decide +kernel), List.mem_of_getElem? (i := 689) (by decide +kernel), List.mem_of_getElem? (i := 690) (by decide +kernel)⟩
theorem lw_p18 : lw_okq (⟨"Voucherworks", "payOut", "(III)I"⟩, 7) := ⟨⟨by decide +kernel, by decide +kernel⟩, List.mem_of_getElem? (i := 19) (by decide +kernel), List.mem_of_getElem? (i := 701) (by decide +kernel), List.mem_of_getElem? (i := 702) (by decide +kernel)⟩
theorem lw_p19 : lw_okq (⟨"Voucherworks", "claimOf", "(II)I"⟩, 7) := ⟨⟨by decide +kernel, by decide +kernel⟩, List.mem_of_getElem? (i := 19) (by decide +kernel), List.mem_of_getElem? (i := 705) (by decide +kernel), List.mem_of_getElem? (i := 706) (by decide +kernel)⟩
theorem lw_p20 : lw_okq (⟨"Voucherworks", "isOfChain", "(II)Z"⟩, 7) := ⟨⟨by decide +kernel, by decide +kernel⟩, List.mem_of_getElem? (i := 19) (by decide +kernel), List.mem_of_getElem? (i := 709) (by decide +kernel), List.mem_of_getElem? (i := 710) (by decide +kernel)⟩
theorem lw_p21 : lw_okq (⟨"Voucherworks", "leftOf", "(I)I"⟩, 7) := ⟨⟨by decide +kernel, by decide +kernel⟩, List.mem_of_getElem? (i := 19) (by decide +kernel), List.mem_of_getElem? (i := 758) (by decide +kernel), List.mem_of_getElem? (i := 759) (by decide +kernel)⟩
theorem lw_p22 : lw_okq (⟨"Voucherworks", "netOf", "(I)I"⟩, 7) := ⟨⟨by decide +kernel, by decide +kernel⟩, List.mem_of_getElem? (i := 19) (by decide +kernel), List.mem_of_getElem? (i := 762) (by decide +kernel), List.mem_of_getElem? (i := 763) (by decide +kernel)⟩
theorem lw_p23 : lw_okq (⟨"VoucherworksModel", "holds", "(I)Z"⟩, 46) := ⟨⟨by decide +kernel, by decide +kernel⟩, List.mem_of_getElem? (i := 795) (by decide +kernel), List.mem_of_getElem? (i := 955) (by decide +kernel), List.mem_of_getElem? (i := 956) (by decide +kernel)⟩
theorem lw_p24 : lw_okq (⟨"VoucherworksModel", "comes", "(III)V"⟩, 46) := ⟨⟨by decide +kernel, by decide +kernel⟩, List.mem_of_getElem? (i := 795) (by decide +kernel), List.mem_of_getElem? (i := 970) (by decide +kernel), List.mem_of_getElem? (i := 971) (by decide +kernel)⟩
theorem lw_p25 : lw_okq (⟨"VoucherworksModel", "isCard", "(I)Z"⟩, 46) := ⟨⟨by decide +kernel, by decide +kernel⟩, List.mem_of_getElem? (i := 795) (by decide +kernel), List.mem_of_getElem? (i := 979) (by decide +kernel), List.mem_of_getElem? (i := 980) (by decide +kernel)⟩
theorem lw_p26 : lw_okq (⟨"VoucherworksModel", "balance", "(I)I"⟩, 46) := ⟨⟨by decide +kernel, by decide +kernel⟩, List.mem_of_getElem? (i := 795) (by decide +kernel), List.mem_of_getElem? (i := 983) (by decide +kernel), List.mem_of_getElem? (i := 984) (by decide +kernel)⟩
theorem lw_p27 : lw_okq (⟨"VoucherworksModel", "isCampaign", "(I)Z"⟩, 46) := ⟨⟨by decide +kernel, by decide +kernel⟩, List.mem_of_getElem? (i := 795) (by decide +kernel), List.mem_of_getElem? (i := 995) (by decide +kernel), List.mem_of_getElem? (i := 996) (by decide +kernel)⟩
theorem lw_p28 : lw_okq (⟨"VoucherworksModel", "finds", "(I)V"⟩, 46) := ⟨⟨by decide +kernel, by decide +kernel⟩, List.mem_of_getElem? (i := 795) (by decide +kernel), List.mem_of_getElem? (i := 1003) (by decide +kernel), List.mem_of_getElem? (i := 1004) (by decide +kernel)⟩
theorem lw_p29 : lw_okq (⟨"VoucherworksModel", "isBarred", "(I)Z"⟩, 46) := ⟨⟨by decide +kernel, by decide +kernel⟩, List.mem_of_getElem? (i := 795) (by decide +kernel), List.mem_of_getElem? (i := 1007) (by decide +kernel), List.mem_of_getElem? (i := 1008) (by decide +kernel)⟩
theorem lw_p30 : lw_okq (⟨"VoucherworksModel", "applied", "(II)I"⟩, 46) := ⟨⟨by decide +kernel, by decide +kernel⟩, List.mem_of_getElem? (i := 795) (by decide +kernel), List.mem_of_getElem? (i := 1011) (by decide +kernel), List.mem_of_getElem? (i := 1012) (by decide +kernel)⟩
theorem lw_p31 : lw_okq (⟨"VoucherworksModel", "whyOf", "(II)I"⟩, 46) := ⟨⟨by decide +kernel, by decide +kernel⟩, List.mem_of_getElem? (i := 795) (by decide +kernel), List.mem_of_getElem? (i := 1031) (by decide +kernel), List.mem_of_getElem? (i := 1032) (by decide +kernel)⟩
def lw_privs_2 : List (MethodName × Nat) := [(⟨"Voucherworks", "endLot", "(II)V"⟩, 7), (⟨"Voucherworks", "takeFee", "(I)V"⟩, 7), (⟨"Voucherworks", "payOut", "(III)I"⟩, 7), (⟨"Voucherworks", "claimOf", "(II)I"⟩, 7), (⟨"Voucherworks", "isOfChain", "(II)Z"⟩, 7), (⟨"Voucherworks", "leftOf", "(I)I"⟩, 7), (⟨"Voucherworks", "netOf", "(I)I"⟩, 7), (⟨"VoucherworksModel", "holds", "(I)Z"⟩, 46), (⟨"VoucherworksModel", "comes", "(III)V"⟩, 46), (⟨"VoucherworksModel", "isCard", "(I)Z"⟩, 46), (⟨"VoucherworksModel", "balance", "(I)I"⟩, 46), (⟨"VoucherworksModel", "isCampaign", "(I)Z"⟩, 46), (⟨"VoucherworksModel", "finds", "(I)V"⟩, 46), (⟨"VoucherworksModel", "isBarred", "(I)Z"⟩, 46), (⟨"VoucherworksModel", "applied", "(II)I"⟩, 46), (⟨"VoucherworksModel", "whyOf", "(II)I"⟩, 46)]
theorem lw_r2 : ∀ q ∈ lw_privs_2, lw_okq q := List.forall_mem_cons.mpr ⟨lw_p16, List.forall_mem_cons.mpr ⟨lw_p17, List.forall_mem_cons.mpr ⟨lw_p18, List.forall_mem_cons.mpr ⟨lw_p19, List.forall_mem_cons.mpr ⟨lw_p20, List.forall_mem_cons.mpr ⟨lw_p21, List.forall_mem_cons.mpr ⟨lw_p22, List.forall_mem_cons.mpr ⟨lw_p23, List.forall_mem_cons.mpr ⟨lw_p24, List.forall_mem_cons.mpr ⟨lw_p25, List.forall_mem_cons.mpr ⟨lw_p26, List.forall_mem_cons.mpr ⟨lw_p27, List.forall_mem_cons.mpr ⟨lw_p28, List.forall_mem_cons.mpr ⟨lw_p29, List.forall_mem_cons.mpr ⟨lw_p30, List.forall_mem_cons.mpr ⟨lw_p31, fun _ h => absurd h List.not_mem_nil⟩⟩⟩⟩⟩⟩⟩⟩⟩⟩⟩⟩⟩⟩⟩⟩
theorem lw_p32 : lw_okq (⟨"VoucherworksModel", "first", "(I)I"⟩, 46) := ⟨⟨by decide +kernel, by decide +kernel⟩, List.mem_of_getElem? (i := 795) (by decide +kernel), List.mem_of_getElem? (i := 1035) (by decide +kernel), List.mem_of_getElem? (i := 1036) (by decide +kernel)⟩
theorem lw_p33 : lw_okq (⟨"VoucherworksModel", "isAhead", "(II)Z"⟩, 46) := ⟨⟨by decide +kernel, by decide +kernel⟩, List.mem_of_getElem? (i := 795) (by decide +kernel), List.mem_of_getElem? (i := 1039) (by decide +kernel), List.mem_of_getElem? (i := 1040) (by decide +kernel)⟩
theorem lw_p34 : lw_okq (⟨"VoucherworksModel", "isPayment", "(I)Z"⟩, 46) := ⟨⟨by decide +kernel, by decide +kernel⟩, List.mem_of_getElem? (i := 795) (by decide +kernel), List.mem_of_getElem? (i := 1051) (by decide +kernel), List.mem_of_getElem? (i := 1052) (by decide +kernel)⟩
theorem lw_p35 : lw_okq (⟨"VoucherworksModel", "goesBack", "(IIZ)I"⟩, 46) := ⟨⟨by decide +kernel, by decide +kernel⟩, List.mem_of_getElem? (i := 795) (by decide +kernel), List.mem_of_getElem? (i := 1055) (by decide +kernel), List.mem_of_getElem? (i := 1056) (by decide +kernel)⟩
theorem lw_p36 : lw_okq (⟨"VoucherworksModel", "marks", "(IZ)I"⟩, 46) := ⟨⟨by decide +kernel, by decide +kernel⟩, List.mem_of_getElem? (i := 795) (by decide +kernel), List.mem_of_getElem? (i := 1063) (by decide +kernel), List.mem_of_getElem? (i := 1064) (by decide +kernel)⟩
theorem lw_p37 : lw_okq (⟨"VoucherworksModel", "code", "(I)I"⟩, 46) := ⟨⟨by decide +kernel, by decide +kernel⟩, List.mem_of_getElem? (i := 795) (by decide +kernel), List.mem_of_getElem? (i := 1076) (by decide +kernel), List.mem_of_getElem? (i := 1077) (by decide +kernel)⟩
theorem lw_p38 : lw_okq (⟨"VoucherworksModel", "expires", "(I)V"⟩, 46) := ⟨⟨by decide +kernel, by decide +kernel⟩, List.mem_of_getElem? (i := 795) (by decide +kernel), List.mem_of_getElem? (i := 1088) (by decide +kernel), List.mem_of_getElem? (i := 1089) (by decide +kernel)⟩
theorem lw_p39 : lw_okq (⟨"VoucherworksModel", "fades", "(I)V"⟩, 46) := ⟨⟨by decide +kernel, by decide +kernel⟩, List.mem_of_getElem? (i := 795) (by decide +kernel), List.mem_of_getElem? (i := 1092) (by decide +kernel), List.mem_of_getElem? (i := 1093) (by decide +kernel)⟩
theorem lw_p40 : lw_okq (⟨"VoucherworksModel", "claim", "(II)I"⟩, 46) := ⟨⟨by decide +kernel, by decide +kernel⟩, List.mem_of_getElem? (i := 795) (by decide +kernel), List.mem_of_getElem? (i := 1100) (by decide +kernel), List.mem_of_getElem? (i := 1101) (by decide +kernel)⟩
theorem lw_p41 : lw_okq (⟨"VoucherworksModel", "isOf", "(III)Z"⟩, 46) := ⟨⟨by decide +kernel, by decide +kernel⟩, List.mem_of_getElem? (i := 795) (by decide +kernel), List.mem_of_getElem? (i := 1104) (by decide +kernel), List.mem_of_getElem? (i := 1105) (by decide +kernel)⟩
theorem lw_p42 : lw_okq (⟨"VoucherworksModel", "isLot", "(I)Z"⟩, 46) := ⟨⟨by decide +kernel, by decide +kernel⟩, List.mem_of_getElem? (i := 795) (by decide +kernel), List.mem_of_getElem? (i := 1120) (by decide +kernel), List.mem_of_getElem? (i := 1121) (by decide +kernel)⟩
theorem lw_p43 : lw_okq (⟨"VoucherworksModel", "netOf", "(I)I"⟩, 46) := ⟨⟨by decide +kernel, by decide +kernel⟩, List.mem_of_getElem? (i := 795) (by decide +kernel), List.mem_of_getElem? (i := 1140) (by decide +kernel), List.mem_of_getElem? (i := 1141) (by decide +kernel)⟩
def lw_privs_3 : List (MethodName × Nat) := [(⟨"VoucherworksModel", "first", "(I)I"⟩, 46), (⟨"VoucherworksModel", "isAhead", "(II)Z"⟩, 46), (⟨"VoucherworksModel", "isPayment", "(I)Z"⟩, 46), (⟨"VoucherworksModel", "goesBack", "(IIZ)I"⟩, 46), (⟨"VoucherworksModel", "marks", "(IZ)I"⟩, 46), (⟨"VoucherworksModel", "code", "(I)I"⟩, 46), (⟨"VoucherworksModel", "expires", "(I)V"⟩, 46), (⟨"VoucherworksModel", "fades", "(I)V"⟩, 46), (⟨"VoucherworksModel", "claim", "(II)I"⟩, 46), (⟨"VoucherworksModel", "isOf", "(III)Z"⟩, 46), (⟨"VoucherworksModel", "isLot", "(I)Z"⟩, 46), (⟨"VoucherworksModel", "netOf", "(I)I"⟩, 46)]
theorem lw_r3 : ∀ q ∈ lw_privs_3, lw_okq q := List.forall_mem_cons.mpr ⟨lw_p32, List.forall_mem_cons.mpr ⟨lw_p33, List.forall_mem_cons.mpr ⟨lw_p34, List.forall_mem_cons.mpr ⟨lw_p35, List.forall_mem_cons.mpr ⟨lw_p36, List.forall_mem_cons.mpr ⟨lw_p37, List.forall_mem_cons.mpr ⟨lw_p38, List.forall_mem_cons.mpr ⟨lw_p39, List.forall_mem_cons.mpr ⟨lw_p40, List.forall_mem_cons.mpr ⟨lw_p41, List.forall_mem_cons.mpr ⟨lw_p42, List.forall_mem_cons.mpr ⟨lw_p43, fun _ h => absurd h List.not_mem_nil⟩⟩⟩⟩⟩⟩⟩⟩⟩⟩⟩⟩
def lw_privs : List (MethodName × Nat) := lw_privs_1 ++ (lw_privs_2 ++ (lw_privs_3))
def lw_tbl : List Cond := k2_sels lw_privs ++ tables_1
theorem lw_privs_ok : ∀ q ∈ lw_privs, lw_okq q := by
  show ∀ q ∈ lw_privs_1 ++ (lw_privs_2 ++ (lw_privs_3)), lw_okq q
  exact List.forall_mem_append.mpr ⟨lw_r1, List.forall_mem_append.mpr ⟨lw_r2, lw_r3⟩⟩
-- ===== end of PART A; then your names; then what follows =====
/-! ===== BEGIN words of one list among another's, by their places ===== -/
theorem goodIn_r {big : List Cond} (ws : List Cond) (ps : List Nat) (hp : ws = ps.filterMap (fun i => big[i]?)) (h : ws.all goodWord = true) : GoodIn big ws := by
  intro w hw
  have h1 := List.all_eq_true.mp h w hw
  rw [hp] at hw
  obtain ⟨i, -, hi⟩ := List.mem_filterMap.mp hw
  have hm : w ∈ big := by first | exact List.mem_of_getElem? hi | exact List.getElem?_mem hi
  exact ⟨hm, good_of_word h1⟩
theorem goodIn_app {big a b : List Cond} (ha : GoodIn big a) (hb : GoodIn big b) : GoodIn big (a ++ b) := fun w h => (List.mem_append.mp h).elim (ha w) (hb w)
theorem goodIn_ca {big a b : List Cond} {c : Cond} (ha : GoodIn big (c :: a)) (hb : GoodIn big b) : GoodIn big (c :: (a ++ b)) := fun w h => (List.mem_cons.mp h).elim (fun e => ha w (List.mem_cons.mpr (Or.inl e))) (fun h => (List.mem_append.mp h).elim (fun h => ha w (List.mem_cons.mpr (Or.inr h))) (hb w))
theorem goodIn_sub {big ws : List Cond} (hm : ∀ w ∈ ws, w ∈ big) (h : ws.all goodWord = true) : GoodIn big ws := fun w hw => ⟨hm w hw, good_of_word (List.all_eq_true.mp h w hw)⟩
/-! ===== END ===== -/
end
section
/-! ===== BEGIN exceptions that leave a method, and their catching by the caller (launches without stack traces) ===== -/
section VXA
/-! The laws vx_back, vx_callV, vx_callS, vx_callSW, vx_throw0, vx_throwS follow proofs of the library, with one case more: JvmDerived/Free/Laws.lean (Back.of_free), Shelf42/LK1.lean (callV, callS), Shelf/KitTraced.lean (throwNew0V, throwNewS). -/
/-- where a method has thrown q: the class by its name, the cell, what was written, the world -/
def vx_T (XC : String → State → State → Prop) (st : State) (q : Addr) (t : State) (mc ms : Nat) (free : Addr → Prop) : Prop :=
  ∃ (E : String) (ce : Cell) (L : List Loc), XC E st t ∧ t.heap[q]? = some ce ∧ ce.vm = .none ∧ st.vm.findClass E = some ce.cls ∧ st.WarmedH t.vm ∧ st.sameButNew ({ t with vm := st.vm } : State) L mc ms ∧ ∀ z ∈ L, free z.base
def vx_Q (Qc : Array Value → State → Outcome → State → Prop) (XC : String → State → State → Prop) (mc ms : Nat) (free : Addr → Prop) : Array Value → State → Outcome → State → Prop := fun a st o t =>
  (Qc a st o t ∧ ∃ L, FrameEnd st o t L mc ms ∧ ∀ q ∈ L, free q.base) ∨ ∃ q, o = .threw q ∧ vx_T XC st q t mc ms free
/-- a callee that returns or throws -/
def vx_Met (l : Launch) (y : MethodName) (ws : List Cond) (rm : Room) (Pc : Array Value → State → Prop) (Qc : Array Value → State → Outcome → State → Prop) (XC : String → State → State → Prop) (mc ms : Nat) (free : Addr → Prop) : Prop :=
  MetFree l y (headSpec ws rm) Pc (fun _ _ _ _ _ => True) (vx_Q Qc XC mc ms free)
def vx_Post (XC : String → State → State → Prop) (mc ms : Nat) (free : Addr → Prop) : Pt → Array Value → Addr → Pt → Prop := fun A a q B =>
  ∃ (g : JFrame) (mk : MethodId) (t : State) (L : List Loc) (E : String) (ce : Cell), B.U.heap = t.heap ∧ B.U.vm = t.vm ∧ XC E (A.U.calling g mk a) t ∧ t.heap[q]? = some ce ∧ ce.vm = .none ∧ A.U.vm.findClass E = some ce.cls ∧ B.locs = A.locs ++ L ∧ (∀ z ∈ L, free z.base) ∧ B.cells = A.cells + mc ∧ B.slots = A.slots + ms
def vx_Back (l : Launch) (R : Room) (p : Program) (e : Env) (below : List Frame) (s : State) (sargs : Array Value) (y : MethodName) (len W9 : Nat)
    (Pre : Pt → Array Value → Prop) (Post : Pt → Array Value → Option Value → Pt → Prop) (PostX : Pt → Array Value → Addr → Pt → Prop) : Prop :=
  ∀ (m : MethodId) (meth : Method) (c : Code) (A : Pt) (g : JFrame) (ig : Instr) (mk : MethodId) (a : Array Value),
    Stand p l e R s m sargs below meth c A.U A.locs A.cells A.slots → g.method = m → g.locals.size = c.maxLocals → decode c.code g.pc = .ok (ig, len) →
    2 * g.monitorRoom + (g.stack.map fun v => v.category).sum ≤ W9 → A.U.methodNamed? y = some mk → Pre A a →
    (∃ (v : Option Value) (B : Pt), Stand p l e R s m sargs below meth c B.U B.locs B.cells B.slots ∧ Post A a v B ∧
      Steps p.tables e below (doInvoke e (A.U.setTop g) [] mk a).1 (B.U.setTop { g with pc := g.pc + len, stack := v.toList ++ g.stack })) ∨
    (∃ (q : Addr) (B : Pt), Stand p l e R s m sargs below meth c B.U B.locs B.cells B.slots ∧ PostX A a q B ∧
      Steps p.tables e below (doInvoke e (A.U.setTop g) [] mk a).1 ((B.U.setTop g).pushFrame (.throwing q)))
section Payer
variable {l : Launch} {R : Room} {p : Program} {e : Env} {below : List Frame} {s : State} {sargs : Array Value} {y : MethodName} {len W9 : Nat}
theorem vx_back {ws : List Cond} {rm : Room} {Pc : Array Value → State → Prop} {Qc : Array Value → State → Outcome → State → Prop} {XC : String → State → State → Prop} {mc ms : Nat} {free : Addr → Prop} {bytes : ByteArray} {maxL : Nat} {ret : Option FieldType}
    (hM : vx_Met l y ws rm Pc Qc XC mc ms free) (hblind : FrameBlind Pc) (hrc : rm.cells = mc) (hrs : rm.slots = ms)
    (hframes : rm.frames + 1 ≤ R.frames) (hlocals : W9 + (maxL + 11) + rm.locals ≤ R.locals)
    (hws : ∀ w ∈ ws, ∀ a' U, s.WarmedH U.vm → w.before a' U = true) (hcode : Cond.code y bytes maxL ret ∈ ws) (hinit : ∀ a' U, s.WarmedH U.vm → (Cond.initialized y.cls).before a' U = true) :
    vx_Back l R p e below s sargs y len W9 (PreOf R mc ms Pc) (PostOf Qc mc ms free) (vx_Post XC mc ms free) := by
  intro m meth c A g ig mk a X hg hsize hdg hW hn hp
  have h1 : (headSpec ws rm).pre.before a A.U = true := atoms_intro fun w hw => hws w hw _ _ X.warmed
  have h2 : (Cond.code y bytes maxL ret).before a A.U = true := hws _ hcode _ _ X.warmed
  have h3 : (Cond.initialized y.cls).before a A.U = true := hinit _ _ X.warmed
  have h4 : A.cells + (headSpec ws rm).room.cells ≤ R.cells := by rw [show (headSpec ws rm).room.cells = mc from hrc]; exact hp.1
  have h5 : A.slots + (headSpec ws rm).room.slots ≤ R.slots := by rw [show (headSpec ws rm).room.slots = ms from hrs]; exact hp.2.1
  have hPc : Pc a (A.U.calling g mk a) := hblind _ _ _ _ hp.2.2
  obtain ⟨U, Ls, c0, s0⟩ := A
  dsimp only [Pt.U, Pt.locs, Pt.cells, Pt.slots] at h1 h2 h3 h4 h5 X hn hPc ⊢
  obtain ⟨methY, cY, hmY, hcY, -, hlY, -, -, -, -⟩ := Cond.code_spec hn h2
  obtain ⟨kY, hkY, -⟩ := className_of_methodNamed hn
  have hinitY : kY.init = .initialized := Cond.initialized_spec (findClass_of_methodNamed hn) hkY h3
  have h : At U g.method c below := by rw [hg]; exact X.here
  have hlocals9 : W9 + (maxL + 11) + (headSpec ws rm).room.locals ≤ R.locals := hlocals
  have happ : (headSpec ws rm).appliesLoose y e.platform (U.calling g mk a) = true :=
    Spec.appliesLoose_calling (g := g) h hdg hn hkY hinitY
      (X.room_calling (g := g) (R' := (headSpec ws rm).room) hsize hmY hcY hframes (by rw [hlY]; omega) h4 h5) h1
  obtain ⟨mid, hmid⟩ := h.above
  have hfr : (U.setTop g).frames = (.java g :: mid) ++ below := by rw [State.frames_setTop' g h.top, hmid]; rfl
  obtain ⟨o, s₂, hsteps, -, hend, hq⟩ := Steps.callFree hM p X.admits X.cas X.clock (acts := []) hfr happ hPc trivial
  have hq' : vx_Q Qc XC mc ms free a (U.calling g mk a) o s₂ := hq
  rw [State.frames_setTop' g h.top] at hend
  obtain ⟨g₀, hg0⟩ := Option.isSome_iff_exists.mp h.top
  obtain ⟨r, hr⟩ := State.topJava?_eq_some.mp hg0
  have hr' : (({ U with heap := s₂.heap, slotsUsed := s₂.slotsUsed } : State).setVm s₂.vm).frames = .java g₀ :: r := hr
  rcases hq' with ⟨hqc, L, hfe, hL⟩ | ⟨q, rfl, E, ce, L, hx, hce, hcv, hcl, hW₂, hsm, hL⟩
  · obtain ⟨⟨v, rfl⟩, hW₂, e2, q2, q3, q4, q5, q6⟩ := id hfe
    have e3 : s₂ = ({ (U.calling g mk a).setFrames s₂.frames with heap := s₂.heap, slotsUsed := s₂.slotsUsed } : State).setVm s₂.vm := by
      have : s₂ = ({ s₂ with vm := (U.calling g mk a).vm } : State).setVm s₂.vm := rfl
      rw [e2] at this
      exact this
    obtain ⟨c₂, i₂, len₂, hc₂, hd₂, hf₂⟩ := hend
    have hW' : U.WarmedH s₂.vm := hW₂
    have hcc : c₂ = c := by
      have h1 : s₂.code? g.method = U.code? g.method := by
        rw [State.code?_eq, State.code?_eq, hW'.alike.method?]
      exact Option.some.inj (hc₂.symm.trans (h1.trans h.code))
    subst hcc
    have hlen : len₂ = len := by rw [hdg] at hd₂; cases hd₂; rfl
    subst hlen
    have hs₂ : s₂ = (({ U with heap := s₂.heap, slotsUsed := s₂.slotsUsed } : State).setVm s₂.vm).setTop { g with pc := g.pc + len₂, stack := v.toList ++ g.stack } := by
      refine e3.trans ?_
      rw [hf₂, State.calling_eq h.top, State.setFrames_setFrames, State.setTop_of_frames _ hr', hr]
      rfl
    have hsame : U.sameButNew ({ U with heap := s₂.heap, slotsUsed := s₂.slotsUsed } : State) L mc ms := by
      refine ⟨?_, q2, q3, q4, q5, q6⟩
      obtain ⟨t, ht, -⟩ := State.frames_cons hr
      show ({ U with heap := s₂.heap, slotsUsed := s₂.slotsUsed } : State) = { U.setFrames U.frames with heap := s₂.heap, slotsUsed := s₂.slotsUsed }
      rw [State.setFrames_self ht]
    subst hg
    refine Or.inl ⟨v, ⟨(({ U with heap := s₂.heap, slotsUsed := s₂.slotsUsed } : State).setVm s₂.vm), Ls ++ L, c0 + mc, s0 + ms⟩,
      ⟨X.admits, X.cas, X.clock, X.frames, X.room, X.hears, X.method, X.code, (X.here.setHeapUsed s₂.heap s₂.slotsUsed).setVm hW'.alike, X.tail, State.WarmedH.trans X.warmed hW', X.limits, X.bytes, X.same.trans (hsame.setVm s.vm)⟩,
      ⟨g, mk, s₂, L, rfl, rfl, hqc, rfl, hL, rfl, rfl⟩, ?_⟩
    show Steps p.tables e below _ ((({ U with heap := s₂.heap, slotsUsed := s₂.slotsUsed } : State).setVm s₂.vm).setTop { g with pc := g.pc + len₂, stack := v.toList ++ g.stack })
    rw [← hs₂]
    exact hsteps
  · obtain ⟨e2, q2, q3, q4, q5, q6⟩ := id hsm
    have e3 : s₂ = ({ (U.calling g mk a).setFrames s₂.frames with heap := s₂.heap, slotsUsed := s₂.slotsUsed } : State).setVm s₂.vm := by
      have : s₂ = ({ s₂ with vm := (U.calling g mk a).vm } : State).setVm s₂.vm := rfl
      rw [e2] at this
      exact this
    have hf₂ : s₂.frames = .throwing q :: .java g :: U.frames.tail := hend
    have hW' : U.WarmedH s₂.vm := hW₂
    have hs₂ : s₂ = ((({ U with heap := s₂.heap, slotsUsed := s₂.slotsUsed } : State).setVm s₂.vm).setTop g).pushFrame (.throwing q) := by
      refine e3.trans ?_
      rw [hf₂, State.calling_eq h.top, State.setFrames_setFrames, State.pushFrame, State.frames_setTop _ hr', State.setTop_of_frames _ hr', State.setFrames_setFrames, hr]
      rfl
    have hsame : U.sameButNew ({ U with heap := s₂.heap, slotsUsed := s₂.slotsUsed } : State) L mc ms := by
      refine ⟨?_, q2, q3, q4, q5, q6⟩
      obtain ⟨t, ht, -⟩ := State.frames_cons hr
      show ({ U with heap := s₂.heap, slotsUsed := s₂.slotsUsed } : State) = { U.setFrames U.frames with heap := s₂.heap, slotsUsed := s₂.slotsUsed }
      rw [State.setFrames_self ht]
    subst hg
    refine Or.inr ⟨q, ⟨(({ U with heap := s₂.heap, slotsUsed := s₂.slotsUsed } : State).setVm s₂.vm), Ls ++ L, c0 + mc, s0 + ms⟩,
      ⟨X.admits, X.cas, X.clock, X.frames, X.room, X.hears, X.method, X.code, (X.here.setHeapUsed s₂.heap s₂.slotsUsed).setVm hW'.alike, X.tail, State.WarmedH.trans X.warmed hW', X.limits, X.bytes, X.same.trans (hsame.setVm s.vm)⟩,
      ⟨g, mk, s₂, L, E, ce, rfl, rfl, hx, hce, hcv, hcl, rfl, hL, rfl, rfl⟩, ?_⟩
    show Steps p.tables e below _ (((({ U with heap := s₂.heap, slotsUsed := s₂.slotsUsed } : State).setVm s₂.vm).setTop g).pushFrame (.throwing q))
    rw [← hs₂]
    exact hsteps
end Payer
section Calls
variable {p : Program} {l : Launch} {e : Env} {R : Room} {s : State} {m : MethodId} {args : Array Value} {below : List Frame} {meth : Method} {c : Code} {T : State} {locs : List Loc} {cells slots : Nat}
theorem vx_callV (X : Stand p l e R s m args below meth c T locs cells slots) (hexec : p.tables.exec = Jvm.exec) {own C : String} {index : Nat} {y : MethodName} {bytes : ByteArray} {maxL : Nat} {ret : Option FieldType}
    (hown : s.vm.findClass own = some m.cls) (hlink : (Cond.methodLink own index y).before args s = true) (hinst : (Cond.instanceMethod y).before args s = true) (hsel : (Cond.selects C y y).before args s = true)
    (hcode : (Cond.code y bytes maxL ret).before args s = true) (hy : y.cls ≠ "java/lang/invoke/MethodHandle" ∧ y.cls ≠ "java/lang/invoke/VarHandle")
    {W9 : Nat} {Pre : Pt → Array Value → Prop} {Post : Pt → Array Value → Option Value → Pt → Prop} {PostX : Pt → Array Value → Addr → Pt → Prop} (hK : vx_Back l R p e below s args y 3 W9 Pre Post PostX)
    {b : Addr} {cellB : Cell} (hcell : T.heap[b]? = some cellB) (hobj : cellB.vm.isStatics = false) (hcls : s.vm.findClass C = some cellB.cls)
    {g : JFrame} (hg : g.method = m) (hsize : g.locals.size = c.maxLocals) {argsL rest : List Value} (hlen : ∀ sig, parseMethodDescriptor y.desc = some sig → argsL.length = sig.parameters.length)
    (hstack : g.stack = argsL.reverse ++ .ref b :: rest) (hW : 2 * g.monitorRoom + (rest.map fun v => v.category).sum ≤ W9) (hdg : decode c.code g.pc = .ok (.invokevirtual index, 3))
    (hpre : ∀ vm₁, s.WarmedH vm₁ → Pre ⟨T.setVm vm₁, locs, cells, slots⟩ (Value.ref b :: argsL).toArray) :
    (∃ (v : Option Value) (vm₁ : Vm) (B : Pt), s.WarmedH vm₁ ∧ Stand p l e R s m args below meth c B.U B.locs B.cells B.slots ∧ Post ⟨T.setVm vm₁, locs, cells, slots⟩ (Value.ref b :: argsL).toArray v B ∧
      ∀ target, Steps p.tables e below (B.U.setTop { g with pc := g.pc + 3, stack := v.toList ++ rest }) target → Steps p.tables e below (T.setTop g) target) ∨
    (∃ (q : Addr) (vm₁ : Vm) (B : Pt), s.WarmedH vm₁ ∧ Stand p l e R s m args below meth c B.U B.locs B.cells B.slots ∧ PostX ⟨T.setVm vm₁, locs, cells, slots⟩ (Value.ref b :: argsL).toArray q B ∧
      Steps p.tables e below (T.setTop g) ((B.U.setTop { g with stack := rest }).pushFrame (.throwing q))) := by
  obtain ⟨mk, methM, hnamed, hmethM, hstM, habM⟩ := Cond.instanceMethod_spec hinst
  obtain ⟨methM', cM, hmethM', -, -, -, -, -, -, hsigM⟩ := Cond.code_spec hnamed hcode
  cases hmethM.symm.trans hmethM'
  obtain ⟨c2, r2, m2, q1, q2, q3, q4, kP, hkP, hkPi⟩ := Cond.selects_spec hsel
  cases hcls.symm.trans q1
  cases (State.methodFound?_of_named hnamed hy).symm.trans q2
  cases hnamed.symm.trans q3
  have hselP : selectMethod e.platform s.vm cellB.cls mk = .method mk := by rw [Launch.admits_selectMethod X.admits]; exact q4
  obtain ⟨vm₁, X₁, hstep₁⟩ := X.invokevirtual hexec hown hlink hnamed hmethM hstM hkP hkPi hy (a := b) (cell := cellB) hcell
    (fun z h => by rw [h] at hobj; cases hobj) hselP hmethM habM hkP hkPi (g := g) hg (argsL := argsL) (rest := rest) (hlen _ hsigM) hstack hdg
  rcases hK m meth c ⟨T.setVm vm₁, locs, cells, slots⟩ { g with stack := rest } (.invokevirtual index) mk (Value.ref b :: argsL).toArray X₁ hg hsize hdg hW (X₁.named hnamed) (hpre vm₁ X₁.warmed) with ⟨v, B, X', hpost, hsteps⟩ | ⟨q, B, X', hpost, hsteps⟩
  · exact Or.inl ⟨v, vm₁, B, X₁.warmed, X', hpost, fun target h => hstep₁ _ fun acts => by rw [doInvoke_state]; exact hsteps.trans h⟩
  · exact Or.inr ⟨q, vm₁, B, X₁.warmed, X', hpost, hstep₁ _ fun acts => by rw [doInvoke_state]; exact hsteps⟩
theorem vx_callS (X : Stand p l e R s m args below meth c T locs cells slots) (hexec : p.tables.exec = Jvm.exec) {own : String} {index : Nat} {y : MethodName} {bytes : ByteArray} {maxL : Nat} {ret : Option FieldType}
    (hown : s.vm.findClass own = some m.cls) (hlink : (Cond.methodLink own index y).before args s = true) (hstat : (Cond.static y).before args s = true) (hinit : (Cond.initialized y.cls).before args s = true)
    (hcode : (Cond.code y bytes maxL ret).before args s = true) (hy : y.cls ≠ "java/lang/invoke/MethodHandle" ∧ y.cls ≠ "java/lang/invoke/VarHandle")
    {W9 : Nat} {Pre : Pt → Array Value → Prop} {Post : Pt → Array Value → Option Value → Pt → Prop} {PostX : Pt → Array Value → Addr → Pt → Prop} (hK : vx_Back l R p e below s args y 3 W9 Pre Post PostX)
    {g : JFrame} (hg : g.method = m) (hsize : g.locals.size = c.maxLocals) {argsL rest : List Value} (hlen : ∀ sig, parseMethodDescriptor y.desc = some sig → argsL.length = sig.parameters.length)
    (hstack : g.stack = argsL.reverse ++ rest) (hW : 2 * g.monitorRoom + (rest.map fun v => v.category).sum ≤ W9) (hdg : decode c.code g.pc = .ok (.invokestatic index, 3))
    (hpre : ∀ vm₁, s.WarmedH vm₁ → Pre ⟨T.setVm vm₁, locs, cells, slots⟩ argsL.toArray) :
    (∃ (v : Option Value) (vm₁ : Vm) (B : Pt), s.WarmedH vm₁ ∧ Stand p l e R s m args below meth c B.U B.locs B.cells B.slots ∧ Post ⟨T.setVm vm₁, locs, cells, slots⟩ argsL.toArray v B ∧
      ∀ target, Steps p.tables e below (B.U.setTop { g with pc := g.pc + 3, stack := v.toList ++ rest }) target → Steps p.tables e below (T.setTop g) target) ∨
    (∃ (q : Addr) (vm₁ : Vm) (B : Pt), s.WarmedH vm₁ ∧ Stand p l e R s m args below meth c B.U B.locs B.cells B.slots ∧ PostX ⟨T.setVm vm₁, locs, cells, slots⟩ argsL.toArray q B ∧
      Steps p.tables e below (T.setTop g) ((B.U.setTop { g with stack := rest }).pushFrame (.throwing q))) := by
  obtain ⟨mk, hnamed⟩ := Cond.code_named hcode
  obtain ⟨methM, cM, hmethM, -, -, -, -, -, -, hsigM⟩ := Cond.code_spec hnamed hcode
  have hstatic : methM.isStatic = true := Cond.static_spec hnamed hmethM hstat
  obtain ⟨kP, hkP, -⟩ := className_of_methodNamed hnamed
  have hinitP : kP.init = .initialized := Cond.initialized_spec (findClass_of_methodNamed hnamed) hkP hinit
  obtain ⟨vm₁, X₁, hstep₁⟩ := X.invokestatic hexec hown hlink hnamed hmethM hstatic hkP hinitP hy (g := g) hg (argsL := argsL) (rest := rest) (hlen _ hsigM) hstack hdg
  rcases hK m meth c ⟨T.setVm vm₁, locs, cells, slots⟩ { g with stack := rest } (.invokestatic index) mk argsL.toArray X₁ hg hsize hdg hW (X₁.named hnamed) (hpre vm₁ X₁.warmed) with ⟨v, B, X', hpost, hsteps⟩ | ⟨q, B, X', hpost, hsteps⟩
  · exact Or.inl ⟨v, vm₁, B, X₁.warmed, X', hpost, fun target h => hstep₁ _ fun acts => by rw [doInvoke_state]; exact hsteps.trans h⟩
  · exact Or.inr ⟨q, vm₁, B, X₁.warmed, X', hpost, hstep₁ _ fun acts => by rw [doInvoke_state]; exact hsteps⟩
end Calls
theorem vx_cls {s : State} {T : State} {vm₁ : Vm} {E : String} {k : ClassId} (hW : s.WarmedH vm₁) (h : (T.setVm vm₁).vm.findClass E = some k) : s.vm.findClass E = some k := by
  have h1 : vm₁.findClass E = some k := h
  rw [hW.alike.findClass] at h1
  exact h1
/-- the method's frame g, with q thrown over it -/
def vx_W (p : Program) (l : Launch) (e : Env) (R : Room) (s : State) (m : MethodId) (args : Array Value) (below : List Frame) (meth : Method) (c : Code) (H : Heap) (locs : List Loc) (cells slots : Nat) (Q : State → Prop) (g : JFrame) (q : Addr) : Prop :=
  ∀ T : State, T.heap = H → Stand p l e R s m args below meth c T locs cells slots → ∃ t, Steps p.tables e below ((T.setTop g).pushFrame (.throwing q)) t ∧ Q t
def vx_Run (p : Program) (l : Launch) (e : Env) (R : Room) (s : State) (m : MethodId) (args : Array Value) (below : List Frame) (meth : Method) (c : Code) (H : Heap) (locs : List Loc) (cells slots mc ms : Nat) (g : JFrame) (rest : List Value) (Qa : State → Outcome → State → Prop) (XC : String → State → State → Prop) (free : Addr → Prop) : Prop :=
  ∀ T : State, T.heap = H → Stand p l e R s m args below meth c T locs cells slots →
    (∃ (v : Option Value) (st₀ t T' : State) (L : List Loc), st₀.heap = H ∧ Stand p l e R s m args below meth c T' (locs ++ L) (cells + mc) (slots + ms) ∧ (∀ q ∈ L, free q.base) ∧ T'.heap = t.heap ∧ T'.vm = t.vm ∧ Qa st₀ (.returned v) t ∧
      Goes p e below T g T' { g with pc := g.pc + 3, stack := v.toList ++ rest }) ∨
    (∃ (q : Addr) (st₀ t T' : State) (L : List Loc) (E : String) (ce : Cell), st₀.heap = H ∧ Stand p l e R s m args below meth c T' (locs ++ L) (cells + mc) (slots + ms) ∧ (∀ z ∈ L, free z.base) ∧ T'.heap = t.heap ∧ T'.vm = t.vm ∧ XC E st₀ t ∧ t.heap[q]? = some ce ∧ ce.vm = .none ∧ s.vm.findClass E = some ce.cls ∧
      Steps p.tables e below (T.setTop g) ((T'.setTop { g with stack := rest }).pushFrame (.throwing q)))
def vx_X {S : Type} (px : S → Prop) (B : String → S → State → Prop) (A : Nat → Prop) : String → State → State → Prop := fun E st t => ∃ u : S, px u ∧ B E u t ∧ va_F A st t
section Runs
variable {p : Program} {l : Launch} {e : Env} {R : Room} {s : State} {m : MethodId} {args : Array Value} {below : List Frame} {meth : Method} {c : Code} {H : Heap} {locs : List Loc} {cells slots : Nat}
variable {y : MethodName} {bytes cc : ByteArray} {maxL nL mc ms n index : Nat} {ret : Option FieldType} {ws : List Cond} {rm : Room} {Pc : Array Value → State → Prop} {Qc : Array Value → State → Outcome → State → Prop} {XC : String → State → State → Prop} {free : Addr → Prop} {Ts : List Cond} {own C : String} {b : Addr} {As rest : List Value} {g : JFrame}
theorem vx_callBack (cb : CallB R s args own index y bytes maxL ret ws rm mc ms n) (hM : vx_Met l y ws rm Pc Qc XC mc ms free) (hbl : FrameBlind Pc) : vx_Back l R p e below s args y 3 8 (PreOf R mc ms Pc) (PostOf Qc mc ms free) (vx_Post XC mc ms free) := by
  obtain ⟨hrc, hrs, hfr, hlo, hws, hcw, -, hini, -⟩ := cb
  exact vx_back (bytes := bytes) (maxL := maxL) (ret := ret) hM hbl hrc hrs hfr hlo hws hcw (fun a' U hW => word_at hW (Or.inl (by first | rfl | simp [Cond.onTables, Cond.keeps, Cond.steady])) hini)
theorem vx_runV (S : CallFix p m c cc nL s args Ts own) (hM : vx_Met l y ws rm Pc Qc XC mc ms free) (cw : CallW R s args own C index y bytes maxL ret ws rm mc ms n) (hp : PreV s H C b Pc As)
    (hg : g.method = m) (hn : As.length = n) (hsize : g.locals.size = nL) (hstack : g.stack = As.reverse ++ .ref b :: rest) (hW : 2 * g.monitorRoom + (rest.map fun v => v.category).sum ≤ 8) (hdg : decode cc g.pc = .ok (.invokevirtual index, 3)) (hf : cells + mc ≤ R.cells ∧ slots + ms ≤ R.slots) :
    vx_Run p l e R s m args below meth c H locs cells slots mc ms g rest (Qc (Value.ref b :: As).toArray) XC free := by
  have hK : vx_Back l R p e below s args y 3 8 (PreOf R mc ms Pc) (PostOf Qc mc ms free) (vx_Post XC mc ms free) := vx_callBack cw.1 hM hp.1
  obtain ⟨⟨-, -, -, -, -, -, hcode, -, hy, hlen, hl⟩, hin, hse⟩ := cw
  obtain ⟨hx, hb, hml, ho, -⟩ := S
  obtain ⟨-, ⟨cellB, hcB, hoB, hclB⟩, hPc⟩ := hp
  intro T hT X
  rcases vx_callV X hx (C := C) (bytes := bytes) (maxL := maxL) (ret := ret) ho hl hin hse hcode hy hK (by rw [hT]; exact hcB) hoB hclB hg (hsize.trans hml.symm) (argsL := As) (rest := rest) (fun sig h => hn.trans (hlen sig h)) hstack hW (by rw [hb]; exact hdg)
    (fun vm₁ hW₁ => ⟨hf.1, hf.2, hPc (T.setVm vm₁) hT hW₁⟩) with ⟨v, vm₁, ⟨U', l2, c2, s2⟩, hW₁, X', ⟨g', mk, t, L, e1, e2, hq, h1, hL, h2, h3⟩, st⟩ | ⟨q, vm₁, ⟨U', l2, c2, s2⟩, hW₁, X', ⟨g', mk, t, L, E, ce, e1, e2, hq, hce, hcv, hcl, h1, hL, h2, h3⟩, st⟩
  · dsimp only [Pt.U, Pt.locs, Pt.cells, Pt.slots] at X' e1 e2 h1 h2 h3 st
    subst h1; subst h2; subst h3
    exact Or.inl ⟨v, (T.setVm vm₁).calling g' mk (Value.ref b :: As).toArray, t, U', L, hT, X', hL, e1, e2, hq, st⟩
  · dsimp only [Pt.U, Pt.locs, Pt.cells, Pt.slots] at X' e1 e2 h1 h2 h3 st hcl
    subst h1; subst h2; subst h3
    exact Or.inr ⟨q, (T.setVm vm₁).calling g' mk (Value.ref b :: As).toArray, t, U', L, E, ce, hT, X', hL, e1, e2, hq, hce, hcv, vx_cls hW₁ hcl, st⟩
theorem vx_runS (S : CallFix p m c cc nL s args Ts own) (hM : vx_Met l y ws rm Pc Qc XC mc ms free) (cw : CallB R s args own index y bytes maxL ret ws rm mc ms n ∧ (Cond.static y).before args s = true) (hp : PreS s H Pc As)
    (hg : g.method = m) (hn : As.length = n) (hsize : g.locals.size = nL) (hstack : g.stack = As.reverse ++ rest) (hW : 2 * g.monitorRoom + (rest.map fun v => v.category).sum ≤ 8) (hdg : decode cc g.pc = .ok (.invokestatic index, 3)) (hf : cells + mc ≤ R.cells ∧ slots + ms ≤ R.slots) :
    vx_Run p l e R s m args below meth c H locs cells slots mc ms g rest (Qc As.toArray) XC free := by
  have hK : vx_Back l R p e below s args y 3 8 (PreOf R mc ms Pc) (PostOf Qc mc ms free) (vx_Post XC mc ms free) := vx_callBack cw.1 hM hp.1
  obtain ⟨⟨-, -, -, -, -, -, hcode, hini, hy, hlen, hl⟩, hstt⟩ := cw
  obtain ⟨hx, hb, hml, ho, -⟩ := S
  intro T hT X
  rcases vx_callS X hx (bytes := bytes) (maxL := maxL) (ret := ret) ho hl hstt hini hcode hy hK hg (hsize.trans hml.symm) (argsL := As) (rest := rest) (fun sig h => hn.trans (hlen sig h)) hstack hW (by rw [hb]; exact hdg)
    (fun vm₁ hW₁ => ⟨hf.1, hf.2, hp.2 (T.setVm vm₁) hT hW₁⟩) with ⟨v, vm₁, ⟨U', l2, c2, s2⟩, hW₁, X', ⟨g', mk, t, L, e1, e2, hq, h1, hL, h2, h3⟩, st⟩ | ⟨q, vm₁, ⟨U', l2, c2, s2⟩, hW₁, X', ⟨g', mk, t, L, E, ce, e1, e2, hq, hce, hcv, hcl, h1, hL, h2, h3⟩, st⟩
  · dsimp only [Pt.U, Pt.locs, Pt.cells, Pt.slots] at X' e1 e2 h1 h2 h3 st
    subst h1; subst h2; subst h3
    exact Or.inl ⟨v, (T.setVm vm₁).calling g' mk As.toArray, t, U', L, hT, X', hL, e1, e2, hq, st⟩
  · dsimp only [Pt.U, Pt.locs, Pt.cells, Pt.slots] at X' e1 e2 h1 h2 h3 st hcl
    subst h1; subst h2; subst h3
    exact Or.inr ⟨q, (T.setVm vm₁).calling g' mk As.toArray, t, U', L, E, ce, hT, X', hL, e1, e2, hq, hce, hcv, vx_cls hW₁ hcl, st⟩
end Runs
section Rows
variable {p : Program} {l : Launch} {e : Env} {R : Room} {s : State} {m : MethodId} {args : Array Value} {below : List Frame} {meth : Method} {c : Code} {H : Heap} {locs : List Loc} {cells slots : Nat} {Q : State → Prop}
variable {mc ms : Nat} {free : Addr → Prop} {A0 A1 : Nat → Prop} {H0 : Heap} {a : Array Value} {pc : Nat} {ls : Array Slot} {st0 rest : List Value}
theorem vx_keep {st₀ t T' : State} {L : List Loc} (h0 : st₀.heap = H) (e1 : T'.heap = t.heap) (hS : va_S A0 H0 H locs) (hA : ∀ q, q < H.size → A1 q → A0 q) (hf : ∀ q, free q → A0 q) (hL : ∀ q ∈ L, free q.base) (hF : va_F A1 st₀ t) :
    H.size ≤ T'.heap.size ∧ (∀ q : Nat, q < H.size → ¬ A1 q → T'.heap[q]? = H[q]?) ∧ va_S A0 H0 T'.heap (locs ++ L) := by
  obtain ⟨hz, hk⟩ := hF
  rw [h0] at hz hk
  exact ⟨by rw [e1]; exact hz, fun q h1 h2 => by rw [e1]; exact hk q h1 h2,
    ⟨Nat.le_trans hS.1 (by rw [e1]; exact hz), fun q h1 h2 => by rw [e1, hk q (Nat.lt_of_lt_of_le h1 hS.1) (fun z => h2 (hA q (Nat.lt_of_lt_of_le h1 hS.1) z))]; exact hS.2.1 q h1 h2, fun q hq => by
      rcases List.mem_append.mp hq with h | h
      · exact hS.2.2 q h
      · exact hf _ (hL q h)⟩⟩
theorem vx_calli {S SX : Type} {post : Int32 → S → Prop} {px : SX → Prop} {B : S → State → Prop} {BX : String → SX → State → Prop} {AX : Nat → Prop} (hr : vx_Run p l e R s m args below meth c H locs cells slots mc ms (F0 m pc ls st0) rest (va_Qi post B A1 a) (vx_X px BX AX) free) (hS : va_S A0 H0 H locs) (hA : ∀ q, q < H.size → A1 q → A0 q) (hf : ∀ q, free q → A0 q) (hAX : ∀ q, q < H.size → AX q → A0 q)
    (kx : ∀ (E : String) (ce : Cell) (q9 : Addr) (u : SX) (t : State) (H1 : Heap) (locs1 : List Loc), t.heap = H1 → s.vm.Alike t.vm → px u → BX E u t → H.size ≤ H1.size → (∀ q : Nat, q < H.size → ¬ AX q → H1[q]? = H[q]?) → va_S A0 H0 H1 locs1 → H1[q9]? = some ce → ce.vm = .none → s.vm.findClass E = some ce.cls → vx_W p l e R s m args below meth c H1 locs1 (cells + mc) (slots + ms) Q (F0 m pc ls rest) q9)
    (kk : ∀ (r : Int32) (u : S) (t : State) (H1 : Heap) (locs1 : List Loc), t.heap = H1 → s.vm.Alike t.vm → post r u → B u t → H.size ≤ H1.size → (∀ q : Nat, q < H.size → ¬ A1 q → H1[q]? = H[q]?) → va_S A0 H0 H1 locs1 → W p l e R s m args below meth c H1 locs1 (cells + mc) (slots + ms) Q (F0 m (pc + 3) ls (.int r :: rest))) : W p l e R s m args below meth c H locs cells slots Q (F0 m pc ls st0) := by
  intro T hT X
  rcases hr T hT X with ⟨v, st₀, t, T', L, h0, X', hL, e1, e2, ⟨⟨r, u, hv, hp, hb⟩, hF⟩, st⟩ | ⟨q, st₀, t, T', L, E, ce, h0, X', hL, e1, e2, ⟨u, hp, hb, hF⟩, hce, hcv, hcl, st⟩
  · cases hv
    obtain ⟨k1, k2, k3⟩ := vx_keep h0 e1 hS hA hf hL hF
    obtain ⟨t2, a1, b1⟩ := kk r u t T'.heap (locs ++ L) e1.symm (by rw [← e2]; exact X'.warmed.alike) hp hb k1 k2 k3 T' rfl X'
    exact ⟨t2, st t2 a1, b1⟩
  · obtain ⟨k1, k2, k3⟩ := vx_keep h0 e1 hS hAX hf hL hF
    obtain ⟨t2, a1, b1⟩ := kx E ce q u t T'.heap (locs ++ L) e1.symm (by rw [← e2]; exact X'.warmed.alike) hp hb k1 k2 k3 (by rw [e1]; exact hce) hcv hcl T' rfl X'
    exact ⟨t2, st.trans a1, b1⟩
theorem vx_calll {S SX : Type} {post : Int64 → S → Prop} {px : SX → Prop} {B : S → State → Prop} {BX : String → SX → State → Prop} {AX : Nat → Prop} (hr : vx_Run p l e R s m args below meth c H locs cells slots mc ms (F0 m pc ls st0) rest (va_Ql post B A1 a) (vx_X px BX AX) free) (hS : va_S A0 H0 H locs) (hA : ∀ q, q < H.size → A1 q → A0 q) (hf : ∀ q, free q → A0 q) (hAX : ∀ q, q < H.size → AX q → A0 q)
    (kx : ∀ (E : String) (ce : Cell) (q9 : Addr) (u : SX) (t : State) (H1 : Heap) (locs1 : List Loc), t.heap = H1 → s.vm.Alike t.vm → px u → BX E u t → H.size ≤ H1.size → (∀ q : Nat, q < H.size → ¬ AX q → H1[q]? = H[q]?) → va_S A0 H0 H1 locs1 → H1[q9]? = some ce → ce.vm = .none → s.vm.findClass E = some ce.cls → vx_W p l e R s m args below meth c H1 locs1 (cells + mc) (slots + ms) Q (F0 m pc ls rest) q9)
    (kk : ∀ (r : Int64) (u : S) (t : State) (H1 : Heap) (locs1 : List Loc), t.heap = H1 → s.vm.Alike t.vm → post r u → B u t → H.size ≤ H1.size → (∀ q : Nat, q < H.size → ¬ A1 q → H1[q]? = H[q]?) → va_S A0 H0 H1 locs1 → W p l e R s m args below meth c H1 locs1 (cells + mc) (slots + ms) Q (F0 m (pc + 3) ls (.long r :: rest))) : W p l e R s m args below meth c H locs cells slots Q (F0 m pc ls st0) := by
  intro T hT X
  rcases hr T hT X with ⟨v, st₀, t, T', L, h0, X', hL, e1, e2, ⟨⟨r, u, hv, hp, hb⟩, hF⟩, st⟩ | ⟨q, st₀, t, T', L, E, ce, h0, X', hL, e1, e2, ⟨u, hp, hb, hF⟩, hce, hcv, hcl, st⟩
  · cases hv
    obtain ⟨k1, k2, k3⟩ := vx_keep h0 e1 hS hA hf hL hF
    obtain ⟨t2, a1, b1⟩ := kk r u t T'.heap (locs ++ L) e1.symm (by rw [← e2]; exact X'.warmed.alike) hp hb k1 k2 k3 T' rfl X'
    exact ⟨t2, st t2 a1, b1⟩
  · obtain ⟨k1, k2, k3⟩ := vx_keep h0 e1 hS hAX hf hL hF
    obtain ⟨t2, a1, b1⟩ := kx E ce q u t T'.heap (locs ++ L) e1.symm (by rw [← e2]; exact X'.warmed.alike) hp hb k1 k2 k3 (by rw [e1]; exact hce) hcv hcl T' rfl X'
    exact ⟨t2, st.trans a1, b1⟩
theorem vx_callf {S SX : Type} {post : UInt32 → S → Prop} {px : SX → Prop} {B : S → State → Prop} {BX : String → SX → State → Prop} {AX : Nat → Prop} (hr : vx_Run p l e R s m args below meth c H locs cells slots mc ms (F0 m pc ls st0) rest (va_Qf post B A1 a) (vx_X px BX AX) free) (hS : va_S A0 H0 H locs) (hA : ∀ q, q < H.size → A1 q → A0 q) (hf : ∀ q, free q → A0 q) (hAX : ∀ q, q < H.size → AX q → A0 q)
    (kx : ∀ (E : String) (ce : Cell) (q9 : Addr) (u : SX) (t : State) (H1 : Heap) (locs1 : List Loc), t.heap = H1 → s.vm.Alike t.vm → px u → BX E u t → H.size ≤ H1.size → (∀ q : Nat, q < H.size → ¬ AX q → H1[q]? = H[q]?) → va_S A0 H0 H1 locs1 → H1[q9]? = some ce → ce.vm = .none → s.vm.findClass E = some ce.cls → vx_W p l e R s m args below meth c H1 locs1 (cells + mc) (slots + ms) Q (F0 m pc ls rest) q9)
    (kk : ∀ (r : UInt32) (u : S) (t : State) (H1 : Heap) (locs1 : List Loc), t.heap = H1 → s.vm.Alike t.vm → post r u → B u t → H.size ≤ H1.size → (∀ q : Nat, q < H.size → ¬ A1 q → H1[q]? = H[q]?) → va_S A0 H0 H1 locs1 → W p l e R s m args below meth c H1 locs1 (cells + mc) (slots + ms) Q (F0 m (pc + 3) ls (.float r :: rest))) : W p l e R s m args below meth c H locs cells slots Q (F0 m pc ls st0) := by
  intro T hT X
  rcases hr T hT X with ⟨v, st₀, t, T', L, h0, X', hL, e1, e2, ⟨⟨r, u, hv, hp, hb⟩, hF⟩, st⟩ | ⟨q, st₀, t, T', L, E, ce, h0, X', hL, e1, e2, ⟨u, hp, hb, hF⟩, hce, hcv, hcl, st⟩
  · cases hv
    obtain ⟨k1, k2, k3⟩ := vx_keep h0 e1 hS hA hf hL hF
    obtain ⟨t2, a1, b1⟩ := kk r u t T'.heap (locs ++ L) e1.symm (by rw [← e2]; exact X'.warmed.alike) hp hb k1 k2 k3 T' rfl X'
    exact ⟨t2, st t2 a1, b1⟩
  · obtain ⟨k1, k2, k3⟩ := vx_keep h0 e1 hS hAX hf hL hF
    obtain ⟨t2, a1, b1⟩ := kx E ce q u t T'.heap (locs ++ L) e1.symm (by rw [← e2]; exact X'.warmed.alike) hp hb k1 k2 k3 (by rw [e1]; exact hce) hcv hcl T' rfl X'
    exact ⟨t2, st.trans a1, b1⟩
theorem vx_calld {S SX : Type} {post : UInt64 → S → Prop} {px : SX → Prop} {B : S → State → Prop} {BX : String → SX → State → Prop} {AX : Nat → Prop} (hr : vx_Run p l e R s m args below meth c H locs cells slots mc ms (F0 m pc ls st0) rest (va_Qd post B A1 a) (vx_X px BX AX) free) (hS : va_S A0 H0 H locs) (hA : ∀ q, q < H.size → A1 q → A0 q) (hf : ∀ q, free q → A0 q) (hAX : ∀ q, q < H.size → AX q → A0 q)
    (kx : ∀ (E : String) (ce : Cell) (q9 : Addr) (u : SX) (t : State) (H1 : Heap) (locs1 : List Loc), t.heap = H1 → s.vm.Alike t.vm → px u → BX E u t → H.size ≤ H1.size → (∀ q : Nat, q < H.size → ¬ AX q → H1[q]? = H[q]?) → va_S A0 H0 H1 locs1 → H1[q9]? = some ce → ce.vm = .none → s.vm.findClass E = some ce.cls → vx_W p l e R s m args below meth c H1 locs1 (cells + mc) (slots + ms) Q (F0 m pc ls rest) q9)
    (kk : ∀ (r : UInt64) (u : S) (t : State) (H1 : Heap) (locs1 : List Loc), t.heap = H1 → s.vm.Alike t.vm → post r u → B u t → H.size ≤ H1.size → (∀ q : Nat, q < H.size → ¬ A1 q → H1[q]? = H[q]?) → va_S A0 H0 H1 locs1 → W p l e R s m args below meth c H1 locs1 (cells + mc) (slots + ms) Q (F0 m (pc + 3) ls (.double r :: rest))) : W p l e R s m args below meth c H locs cells slots Q (F0 m pc ls st0) := by
  intro T hT X
  rcases hr T hT X with ⟨v, st₀, t, T', L, h0, X', hL, e1, e2, ⟨⟨r, u, hv, hp, hb⟩, hF⟩, st⟩ | ⟨q, st₀, t, T', L, E, ce, h0, X', hL, e1, e2, ⟨u, hp, hb, hF⟩, hce, hcv, hcl, st⟩
  · cases hv
    obtain ⟨k1, k2, k3⟩ := vx_keep h0 e1 hS hA hf hL hF
    obtain ⟨t2, a1, b1⟩ := kk r u t T'.heap (locs ++ L) e1.symm (by rw [← e2]; exact X'.warmed.alike) hp hb k1 k2 k3 T' rfl X'
    exact ⟨t2, st t2 a1, b1⟩
  · obtain ⟨k1, k2, k3⟩ := vx_keep h0 e1 hS hAX hf hL hF
    obtain ⟨t2, a1, b1⟩ := kx E ce q u t T'.heap (locs ++ L) e1.symm (by rw [← e2]; exact X'.warmed.alike) hp hb k1 k2 k3 (by rw [e1]; exact hce) hcv hcl T' rfl X'
    exact ⟨t2, st.trans a1, b1⟩
theorem vx_callv {S SX : Type} {post : S → Prop} {px : SX → Prop} {B : S → State → Prop} {BX : String → SX → State → Prop} {AX : Nat → Prop} (hr : vx_Run p l e R s m args below meth c H locs cells slots mc ms (F0 m pc ls st0) rest (va_Qv post B A1 a) (vx_X px BX AX) free) (hS : va_S A0 H0 H locs) (hA : ∀ q, q < H.size → A1 q → A0 q) (hf : ∀ q, free q → A0 q) (hAX : ∀ q, q < H.size → AX q → A0 q)
    (kx : ∀ (E : String) (ce : Cell) (q9 : Addr) (u : SX) (t : State) (H1 : Heap) (locs1 : List Loc), t.heap = H1 → s.vm.Alike t.vm → px u → BX E u t → H.size ≤ H1.size → (∀ q : Nat, q < H.size → ¬ AX q → H1[q]? = H[q]?) → va_S A0 H0 H1 locs1 → H1[q9]? = some ce → ce.vm = .none → s.vm.findClass E = some ce.cls → vx_W p l e R s m args below meth c H1 locs1 (cells + mc) (slots + ms) Q (F0 m pc ls rest) q9)
    (kk : ∀ (u : S) (t : State) (H1 : Heap) (locs1 : List Loc), t.heap = H1 → s.vm.Alike t.vm → post u → B u t → H.size ≤ H1.size → (∀ q : Nat, q < H.size → ¬ A1 q → H1[q]? = H[q]?) → va_S A0 H0 H1 locs1 → W p l e R s m args below meth c H1 locs1 (cells + mc) (slots + ms) Q (F0 m (pc + 3) ls (rest))) : W p l e R s m args below meth c H locs cells slots Q (F0 m pc ls st0) := by
  intro T hT X
  rcases hr T hT X with ⟨v, st₀, t, T', L, h0, X', hL, e1, e2, ⟨⟨u, hv, hp, hb⟩, hF⟩, st⟩ | ⟨q, st₀, t, T', L, E, ce, h0, X', hL, e1, e2, ⟨u, hp, hb, hF⟩, hce, hcv, hcl, st⟩
  · cases hv
    obtain ⟨k1, k2, k3⟩ := vx_keep h0 e1 hS hA hf hL hF
    obtain ⟨t2, a1, b1⟩ := kk u t T'.heap (locs ++ L) e1.symm (by rw [← e2]; exact X'.warmed.alike) hp hb k1 k2 k3 T' rfl X'
    exact ⟨t2, st t2 a1, b1⟩
  · obtain ⟨k1, k2, k3⟩ := vx_keep h0 e1 hS hAX hf hL hF
    obtain ⟨t2, a1, b1⟩ := kx E ce q u t T'.heap (locs ++ L) e1.symm (by rw [← e2]; exact X'.warmed.alike) hp hb k1 k2 k3 (by rw [e1]; exact hce) hcv hcl T' rfl X'
    exact ⟨t2, st.trans a1, b1⟩
/-- caught by the row x of this method's table; the rows ahead don't take it -/
theorem vx_catch {own name : String} {E : String} {ce : Cell} {q : Addr} (hown : s.vm.findClass own = some m.cls) (pre : List ExceptionTableEntry) (x : ExceptionTableEntry) (suf : List ExceptionTableEntry) (hsplit : c.exceptionTable.toList = pre ++ x :: suf)
    (hpass : ∀ z ∈ pre, covers z pc = false ∨ (z.catchType ≠ 0 ∧ ∃ nm : String, (Cond.classLink own z.catchType nm).before args s = true ∧ va_Nc E nm s)) (hx : covers x pc = true) (h0 : x.catchType ≠ 0)
    (hlink : (Cond.classLink own x.catchType name).before args s = true) (hcast : (Cond.castable E name).before args s = true) (hcell : H[q]? = some ce) (hv : ce.vm = .none) (hcl : s.vm.findClass E = some ce.cls)
    (kk : W p l e R s m args below meth c H locs cells slots Q (F0 m x.handlerPc ls [.ref q])) : vx_W p l e R s m args below meth c H locs cells slots Q (F0 m pc ls rest) q := by
  intro T hT X
  have hpl : e.platform.magicAccessors = ({} : Platform).magicAccessors := by rw [X.admits.platform]
  obtain ⟨c3, c4, hc3, hc4, hasg⟩ := Cond.castable_spec hcast
  cases Option.some.inj (hc3.symm.trans hcl)
  obtain ⟨c5, hc5, hcl5⟩ := Cond.classLink_spec hown hlink e.platform hpl
  cases Option.some.inj (hc4.symm.trans hc5)
  obtain ⟨vm', X', st⟩ := X.thenCaughtThrough q (g := F0 m pc ls rest) rfl (Steps.refl _) (by rw [hT]; exact hcell) (by rw [hv]; rfl) (by obtain ⟨k9, h9, -⟩ := Vm.findClass_spec hcl; exact ⟨k9, h9⟩) pre x suf hsplit
    (fun z hz => by
      rcases hpass z hz with h | ⟨hz0, nm, hl1, hn1⟩
      · exact Or.inl h
      · obtain ⟨c6, hc6, hcl6⟩ := Cond.classLink_spec hown hl1 e.platform hpl
        obtain ⟨a8, b8, h1, h2, h3⟩ := hn1
        cases Option.some.inj (h1.symm.trans hcl)
        cases Option.some.inj (h2.symm.trans hc6)
        exact Or.inr ⟨hz0, _, hcl6, h3⟩) hx (Or.inr ⟨h0, c4, hcl5, hasg⟩)
  obtain ⟨t, a1, b1⟩ := kk (T.setVm vm') hT X'
  exact ⟨t, st.trans a1, b1⟩
end Rows
section Ends
variable {p : Program} {l : Launch} {e : Env} {R : Room} {s : State} {m : MethodId} {args : Array Value} {below : List Frame} {meth : Method} {c : Code} {H : Heap} {locs : List Loc} {cells slots : Nat} {Q : State → Prop}
variable {mc ms : Nat} {free : Addr → Prop} {A0 A1 : Nat → Prop} {H0 : Heap} {a : Array Value} {ls : Array Slot} {st0 rest : List Value}
variable {Qc : Array Value → State → Outcome → State → Prop} {XC : String → State → State → Prop}
/-- what a body that may throw owes at its end -/
def vx_MQ (below : List Frame) (Qc : Array Value → State → Outcome → State → Prop) (XC : String → State → State → Prop) (a : Array Value) (s : State) (mc ms : Nat) (free : Addr → Prop) : State → Prop := fun t =>
  ∃ o, t.status = .running ∧ Ended t below o ∧ vx_Q Qc XC mc ms free a s o t
theorem vx_ret {g : JFrame} {mc ms : Nat} (k : W p l e R s m args below meth c H locs cells slots (MQ below Qc args s mc ms free) g) : W p l e R s m args below meth c H locs cells slots (vx_MQ below Qc XC args s mc ms free) g := by
  intro T hT X
  obtain ⟨t, a1, o, b1, b2, b3, b4⟩ := k T hT X
  exact ⟨t, a1, o, b1, b2, Or.inl ⟨b3, b4⟩⟩
/-- not caught here: it goes on to the caller -/
theorem vx_widen {g : JFrame} {q : Addr} {k n : Nat} (h1 : cells ≤ k) (h2 : slots ≤ n) (kk : vx_W p l e R s m args below meth c H locs k n Q g q) : vx_W p l e R s m args below meth c H locs cells slots Q g q := fun T hT X => kk T hT (stand_widen X h1 h2)
theorem vx_out {pc : Nat} {E : String} {ce : Cell} {q : Addr} {mc ms : Nat} (hout : ∀ x ∈ c.exceptionTable.toList, covers x pc = false) (hlocks : meth.locks = false) (hcell : H[q]? = some ce) (hv : ce.vm = .none) (hcl : s.vm.findClass E = some ce.cls)
    (hx : ∀ t : State, t.heap = H → s.vm.Alike t.vm → XC E s t) (hf : ∀ z ∈ locs, free z.base) (hc : cells ≤ mc) (hs : slots ≤ ms) :
    vx_W p l e R s m args below meth c H locs cells slots (vx_MQ below Qc XC args s mc ms free) (F0 m pc ls rest) q := by
  intro T hT X
  obtain ⟨st1, hrun, hend, hW, hsm⟩ := X.leaveThrown q (g := F0 m pc ls rest) rfl rfl rfl hout hlocks
  have hcell9 : (T.setFrames (.throwing q :: below)).heap[q]? = some ce := by
    show T.heap[q]? = some ce
    rw [hT]; exact hcell
  exact ⟨_, st1, .threw q, hrun, hend, Or.inr ⟨q, rfl, E, ce, locs, hx _ hT hW.alike, hcell9, hv, hcl, hW, hsm.mono hc hs, hf⟩⟩
theorem vx_frame {U : State} {k n : Nat} (h : s.sameButNew ({ U with vm := s.vm } : State) locs k n) : s.heap.size ≤ U.heap.size ∧ ∀ q : Nat, q < s.heap.size → (∀ z ∈ locs, z.base ≠ q) → U.heap[q]? = s.heap[q]? := by
  obtain ⟨-, h2, -, -, -, h6⟩ := h
  refine ⟨h2, fun q hq hz => ?_⟩
  obtain ⟨c9, e1, e2, e3, e4⟩ := h6 q _ (Array.getElem?_eq_getElem hq)
  have hs : c9.slots = (s.heap[q]).slots := Array.ext_getElem? fun i => e4 i fun hm => hz _ hm rfl
  have h9 : c9 = s.heap[q] := by
    rw [hs] at e2
    exact e2
  have e5 : U.heap[q]? = some c9 := e1
  rw [e5, h9, Array.getElem?_eq_getElem hq]
/-- the words of a throw but the four that speak of the heap -/
def vx_no (w : Cond) : Bool := decide (w ≠ .isRef (.static Bundle.tN "UNASSIGNED_STACK" Bundle.steD)) && decide (w ≠ .isRef (.static Bundle.tN "SUPPRESSED_SENTINEL" Bundle.listD)) && decide (w ≠ .laysStatic Bundle.tN "UNASSIGNED_STACK" Bundle.steD) && decide (w ≠ .laysStatic Bundle.tN "SUPPRESSED_SENTINEL" Bundle.listD)
def vx_at0 (own : String) (ic : Nat) (X : String) (names : List String) : List Cond := (Bundle.ownAtoms0 own ic X names).filter vx_no
def vx_atS (own : String) (ic : Nat) (X : String) (names : List String) : List Cond := (Bundle.ownAtoms own ic X names).filter vx_no
/-- a word that the tables alone decide, or a good one -/
def vx_ot (w : Cond) : Bool := w.onTables || goodWord w
theorem vx_ot_at {args a' : Array Value} {s U : State} {w : Cond} (hW : s.WarmedH U.vm) (hvm : s.vm = U.vm) (hg : vx_ot w = true) (h : w.before args s = true) : w.before a' U = true := by
  simp only [vx_ot, Bool.or_eq_true] at hg
  rcases hg with hg | hg
  · exact va_tabs hg hvm h
  · exact word_at hW (good_of_word hg) h
/-- a list's words: the good ones out of the method's own list, the others by premises of their own -/
theorem vx_hat {args : Array Value} {s : State} {L B : List Cond} (h1 : ∀ w ∈ L.filter goodWord, w.before args s = true) (h2 : ∀ w ∈ L.filter (fun w => !goodWord w), w ∈ B) (h3 : ∀ w ∈ B, w.before args s = true) : ∀ w ∈ L, w.before args s = true := by
  intro w hw
  by_cases g : goodWord w = true
  · exact h1 w (List.mem_filter.mpr ⟨hw, g⟩)
  · refine h3 w (h2 w (List.mem_filter.mpr ⟨hw, ?_⟩))
    show (!goodWord w) = true
    cases hgw : goodWord w
    · rfl
    · exact absurd hgw g
theorem vx_c {args : Array Value} {s : State} {w : Cond} {B : List Cond} (h : w.before args s = true) (t : ∀ w ∈ B, w.before args s = true) : ∀ w' ∈ w :: B, w'.before args s = true := fun w' h' => (List.mem_cons.mp h').elim (fun e => by rw [e]; exact h) (t w')
theorem vx_n {args : Array Value} {s : State} : ∀ w ∈ ([] : List Cond), w.before args s = true := fun _ h => nomatch h
theorem vx_own {args : Array Value} {s : State} {L : List Cond} (h1 : ∀ w ∈ L.filter vx_no, w.before args s = true)
    (hU : (Cond.isRef (.static Bundle.tN "UNASSIGNED_STACK" Bundle.steD)).before args s = true) (hN : (Cond.isRef (.static Bundle.tN "SUPPRESSED_SENTINEL" Bundle.listD)).before args s = true)
    (lU : (Cond.laysStatic Bundle.tN "UNASSIGNED_STACK" Bundle.steD).before args s = true) (lN : (Cond.laysStatic Bundle.tN "SUPPRESSED_SENTINEL" Bundle.listD).before args s = true) : ∀ w ∈ L, w.before args s = true := by
  intro w hw
  by_cases e1 : w = .isRef (.static Bundle.tN "UNASSIGNED_STACK" Bundle.steD)
  · rw [e1]; exact hU
  · by_cases e2 : w = .isRef (.static Bundle.tN "SUPPRESSED_SENTINEL" Bundle.listD)
    · rw [e2]; exact hN
    · by_cases e3 : w = .laysStatic Bundle.tN "UNASSIGNED_STACK" Bundle.steD
      · rw [e3]; exact lU
      · by_cases e4 : w = .laysStatic Bundle.tN "SUPPRESSED_SENTINEL" Bundle.listD
        · rw [e4]; exact lN
        · exact h1 w (List.mem_filter.mpr ⟨hw, by unfold vx_no; rw [decide_eq_true e1, decide_eq_true e2, decide_eq_true e3, decide_eq_true e4]; rfl⟩)
/-- where a static field lies, its class's statics cell in H -/
def vx_L (C n d : String) (A : Nat → Prop) (U : State) (H : Heap) : Prop := ∃ (c : ClassId) (k : Class) (i : Nat) (f : Field) (a : Nat) (cell : Cell), U.vm.findClass C = some c ∧ U.fieldFound? C n d = some (c, k, i, f) ∧ f.isStatic = true ∧ k.statics = some a ∧ H[a]? = some cell ∧ cell.vm.isStatics = true ∧ cell.cls = c ∧ f.slot < cell.slots.size ∧ k.staticTypes[f.slot]? = some f.type ∧ ¬ A a
theorem vx_L.moved {C n d : String} {A : Nat → Prop} {u U : State} {H : Heap} (hvm : u.vm.Alike U.vm) (h : vx_L C n d A u H) : vx_L C n d A U H := by
  obtain ⟨c, k, i, f, a, cell, h1, h2, h3, h4, h5, h6, h7, h8, h9, h10⟩ := h
  obtain ⟨k', hi', he⟩ := State.fieldFound?_setVm hvm h2
  exact ⟨c, k', i, f, a, cell, by rw [hvm.findClass]; exact h1, hi', h3, by rw [he]; exact h4, h5, h6, h7, h8, by rw [he]; exact h9, h10⟩
theorem vx_L.kept {C n d : String} {A : Nat → Prop} {U : State} {H H1 : Heap} (h : vx_L C n d A U H) (hq : ∀ a : Nat, a < H.size → ¬ A a → H1[a]? = H[a]?) : vx_L C n d A U H1 := by
  obtain ⟨c, k, i, f, a, cell, h1, h2, h3, h4, h5, h6, h7, h8, h9, h10⟩ := h
  exact ⟨c, k, i, f, a, cell, h1, h2, h3, h4, by rw [hq a (Array.getElem?_eq_some_iff.mp h5).1 h10]; exact h5, h6, h7, h8, h9, h10⟩
theorem vx_L.narrow {C n d : String} {A B : Nat → Prop} {U : State} {H : Heap} (h : vx_L C n d A U H) (hAB : ∀ q, B q → A q) : vx_L C n d B U H := by
  obtain ⟨c, k, i, f, a, cell, h1, h2, h3, h4, h5, h6, h7, h8, h9, h10⟩ := h
  exact ⟨c, k, i, f, a, cell, h1, h2, h3, h4, h5, h6, h7, h8, h9, fun z => h10 (hAB _ z)⟩
theorem vx_L.word {C n d : String} {A : Nat → Prop} {s : State} {args : Array Value} (h : vx_L C n d A s s.heap) : (Cond.laysStatic C n d).before args s = true := by
  obtain ⟨c, k, i, f, a, cell, h1, h2, h3, h4, h5, h6, h7, h8, h9, -⟩ := h
  show (Cond.laysStatic C n d).holds args s none s [] = true
  exact Cond.laysStatic_of h1 h2 h3 h4 h5 h6 h7 h8 h9
/-- .. and what it holds: null or some reference -/
def vx_Zq (C n d : String) (A : Nat → Prop) (U : State) (H : Heap) : Prop := va_Zq C n d A U H ∧ vx_L C n d A U H
theorem vx_Zq.moved {C n d : String} {A : Nat → Prop} {u U : State} {H : Heap} (hvm : u.vm.Alike U.vm) (h : vx_Zq C n d A u H) : vx_Zq C n d A U H := ⟨va_Zq.moved hvm h.1, vx_L.moved hvm h.2⟩
theorem vx_Zq.kept {C n d : String} {A : Nat → Prop} {U : State} {H H1 : Heap} (h : vx_Zq C n d A U H) (hq : ∀ a : Nat, a < H.size → ¬ A a → H1[a]? = H[a]?) : vx_Zq C n d A U H1 := ⟨va_Zq.kept h.1 hq, vx_L.kept h.2 hq⟩
theorem vx_Zq.narrow {C n d : String} {A B : Nat → Prop} {U : State} {H : Heap} (h : vx_Zq C n d A U H) (hAB : ∀ q, B q → A q) : vx_Zq C n d B U H := ⟨va_Zq.narrow h.1 hAB, vx_L.narrow h.2 hAB⟩
theorem vx_Zqof {args : Array Value} {s : State} {C n d : String} {A : Nat → Prop} (hl : (Cond.laysStatic C n d).before args s = true) (hini : (Cond.initialized C).before args s = true) (h : (Cond.isRef (.static C n d)).before args s = true) (hA : ∀ a : Nat, a < s.heap.size → ¬ A a) : vx_Zq C n d A s s.heap := by
  refine ⟨va_Zqof hl hini h hA, ?_⟩
  obtain ⟨c, k, i, f, a, cell, h1, h2, h3, h4, h5, h6, h7, h8, h9⟩ := Cond.laysStatic_spec hl
  exact ⟨c, k, i, f, a, cell, h1, h2, h3, h4, h5, h6, h7, h8, h9, hA a (Array.getElem?_eq_some_iff.mp h5).1⟩
theorem vx_isRef {C n d : String} {v : Value} {A : Nat → Prop} {s : State} {args : Array Value} (h : va_Z C n d v A s s.heap) (hv : v.isRef = true) : (Cond.isRef (.static C n d)).before args s = true := by
  obtain ⟨cf, kf, fi, f, a, cell, h1, h2, h3, h4, h5, h6, h7, -⟩ := h
  have he : (Term.static C n d).eval args s none [] s = some v := by
    simp [Term.eval, State.fieldNamed?, h1, h2, h4, h5, h6, h7]
  simp only [Cond.before, Cond.holds, Cond.value, he]
  cases v <;> simp_all [Value.isRef]
theorem vx_isRefq {C n d : String} {A : Nat → Prop} {s : State} {args : Array Value} (h : va_Zq C n d A s s.heap) : (Cond.isRef (.static C n d)).before args s = true := by
  rcases h with h | ⟨t, h⟩
  · exact vx_isRef h rfl
  · exact vx_isRef h rfl
/-- the same frame, seen from here: as if the method were called anew in this heap -/
theorem vx_rebase {T : State} (X : Stand p l e R s m args below meth c T locs cells slots) {R' : Room} (hf : R'.frames ≤ R.frames) (hl : R'.locals ≤ R.locals) (hc : cells + R'.cells ≤ R.cells) (hs : slots + R'.slots ≤ R.slots) :
    Stand p l e R' ((T.setVm s.vm).setFrames (.invoking m args :: below)) m args below meth c T [] 0 0 := by
  have htop : (T.setVm s.vm).topJava?.isSome := X.here.top
  have hF : ((T.setVm s.vm).setFrames (.invoking m args :: below)).frames = .invoking m args :: below := State.frames_setFrames _ (State.cur_lt_of_top htop)
  obtain ⟨g₀, hg0⟩ := Option.isSome_iff_exists.mp htop
  obtain ⟨r, hr⟩ := State.topJava?_eq_some.mp hg0
  have hl9 : e.platform.stackLimits (T.setVm s.vm).me = e.platform.stackLimits s.me := X.limits
  have hb9 : (T.setVm s.vm).me.stackBytes = s.me.stackBytes := X.bytes
  refine ⟨X.admits, X.cas, X.clock, hF, ?_, X.hears, X.method, X.code, X.here, X.tail, X.warmed, ?_, ?_, ?_⟩
  · have h := X.room
    have hU : ((T.setVm s.vm).setFrames (.invoking m args :: below)).localsInUse = s.localsInUse := by
      rw [State.localsInUse_invoking hF (meth := meth) (c := c) X.method X.code, State.localsInUse_invoking X.frames X.method X.code]
    simp only [State.hasRoom, Bool.and_eq_true, decide_eq_true_eq] at h ⊢
    obtain ⟨⟨⟨⟨h1, h2, h3, h4, h5, h6⟩, h7⟩, h8⟩, h9⟩ := h
    rw [X.frames, List.length_cons] at h2 h3
    have q1 := X.heapSize
    have q2 := X.used
    simp only [hF, hU, List.length_cons, State.stackLimits_setFrames, State.stackBytes_setFrames, hl9, hb9]
    refine ⟨⟨⟨⟨by omega, by omega, by omega, by omega, by omega, h6⟩, ?_⟩, ?_⟩, X.book⟩
    · show T.heap.size + R'.cells ≤ e.platform.maxCells
      omega
    · show T.slotsUsed + R'.slots ≤ e.platform.maxSlots
      omega
  · rw [State.stackLimits_setFrames]; rfl
  · rw [State.stackBytes_setFrames]; rfl
  · refine ⟨?_, Nat.le_refl _, Nat.le_refl _, ?_, ?_, fun a c9 h9 => ⟨c9, h9, rfl, rfl, fun _ _ => rfl⟩⟩
    · obtain ⟨t, ht, -⟩ := State.frames_cons hr
      show T.setVm s.vm = { ((T.setVm s.vm).setFrames (.invoking m args :: below)).setFrames (T.setVm s.vm).frames with heap := T.heap, slotsUsed := T.slotsUsed }
      rw [State.setFrames_setFrames, State.setFrames_self ht]
      rfl
    · show T.slotsUsed = T.slotsUsed + ((T.heap.toList.drop T.heap.size).map (·.slots.size)).sum
      rw [List.drop_eq_nil_of_le (Nat.le_of_eq Array.length_toList)]
      rfl
    · show ((T.heap.toList.drop T.heap.size).map (·.slots.size)).sum ≤ 0
      rw [List.drop_eq_nil_of_le (Nat.le_of_eq Array.length_toList)]
      exact Nat.le_refl _
/-- 'throw new E()': new; dup; invokespecial; athrow -/
theorem vx_throw0 {cc : ByteArray} {pc : Nat} (hexec : p.tables.exec = Jvm.exec) (hb : c.code = cc) (hl : l.stackTraces = false) {own cls : String} {names : List String} {ik ic mc ms : Nat} {A : Nat → Prop}
    (hown : s.vm.findClass own = some m.cls) (hcls : Bundle.fit cls = true) (hnames : ∀ n ∈ names, Bundle.fit n = true)
    (hk : (Cond.classLink own ik cls).before args s = true) (hini : (Cond.initialized cls).before args s = true) (hat : ∀ w ∈ vx_at0 own ic cls names, w.before args s = true)
    (hgood : ∀ w ∈ Cond.classLink own ik cls :: Cond.initialized cls :: vx_at0 own ic cls names, vx_ot w = true)
    (hU : vx_Zq Bundle.tN "UNASSIGNED_STACK" Bundle.steD A s s.heap) (hN : vx_Zq Bundle.tN "SUPPRESSED_SENTINEL" Bundle.listD A s s.heap) (hS : va_S A s.heap H locs) (hsize : ls.size = c.maxLocals)
    (d0 : decode cc pc = .ok (.new ik, 3)) (d3 : decode cc (pc + 3) = .ok (.dup, 1)) (d4 : decode cc (pc + 4) = .ok (.invokespecial ic, 3)) (d7 : decode cc (pc + 7) = .ok (.athrow, 1))
    (hout : ∀ x ∈ c.exceptionTable.toList, covers x (pc + 7) = false)
    (hRframes : names.length + 3 < R.frames) (hRlocals : (rest.map fun v => v.category).sum + (13 * (names.length + 1) + 42) ≤ R.locals) (hRcells : cells + 1 ≤ R.cells) (hRslots : slots + 6 ≤ R.slots) (hlocks : meth.locks = false)
    (hx : ∀ t : State, s.vm.Alike t.vm → H.size ≤ t.heap.size → (∀ q : Nat, q < H.size → t.heap[q]? = H[q]?) → XC cls s t)
    (hf : ∀ z ∈ locs, free z.base) (hc : cells + 1 ≤ mc) (hs : slots + 6 ≤ ms) :
    W p l e R s m args below meth c H locs cells slots (vx_MQ below Qc XC args s mc ms free) (F0 m pc ls rest) := by
  intro T hT X
  have htr : e.platform.stackTraces = false := (show e.platform.stackTraces = l.stackTraces by rw [X.admits.platform]).trans hl
  have Y := vx_rebase X (R' := { frames := R.frames, locals := R.locals, cells := 1, slots := 6 }) (Nat.le_refl _) (Nat.le_refl _) hRcells hRslots
  obtain ⟨s', hA⟩ : ∃ z, z = (T.setVm s.vm).setFrames (.invoking m args :: below) := ⟨_, rfl⟩
  rw [← hA] at Y
  have hvm : s'.vm = s.vm := by rw [hA]; rfl
  have hhp : s'.heap = H := by rw [hA]; exact hT
  have hW0 : s.WarmedH s'.vm := by rw [hvm]; exact State.WarmedH.refl s
  have hat' : ∀ w ∈ vx_at0 own ic cls names, w.before args s' = true := fun w hw => vx_ot_at hW0 hvm.symm (hgood w (List.mem_cons_of_mem _ (List.mem_cons_of_mem _ hw))) (hat w hw)
  have hk' : (Cond.classLink own ik cls).before args s' = true := vx_ot_at hW0 hvm.symm (hgood _ List.mem_cons_self) hk
  have hini' : (Cond.initialized cls).before args s' = true := vx_ot_at hW0 hvm.symm (hgood _ (List.mem_cons_of_mem _ List.mem_cons_self)) hini
  have hU' : vx_Zq Bundle.tN "UNASSIGNED_STACK" Bundle.steD A s' s'.heap := by rw [hhp]; exact vx_Zq.moved hW0.alike (hU.kept hS.2.1)
  have hN' : vx_Zq Bundle.tN "SUPPRESSED_SENTINEL" Bundle.listD A s' s'.heap := by rw [hhp]; exact vx_Zq.moved hW0.alike (hN.kept hS.2.1)
  have h : ∀ w ∈ Bundle.ownAtoms0 own ic cls names, w.before args s' = true := vx_own hat' (vx_isRefq hU'.1) (vx_isRefq hN'.1) hU'.2.word hN'.2.word
  have hown' : s'.vm.findClass own = some m.cls := by rw [hvm]; exact hown
  have hins : (Cond.instantiable cls 6).before args s' = true := h _ (by simp [Bundle.ownAtoms0])
  obtain ⟨vm₁, cX, kX, hfX, hkX, -, -, X₁, st1⟩ := Y.newCold hexec (own := own) (C := cls) (index := ik) (n := 6) hown' hk' hins hini'
    (g := F0 m pc ls rest) rfl (by rw [hb]; exact d0) (Nat.le_refl _) (Nat.le_refl _)
  generalize hT1 : (T.setVm vm₁).pushCell { cls := cX, slots := kX.instanceTypes.map defaultValue, vm := .none } = T1 at X₁ st1
  have hcat : (Value.ref T.heap.size).category = 1 := rfl
  have hcellA : T1.heap[T.heap.size]? = some (freshCell cX kX) := by rw [← hT1]; exact State.heap_pushCell_size _ _
  have d3' : decode c.code (pc + 3) = .ok (.dup, 1) := by rw [hb]; exact d3
  obtain ⟨U, hsteps, hrun, hend, hW, hsame, ce, hce, hO⟩ := X₁.ctorThrow0 hexec htr (own := own) (cls := cls) (names := names) (ic := ic) hown' hcls hnames h (fun x hx => nomatch hx) hfX hkX hcellA (by rw [hhp, hT]; exact Nat.le_refl _)
    (g := { method := m, pc := pc + 4, locals := ls, stack := .ref T.heap.size :: .ref T.heap.size :: rest, locked := none }) rfl hsize rfl rfl (rest := rest) rfl
    (by rw [hb]; exact d4) (by rw [hb]; exact d7) hout hRframes (by simp only [List.map_cons, List.sum_cons, hcat]; omega) hlocks
  obtain ⟨f1, f2⟩ := vx_frame hsame
  rw [hhp] at f1 f2
  have hWs : s.WarmedH U.vm := State.WarmedH.trans hW0 hW
  have hcl : s.vm.findClass cls = some ce.cls := by
    have h9 := hO.cls
    rw [hvm] at h9
    exact h9
  have hall : s.sameButNew ({ U with vm := s.vm } : State) locs mc ms := by
    subst hA
    obtain ⟨e1, e2⟩ := hsame
    rw [State.setFrames_setFrames] at e1
    have h2 : (T.setVm s.vm).sameButNew ({ U with vm := s.vm } : State) [] (0 + 1) (0 + 6) := ⟨e1, e2⟩
    have h3 := X.same.trans h2
    rw [List.append_nil] at h3
    exact h3.mono hc hs
  refine ⟨U, ?_, .threw T.heap.size, hrun, hend, Or.inr ⟨T.heap.size, rfl, cls, ce, locs, hx U hWs.alike f1 (fun q hq => f2 q hq (fun z hz => nomatch hz)), hce, hO.vm, hcl, hWs, hall, hf⟩⟩
  refine st1 _ ?_
  show Steps p.tables e below (T1.setTop { method := m, pc := pc + 3, locals := ls, stack := .ref T.heap.size :: rest, locked := none }) _
  jvm_step X₁.here [X₁.here.top, hexec, d3', Value.category]
  exact hsteps
/-- 'throw new E("text")': new; dup; ldc; invokespecial; athrow -/
theorem vx_throwS {cc : ByteArray} {pc : Nat} (hexec : p.tables.exec = Jvm.exec) (hb : c.code = cc) (hl : l.stackTraces = false) {own cls text : String} {names : List String} {ik is ic mc ms sa : Nat} {A : Nat → Prop}
    (hown : s.vm.findClass own = some m.cls) (hcls : Bundle.fit cls = true) (hnames : ∀ n ∈ names, Bundle.fit n = true)
    (hk : (Cond.classLink own ik cls).before args s = true) (hini : (Cond.initialized cls).before args s = true) (hstr : vk_R own is text sa s) (hat : ∀ w ∈ vx_atS own ic cls names, w.before args s = true)
    (hgood : ∀ w ∈ Cond.classLink own ik cls :: Cond.initialized cls :: vx_atS own ic cls names, vx_ot w = true)
    (hU : vx_Zq Bundle.tN "UNASSIGNED_STACK" Bundle.steD A s s.heap) (hN : vx_Zq Bundle.tN "SUPPRESSED_SENTINEL" Bundle.listD A s s.heap) (hS : va_S A s.heap H locs) (hsize : ls.size = c.maxLocals)
    (d0 : decode cc pc = .ok (.new ik, 3)) (d3 : decode cc (pc + 3) = .ok (.dup, 1)) (d4 : decode cc (pc + 4) = .ok (.ldc is, 2)) (d6 : decode cc (pc + 6) = .ok (.invokespecial ic, 3)) (d9 : decode cc (pc + 9) = .ok (.athrow, 1))
    (hout : ∀ x ∈ c.exceptionTable.toList, covers x (pc + 9) = false)
    (hRframes : names.length + 3 < R.frames) (hRlocals : (rest.map fun v => v.category).sum + (13 * (names.length + 1) + 43) ≤ R.locals) (hRcells : cells + 1 ≤ R.cells) (hRslots : slots + 6 ≤ R.slots) (hlocks : meth.locks = false)
    (hx : ∀ t : State, s.vm.Alike t.vm → H.size ≤ t.heap.size → (∀ q : Nat, q < H.size → t.heap[q]? = H[q]?) → XC cls s t)
    (hf : ∀ z ∈ locs, free z.base) (hc : cells + 1 ≤ mc) (hs : slots + 6 ≤ ms) :
    W p l e R s m args below meth c H locs cells slots (vx_MQ below Qc XC args s mc ms free) (F0 m pc ls rest) := by
  intro T hT X
  have htr : e.platform.stackTraces = false := (show e.platform.stackTraces = l.stackTraces by rw [X.admits.platform]).trans hl
  have Y := vx_rebase X (R' := { frames := R.frames, locals := R.locals, cells := 1, slots := 6 }) (Nat.le_refl _) (Nat.le_refl _) hRcells hRslots
  obtain ⟨s', hA⟩ : ∃ z, z = (T.setVm s.vm).setFrames (.invoking m args :: below) := ⟨_, rfl⟩
  rw [← hA] at Y
  have hvm : s'.vm = s.vm := by rw [hA]; rfl
  have hhp : s'.heap = H := by rw [hA]; exact hT
  have hW0 : s.WarmedH s'.vm := by rw [hvm]; exact State.WarmedH.refl s
  have hat' : ∀ w ∈ vx_atS own ic cls names, w.before args s' = true := fun w hw => vx_ot_at hW0 hvm.symm (hgood w (List.mem_cons_of_mem _ (List.mem_cons_of_mem _ hw))) (hat w hw)
  have hk' : (Cond.classLink own ik cls).before args s' = true := vx_ot_at hW0 hvm.symm (hgood _ List.mem_cons_self) hk
  have hini' : (Cond.initialized cls).before args s' = true := vx_ot_at hW0 hvm.symm (hgood _ (List.mem_cons_of_mem _ List.mem_cons_self)) hini
  have hU' : vx_Zq Bundle.tN "UNASSIGNED_STACK" Bundle.steD A s' s'.heap := by rw [hhp]; exact vx_Zq.moved hW0.alike (hU.kept hS.2.1)
  have hN' : vx_Zq Bundle.tN "SUPPRESSED_SENTINEL" Bundle.listD A s' s'.heap := by rw [hhp]; exact vx_Zq.moved hW0.alike (hN.kept hS.2.1)
  have h : ∀ w ∈ Bundle.ownAtoms own ic cls names, w.before args s' = true := vx_own hat' (vx_isRefq hU'.1) (vx_isRefq hN'.1) hU'.2.word hN'.2.word
  have hown' : s'.vm.findClass own = some m.cls := by rw [hvm]; exact hown
  have hins : (Cond.instantiable cls 6).before args s' = true := h _ (by simp [Bundle.ownAtoms])
  obtain ⟨vm₁, cX, kX, hfX, hkX, -, -, X₁, st1⟩ := Y.newCold hexec (own := own) (C := cls) (index := ik) (n := 6) hown' hk' hins hini'
    (g := F0 m pc ls rest) rfl (by rw [hb]; exact d0) (Nat.le_refl _) (Nat.le_refl _)
  generalize hT1 : (T.setVm vm₁).pushCell { cls := cX, slots := kX.instanceTypes.map defaultValue, vm := .none } = T1 at X₁ st1
  have hcat : (Value.ref T.heap.size).category = 1 := rfl
  have hcellA : T1.heap[T.heap.size]? = some (freshCell cX kX) := by rw [← hT1]; exact State.heap_pushCell_size _ _
  have d3' : decode c.code (pc + 3) = .ok (.dup, 1) := by rw [hb]; exact d3
  have d4' : decode c.code (pc + 4) = .ok (.ldc is, 2) := by rw [hb]; exact d4
  have hstr' : vk_R own is text sa s' := vk_R.warm hW0 hstr
  obtain ⟨U, hsteps, hrun, hend, hW, hsame, ce, hce, hO⟩ := X₁.ctorThrowS hexec htr (own := own) (cls := cls) (names := names) (ic := ic) hown' hcls hnames h (fun x hx => nomatch hx) hfX hkX hcellA (by rw [hhp, hT]; exact Nat.le_refl _) (msg := .ref sa) rfl
    (g := { method := m, pc := pc + 6, locals := ls, stack := .ref sa :: .ref T.heap.size :: .ref T.heap.size :: rest, locked := none }) rfl hsize rfl rfl (rest := rest) rfl
    (by rw [hb]; exact d6) (by rw [hb]; exact d9) hout hRframes (by simp only [List.map_cons, List.sum_cons, hcat]; omega) hlocks
  obtain ⟨f1, f2⟩ := vx_frame hsame
  rw [hhp] at f1 f2
  have hWs : s.WarmedH U.vm := State.WarmedH.trans hW0 hW
  have hcl : s.vm.findClass cls = some ce.cls := by
    have h9 := hO.cls
    rw [hvm] at h9
    exact h9
  have hall : s.sameButNew ({ U with vm := s.vm } : State) locs mc ms := by
    subst hA
    obtain ⟨e1, e2⟩ := hsame
    rw [State.setFrames_setFrames] at e1
    have h2 : (T.setVm s.vm).sameButNew ({ U with vm := s.vm } : State) [] (0 + 1) (0 + 6) := ⟨e1, e2⟩
    have h3 := X.same.trans h2
    rw [List.append_nil] at h3
    exact h3.mono hc hs
  refine ⟨U, ?_, .threw T.heap.size, hrun, hend, Or.inr ⟨T.heap.size, rfl, cls, ce, locs, hx U hWs.alike f1 (fun q hq => f2 q hq (fun z hz => nomatch hz)), hce, hO.vm, hcl, hWs, hall, hf⟩⟩
  refine st1 _ ?_
  show Steps p.tables e below (T1.setTop { method := m, pc := pc + 3, locals := ls, stack := .ref T.heap.size :: rest, locked := none }) _
  jvm_step X₁.here [X₁.here.top, hexec, d3', Value.category]
  exact X₁.ldcString hexec (own := own) (text := text) (index := is) (a := sa) hown' hstr'.1 hstr'.2
    (g := { method := m, pc := pc + 4, locals := ls, stack := .ref T.heap.size :: .ref T.heap.size :: rest, locked := none }) rfl d4' _ hsteps
/-- 'throw new E("text")', the text by a wide index -/
theorem vx_throwSW {cc : ByteArray} {pc : Nat} (hexec : p.tables.exec = Jvm.exec) (hb : c.code = cc) (hl : l.stackTraces = false) {own cls text : String} {names : List String} {ik is ic mc ms sa : Nat} {A : Nat → Prop}
    (hown : s.vm.findClass own = some m.cls) (hcls : Bundle.fit cls = true) (hnames : ∀ n ∈ names, Bundle.fit n = true)
    (hk : (Cond.classLink own ik cls).before args s = true) (hini : (Cond.initialized cls).before args s = true) (hstr : vk_R own is text sa s) (hat : ∀ w ∈ vx_atS own ic cls names, w.before args s = true)
    (hgood : ∀ w ∈ Cond.classLink own ik cls :: Cond.initialized cls :: vx_atS own ic cls names, vx_ot w = true)
    (hU : vx_Zq Bundle.tN "UNASSIGNED_STACK" Bundle.steD A s s.heap) (hN : vx_Zq Bundle.tN "SUPPRESSED_SENTINEL" Bundle.listD A s s.heap) (hS : va_S A s.heap H locs) (hsize : ls.size = c.maxLocals)
    (d0 : decode cc pc = .ok (.new ik, 3)) (d3 : decode cc (pc + 3) = .ok (.dup, 1)) (d4 : decode cc (pc + 4) = .ok (.ldc_w is, 3)) (d7 : decode cc (pc + 7) = .ok (.invokespecial ic, 3)) (d10 : decode cc (pc + 10) = .ok (.athrow, 1))
    (hout : ∀ x ∈ c.exceptionTable.toList, covers x (pc + 10) = false)
    (hRframes : names.length + 3 < R.frames) (hRlocals : (rest.map fun v => v.category).sum + (13 * (names.length + 1) + 43) ≤ R.locals) (hRcells : cells + 1 ≤ R.cells) (hRslots : slots + 6 ≤ R.slots) (hlocks : meth.locks = false)
    (hx : ∀ t : State, s.vm.Alike t.vm → H.size ≤ t.heap.size → (∀ q : Nat, q < H.size → t.heap[q]? = H[q]?) → XC cls s t)
    (hf : ∀ z ∈ locs, free z.base) (hc : cells + 1 ≤ mc) (hs : slots + 6 ≤ ms) :
    W p l e R s m args below meth c H locs cells slots (vx_MQ below Qc XC args s mc ms free) (F0 m pc ls rest) := by
  intro T hT X
  have htr : e.platform.stackTraces = false := (show e.platform.stackTraces = l.stackTraces by rw [X.admits.platform]).trans hl
  have Y := vx_rebase X (R' := { frames := R.frames, locals := R.locals, cells := 1, slots := 6 }) (Nat.le_refl _) (Nat.le_refl _) hRcells hRslots
  obtain ⟨s', hA⟩ : ∃ z, z = (T.setVm s.vm).setFrames (.invoking m args :: below) := ⟨_, rfl⟩
  rw [← hA] at Y
  have hvm : s'.vm = s.vm := by rw [hA]; rfl
  have hhp : s'.heap = H := by rw [hA]; exact hT
  have hW0 : s.WarmedH s'.vm := by rw [hvm]; exact State.WarmedH.refl s
  have hat' : ∀ w ∈ vx_atS own ic cls names, w.before args s' = true := fun w hw => vx_ot_at hW0 hvm.symm (hgood w (List.mem_cons_of_mem _ (List.mem_cons_of_mem _ hw))) (hat w hw)
  have hk' : (Cond.classLink own ik cls).before args s' = true := vx_ot_at hW0 hvm.symm (hgood _ List.mem_cons_self) hk
  have hini' : (Cond.initialized cls).before args s' = true := vx_ot_at hW0 hvm.symm (hgood _ (List.mem_cons_of_mem _ List.mem_cons_self)) hini
  have hU' : vx_Zq Bundle.tN "UNASSIGNED_STACK" Bundle.steD A s' s'.heap := by rw [hhp]; exact vx_Zq.moved hW0.alike (hU.kept hS.2.1)
  have hN' : vx_Zq Bundle.tN "SUPPRESSED_SENTINEL" Bundle.listD A s' s'.heap := by rw [hhp]; exact vx_Zq.moved hW0.alike (hN.kept hS.2.1)
  have h : ∀ w ∈ Bundle.ownAtoms own ic cls names, w.before args s' = true := vx_own hat' (vx_isRefq hU'.1) (vx_isRefq hN'.1) hU'.2.word hN'.2.word
  have hown' : s'.vm.findClass own = some m.cls := by rw [hvm]; exact hown
  have hins : (Cond.instantiable cls 6).before args s' = true := h _ (by simp [Bundle.ownAtoms])
  obtain ⟨vm₁, cX, kX, hfX, hkX, -, -, X₁, st1⟩ := Y.newCold hexec (own := own) (C := cls) (index := ik) (n := 6) hown' hk' hins hini'
    (g := F0 m pc ls rest) rfl (by rw [hb]; exact d0) (Nat.le_refl _) (Nat.le_refl _)
  generalize hT1 : (T.setVm vm₁).pushCell { cls := cX, slots := kX.instanceTypes.map defaultValue, vm := .none } = T1 at X₁ st1
  have hcat : (Value.ref T.heap.size).category = 1 := rfl
  have hcellA : T1.heap[T.heap.size]? = some (freshCell cX kX) := by rw [← hT1]; exact State.heap_pushCell_size _ _
  have d3' : decode c.code (pc + 3) = .ok (.dup, 1) := by rw [hb]; exact d3
  have d4' : decode c.code (pc + 4) = .ok (.ldc_w is, 3) := by rw [hb]; exact d4
  have hstr' : vk_R own is text sa s' := vk_R.warm hW0 hstr
  obtain ⟨U, hsteps, hrun, hend, hW, hsame, ce, hce, hO⟩ := X₁.ctorThrowS hexec htr (own := own) (cls := cls) (names := names) (ic := ic) hown' hcls hnames h (fun x hx => nomatch hx) hfX hkX hcellA (by rw [hhp, hT]; exact Nat.le_refl _) (msg := .ref sa) rfl
    (g := { method := m, pc := pc + 7, locals := ls, stack := .ref sa :: .ref T.heap.size :: .ref T.heap.size :: rest, locked := none }) rfl hsize rfl rfl (rest := rest) rfl
    (by rw [hb]; exact d7) (by rw [hb]; exact d10) hout hRframes (by simp only [List.map_cons, List.sum_cons, hcat]; omega) hlocks
  obtain ⟨f1, f2⟩ := vx_frame hsame
  rw [hhp] at f1 f2
  have hWs : s.WarmedH U.vm := State.WarmedH.trans hW0 hW
  have hcl : s.vm.findClass cls = some ce.cls := by
    have h9 := hO.cls
    rw [hvm] at h9
    exact h9
  have hall : s.sameButNew ({ U with vm := s.vm } : State) locs mc ms := by
    subst hA
    obtain ⟨e1, e2⟩ := hsame
    rw [State.setFrames_setFrames] at e1
    have h2 : (T.setVm s.vm).sameButNew ({ U with vm := s.vm } : State) [] (0 + 1) (0 + 6) := ⟨e1, e2⟩
    have h3 := X.same.trans h2
    rw [List.append_nil] at h3
    exact h3.mono hc hs
  refine ⟨U, ?_, .threw T.heap.size, hrun, hend, Or.inr ⟨T.heap.size, rfl, cls, ce, locs, hx U hWs.alike f1 (fun q hq => f2 q hq (fun z hz => nomatch hz)), hce, hO.vm, hcl, hWs, hall, hf⟩⟩
  refine st1 _ ?_
  show Steps p.tables e below (T1.setTop { method := m, pc := pc + 3, locals := ls, stack := .ref T.heap.size :: rest, locked := none }) _
  jvm_step X₁.here [X₁.here.top, hexec, d3', Value.category]
  exact X₁.ldcStringW hexec (own := own) (text := text) (index := is) (a := sa) hown' hstr'.1 hstr'.2
    (g := { method := m, pc := pc + 4, locals := ls, stack := .ref T.heap.size :: .ref T.heap.size :: rest, locked := none }) rfl d4' _ hsteps
end Ends
section Bodies
variable {l : Launch}
theorem vx_ofW {y : MethodName} {ws ws' : List Cond} {rm : Room} {Pc : Array Value → State → Prop} {Qc : Array Value → State → Outcome → State → Prop} {XC : String → State → State → Prop} {mc ms : Nat} {free : Addr → Prop} {cc : ByteArray} {maxL : Nat} {ret : Option FieldType}
    (hy : plainName y.cls = true) (hw : ws = Cond.code y cc maxL ret :: ws')
    (body : ∀ p e s m args below meth c s₁, BodyLoose p l y (headSpec ws rm) cc maxL ret e s m args below meth c s₁ → c.maxLocals = maxL → (∀ x ∈ c.exceptionTable.toList, False) → Pc args s →
      W p l e (headSpec ws rm).room s m args below meth c s.heap [] 0 0 (vx_MQ below Qc XC args s mc ms free) (entryFrame m args maxL)) : vx_Met l y ws rm Pc Qc XC mc ms free := by
  refine MetFree.of_bodyS (code := cc) (maxLocals := maxL) (ret := ret) hy ?_ ?_
  · intro args s m h hn
    obtain ⟨meth, c, h1, h2, h3, h4, h5, h6, -, -⟩ := Cond.code_spec hn (atoms_spec (ws := ws) h _ (by rw [hw]; exact List.mem_cons_self))
    exact ⟨meth, c, h1, h2, h3, h4, h5, h6⟩
  · intro p e s m args below meth c s₁ B hml hP _
    have hh0 : s₁.heap = s.heap := by rw [B.state]; rfl
    have ht : ∀ x ∈ c.exceptionTable.toList, False := by
      obtain ⟨meth9, c9, h1, h2, -, -, -, -, h7, -⟩ := Cond.code_spec B.named (atoms_spec (ws := ws) B.pre _ (by rw [hw]; exact List.mem_cons_self))
      cases Option.some.inj (h1.symm.trans B.method)
      cases Option.some.inj (h2.symm.trans (Stand.of_body B).code)
      intro x hx
      rw [Array.isEmpty_iff.mp h7] at hx
      cases hx
    obtain ⟨t, a1, o, b1, b2, b3⟩ := body p e s m args below meth c s₁ B hml ht hP s₁ hh0 (Stand.of_body B)
    exact ⟨t, o, a1, b1, b2, b3⟩
/-- the table of a body with handlers -/
theorem vx_table {p : Program} {x y : MethodName} {S : Spec} {cc bytes : ByteArray} {maxL maxL' : Nat} {ret ret' : Option FieldType} {e : Env} {s s₁ : State} {m : MethodId} {args : Array Value} {below : List Frame} {meth : Method} {c : Code} {hh : List (Nat × Nat × Nat × Nat)}
    (B : BodyLoose p l y S cc maxL ret e s m args below meth c s₁) (h : (Cond.codeWith y bytes maxL' ret' hh).before args s = true) : c.exceptionTable.toList = tableOf hh := by
  obtain ⟨m9, meth9, c9, hn9, h1, h2, -, -, h6, -⟩ := Cond.codeWith_spec h
  cases Option.some.inj (hn9.symm.trans B.named)
  cases Option.some.inj (h1.symm.trans B.method)
  cases Option.some.inj (h2.symm.trans (Stand.of_body B).code)
  rw [← h6, table_eq]
end Bodies
end VXA
/-! ===== END ===== -/
/-! ===== BEGIN a static call of a method with an exception table ===== -/
section VXS
variable {p : Program} {l : Launch} {e : Env} {R : Room} {s : State} {m : MethodId} {args : Array Value} {below : List Frame} {meth : Method} {c : Code} {T : State} {H : Heap} {locs : List Loc} {cells slots : Nat}
abbrev vx_CSW (R : Room) (s : State) (args : Array Value) (own : String) (index : Nat) (y : MethodName) (bytes : ByteArray) (maxL : Nat) (ret : Option FieldType) (hh : List (Nat × Nat × Nat × Nat)) (ws : List Cond) (rm : Room) (mc ms n : Nat) : Prop :=
  (rm.cells = mc ∧ rm.slots = ms ∧ rm.frames + 1 ≤ R.frames ∧ 8 + (maxL + 11) + rm.locals ≤ R.locals ∧ (∀ w ∈ ws, ∀ (a' : Array Value) (U : State), s.WarmedH U.vm → w.before a' U = true) ∧ Cond.codeWith y bytes maxL ret hh ∈ ws) ∧
  (Cond.codeWith y bytes maxL ret hh).before args s = true ∧ (Cond.initialized y.cls).before args s = true ∧ (y.cls ≠ "java/lang/invoke/MethodHandle" ∧ y.cls ≠ "java/lang/invoke/VarHandle") ∧
  (∀ sig, parseMethodDescriptor y.desc = some sig → n = sig.parameters.length) ∧ (Cond.methodLink own index y).before args s = true ∧ (Cond.static y).before args s = true
theorem vx_cwSW {own : String} {index maxL mc ms : Nat} {y : MethodName} {bytes : ByteArray} {ret : Option FieldType} {hh : List (Nat × Nat × Nat × Nat)} {Ts ws ws' : List Cond} {rm : Room} (n : Nat) (ht : ∀ w ∈ Ts, w.before args s = true) (hT : GoodIn Ts (va_wsS own index y ws)) (hw : ws = Cond.codeWith y bytes maxL ret hh :: ws') (hrc : rm.cells = mc) (hrs : rm.slots = ms)
    (hd : y.cls ≠ "java/lang/invoke/MethodHandle" ∧ y.cls ≠ "java/lang/invoke/VarHandle" ∧ (parseMethodDescriptor y.desc).map (fun d => d.parameters.length) = some n) (hR : rm.frames + 1 ≤ R.frames ∧ 8 + (maxL + 11) + rm.locals ≤ R.locals) :
    vx_CSW R s args own index y bytes maxL ret hh ws rm mc ms n := by
  have ok : ∀ w ∈ va_wsS own index y ws, w.before args s = true := fun w h => ht w (hT w h).1
  have hG : GoodIn Ts ws := fun w h => hT w (by unfold va_wsS; exact List.mem_append_right _ h)
  have hc : Cond.codeWith y bytes maxL ret hh ∈ ws := by rw [hw]; exact List.mem_cons_self
  refine ⟨⟨hrc, hrs, hR.1, hR.2, pay_in ht hG, hc⟩, ht _ (hG _ hc).1, ok _ (by simp [va_wsS]), ⟨hd.1, hd.2.1⟩, fun sig h => ?_, ok _ (by simp [va_wsS]), ok _ (by simp [va_wsS])⟩
  have h2 := hd.2.2
  rw [h] at h2
  exact (Option.some.inj h2).symm
theorem vx_callSW (X : Stand p l e R s m args below meth c T locs cells slots) (hexec : p.tables.exec = Jvm.exec) {own : String} {index : Nat} {y : MethodName} {bytes : ByteArray} {maxL : Nat} {ret : Option FieldType} {hh : List (Nat × Nat × Nat × Nat)}
    (hown : s.vm.findClass own = some m.cls) (hlink : (Cond.methodLink own index y).before args s = true) (hstat : (Cond.static y).before args s = true) (hinit : (Cond.initialized y.cls).before args s = true)
    (hcode : (Cond.codeWith y bytes maxL ret hh).before args s = true) (hy : y.cls ≠ "java/lang/invoke/MethodHandle" ∧ y.cls ≠ "java/lang/invoke/VarHandle")
    {W9 : Nat} {Pre : Pt → Array Value → Prop} {Post : Pt → Array Value → Option Value → Pt → Prop} (hK : Back l R p e below s args y 3 W9 Pre Post)
    {g : JFrame} (hg : g.method = m) (hsize : g.locals.size = c.maxLocals) {argsL rest : List Value} (hlen : ∀ sig, parseMethodDescriptor y.desc = some sig → argsL.length = sig.parameters.length)
    (hstack : g.stack = argsL.reverse ++ rest) (hW : 2 * g.monitorRoom + (rest.map fun v => v.category).sum ≤ W9) (hdg : decode c.code g.pc = .ok (.invokestatic index, 3))
    (hpre : ∀ vm₁, s.WarmedH vm₁ → Pre ⟨T.setVm vm₁, locs, cells, slots⟩ argsL.toArray) :
    ∃ (v : Option Value) (vm₁ : Vm) (B : Pt), s.WarmedH vm₁ ∧ Stand p l e R s m args below meth c B.U B.locs B.cells B.slots ∧ Post ⟨T.setVm vm₁, locs, cells, slots⟩ argsL.toArray v B ∧
      ∀ target, Steps p.tables e below (B.U.setTop { g with pc := g.pc + 3, stack := v.toList ++ rest }) target → Steps p.tables e below (T.setTop g) target := by
  obtain ⟨mk, methM, cM, hnamed, hmethM, -, -, -, -, -, -, hsigM⟩ := Cond.codeWith_spec hcode
  have hstatic : methM.isStatic = true := Cond.static_spec hnamed hmethM hstat
  obtain ⟨kP, hkP, -⟩ := className_of_methodNamed hnamed
  have hinitP : kP.init = .initialized := Cond.initialized_spec (findClass_of_methodNamed hnamed) hkP hinit
  obtain ⟨vm₁, X₁, hstep₁⟩ := X.invokestatic hexec hown hlink hnamed hmethM hstatic hkP hinitP hy (g := g) hg (argsL := argsL) (rest := rest) (hlen _ hsigM) hstack hdg
  obtain ⟨v, B, X', hpost, hsteps⟩ := hK m meth c ⟨T.setVm vm₁, locs, cells, slots⟩ { g with stack := rest } (.invokestatic index) mk argsL.toArray X₁ hg hsize hdg hW (X₁.named hnamed) (hpre vm₁ X₁.warmed)
  exact ⟨v, vm₁, B, X₁.warmed, X', hpost, fun target h => hstep₁ _ fun acts => by rw [doInvoke_state]; exact hsteps.trans h⟩
theorem vx_runSW {y : MethodName} {bytes cc : ByteArray} {maxL nL mc ms n index : Nat} {ret : Option FieldType} {hh : List (Nat × Nat × Nat × Nat)} {ws : List Cond} {rm : Room} {Pc : Array Value → State → Prop} {Qc : Array Value → State → Outcome → State → Prop} {free : Addr → Prop} {Ts : List Cond} {own : String} {As rest : List Value} {g : JFrame}
    (S : CallFix p m c cc nL s args Ts own) (hM : Met l y ws rm Pc Qc mc ms free) (cw : vx_CSW R s args own index y bytes maxL ret hh ws rm mc ms n) (hp : PreS s H Pc As)
    (hg : g.method = m) (hn : As.length = n) (hsize : g.locals.size = nL) (hstack : g.stack = As.reverse ++ rest) (hW : 2 * g.monitorRoom + (rest.map fun v => v.category).sum ≤ 8) (hdg : decode cc g.pc = .ok (.invokestatic index, 3)) (hf : cells + mc ≤ R.cells ∧ slots + ms ≤ R.slots) :
    va_Run p l e R s m args below meth c H locs cells slots mc ms g rest (Qc As.toArray) (free) := by
  obtain ⟨⟨hrc, hrs, hfr, hlo, hws, hcw⟩, hcode, hini, hy, hlen, hl, hstt⟩ := cw
  have hK : Back l R p e below s args y 3 8 (PreOf R mc ms Pc) (PostOf Qc mc ms free) := va_backW (hh := hh) (bytes := bytes) (maxL := maxL) (ret := ret) hM hp.1 hrc hrs hfr hlo hws hcw (fun a' U hW => word_at hW (Or.inl (by first | rfl | simp [Cond.onTables, Cond.keeps, Cond.steady])) hini)
  obtain ⟨hx, hb, hml, ho, -⟩ := S
  intro T hT X
  obtain ⟨v, vm₁, ⟨U', l2, c2, s2⟩, hW₁, X', ⟨g', mk, t, L, e1, e2, hq, h1, hL, h2, h3⟩, st⟩ := vx_callSW X hx (hh := hh) (bytes := bytes) (maxL := maxL) (ret := ret) ho hl hstt hini hcode hy hK hg (hsize.trans hml.symm) (argsL := As) (rest := rest) (fun sig h => hn.trans (hlen sig h)) hstack hW (by rw [hb]; exact hdg)
    (fun vm₁ hW₁ => ⟨hf.1, hf.2, hp.2 (T.setVm vm₁) hT hW₁⟩)
  dsimp only [Pt.U, Pt.locs, Pt.cells, Pt.slots] at X' e1 e2 h1 h2 h3 st
  subst h1; subst h2; subst h3
  exact ⟨v, (T.setVm vm₁).calling g' mk As.toArray, t, U', L, hT, X', hL, e1, e2, hq, st⟩
/-- not caught here, past rows that name other classes: it goes on to the caller -/
theorem vx_outP {p : Program} {l : Launch} {e : Env} {R : Room} {s : State} {m : MethodId} {args : Array Value} {below : List Frame} {meth : Method} {c : Code} {H : Heap} {locs : List Loc} {cells slots : Nat} {free : Addr → Prop} {ls : Array Slot} {rest : List Value} {Qc : Array Value → State → Outcome → State → Prop} {XC : String → State → State → Prop}
    {pc : Nat} {own E : String} {ce : Cell} {q : Addr} {mc ms : Nat} (hown : s.vm.findClass own = some m.cls) (hlocks : meth.locks = false)
    (hpass : ∀ z ∈ c.exceptionTable.toList, covers z pc = false ∨ (z.catchType ≠ 0 ∧ ∃ nm : String, (Cond.classLink own z.catchType nm).before args s = true ∧ va_Nc E nm s)) (hcell : H[q]? = some ce) (hv : ce.vm = .none) (hcl : s.vm.findClass E = some ce.cls)
    (hx : ∀ t : State, t.heap = H → s.vm.Alike t.vm → XC E s t) (hf : ∀ z ∈ locs, free z.base) (hc : cells ≤ mc) (hs : slots ≤ ms) :
    vx_W p l e R s m args below meth c H locs cells slots (vx_MQ below Qc XC args s mc ms free) (F0 m pc ls rest) q := by
  intro T hT X
  have hpl : e.platform.magicAccessors = ({} : Platform).magicAccessors := by rw [X.admits.platform]
  obtain ⟨vm', hW', X', st⟩ := X.outThrough hlocks q (g := F0 m pc ls rest) rfl rfl rfl (cell := ce) (by rw [hT]; exact hcell) (by rw [hv]; rfl)
    (by obtain ⟨k9, h9, -⟩ := Vm.findClass_spec hcl; exact ⟨k9, h9⟩) (fun z hz => by
      rcases hpass z hz with h | ⟨hz0, nm, hl1, hn1⟩
      · exact Or.inl h
      · obtain ⟨c6, hc6, hcl6⟩ := Cond.classLink_spec hown hl1 e.platform hpl
        obtain ⟨a8, b8, h1, h2, h3⟩ := hn1
        cases Option.some.inj (h1.symm.trans hcl)
        cases Option.some.inj (h2.symm.trans hc6)
        exact Or.inr ⟨hz0, _, hcl6, h3⟩)
  obtain ⟨g₀, hfr⟩ := X'.frames_eq
  have hcell9 : ((T.setVm vm').setFrames (.throwing q :: below)).heap[q]? = some ce := by
    show T.heap[q]? = some ce
    rw [hT]; exact hcell
  have hend : Ended ((T.setVm vm').setFrames (.throwing q :: below)) below (.threw q) := State.frames_setFrames _ (State.cur_lt_of_frames hfr)
  refine ⟨(T.setVm vm').setFrames (.throwing q :: below), ?_, .threw q, X'.here.running, hend, Or.inr ⟨q, rfl, E, ce, locs, hx _ hT (X'.ends _).1.alike, hcell9, hv, hcl, (X'.ends _).1, (X'.ends _).2.mono hc hs, hf⟩⟩
  rw [X.pushThrowing_eq]
  exact st
/-- a thing of a world lies in the heap -/
theorem vx_lt {D : va_G} {cl : List vw_C} {ws : va_W} {H1 : Heap} (h : va_P D cl ws H1) {k : Nat} {q : Nat × va_E} (hk : ws[k]? = some q) : q.1 < H1.size := (h k q hk).lt
end VXS
/-! ===== END ===== -/
/-! ===== BEGIN methods with a table of their own: called by a name, returning or throwing ===== -/
section VXH
/-! vx_backW, vx_callVX, vx_callSX, vx_callVW, vx_runVW, vx_runVX, vx_runSX, vx_ofWH follow the same proofs as their sisters above (Free/Laws.lean, Shelf42/LK1.lean); vx_outP calls Shelf42/NT130.lean (outThrough). -/
section
variable {l : Launch} {R : Room} {p : Program} {e : Env} {below : List Frame} {s : State} {sargs : Array Value} {y : MethodName} {len W9 : Nat}
theorem vx_backW {ws : List Cond} {rm : Room} {Pc : Array Value → State → Prop} {Qc : Array Value → State → Outcome → State → Prop} {XC : String → State → State → Prop} {mc ms : Nat} {free : Addr → Prop} {bytes : ByteArray} {maxL : Nat} {ret : Option FieldType} {hh : List (Nat × Nat × Nat × Nat)}
    (hM : vx_Met l y ws rm Pc Qc XC mc ms free) (hblind : FrameBlind Pc) (hrc : rm.cells = mc) (hrs : rm.slots = ms)
    (hframes : rm.frames + 1 ≤ R.frames) (hlocals : W9 + (maxL + 11) + rm.locals ≤ R.locals)
    (hws : ∀ w ∈ ws, ∀ a' U, s.WarmedH U.vm → w.before a' U = true) (hcode : Cond.codeWith y bytes maxL ret hh ∈ ws) (hinit : ∀ a' U, s.WarmedH U.vm → (Cond.initialized y.cls).before a' U = true) :
    vx_Back l R p e below s sargs y len W9 (PreOf R mc ms Pc) (PostOf Qc mc ms free) (vx_Post XC mc ms free) := by
  intro m meth c A g ig mk a X hg hsize hdg hW hn hp
  have h1 : (headSpec ws rm).pre.before a A.U = true := atoms_intro fun w hw => hws w hw _ _ X.warmed
  have h2 : (Cond.codeWith y bytes maxL ret hh).before a A.U = true := hws _ hcode _ _ X.warmed
  have h3 : (Cond.initialized y.cls).before a A.U = true := hinit _ _ X.warmed
  have h4 : A.cells + (headSpec ws rm).room.cells ≤ R.cells := by rw [show (headSpec ws rm).room.cells = mc from hrc]; exact hp.1
  have h5 : A.slots + (headSpec ws rm).room.slots ≤ R.slots := by rw [show (headSpec ws rm).room.slots = ms from hrs]; exact hp.2.1
  have hPc : Pc a (A.U.calling g mk a) := hblind _ _ _ _ hp.2.2
  obtain ⟨U, Ls, c0, s0⟩ := A
  dsimp only [Pt.U, Pt.locs, Pt.cells, Pt.slots] at h1 h2 h3 h4 h5 X hn hPc ⊢
  obtain ⟨m9, methY, cY, hn9, hmY, hcY, -, hlY, -⟩ := Cond.codeWith_spec h2
  cases Option.some.inj (hn9.symm.trans hn)
  obtain ⟨kY, hkY, -⟩ := className_of_methodNamed hn
  have hinitY : kY.init = .initialized := Cond.initialized_spec (findClass_of_methodNamed hn) hkY h3
  have h : At U g.method c below := by rw [hg]; exact X.here
  have hlocals9 : W9 + (maxL + 11) + (headSpec ws rm).room.locals ≤ R.locals := hlocals
  have happ : (headSpec ws rm).appliesLoose y e.platform (U.calling g mk a) = true :=
    Spec.appliesLoose_calling (g := g) h hdg hn hkY hinitY
      (X.room_calling (g := g) (R' := (headSpec ws rm).room) hsize hmY hcY hframes (by rw [hlY]; omega) h4 h5) h1
  obtain ⟨mid, hmid⟩ := h.above
  have hfr : (U.setTop g).frames = (.java g :: mid) ++ below := by rw [State.frames_setTop' g h.top, hmid]; rfl
  obtain ⟨o, s₂, hsteps, -, hend, hq⟩ := Steps.callFree hM p X.admits X.cas X.clock (acts := []) hfr happ hPc trivial
  have hq' : vx_Q Qc XC mc ms free a (U.calling g mk a) o s₂ := hq
  rw [State.frames_setTop' g h.top] at hend
  obtain ⟨g₀, hg0⟩ := Option.isSome_iff_exists.mp h.top
  obtain ⟨r, hr⟩ := State.topJava?_eq_some.mp hg0
  have hr' : (({ U with heap := s₂.heap, slotsUsed := s₂.slotsUsed } : State).setVm s₂.vm).frames = .java g₀ :: r := hr
  rcases hq' with ⟨hqc, L, hfe, hL⟩ | ⟨q, rfl, E, ce, L, hx, hce, hcv, hcl, hW₂, hsm, hL⟩
  · obtain ⟨⟨v, rfl⟩, hW₂, e2, q2, q3, q4, q5, q6⟩ := id hfe
    have e3 : s₂ = ({ (U.calling g mk a).setFrames s₂.frames with heap := s₂.heap, slotsUsed := s₂.slotsUsed } : State).setVm s₂.vm := by
      have : s₂ = ({ s₂ with vm := (U.calling g mk a).vm } : State).setVm s₂.vm := rfl
      rw [e2] at this
      exact this
    obtain ⟨c₂, i₂, len₂, hc₂, hd₂, hf₂⟩ := hend
    have hW' : U.WarmedH s₂.vm := hW₂
    have hcc : c₂ = c := by
      have h1 : s₂.code? g.method = U.code? g.method := by
        rw [State.code?_eq, State.code?_eq, hW'.alike.method?]
      exact Option.some.inj (hc₂.symm.trans (h1.trans h.code))
    subst hcc
    have hlen : len₂ = len := by rw [hdg] at hd₂; cases hd₂; rfl
    subst hlen
    have hs₂ : s₂ = (({ U with heap := s₂.heap, slotsUsed := s₂.slotsUsed } : State).setVm s₂.vm).setTop { g with pc := g.pc + len₂, stack := v.toList ++ g.stack } := by
      refine e3.trans ?_
      rw [hf₂, State.calling_eq h.top, State.setFrames_setFrames, State.setTop_of_frames _ hr', hr]
      rfl
    have hsame : U.sameButNew ({ U with heap := s₂.heap, slotsUsed := s₂.slotsUsed } : State) L mc ms := by
      refine ⟨?_, q2, q3, q4, q5, q6⟩
      obtain ⟨t, ht, -⟩ := State.frames_cons hr
      show ({ U with heap := s₂.heap, slotsUsed := s₂.slotsUsed } : State) = { U.setFrames U.frames with heap := s₂.heap, slotsUsed := s₂.slotsUsed }
      rw [State.setFrames_self ht]
    subst hg
    refine Or.inl ⟨v, ⟨(({ U with heap := s₂.heap, slotsUsed := s₂.slotsUsed } : State).setVm s₂.vm), Ls ++ L, c0 + mc, s0 + ms⟩,
      ⟨X.admits, X.cas, X.clock, X.frames, X.room, X.hears, X.method, X.code, (X.here.setHeapUsed s₂.heap s₂.slotsUsed).setVm hW'.alike, X.tail, State.WarmedH.trans X.warmed hW', X.limits, X.bytes, X.same.trans (hsame.setVm s.vm)⟩,
      ⟨g, mk, s₂, L, rfl, rfl, hqc, rfl, hL, rfl, rfl⟩, ?_⟩
    show Steps p.tables e below _ ((({ U with heap := s₂.heap, slotsUsed := s₂.slotsUsed } : State).setVm s₂.vm).setTop { g with pc := g.pc + len₂, stack := v.toList ++ g.stack })
    rw [← hs₂]
    exact hsteps
  · obtain ⟨e2, q2, q3, q4, q5, q6⟩ := id hsm
    have e3 : s₂ = ({ (U.calling g mk a).setFrames s₂.frames with heap := s₂.heap, slotsUsed := s₂.slotsUsed } : State).setVm s₂.vm := by
      have : s₂ = ({ s₂ with vm := (U.calling g mk a).vm } : State).setVm s₂.vm := rfl
      rw [e2] at this
      exact this
    have hf₂ : s₂.frames = .throwing q :: .java g :: U.frames.tail := hend
    have hW' : U.WarmedH s₂.vm := hW₂
    have hs₂ : s₂ = ((({ U with heap := s₂.heap, slotsUsed := s₂.slotsUsed } : State).setVm s₂.vm).setTop g).pushFrame (.throwing q) := by
      refine e3.trans ?_
      rw [hf₂, State.calling_eq h.top, State.setFrames_setFrames, State.pushFrame, State.frames_setTop _ hr', State.setTop_of_frames _ hr', State.setFrames_setFrames, hr]
      rfl
    have hsame : U.sameButNew ({ U with heap := s₂.heap, slotsUsed := s₂.slotsUsed } : State) L mc ms := by
      refine ⟨?_, q2, q3, q4, q5, q6⟩
      obtain ⟨t, ht, -⟩ := State.frames_cons hr
      show ({ U with heap := s₂.heap, slotsUsed := s₂.slotsUsed } : State) = { U.setFrames U.frames with heap := s₂.heap, slotsUsed := s₂.slotsUsed }
      rw [State.setFrames_self ht]
    subst hg
    refine Or.inr ⟨q, ⟨(({ U with heap := s₂.heap, slotsUsed := s₂.slotsUsed } : State).setVm s₂.vm), Ls ++ L, c0 + mc, s0 + ms⟩,
      ⟨X.admits, X.cas, X.clock, X.frames, X.room, X.hears, X.method, X.code, (X.here.setHeapUsed s₂.heap s₂.slotsUsed).setVm hW'.alike, X.tail, State.WarmedH.trans X.warmed hW', X.limits, X.bytes, X.same.trans (hsame.setVm s.vm)⟩,
      ⟨g, mk, s₂, L, E, ce, rfl, rfl, hx, hce, hcv, hcl, rfl, hL, rfl, rfl⟩, ?_⟩
    show Steps p.tables e below _ (((({ U with heap := s₂.heap, slotsUsed := s₂.slotsUsed } : State).setVm s₂.vm).setTop g).pushFrame (.throwing q))
    rw [← hs₂]
    exact hsteps
end
variable {p : Program} {l : Launch} {e : Env} {R : Room} {s : State} {m : MethodId} {args : Array Value} {below : List Frame} {meth : Method} {c : Code} {T : State} {H : Heap} {locs : List Loc} {cells slots : Nat}
theorem vx_callVX (X : Stand p l e R s m args below meth c T locs cells slots) (hexec : p.tables.exec = Jvm.exec) {own C : String} {index : Nat} {y : MethodName} {bytes : ByteArray} {maxL : Nat} {ret : Option FieldType} {hh : List (Nat × Nat × Nat × Nat)}
    (hown : s.vm.findClass own = some m.cls) (hlink : (Cond.methodLink own index y).before args s = true) (hinst : (Cond.instanceMethod y).before args s = true) (hsel : (Cond.selects C y y).before args s = true)
    (hcode : (Cond.codeWith y bytes maxL ret hh).before args s = true) (hy : y.cls ≠ "java/lang/invoke/MethodHandle" ∧ y.cls ≠ "java/lang/invoke/VarHandle")
    {W9 : Nat} {Pre : Pt → Array Value → Prop} {Post : Pt → Array Value → Option Value → Pt → Prop} {PostX : Pt → Array Value → Addr → Pt → Prop} (hK : vx_Back l R p e below s args y 3 W9 Pre Post PostX)
    {b : Addr} {cellB : Cell} (hcell : T.heap[b]? = some cellB) (hobj : cellB.vm.isStatics = false) (hcls : s.vm.findClass C = some cellB.cls)
    {g : JFrame} (hg : g.method = m) (hsize : g.locals.size = c.maxLocals) {argsL rest : List Value} (hlen : ∀ sig, parseMethodDescriptor y.desc = some sig → argsL.length = sig.parameters.length)
    (hstack : g.stack = argsL.reverse ++ .ref b :: rest) (hW : 2 * g.monitorRoom + (rest.map fun v => v.category).sum ≤ W9) (hdg : decode c.code g.pc = .ok (.invokevirtual index, 3))
    (hpre : ∀ vm₁, s.WarmedH vm₁ → Pre ⟨T.setVm vm₁, locs, cells, slots⟩ (Value.ref b :: argsL).toArray) :
    (∃ (v : Option Value) (vm₁ : Vm) (B : Pt), s.WarmedH vm₁ ∧ Stand p l e R s m args below meth c B.U B.locs B.cells B.slots ∧ Post ⟨T.setVm vm₁, locs, cells, slots⟩ (Value.ref b :: argsL).toArray v B ∧
      ∀ target, Steps p.tables e below (B.U.setTop { g with pc := g.pc + 3, stack := v.toList ++ rest }) target → Steps p.tables e below (T.setTop g) target) ∨
    (∃ (q : Addr) (vm₁ : Vm) (B : Pt), s.WarmedH vm₁ ∧ Stand p l e R s m args below meth c B.U B.locs B.cells B.slots ∧ PostX ⟨T.setVm vm₁, locs, cells, slots⟩ (Value.ref b :: argsL).toArray q B ∧
      Steps p.tables e below (T.setTop g) ((B.U.setTop { g with stack := rest }).pushFrame (.throwing q))) := by
  obtain ⟨mk, methM, hnamed, hmethM, hstM, habM⟩ := Cond.instanceMethod_spec hinst
  obtain ⟨m8, methM', cM, hn8, hmethM', -, -, -, -, -, -, hsigM⟩ := Cond.codeWith_spec hcode
  cases Option.some.inj (hn8.symm.trans hnamed)
  cases hmethM.symm.trans hmethM'
  obtain ⟨c2, r2, m2, q1, q2, q3, q4, kP, hkP, hkPi⟩ := Cond.selects_spec hsel
  cases hcls.symm.trans q1
  cases (State.methodFound?_of_named hnamed hy).symm.trans q2
  cases hnamed.symm.trans q3
  have hselP : selectMethod e.platform s.vm cellB.cls mk = .method mk := by rw [Launch.admits_selectMethod X.admits]; exact q4
  obtain ⟨vm₁, X₁, hstep₁⟩ := X.invokevirtual hexec hown hlink hnamed hmethM hstM hkP hkPi hy (a := b) (cell := cellB) hcell
    (fun z h => by rw [h] at hobj; cases hobj) hselP hmethM habM hkP hkPi (g := g) hg (argsL := argsL) (rest := rest) (hlen _ hsigM) hstack hdg
  rcases hK m meth c ⟨T.setVm vm₁, locs, cells, slots⟩ { g with stack := rest } (.invokevirtual index) mk (Value.ref b :: argsL).toArray X₁ hg hsize hdg hW (X₁.named hnamed) (hpre vm₁ X₁.warmed) with ⟨v, B, X', hpost, hsteps⟩ | ⟨q, B, X', hpost, hsteps⟩
  · exact Or.inl ⟨v, vm₁, B, X₁.warmed, X', hpost, fun target h => hstep₁ _ fun acts => by rw [doInvoke_state]; exact hsteps.trans h⟩
  · exact Or.inr ⟨q, vm₁, B, X₁.warmed, X', hpost, hstep₁ _ fun acts => by rw [doInvoke_state]; exact hsteps⟩
theorem vx_callSX (X : Stand p l e R s m args below meth c T locs cells slots) (hexec : p.tables.exec = Jvm.exec) {own : String} {index : Nat} {y : MethodName} {bytes : ByteArray} {maxL : Nat} {ret : Option FieldType} {hh : List (Nat × Nat × Nat × Nat)}
    (hown : s.vm.findClass own = some m.cls) (hlink : (Cond.methodLink own index y).before args s = true) (hstat : (Cond.static y).before args s = true) (hinit : (Cond.initialized y.cls).before args s = true)
    (hcode : (Cond.codeWith y bytes maxL ret hh).before args s = true) (hy : y.cls ≠ "java/lang/invoke/MethodHandle" ∧ y.cls ≠ "java/lang/invoke/VarHandle")
    {W9 : Nat} {Pre : Pt → Array Value → Prop} {Post : Pt → Array Value → Option Value → Pt → Prop} {PostX : Pt → Array Value → Addr → Pt → Prop} (hK : vx_Back l R p e below s args y 3 W9 Pre Post PostX)
    {g : JFrame} (hg : g.method = m) (hsize : g.locals.size = c.maxLocals) {argsL rest : List Value} (hlen : ∀ sig, parseMethodDescriptor y.desc = some sig → argsL.length = sig.parameters.length)
    (hstack : g.stack = argsL.reverse ++ rest) (hW : 2 * g.monitorRoom + (rest.map fun v => v.category).sum ≤ W9) (hdg : decode c.code g.pc = .ok (.invokestatic index, 3))
    (hpre : ∀ vm₁, s.WarmedH vm₁ → Pre ⟨T.setVm vm₁, locs, cells, slots⟩ argsL.toArray) :
    (∃ (v : Option Value) (vm₁ : Vm) (B : Pt), s.WarmedH vm₁ ∧ Stand p l e R s m args below meth c B.U B.locs B.cells B.slots ∧ Post ⟨T.setVm vm₁, locs, cells, slots⟩ argsL.toArray v B ∧
      ∀ target, Steps p.tables e below (B.U.setTop { g with pc := g.pc + 3, stack := v.toList ++ rest }) target → Steps p.tables e below (T.setTop g) target) ∨
    (∃ (q : Addr) (vm₁ : Vm) (B : Pt), s.WarmedH vm₁ ∧ Stand p l e R s m args below meth c B.U B.locs B.cells B.slots ∧ PostX ⟨T.setVm vm₁, locs, cells, slots⟩ argsL.toArray q B ∧
      Steps p.tables e below (T.setTop g) ((B.U.setTop { g with stack := rest }).pushFrame (.throwing q))) := by
  obtain ⟨mk, methM, cM, hnamed, hmethM, -, -, -, -, -, -, hsigM⟩ := Cond.codeWith_spec hcode
  have hstatic : methM.isStatic = true := Cond.static_spec hnamed hmethM hstat
  obtain ⟨kP, hkP, -⟩ := className_of_methodNamed hnamed
  have hinitP : kP.init = .initialized := Cond.initialized_spec (findClass_of_methodNamed hnamed) hkP hinit
  obtain ⟨vm₁, X₁, hstep₁⟩ := X.invokestatic hexec hown hlink hnamed hmethM hstatic hkP hinitP hy (g := g) hg (argsL := argsL) (rest := rest) (hlen _ hsigM) hstack hdg
  rcases hK m meth c ⟨T.setVm vm₁, locs, cells, slots⟩ { g with stack := rest } (.invokestatic index) mk argsL.toArray X₁ hg hsize hdg hW (X₁.named hnamed) (hpre vm₁ X₁.warmed) with ⟨v, B, X', hpost, hsteps⟩ | ⟨q, B, X', hpost, hsteps⟩
  · exact Or.inl ⟨v, vm₁, B, X₁.warmed, X', hpost, fun target h => hstep₁ _ fun acts => by rw [doInvoke_state]; exact hsteps.trans h⟩
  · exact Or.inr ⟨q, vm₁, B, X₁.warmed, X', hpost, hstep₁ _ fun acts => by rw [doInvoke_state]; exact hsteps⟩
theorem vx_callVW (X : Stand p l e R s m args below meth c T locs cells slots) (hexec : p.tables.exec = Jvm.exec) {own C : String} {index : Nat} {y : MethodName} {bytes : ByteArray} {maxL : Nat} {ret : Option FieldType} {hh : List (Nat × Nat × Nat × Nat)}
    (hown : s.vm.findClass own = some m.cls) (hlink : (Cond.methodLink own index y).before args s = true) (hinst : (Cond.instanceMethod y).before args s = true) (hsel : (Cond.selects C y y).before args s = true)
    (hcode : (Cond.codeWith y bytes maxL ret hh).before args s = true) (hy : y.cls ≠ "java/lang/invoke/MethodHandle" ∧ y.cls ≠ "java/lang/invoke/VarHandle")
    {W9 : Nat} {Pre : Pt → Array Value → Prop} {Post : Pt → Array Value → Option Value → Pt → Prop} (hK : Back l R p e below s args y 3 W9 Pre Post)
    {b : Addr} {cellB : Cell} (hcell : T.heap[b]? = some cellB) (hobj : cellB.vm.isStatics = false) (hcls : s.vm.findClass C = some cellB.cls)
    {g : JFrame} (hg : g.method = m) (hsize : g.locals.size = c.maxLocals) {argsL rest : List Value} (hlen : ∀ sig, parseMethodDescriptor y.desc = some sig → argsL.length = sig.parameters.length)
    (hstack : g.stack = argsL.reverse ++ .ref b :: rest) (hW : 2 * g.monitorRoom + (rest.map fun v => v.category).sum ≤ W9) (hdg : decode c.code g.pc = .ok (.invokevirtual index, 3))
    (hpre : ∀ vm₁, s.WarmedH vm₁ → Pre ⟨T.setVm vm₁, locs, cells, slots⟩ (Value.ref b :: argsL).toArray) :
    ∃ (v : Option Value) (vm₁ : Vm) (B : Pt), s.WarmedH vm₁ ∧ Stand p l e R s m args below meth c B.U B.locs B.cells B.slots ∧ Post ⟨T.setVm vm₁, locs, cells, slots⟩ (Value.ref b :: argsL).toArray v B ∧
      ∀ target, Steps p.tables e below (B.U.setTop { g with pc := g.pc + 3, stack := v.toList ++ rest }) target → Steps p.tables e below (T.setTop g) target := by
  obtain ⟨mk, methM, hnamed, hmethM, hstM, habM⟩ := Cond.instanceMethod_spec hinst
  obtain ⟨m8, methM', cM, hn8, hmethM', -, -, -, -, -, -, hsigM⟩ := Cond.codeWith_spec hcode
  cases Option.some.inj (hn8.symm.trans hnamed)
  cases hmethM.symm.trans hmethM'
  obtain ⟨c2, r2, m2, q1, q2, q3, q4, kP, hkP, hkPi⟩ := Cond.selects_spec hsel
  cases hcls.symm.trans q1
  cases (State.methodFound?_of_named hnamed hy).symm.trans q2
  cases hnamed.symm.trans q3
  have hselP : selectMethod e.platform s.vm cellB.cls mk = .method mk := by rw [Launch.admits_selectMethod X.admits]; exact q4
  obtain ⟨vm₁, X₁, hstep₁⟩ := X.invokevirtual hexec hown hlink hnamed hmethM hstM hkP hkPi hy (a := b) (cell := cellB) hcell
    (fun z h => by rw [h] at hobj; cases hobj) hselP hmethM habM hkP hkPi (g := g) hg (argsL := argsL) (rest := rest) (hlen _ hsigM) hstack hdg
  obtain ⟨v, B, X', hpost, hsteps⟩ := hK m meth c ⟨T.setVm vm₁, locs, cells, slots⟩ { g with stack := rest } (.invokevirtual index) mk (Value.ref b :: argsL).toArray X₁ hg hsize hdg hW (X₁.named hnamed) (hpre vm₁ X₁.warmed)
  exact ⟨v, vm₁, B, X₁.warmed, X', hpost, fun target h => hstep₁ _ fun acts => by rw [doInvoke_state]; exact hsteps.trans h⟩
abbrev vx_CVW (R : Room) (s : State) (args : Array Value) (own C : String) (index : Nat) (y : MethodName) (bytes : ByteArray) (maxL : Nat) (ret : Option FieldType) (hh : List (Nat × Nat × Nat × Nat)) (ws : List Cond) (rm : Room) (mc ms n : Nat) : Prop :=
  (rm.cells = mc ∧ rm.slots = ms ∧ rm.frames + 1 ≤ R.frames ∧ 8 + (maxL + 11) + rm.locals ≤ R.locals ∧ (∀ w ∈ ws, ∀ (a' : Array Value) (U : State), s.WarmedH U.vm → w.before a' U = true) ∧ Cond.codeWith y bytes maxL ret hh ∈ ws) ∧
  (Cond.codeWith y bytes maxL ret hh).before args s = true ∧ (Cond.initialized y.cls).before args s = true ∧ (y.cls ≠ "java/lang/invoke/MethodHandle" ∧ y.cls ≠ "java/lang/invoke/VarHandle") ∧
  (∀ sig, parseMethodDescriptor y.desc = some sig → n = sig.parameters.length) ∧ (Cond.methodLink own index y).before args s = true ∧ (Cond.instanceMethod y).before args s = true ∧ (Cond.selects C y y).before args s = true
theorem vx_cwVW {own C : String} {index maxL mc ms : Nat} {y : MethodName} {bytes : ByteArray} {ret : Option FieldType} {hh : List (Nat × Nat × Nat × Nat)} {Ts ws ws' : List Cond} {rm : Room} (n : Nat) (ht : ∀ w ∈ Ts, w.before args s = true) (hT : GoodIn Ts (wsV own index C y ws)) (hw : ws = Cond.codeWith y bytes maxL ret hh :: ws') (hrc : rm.cells = mc) (hrs : rm.slots = ms)
    (hd : y.cls = C ∧ y.cls ≠ "java/lang/invoke/MethodHandle" ∧ y.cls ≠ "java/lang/invoke/VarHandle" ∧ (parseMethodDescriptor y.desc).map (fun d => d.parameters.length) = some n) (hR : rm.frames + 1 ≤ R.frames ∧ 8 + (maxL + 11) + rm.locals ≤ R.locals) :
    vx_CVW R s args own C index y bytes maxL ret hh ws rm mc ms n := by
  obtain ⟨hC, hd⟩ := hd
  subst hC
  have ok : ∀ w ∈ wsV own index y.cls y ws, w.before args s = true := fun w h => ht w (hT w h).1
  have hG : GoodIn Ts ws := fun w h => hT w (by unfold wsV; exact List.mem_append_right _ h)
  have hc : Cond.codeWith y bytes maxL ret hh ∈ ws := by rw [hw]; exact List.mem_cons_self
  refine ⟨⟨hrc, hrs, hR.1, hR.2, pay_in ht hG, hc⟩, ht _ (hG _ hc).1, ok _ (by simp [wsV]), ⟨hd.1, hd.2.1⟩, fun sig h => ?_, ok _ (by simp [wsV]), ok _ (by simp [wsV]), ok _ (by simp [wsV])⟩
  have h2 := hd.2.2
  rw [h] at h2
  exact (Option.some.inj h2).symm
theorem vx_runVW {y : MethodName} {bytes cc : ByteArray} {maxL nL mc ms n index : Nat} {ret : Option FieldType} {hh : List (Nat × Nat × Nat × Nat)} {ws : List Cond} {rm : Room} {Pc : Array Value → State → Prop} {Qc : Array Value → State → Outcome → State → Prop} {free : Addr → Prop} {Ts : List Cond} {own C : String} {b : Addr} {As rest : List Value} {g : JFrame}
    (S : CallFix p m c cc nL s args Ts own) (hM : Met l y ws rm Pc Qc mc ms free) (cw : vx_CVW R s args own C index y bytes maxL ret hh ws rm mc ms n) (hp : PreV s H C b Pc As)
    (hg : g.method = m) (hn : As.length = n) (hsize : g.locals.size = nL) (hstack : g.stack = As.reverse ++ .ref b :: rest) (hW : 2 * g.monitorRoom + (rest.map fun v => v.category).sum ≤ 8) (hdg : decode cc g.pc = .ok (.invokevirtual index, 3)) (hf : cells + mc ≤ R.cells ∧ slots + ms ≤ R.slots) :
    va_Run p l e R s m args below meth c H locs cells slots mc ms g rest (Qc (Value.ref b :: As).toArray) free := by
  obtain ⟨⟨hrc, hrs, hfr, hlo, hws, hcw⟩, hcode, hini, hy, hlen, hl, hin, hse⟩ := cw
  have hK : Back l R p e below s args y 3 8 (PreOf R mc ms Pc) (PostOf Qc mc ms free) := va_backW (hh := hh) (bytes := bytes) (maxL := maxL) (ret := ret) hM hp.1 hrc hrs hfr hlo hws hcw (fun a' U hW => word_at hW (Or.inl (by first | rfl | simp [Cond.onTables, Cond.keeps, Cond.steady])) hini)
  obtain ⟨hx, hb, hml, ho, -⟩ := S
  obtain ⟨-, ⟨cellB, hcB, hoB, hclB⟩, hPc⟩ := hp
  intro T hT X
  obtain ⟨v, vm₁, ⟨U', l2, c2, s2⟩, hW₁, X', ⟨g', mk, t, L, e1, e2, hq, h1, hL, h2, h3⟩, st⟩ := vx_callVW X hx (C := C) (hh := hh) (bytes := bytes) (maxL := maxL) (ret := ret) ho hl hin hse hcode hy hK (by rw [hT]; exact hcB) hoB hclB hg (hsize.trans hml.symm) (argsL := As) (rest := rest) (fun sig h => hn.trans (hlen sig h)) hstack hW (by rw [hb]; exact hdg)
    (fun vm₁ hW₁ => ⟨hf.1, hf.2, hPc (T.setVm vm₁) hT hW₁⟩)
  dsimp only [Pt.U, Pt.locs, Pt.cells, Pt.slots] at X' e1 e2 h1 h2 h3 st
  subst h1; subst h2; subst h3
  exact ⟨v, (T.setVm vm₁).calling g' mk (Value.ref b :: As).toArray, t, U', L, hT, X', hL, e1, e2, hq, st⟩
section
variable {y : MethodName} {bytes cc : ByteArray} {maxL nL mc ms n index : Nat} {ret : Option FieldType} {ws : List Cond} {rm : Room} {Pc : Array Value → State → Prop} {Qc : Array Value → State → Outcome → State → Prop} {XC : String → State → State → Prop} {free : Addr → Prop} {Ts : List Cond} {own C : String} {b : Addr} {As rest : List Value} {g : JFrame}
theorem vx_runVX {hh : List (Nat × Nat × Nat × Nat)} (S : CallFix p m c cc nL s args Ts own) (hM : vx_Met l y ws rm Pc Qc XC mc ms free) (cw : vx_CVW R s args own C index y bytes maxL ret hh ws rm mc ms n) (hp : PreV s H C b Pc As)
    (hg : g.method = m) (hn : As.length = n) (hsize : g.locals.size = nL) (hstack : g.stack = As.reverse ++ .ref b :: rest) (hW : 2 * g.monitorRoom + (rest.map fun v => v.category).sum ≤ 8) (hdg : decode cc g.pc = .ok (.invokevirtual index, 3)) (hf : cells + mc ≤ R.cells ∧ slots + ms ≤ R.slots) :
    vx_Run p l e R s m args below meth c H locs cells slots mc ms g rest (Qc (Value.ref b :: As).toArray) XC free := by
  obtain ⟨⟨hrc, hrs, hfr, hlo, hws, hcw⟩, hcode, hini, hy, hlen, hl, hin, hse⟩ := cw
  have hK : vx_Back l R p e below s args y 3 8 (PreOf R mc ms Pc) (PostOf Qc mc ms free) (vx_Post XC mc ms free) := vx_backW (hh := hh) (bytes := bytes) (maxL := maxL) (ret := ret) hM hp.1 hrc hrs hfr hlo hws hcw (fun a' U hW => word_at hW (Or.inl (by first | rfl | simp [Cond.onTables, Cond.keeps, Cond.steady])) hini)
  obtain ⟨hx, hb, hml, ho, -⟩ := S
  obtain ⟨-, ⟨cellB, hcB, hoB, hclB⟩, hPc⟩ := hp
  intro T hT X
  rcases vx_callVX X hx (C := C) (hh := hh) (bytes := bytes) (maxL := maxL) (ret := ret) ho hl hin hse hcode hy hK (by rw [hT]; exact hcB) hoB hclB hg (hsize.trans hml.symm) (argsL := As) (rest := rest) (fun sig h => hn.trans (hlen sig h)) hstack hW (by rw [hb]; exact hdg)
    (fun vm₁ hW₁ => ⟨hf.1, hf.2, hPc (T.setVm vm₁) hT hW₁⟩) with ⟨v, vm₁, ⟨U', l2, c2, s2⟩, hW₁, X', ⟨g', mk, t, L, e1, e2, hq, h1, hL, h2, h3⟩, st⟩ | ⟨q, vm₁, ⟨U', l2, c2, s2⟩, hW₁, X', ⟨g', mk, t, L, E, ce, e1, e2, hq, hce, hcv, hcl, h1, hL, h2, h3⟩, st⟩
  · dsimp only [Pt.U, Pt.locs, Pt.cells, Pt.slots] at X' e1 e2 h1 h2 h3 st
    subst h1; subst h2; subst h3
    exact Or.inl ⟨v, (T.setVm vm₁).calling g' mk (Value.ref b :: As).toArray, t, U', L, hT, X', hL, e1, e2, hq, st⟩
  · dsimp only [Pt.U, Pt.locs, Pt.cells, Pt.slots] at X' e1 e2 h1 h2 h3 st hcl
    subst h1; subst h2; subst h3
    exact Or.inr ⟨q, (T.setVm vm₁).calling g' mk (Value.ref b :: As).toArray, t, U', L, E, ce, hT, X', hL, e1, e2, hq, hce, hcv, vx_cls hW₁ hcl, st⟩
theorem vx_runSX {hh : List (Nat × Nat × Nat × Nat)} (S : CallFix p m c cc nL s args Ts own) (hM : vx_Met l y ws rm Pc Qc XC mc ms free) (cw : vx_CSW R s args own index y bytes maxL ret hh ws rm mc ms n) (hp : PreS s H Pc As)
    (hg : g.method = m) (hn : As.length = n) (hsize : g.locals.size = nL) (hstack : g.stack = As.reverse ++ rest) (hW : 2 * g.monitorRoom + (rest.map fun v => v.category).sum ≤ 8) (hdg : decode cc g.pc = .ok (.invokestatic index, 3)) (hf : cells + mc ≤ R.cells ∧ slots + ms ≤ R.slots) :
    vx_Run p l e R s m args below meth c H locs cells slots mc ms g rest (Qc As.toArray) XC free := by
  obtain ⟨⟨hrc, hrs, hfr, hlo, hws, hcw⟩, hcode, hini, hy, hlen, hl, hstt⟩ := cw
  have hK : vx_Back l R p e below s args y 3 8 (PreOf R mc ms Pc) (PostOf Qc mc ms free) (vx_Post XC mc ms free) := vx_backW (hh := hh) (bytes := bytes) (maxL := maxL) (ret := ret) hM hp.1 hrc hrs hfr hlo hws hcw (fun a' U hW => word_at hW (Or.inl (by first | rfl | simp [Cond.onTables, Cond.keeps, Cond.steady])) hini)
  obtain ⟨hx, hb, hml, ho, -⟩ := S
  intro T hT X
  rcases vx_callSX X hx (hh := hh) (bytes := bytes) (maxL := maxL) (ret := ret) ho hl hstt hini hcode hy hK hg (hsize.trans hml.symm) (argsL := As) (rest := rest) (fun sig h => hn.trans (hlen sig h)) hstack hW (by rw [hb]; exact hdg)
    (fun vm₁ hW₁ => ⟨hf.1, hf.2, hp.2 (T.setVm vm₁) hT hW₁⟩) with ⟨v, vm₁, ⟨U', l2, c2, s2⟩, hW₁, X', ⟨g', mk, t, L, e1, e2, hq, h1, hL, h2, h3⟩, st⟩ | ⟨q, vm₁, ⟨U', l2, c2, s2⟩, hW₁, X', ⟨g', mk, t, L, E, ce, e1, e2, hq, hce, hcv, hcl, h1, hL, h2, h3⟩, st⟩
  · dsimp only [Pt.U, Pt.locs, Pt.cells, Pt.slots] at X' e1 e2 h1 h2 h3 st
    subst h1; subst h2; subst h3
    exact Or.inl ⟨v, (T.setVm vm₁).calling g' mk As.toArray, t, U', L, hT, X', hL, e1, e2, hq, st⟩
  · dsimp only [Pt.U, Pt.locs, Pt.cells, Pt.slots] at X' e1 e2 h1 h2 h3 st hcl
    subst h1; subst h2; subst h3
    exact Or.inr ⟨q, (T.setVm vm₁).calling g' mk As.toArray, t, U', L, E, ce, hT, X', hL, e1, e2, hq, hce, hcv, vx_cls hW₁ hcl, st⟩
end
end VXH
theorem vx_ofWH {l : Launch} {y : MethodName} {ws ws' : List Cond} {rm : Room} {Pc : Array Value → State → Prop} {Qc : Array Value → State → Outcome → State → Prop} {XC : String → State → State → Prop} {mc ms : Nat} {free : Addr → Prop} {cc : ByteArray} {maxL : Nat} {ret : Option FieldType} {hh : List (Nat × Nat × Nat × Nat)}
    (hy : plainName y.cls = true) (hw : ws = Cond.codeWith y cc maxL ret hh :: ws')
    (body : ∀ p e s m args below meth c s₁, BodyLoose p l y (headSpec ws rm) cc maxL ret e s m args below meth c s₁ → c.maxLocals = maxL → Pc args s →
      W p l e (headSpec ws rm).room s m args below meth c s.heap [] 0 0 (vx_MQ below Qc XC args s mc ms free) (entryFrame m args maxL)) : vx_Met l y ws rm Pc Qc XC mc ms free := by
  refine MetFree.of_bodyS (code := cc) (maxLocals := maxL) (ret := ret) hy ?_ ?_
  · intro args s m h hn
    obtain ⟨m9, meth, c, hn9, h1, h2, h3, h4, -, h5, h6, -⟩ := Cond.codeWith_spec (atoms_spec (ws := ws) h _ (by rw [hw]; exact List.mem_cons_self))
    cases hn.symm.trans hn9
    exact ⟨meth, c, h1, h2, h3, h4, h5, h6⟩
  · intro p e s m args below meth c s₁ B hml hP _
    have hh0 : s₁.heap = s.heap := by rw [B.state]; rfl
    obtain ⟨t, a1, o, b1, b2, b3⟩ := body p e s m args below meth c s₁ B hml hP s₁ hh0 (Stand.of_body B)
    exact ⟨t, o, a1, b1, b2, b3⟩
/-! ===== END ===== -/
end
section
def RX0 : String := "Voucherworks$Campaigns"
def TX0 : u_T := fun k => match k with
  | 0 => ("Voucherworks$Campaigns", "isPercent", "[Z", true)
  | 1 => ("Voucherworks$Campaigns", "value", "[I", true)
  | 2 => ("Voucherworks$Campaigns", "least", "[I", true)
  | 3 => ("Voucherworks$Campaigns", "barred", "[I", true)
  | 4 => ("Voucherworks$Campaigns", "got", "[[I", true)
  | 5 => ("Voucherworks$Campaigns", "lowest", "I", false)
  | 6 => ("Voucherworks$Campaigns", "sizeForLowest", "I", false)
  | _ => ("Voucherworks$Campaigns", "count", "I", false)
def tyX0 : Nat → FieldType := fun k => match k with
  | 0 => .array .boolean
  | 1 => .array .int
  | 2 => .array .int
  | 3 => .array .int
  | 4 => .array (.array .int)
  | 5 => .int
  | 6 => .int
  | _ => .int
abbrev wsX00 : List Cond := u_ws RX0 TX0 8
theorem nmX0 : ∀ a, a < 8 → ∀ b, b < 8 → a ≠ b → (TX0 a).2.1 ≠ (TX0 b).2.1 := by decide +kernel
theorem tyX0_ok : ∀ k, k < 8 → parseFieldDescriptor (TX0 k).2.2.1 = some (tyX0 k) := by decide +kernel
abbrev cX0_init : ByteArray := prog_2_method_1_code
def yX0_init : MethodName := ⟨RX0, "<init>", "()V"⟩
abbrev cX0_add : ByteArray := prog_2_method_2_code
def yX0_add : MethodName := ⟨RX0, "add", "(ZII)I"⟩
abbrev cX0_isBarring : ByteArray := prog_2_method_3_code
def yX0_isBarring : MethodName := ⟨RX0, "isBarring", "(II)Z"⟩
abbrev cX0_setBarring : ByteArray := prog_2_method_4_code
def yX0_setBarring : MethodName := ⟨RX0, "setBarring", "(IIZ)V"⟩
abbrev cX0_reduced : ByteArray := prog_2_method_5_code
def yX0_reduced : MethodName := ⟨RX0, "reduced", "(II)I"⟩
abbrev cX0_leastByOrders : ByteArray := prog_2_method_6_code
def yX0_leastByOrders : MethodName := ⟨RX0, "leastByOrders", "(I)I"⟩
abbrev cX0_leastFrom : ByteArray := prog_2_method_7_code
def yX0_leastFrom : MethodName := ⟨RX0, "leastFrom", "(III)I"⟩
abbrev cX0_lookAtAllSets : ByteArray := prog_2_method_8_code
def yX0_lookAtAllSets : MethodName := ⟨RX0, "lookAtAllSets", "(I)V"⟩
abbrev cX0_isWithoutBars : ByteArray := prog_2_method_9_code
def yX0_isWithoutBars : MethodName := ⟨RX0, "isWithoutBars", "(I)Z"⟩
abbrev cX0_markPricesOf : ByteArray := prog_2_method_10_code
def yX0_markPricesOf : MethodName := ⟨RX0, "markPricesOf", "(I)V"⟩
abbrev cX0_applyToWord : ByteArray := prog_2_method_11_code
def yX0_applyToWord : MethodName := ⟨RX0, "applyToWord", "(IIII)V"⟩
abbrev cX0_mark : ByteArray := prog_2_method_12_code
def yX0_mark : MethodName := ⟨RX0, "mark", "(II)V"⟩
def RX1 : String := "Voucherworks$Cards"
def TX1 : u_T := fun k => match k with
  | 0 => ("Voucherworks$Cards", "chain", "[I", true)
  | 1 => ("Voucherworks$Cards", "land", "[I", true)
  | 2 => ("Voucherworks$Cards", "life", "[I", true)
  | 3 => ("Voucherworks$Cards", "fee", "[I", true)
  | 4 => ("Voucherworks$Cards", "share", "[I", true)
  | 5 => ("Voucherworks$Cards", "state", "[I", true)
  | 6 => ("Voucherworks$Cards", "use", "[I", true)
  | 7 => ("Voucherworks$Cards", "misses", "[I", true)
  | 8 => ("Voucherworks$Cards", "converted", "[I", true)
  | _ => ("Voucherworks$Cards", "count", "I", false)
def tyX1 : Nat → FieldType := fun k => match k with
  | 0 => .array .int
  | 1 => .array .int
  | 2 => .array .int
  | 3 => .array .int
  | 4 => .array .int
  | 5 => .array .int
  | 6 => .array .int
  | 7 => .array .int
  | 8 => .array .int
  | _ => .int
abbrev wsX10 : List Cond := u_ws RX1 TX1 10
theorem nmX1 : ∀ a, a < 10 → ∀ b, b < 10 → a ≠ b → (TX1 a).2.1 ≠ (TX1 b).2.1 := by decide +kernel
theorem tyX1_ok : ∀ k, k < 10 → parseFieldDescriptor (TX1 k).2.2.1 = some (tyX1 k) := by decide +kernel
abbrev cX1_init : ByteArray := prog_3_method_1_code
def yX1_init : MethodName := ⟨RX1, "<init>", "()V"⟩
abbrev cX1_add : ByteArray := prog_3_method_2_code
def yX1_add : MethodName := ⟨RX1, "add", "(IILVoucherworks$Lands;)I"⟩
abbrev cX1_code : ByteArray := prog_3_method_3_code
def yX1_code : MethodName := ⟨RX1, "code", "(I)I"⟩
abbrev cX1_addMiss : ByteArray := prog_3_method_4_code
def yX1_addMiss : MethodName := ⟨RX1, "addMiss", "(I)V"⟩
def RX2 : String := "Voucherworks$Chains"
def TX2 : u_T := fun k => match k with
  | 0 => ("Voucherworks$Chains", "isDead", "[Z", true)
  | 1 => ("Voucherworks$Chains", "rate", "[I", true)
  | 2 => ("Voucherworks$Chains", "received", "[I", true)
  | 3 => ("Voucherworks$Chains", "given", "[I", true)
  | 4 => ("Voucherworks$Chains", "income", "[I", true)
  | 5 => ("Voucherworks$Chains", "gone", "[I", true)
  | 6 => ("Voucherworks$Chains", "paidOut", "[I", true)
  | 7 => ("Voucherworks$Chains", "lost", "[I", true)
  | _ => ("Voucherworks$Chains", "due", "[[I", true)
def tyX2 : Nat → FieldType := fun k => match k with
  | 0 => .array .boolean
  | 1 => .array .int
  | 2 => .array .int
  | 3 => .array .int
  | 4 => .array .int
  | 5 => .array .int
  | 6 => .array .int
  | 7 => .array .int
  | _ => .array (.array .int)
abbrev wsX20 : List Cond := u_ws RX2 TX2 9
theorem nmX2 : ∀ a, a < 9 → ∀ b, b < 9 → a ≠ b → (TX2 a).2.1 ≠ (TX2 b).2.1 := by decide +kernel
theorem tyX2_ok : ∀ k, k < 9 → parseFieldDescriptor (TX2 k).2.2.1 = some (tyX2 k) := by decide +kernel
abbrev cX2_init : ByteArray := prog_4_method_1_code
def yX2_init : MethodName := ⟨RX2, "<init>", "()V"⟩
abbrev cX2_balanceOfAccounts : ByteArray := prog_4_method_2_code
def yX2_balanceOfAccounts : MethodName := ⟨RX2, "balanceOfAccounts", "(I)I"⟩
def RX3 : String := "Voucherworks$Lands"
def TX3 : u_T := fun k => match k with
  | 0 => ("Voucherworks$Lands", "life", "[I", true)
  | 1 => ("Voucherworks$Lands", "fee", "[I", true)
  | _ => ("Voucherworks$Lands", "share", "[I", true)
def tyX3 : Nat → FieldType := fun k => match k with
  | 0 => .array .int
  | 1 => .array .int
  | _ => .array .int
abbrev wsX30 : List Cond := u_ws RX3 TX3 3
theorem nmX3 : ∀ a, a < 3 → ∀ b, b < 3 → a ≠ b → (TX3 a).2.1 ≠ (TX3 b).2.1 := by decide +kernel
theorem tyX3_ok : ∀ k, k < 3 → parseFieldDescriptor (TX3 k).2.2.1 = some (tyX3 k) := by decide +kernel
abbrev cX3_init : ByteArray := prog_5_method_1_code
def yX3_init : MethodName := ⟨RX3, "<init>", "()V"⟩
def RX4 : String := "Voucherworks$Lots"
def TX4 : u_T := fun k => match k with
  | 0 => ("Voucherworks$Lots", "card", "[I", true)
  | 1 => ("Voucherworks$Lots", "origin", "[I", true)
  | 2 => ("Voucherworks$Lots", "left", "[I", true)
  | 3 => ("Voucherworks$Lots", "begin", "[I", true)
  | 4 => ("Voucherworks$Lots", "end", "[I", true)
  | 5 => ("Voucherworks$Lots", "row", "[I", true)
  | 6 => ("Voucherworks$Lots", "drawn", "[I", true)
  | _ => ("Voucherworks$Lots", "count", "I", false)
def tyX4 : Nat → FieldType := fun k => match k with
  | 0 => .array .int
  | 1 => .array .int
  | 2 => .array .int
  | 3 => .array .int
  | 4 => .array .int
  | 5 => .array .int
  | 6 => .array .int
  | _ => .int
abbrev wsX40 : List Cond := u_ws RX4 TX4 8
theorem nmX4 : ∀ a, a < 8 → ∀ b, b < 8 → a ≠ b → (TX4 a).2.1 ≠ (TX4 b).2.1 := by decide +kernel
theorem tyX4_ok : ∀ k, k < 8 → parseFieldDescriptor (TX4 k).2.2.1 = some (tyX4 k) := by decide +kernel
abbrev cX4_init : ByteArray := prog_6_method_1_code
def yX4_init : MethodName := ⟨RX4, "<init>", "()V"⟩
abbrev cX4_isFull : ByteArray := prog_6_method_2_code
def yX4_isFull : MethodName := ⟨RX4, "isFull", "()Z"⟩
abbrev cX4_add : ByteArray := prog_6_method_3_code
def yX4_add : MethodName := ⟨RX4, "add", "(IIIII)V"⟩
abbrev cX4_balance : ByteArray := prog_6_method_4_code
def yX4_balance : MethodName := ⟨RX4, "balance", "(I)I"⟩
abbrev cX4_moveAll : ByteArray := prog_6_method_5_code
def yX4_moveAll : MethodName := ⟨RX4, "moveAll", "(II)V"⟩
abbrev cX4_hasExpired : ByteArray := prog_6_method_6_code
def yX4_hasExpired : MethodName := ⟨RX4, "hasExpired", "(II)Z"⟩
abbrev cX4_isAhead : ByteArray := prog_6_method_7_code
def yX4_isAhead : MethodName := ⟨RX4, "isAhead", "(II)Z"⟩
abbrev cX4_putInRow : ByteArray := prog_6_method_8_code
def yX4_putInRow : MethodName := ⟨RX4, "putInRow", "(II)V"⟩
abbrev cX4_putInOrder : ByteArray := prog_6_method_9_code
def yX4_putInOrder : MethodName := ⟨RX4, "putInOrder", "(I)I"⟩
abbrev cX4_takeInOrder : ByteArray := prog_6_method_10_code
def yX4_takeInOrder : MethodName := ⟨RX4, "takeInOrder", "(II)V"⟩
abbrev cX4_planBack : ByteArray := prog_6_method_11_code
def yX4_planBack : MethodName := ⟨RX4, "planBack", "([II)V"⟩
abbrev cX4_plannedForExpired : ByteArray := prog_6_method_12_code
def yX4_plannedForExpired : MethodName := ⟨RX4, "plannedForExpired", "(I)I"⟩
abbrev cX4_putBackUnexpired : ByteArray := prog_6_method_13_code
def yX4_putBackUnexpired : MethodName := ⟨RX4, "putBackUnexpired", "(I)V"⟩
abbrev cX4_breakage : ByteArray := prog_6_method_14_code
def yX4_breakage : MethodName := ⟨RX4, "breakage", "(III)I"⟩
def RX5 : String := "Voucherworks$Payments"
def TX5 : u_T := fun k => match k with
  | 0 => ("Voucherworks$Payments", "card", "[I", true)
  | 1 => ("Voucherworks$Payments", "took", "[I", true)
  | 2 => ("Voucherworks$Payments", "net", "[I", true)
  | 3 => ("Voucherworks$Payments", "month", "[I", true)
  | 4 => ("Voucherworks$Payments", "open", "[[I", true)
  | _ => ("Voucherworks$Payments", "count", "I", false)
def tyX5 : Nat → FieldType := fun k => match k with
  | 0 => .array .int
  | 1 => .array .int
  | 2 => .array .int
  | 3 => .array .int
  | 4 => .array (.array .int)
  | _ => .int
abbrev wsX50 : List Cond := u_ws RX5 TX5 6
theorem nmX5 : ∀ a, a < 6 → ∀ b, b < 6 → a ≠ b → (TX5 a).2.1 ≠ (TX5 b).2.1 := by decide +kernel
theorem tyX5_ok : ∀ k, k < 6 → parseFieldDescriptor (TX5 k).2.2.1 = some (tyX5 k) := by decide +kernel
abbrev cX5_init : ByteArray := prog_7_method_1_code
def yX5_init : MethodName := ⟨RX5, "<init>", "()V"⟩
abbrev cX5_add : ByteArray := prog_7_method_2_code
def yX5_add : MethodName := ⟨RX5, "add", "(III[I)I"⟩
abbrev cX5_takeFromOpen : ByteArray := prog_7_method_3_code
def yX5_takeFromOpen : MethodName := ⟨RX5, "takeFromOpen", "(I[I)V"⟩
abbrev cX5_moveAll : ByteArray := prog_7_method_4_code
def yX5_moveAll : MethodName := ⟨RX5, "moveAll", "(II)V"⟩
abbrev cX5_marks : ByteArray := prog_7_method_5_code
def yX5_marks : MethodName := ⟨RX5, "marks", "(I)I"⟩
abbrev cX5_marksOfCard : ByteArray := prog_7_method_6_code
def yX5_marksOfCard : MethodName := ⟨RX5, "marksOfCard", "(IIZ)I"⟩
abbrev cX5_isPending : ByteArray := prog_7_method_7_code
def yX5_isPending : MethodName := ⟨RX5, "isPending", "(II)Z"⟩
def RX6 : String := "Voucherworks"
def TX6 : u_T := fun k => match k with
  | 0 => ("Voucherworks", "lands", "LVoucherworks$Lands;", true)
  | 1 => ("Voucherworks", "chains", "LVoucherworks$Chains;", true)
  | 2 => ("Voucherworks", "cards", "LVoucherworks$Cards;", true)
  | 3 => ("Voucherworks", "lots", "LVoucherworks$Lots;", true)
  | 4 => ("Voucherworks", "campaigns", "LVoucherworks$Campaigns;", true)
  | 5 => ("Voucherworks", "payments", "LVoucherworks$Payments;", true)
  | _ => ("Voucherworks", "now", "I", false)
def tyX6 : Nat → FieldType := fun k => match k with
  | 0 => .object "Voucherworks$Lands"
  | 1 => .object "Voucherworks$Chains"
  | 2 => .object "Voucherworks$Cards"
  | 3 => .object "Voucherworks$Lots"
  | 4 => .object "Voucherworks$Campaigns"
  | 5 => .object "Voucherworks$Payments"
  | _ => .int
abbrev wsX60 : List Cond := u_ws RX6 TX6 7
theorem nmX6 : ∀ a, a < 7 → ∀ b, b < 7 → a ≠ b → (TX6 a).2.1 ≠ (TX6 b).2.1 := by decide +kernel
theorem tyX6_ok : ∀ k, k < 7 → parseFieldDescriptor (TX6 k).2.2.1 = some (tyX6 k) := by decide +kernel
abbrev cX6_init : ByteArray := prog_1_method_1_code
def yX6_init : MethodName := ⟨RX6, "<init>", "()V"⟩
abbrev cX6_law : ByteArray := prog_1_method_2_code
def yX6_law : MethodName := ⟨RX6, "law", "(IIII)I"⟩
abbrev cX6_rate : ByteArray := prog_1_method_3_code
def yX6_rate : MethodName := ⟨RX6, "rate", "(II)I"⟩
abbrev cX6_sell : ByteArray := prog_1_method_4_code
def yX6_sell : MethodName := ⟨RX6, "sell", "(III)I"⟩
abbrev cX6_load : ByteArray := prog_1_method_5_code
def yX6_load : MethodName := ⟨RX6, "load", "(IIZ)I"⟩
abbrev cX6_campaign : ByteArray := prog_1_method_6_code
def yX6_campaign : MethodName := ⟨RX6, "campaign", "(ZII)I"⟩
abbrev cX6_bar : ByteArray := prog_1_method_7_code
def yX6_bar : MethodName := ⟨RX6, "bar", "(IIZ)Z"⟩
abbrev cX6_best : ByteArray := prog_1_method_8_code
def yX6_best : MethodName := ⟨RX6, "best", "(I)I"⟩
abbrev cX6_bestAnew : ByteArray := prog_1_method_9_code
def yX6_bestAnew : MethodName := ⟨RX6, "bestAnew", "(I)I"⟩
abbrev cX6_fewest : ByteArray := prog_1_method_10_code
def yX6_fewest : MethodName := ⟨RX6, "fewest", "(I)I"⟩
abbrev cX6_pay : ByteArray := prog_1_method_11_code
def yX6_pay : MethodName := ⟨RX6, "pay", "(II)I"⟩
abbrev cX6_whyNot : ByteArray := prog_1_method_12_code
def yX6_whyNot : MethodName := ⟨RX6, "whyNot", "(II)I"⟩
abbrev cX6_giveBack : ByteArray := prog_1_method_13_code
def yX6_giveBack : MethodName := ⟨RX6, "giveBack", "(II)I"⟩
abbrev cX6_convert : ByteArray := prog_1_method_14_code
def yX6_convert : MethodName := ⟨RX6, "convert", "(II)I"⟩
abbrev cX6_join : ByteArray := prog_1_method_15_code
def yX6_join : MethodName := ⟨RX6, "join", "(II)I"⟩
abbrev cX6_attempt : ByteArray := prog_1_method_16_code
def yX6_attempt : MethodName := ⟨RX6, "attempt", "(II)Z"⟩
abbrev cX6_free : ByteArray := prog_1_method_17_code
def yX6_free : MethodName := ⟨RX6, "free", "(I)Z"⟩
abbrev cX6_pass : ByteArray := prog_1_method_18_code
def yX6_pass : MethodName := ⟨RX6, "pass", "()I"⟩
abbrev cX6_die : ByteArray := prog_1_method_19_code
def yX6_die : MethodName := ⟨RX6, "die", "(II)I"⟩
abbrev cX6_month : ByteArray := prog_1_method_20_code
def yX6_month : MethodName := ⟨RX6, "month", "()I"⟩
abbrev cX6_ofCard : ByteArray := prog_1_method_21_code
def yX6_ofCard : MethodName := ⟨RX6, "ofCard", "(II)I"⟩
abbrev cX6_ofLot : ByteArray := prog_1_method_22_code
def yX6_ofLot : MethodName := ⟨RX6, "ofLot", "(II)I"⟩
abbrev cX6_orderAt : ByteArray := prog_1_method_23_code
def yX6_orderAt : MethodName := ⟨RX6, "orderAt", "(II)I"⟩
abbrev cX6_ofPayment : ByteArray := prog_1_method_24_code
def yX6_ofPayment : MethodName := ⟨RX6, "ofPayment", "(II)I"⟩
abbrev cX6_taken : ByteArray := prog_1_method_25_code
def yX6_taken : MethodName := ⟨RX6, "taken", "(II)I"⟩
abbrev cX6_ofChain : ByteArray := prog_1_method_26_code
def yX6_ofChain : MethodName := ⟨RX6, "ofChain", "(II)I"⟩
abbrev cX6_owed : ByteArray := prog_1_method_27_code
def yX6_owed : MethodName := ⟨RX6, "owed", "(II)I"⟩
abbrev cX6_leftAnew : ByteArray := prog_1_method_28_code
def yX6_leftAnew : MethodName := ⟨RX6, "leftAnew", "(I)I"⟩
abbrev cX6_booked : ByteArray := prog_1_method_29_code
def yX6_booked : MethodName := ⟨RX6, "booked", "(I)I"⟩
abbrev cX6_needPlace : ByteArray := prog_1_method_30_code
def yX6_needPlace : MethodName := ⟨RX6, "needPlace", "(II)V"⟩
abbrev cX6_needRange : ByteArray := prog_1_method_31_code
def yX6_needRange : MethodName := ⟨RX6, "needRange", "(III)V"⟩
abbrev cX6_needMultiple : ByteArray := prog_1_method_32_code
def yX6_needMultiple : MethodName := ⟨RX6, "needMultiple", "(II)V"⟩
abbrev cX6_needUnlike : ByteArray := prog_1_method_33_code
def yX6_needUnlike : MethodName := ⟨RX6, "needUnlike", "(II)V"⟩
abbrev cX6_refuseIf : ByteArray := prog_1_method_34_code
def yX6_refuseIf : MethodName := ⟨RX6, "refuseIf", "(Z)V"⟩
abbrev cX6_reasonAgainst : ByteArray := prog_1_method_35_code
def yX6_reasonAgainst : MethodName := ⟨RX6, "reasonAgainst", "(II)I"⟩
abbrev cX6_isOfDead : ByteArray := prog_1_method_36_code
def yX6_isOfDead : MethodName := ⟨RX6, "isOfDead", "(I)Z"⟩
abbrev cX6_isOfChain : ByteArray := prog_1_method_37_code
def yX6_isOfChain : MethodName := ⟨RX6, "isOfChain", "(II)Z"⟩
abbrev cX6_addBought : ByteArray := prog_1_method_38_code
def yX6_addBought : MethodName := ⟨RX6, "addBought", "(II)V"⟩
abbrev cX6_addGift : ByteArray := prog_1_method_39_code
def yX6_addGift : MethodName := ⟨RX6, "addGift", "(IIII)V"⟩
abbrev cX6_marksOf : ByteArray := prog_1_method_40_code
def yX6_marksOf : MethodName := ⟨RX6, "marksOf", "(I)I"⟩
abbrev cX6_endLots : ByteArray := prog_1_method_41_code
def yX6_endLots : MethodName := ⟨RX6, "endLots", "(I)V"⟩
abbrev cX6_endLot : ByteArray := prog_1_method_42_code
def yX6_endLot : MethodName := ⟨RX6, "endLot", "(II)V"⟩
abbrev cX6_takeFee : ByteArray := prog_1_method_43_code
def yX6_takeFee : MethodName := ⟨RX6, "takeFee", "(I)V"⟩
abbrev cX6_payOut : ByteArray := prog_1_method_44_code
def yX6_payOut : MethodName := ⟨RX6, "payOut", "(III)I"⟩
abbrev cX6_claimOf : ByteArray := prog_1_method_45_code
def yX6_claimOf : MethodName := ⟨RX6, "claimOf", "(II)I"⟩
abbrev cX6_leftOf : ByteArray := prog_1_method_46_code
def yX6_leftOf : MethodName := ⟨RX6, "leftOf", "(I)I"⟩
abbrev cX6_netOf : ByteArray := prog_1_method_47_code
def yX6_netOf : MethodName := ⟨RX6, "netOf", "(I)I"⟩
def RX7 : String := "VoucherworksModel"
def TX7 : u_T := fun k => match k with
  | 0 => ("VoucherworksModel", "thrown", "I", false)
  | 1 => ("VoucherworksModel", "month", "I", false)
  | 2 => ("VoucherworksModel", "lives", "[I", true)
  | 3 => ("VoucherworksModel", "fees", "[I", true)
  | 4 => ("VoucherworksModel", "shares", "[I", true)
  | 5 => ("VoucherworksModel", "areDead", "[Z", true)
  | 6 => ("VoucherworksModel", "rates", "[I", true)
  | 7 => ("VoucherworksModel", "cards", "I", false)
  | 8 => ("VoucherworksModel", "chainOf", "[I", true)
  | 9 => ("VoucherworksModel", "landOf", "[I", true)
  | 10 => ("VoucherworksModel", "lifeOf", "[I", true)
  | 11 => ("VoucherworksModel", "feeOf", "[I", true)
  | 12 => ("VoucherworksModel", "shareOf", "[I", true)
  | 13 => ("VoucherworksModel", "states", "[I", true)
  | 14 => ("VoucherworksModel", "usedOn", "[I", true)
  | 15 => ("VoucherworksModel", "misses", "[I", true)
  | 16 => ("VoucherworksModel", "converted", "[I", true)
  | 17 => ("VoucherworksModel", "lots", "I", false)
  | 18 => ("VoucherworksModel", "cardOf", "[I", true)
  | 19 => ("VoucherworksModel", "origins", "[I", true)
  | 20 => ("VoucherworksModel", "left", "[I", true)
  | 21 => ("VoucherworksModel", "begins", "[I", true)
  | 22 => ("VoucherworksModel", "ends", "[I", true)
  | 23 => ("VoucherworksModel", "campaigns", "I", false)
  | 24 => ("VoucherworksModel", "inHundredths", "[Z", true)
  | 25 => ("VoucherworksModel", "values", "[I", true)
  | 26 => ("VoucherworksModel", "leasts", "[I", true)
  | 27 => ("VoucherworksModel", "bars", "[Z", true)
  | 28 => ("VoucherworksModel", "got", "[Z", true)
  | 29 => ("VoucherworksModel", "least", "I", false)
  | 30 => ("VoucherworksModel", "many", "I", false)
  | 31 => ("VoucherworksModel", "payments", "I", false)
  | 32 => ("VoucherworksModel", "paidWith", "[I", true)
  | 33 => ("VoucherworksModel", "paidOn", "[I", true)
  | 34 => ("VoucherworksModel", "tookAll", "[I", true)
  | 35 => ("VoucherworksModel", "nets", "[I", true)
  | 36 => ("VoucherworksModel", "places", "[I", true)
  | 37 => ("VoucherworksModel", "tookAt", "[I", true)
  | 38 => ("VoucherworksModel", "took", "[I", true)
  | 39 => ("VoucherworksModel", "received", "[I", true)
  | 40 => ("VoucherworksModel", "granted", "[I", true)
  | 41 => ("VoucherworksModel", "incomes", "[I", true)
  | 42 => ("VoucherworksModel", "voids", "[I", true)
  | 43 => ("VoucherworksModel", "paidOut", "[I", true)
  | 44 => ("VoucherworksModel", "lost", "[I", true)
  | _ => ("VoucherworksModel", "owes", "[I", true)
def tyX7 : Nat → FieldType := fun k => match k with
  | 0 => .int
  | 1 => .int
  | 2 => .array .int
  | 3 => .array .int
  | 4 => .array .int
  | 5 => .array .boolean
  | 6 => .array .int
  | 7 => .int
  | 8 => .array .int
  | 9 => .array .int
  | 10 => .array .int
  | 11 => .array .int
  | 12 => .array .int
  | 13 => .array .int
  | 14 => .array .int
  | 15 => .array .int
  | 16 => .array .int
  | 17 => .int
  | 18 => .array .int
  | 19 => .array .int
  | 20 => .array .int
  | 21 => .array .int
  | 22 => .array .int
  | 23 => .int
  | 24 => .array .boolean
  | 25 => .array .int
  | 26 => .array .int
  | 27 => .array .boolean
  | 28 => .array .boolean
  | 29 => .int
  | 30 => .int
  | 31 => .int
  | 32 => .array .int
  | 33 => .array .int
  | 34 => .array .int
  | 35 => .array .int
  | 36 => .array .int
  | 37 => .array .int
  | 38 => .array .int
  | 39 => .array .int
  | 40 => .array .int
  | 41 => .array .int
  | 42 => .array .int
  | 43 => .array .int
  | 44 => .array .int
  | _ => .array .int
abbrev wsX70 : List Cond := u_ws RX7 TX7 46
theorem nmX7 : ∀ a, a < 46 → ∀ b, b < 46 → a ≠ b → (TX7 a).2.1 ≠ (TX7 b).2.1 := by decide +kernel
theorem tyX7_ok : ∀ k, k < 46 → parseFieldDescriptor (TX7 k).2.2.1 = some (tyX7 k) := by decide +kernel
abbrev cX7_init : ByteArray := prog_9_method_1_code
def yX7_init : MethodName := ⟨RX7, "<init>", "()V"⟩
abbrev cX7_thrown : ByteArray := prog_9_method_2_code
def yX7_thrown : MethodName := ⟨RX7, "thrown", "()I"⟩
abbrev cX7_holds : ByteArray := prog_9_method_3_code
def yX7_holds : MethodName := ⟨RX7, "holds", "(I)Z"⟩
abbrev cX7_in : ByteArray := prog_9_method_4_code
def yX7_in : MethodName := ⟨RX7, "in", "(III)Z"⟩
abbrev cX7_isLand : ByteArray := prog_9_method_5_code
def yX7_isLand : MethodName := ⟨RX7, "isLand", "(I)Z"⟩
abbrev cX7_isChain : ByteArray := prog_9_method_6_code
def yX7_isChain : MethodName := ⟨RX7, "isChain", "(I)Z"⟩
abbrev cX7_isCard : ByteArray := prog_9_method_7_code
def yX7_isCard : MethodName := ⟨RX7, "isCard", "(I)Z"⟩
abbrev cX7_isLot : ByteArray := prog_9_method_8_code
def yX7_isLot : MethodName := ⟨RX7, "isLot", "(I)Z"⟩
abbrev cX7_isCampaign : ByteArray := prog_9_method_9_code
def yX7_isCampaign : MethodName := ⟨RX7, "isCampaign", "(I)Z"⟩
abbrev cX7_isPayment : ByteArray := prog_9_method_10_code
def yX7_isPayment : MethodName := ⟨RX7, "isPayment", "(I)Z"⟩
abbrev cX7_law : ByteArray := prog_9_method_11_code
def yX7_law : MethodName := ⟨RX7, "law", "(IIII)I"⟩
abbrev cX7_rate : ByteArray := prog_9_method_12_code
def yX7_rate : MethodName := ⟨RX7, "rate", "(II)I"⟩
abbrev cX7_comes : ByteArray := prog_9_method_13_code
def yX7_comes : MethodName := ⟨RX7, "comes", "(III)V"⟩
abbrev cX7_sell : ByteArray := prog_9_method_14_code
def yX7_sell : MethodName := ⟨RX7, "sell", "(III)I"⟩
abbrev cX7_balance : ByteArray := prog_9_method_15_code
def yX7_balance : MethodName := ⟨RX7, "balance", "(I)I"⟩
abbrev cX7_load : ByteArray := prog_9_method_16_code
def yX7_load : MethodName := ⟨RX7, "load", "(IIZ)I"⟩
abbrev cX7_campaign : ByteArray := prog_9_method_17_code
def yX7_campaign : MethodName := ⟨RX7, "campaign", "(ZII)I"⟩
abbrev cX7_bar : ByteArray := prog_9_method_18_code
def yX7_bar : MethodName := ⟨RX7, "bar", "(IIZ)Z"⟩
abbrev cX7_applied : ByteArray := prog_9_method_19_code
def yX7_applied : MethodName := ⟨RX7, "applied", "(II)I"⟩
abbrev cX7_isBarred : ByteArray := prog_9_method_20_code
def yX7_isBarred : MethodName := ⟨RX7, "isBarred", "(I)Z"⟩
abbrev cX7_size : ByteArray := prog_9_method_21_code
def yX7_size : MethodName := ⟨RX7, "size", "(I)I"⟩
abbrev cX7_finds : ByteArray := prog_9_method_22_code
def yX7_finds : MethodName := ⟨RX7, "finds", "(I)V"⟩
abbrev cX7_best : ByteArray := prog_9_method_23_code
def yX7_best : MethodName := ⟨RX7, "best", "(I)I"⟩
abbrev cX7_bestAnew : ByteArray := prog_9_method_24_code
def yX7_bestAnew : MethodName := ⟨RX7, "bestAnew", "(I)I"⟩
abbrev cX7_fewest : ByteArray := prog_9_method_25_code
def yX7_fewest : MethodName := ⟨RX7, "fewest", "(I)I"⟩
abbrev cX7_isAhead : ByteArray := prog_9_method_26_code
def yX7_isAhead : MethodName := ⟨RX7, "isAhead", "(II)Z"⟩
abbrev cX7_first : ByteArray := prog_9_method_27_code
def yX7_first : MethodName := ⟨RX7, "first", "(I)I"⟩
abbrev cX7_whyOf : ByteArray := prog_9_method_28_code
def yX7_whyOf : MethodName := ⟨RX7, "whyOf", "(II)I"⟩
abbrev cX7_pay : ByteArray := prog_9_method_29_code
def yX7_pay : MethodName := ⟨RX7, "pay", "(II)I"⟩
abbrev cX7_whyNot : ByteArray := prog_9_method_30_code
def yX7_whyNot : MethodName := ⟨RX7, "whyNot", "(II)I"⟩
abbrev cX7_goesBack : ByteArray := prog_9_method_31_code
def yX7_goesBack : MethodName := ⟨RX7, "goesBack", "(IIZ)I"⟩
abbrev cX7_giveBack : ByteArray := prog_9_method_32_code
def yX7_giveBack : MethodName := ⟨RX7, "giveBack", "(II)I"⟩
abbrev cX7_marks : ByteArray := prog_9_method_33_code
def yX7_marks : MethodName := ⟨RX7, "marks", "(IZ)I"⟩
abbrev cX7_convert : ByteArray := prog_9_method_34_code
def yX7_convert : MethodName := ⟨RX7, "convert", "(II)I"⟩
abbrev cX7_join : ByteArray := prog_9_method_35_code
def yX7_join : MethodName := ⟨RX7, "join", "(II)I"⟩
abbrev cX7_code : ByteArray := prog_9_method_36_code
def yX7_code : MethodName := ⟨RX7, "code", "(I)I"⟩
abbrev cX7_attempt : ByteArray := prog_9_method_37_code
def yX7_attempt : MethodName := ⟨RX7, "attempt", "(II)Z"⟩
abbrev cX7_free : ByteArray := prog_9_method_38_code
def yX7_free : MethodName := ⟨RX7, "free", "(I)Z"⟩
abbrev cX7_expires : ByteArray := prog_9_method_39_code
def yX7_expires : MethodName := ⟨RX7, "expires", "(I)V"⟩
abbrev cX7_fades : ByteArray := prog_9_method_40_code
def yX7_fades : MethodName := ⟨RX7, "fades", "(I)V"⟩
abbrev cX7_pass : ByteArray := prog_9_method_41_code
def yX7_pass : MethodName := ⟨RX7, "pass", "()I"⟩
abbrev cX7_isOf : ByteArray := prog_9_method_42_code
def yX7_isOf : MethodName := ⟨RX7, "isOf", "(III)Z"⟩
abbrev cX7_claim : ByteArray := prog_9_method_43_code
def yX7_claim : MethodName := ⟨RX7, "claim", "(II)I"⟩
abbrev cX7_die : ByteArray := prog_9_method_44_code
def yX7_die : MethodName := ⟨RX7, "die", "(II)I"⟩
abbrev cX7_month : ByteArray := prog_9_method_45_code
def yX7_month : MethodName := ⟨RX7, "month", "()I"⟩
abbrev cX7_ofCard : ByteArray := prog_9_method_46_code
def yX7_ofCard : MethodName := ⟨RX7, "ofCard", "(II)I"⟩
abbrev cX7_ofLot : ByteArray := prog_9_method_47_code
def yX7_ofLot : MethodName := ⟨RX7, "ofLot", "(II)I"⟩
abbrev cX7_orderAt : ByteArray := prog_9_method_48_code
def yX7_orderAt : MethodName := ⟨RX7, "orderAt", "(II)I"⟩
abbrev cX7_ofPayment : ByteArray := prog_9_method_49_code
def yX7_ofPayment : MethodName := ⟨RX7, "ofPayment", "(II)I"⟩
abbrev cX7_taken : ByteArray := prog_9_method_50_code
def yX7_taken : MethodName := ⟨RX7, "taken", "(II)I"⟩
abbrev cX7_netOf : ByteArray := prog_9_method_51_code
def yX7_netOf : MethodName := ⟨RX7, "netOf", "(I)I"⟩
abbrev cX7_ofChain : ByteArray := prog_9_method_52_code
def yX7_ofChain : MethodName := ⟨RX7, "ofChain", "(II)I"⟩
abbrev cX7_owed : ByteArray := prog_9_method_53_code
def yX7_owed : MethodName := ⟨RX7, "owed", "(II)I"⟩
abbrev cX7_leftAnew : ByteArray := prog_9_method_54_code
def yX7_leftAnew : MethodName := ⟨RX7, "leftAnew", "(I)I"⟩
abbrev cX7_booked : ByteArray := prog_9_method_55_code
def yX7_booked : MethodName := ⟨RX7, "booked", "(I)I"⟩
def RJx145de : String := "java/io/Serializable"
def TJx145de : u_T := fun k => match k with
  | _ => ("", "", "", false)
def tyJx145de : Nat → FieldType := fun k => match k with
  | _ => .int
theorem nmJx145de : ∀ a, a < 0 → ∀ b, b < 0 → a ≠ b → (TJx145de a).2.1 ≠ (TJx145de b).2.1 := by decide +kernel
theorem tyJx145de_ok : ∀ k, k < 0 → parseFieldDescriptor (TJx145de k).2.2.1 = some (tyJx145de k) := by decide +kernel
def RJ6 : String := "java/lang/Integer"
def TJ6 : u_T := fun k => match k with
  | _ => ("", "", "", false)
def tyJ6 : Nat → FieldType := fun k => match k with
  | _ => .int
theorem nmJ6 : ∀ a, a < 0 → ∀ b, b < 0 → a ≠ b → (TJ6 a).2.1 ≠ (TJ6 b).2.1 := by decide +kernel
theorem tyJ6_ok : ∀ k, k < 0 → parseFieldDescriptor (TJ6 k).2.2.1 = some (tyJ6 k) := by decide +kernel
abbrev cJ6_bitCount_0f7a4 : ByteArray := prog_14_method_49_code
def yJ6_bitCount_0f7a4 : MethodName := ⟨RJ6, "bitCount", "(I)I"⟩
def RJ9 : String := "java/lang/Math"
def TJ9 : u_T := fun k => match k with
  | _ => ("", "", "", false)
def tyJ9 : Nat → FieldType := fun k => match k with
  | _ => .int
theorem nmJ9 : ∀ a, a < 0 → ∀ b, b < 0 → a ≠ b → (TJ9 a).2.1 ≠ (TJ9 b).2.1 := by decide +kernel
theorem tyJ9_ok : ∀ k, k < 0 → parseFieldDescriptor (TJ9 k).2.2.1 = some (tyJ9 k) := by decide +kernel
abbrev cJ9_max_7cf53 : ByteArray := prog_15_method_65_code
def yJ9_max_7cf53 : MethodName := ⟨RJ9, "max", "(II)I"⟩
abbrev cJ9_min_7cf53 : ByteArray := prog_15_method_69_code
def yJ9_min_7cf53 : MethodName := ⟨RJ9, "min", "(II)I"⟩
def RJ0 : String := "java/lang/String"
def TJ0 : u_T := fun k => match k with
  | _ => ("", "", "", false)
def tyJ0 : Nat → FieldType := fun k => match k with
  | _ => .int
theorem nmJ0 : ∀ a, a < 0 → ∀ b, b < 0 → a ≠ b → (TJ0 a).2.1 ≠ (TJ0 b).2.1 := by decide +kernel
theorem tyJ0_ok : ∀ k, k < 0 → parseFieldDescriptor (TJ0 k).2.2.1 = some (tyJ0 k) := by decide +kernel
def RJ7 : String := "java/util/Arrays"
def TJ7 : u_T := fun k => match k with
  | _ => ("", "", "", false)
def tyJ7 : Nat → FieldType := fun k => match k with
  | _ => .int
theorem nmJ7 : ∀ a, a < 0 → ∀ b, b < 0 → a ≠ b → (TJ7 a).2.1 ≠ (TJ7 b).2.1 := by decide +kernel
theorem tyJ7_ok : ∀ k, k < 0 → parseFieldDescriptor (TJ7 k).2.2.1 = some (tyJ7 k) := by decide +kernel
abbrev cJ7_fill_53178 : ByteArray := prog_19_method_103_code
def yJ7_fill_53178 : MethodName := ⟨RJ7, "fill", "([II)V"⟩
def RL : String := "VoucherworksLaw"
abbrev cL_law : ByteArray := method_3_code
def yL_law : MethodName := ⟨RL, "law", "(LVoucherworks;IIII[J)I"⟩
abbrev cL_rate : ByteArray := method_4_code
def yL_rate : MethodName := ⟨RL, "rate", "(LVoucherworks;II[J)I"⟩
abbrev cL_sell : ByteArray := method_5_code
def yL_sell : MethodName := ⟨RL, "sell", "(LVoucherworks;III[J)I"⟩
abbrev cL_load : ByteArray := method_6_code
def yL_load : MethodName := ⟨RL, "load", "(LVoucherworks;IIZ[J)I"⟩
abbrev cL_campaign : ByteArray := method_7_code
def yL_campaign : MethodName := ⟨RL, "campaign", "(LVoucherworks;ZII[J)I"⟩
abbrev cL_bar : ByteArray := method_8_code
def yL_bar : MethodName := ⟨RL, "bar", "(LVoucherworks;IIZ[J)I"⟩
abbrev cL_best : ByteArray := method_9_code
def yL_best : MethodName := ⟨RL, "best", "(LVoucherworks;I[J)I"⟩
abbrev cL_bestAnew : ByteArray := method_10_code
def yL_bestAnew : MethodName := ⟨RL, "bestAnew", "(LVoucherworks;I[J)I"⟩
abbrev cL_fewest : ByteArray := method_11_code
def yL_fewest : MethodName := ⟨RL, "fewest", "(LVoucherworks;I[J)I"⟩
abbrev cL_pay : ByteArray := method_12_code
def yL_pay : MethodName := ⟨RL, "pay", "(LVoucherworks;II[J)I"⟩
abbrev cL_whyNot : ByteArray := method_13_code
def yL_whyNot : MethodName := ⟨RL, "whyNot", "(LVoucherworks;II[J)I"⟩
abbrev cL_giveBack : ByteArray := method_14_code
def yL_giveBack : MethodName := ⟨RL, "giveBack", "(LVoucherworks;II[J)I"⟩
abbrev cL_convert : ByteArray := method_15_code
def yL_convert : MethodName := ⟨RL, "convert", "(LVoucherworks;II[J)I"⟩
abbrev cL_join : ByteArray := method_16_code
def yL_join : MethodName := ⟨RL, "join", "(LVoucherworks;II[J)I"⟩
abbrev cL_attempt : ByteArray := method_17_code
def yL_attempt : MethodName := ⟨RL, "attempt", "(LVoucherworks;II[J)I"⟩
abbrev cL_free : ByteArray := method_18_code
def yL_free : MethodName := ⟨RL, "free", "(LVoucherworks;I[J)I"⟩
abbrev cL_pass : ByteArray := method_19_code
def yL_pass : MethodName := ⟨RL, "pass", "(LVoucherworks;[J)I"⟩
abbrev cL_die : ByteArray := method_20_code
def yL_die : MethodName := ⟨RL, "die", "(LVoucherworks;II[J)I"⟩
abbrev cL_ofCard : ByteArray := method_21_code
def yL_ofCard : MethodName := ⟨RL, "ofCard", "(LVoucherworks;II[J)I"⟩
abbrev cL_ofLot : ByteArray := method_22_code
def yL_ofLot : MethodName := ⟨RL, "ofLot", "(LVoucherworks;II[J)I"⟩
abbrev cL_orderAt : ByteArray := method_23_code
def yL_orderAt : MethodName := ⟨RL, "orderAt", "(LVoucherworks;II[J)I"⟩
abbrev cL_ofPayment : ByteArray := method_24_code
def yL_ofPayment : MethodName := ⟨RL, "ofPayment", "(LVoucherworks;II[J)I"⟩
abbrev cL_taken : ByteArray := method_25_code
def yL_taken : MethodName := ⟨RL, "taken", "(LVoucherworks;II[J)I"⟩
abbrev cL_ofChain : ByteArray := method_26_code
def yL_ofChain : MethodName := ⟨RL, "ofChain", "(LVoucherworks;II[J)I"⟩
abbrev cL_owed : ByteArray := method_27_code
def yL_owed : MethodName := ⟨RL, "owed", "(LVoucherworks;II[J)I"⟩
abbrev cL_leftAnew : ByteArray := method_28_code
def yL_leftAnew : MethodName := ⟨RL, "leftAnew", "(LVoucherworks;I[J)I"⟩
abbrev cL_booked : ByteArray := method_29_code
def yL_booked : MethodName := ⟨RL, "booked", "(LVoucherworks;I[J)I"⟩
abbrev cL_law_ : ByteArray := code
def yL_law_ : MethodName := ⟨RL, "law", "([I)Z"⟩
abbrev vwCl : List vw_C := [(RX0, TX0, 8), (RX1, TX1, 10), (RX2, TX2, 9), (RX3, TX3, 3), (RX4, TX4, 8), (RX5, TX5, 6), (RX6, TX6, 7), (RX7, TX7, 46)]
end
section
-- the program as tables
def az_codes : List ByteArray := [cX0_init, cX0_add, cX0_isBarring, cX0_setBarring, cX0_reduced, cX0_leastByOrders, cX0_leastFrom, cX0_lookAtAllSets, cX0_isWithoutBars, cX0_markPricesOf, cX0_applyToWord, cX0_mark, cX1_init, cX1_add, cX1_code, cX1_addMiss, cX2_init, cX2_balanceOfAccounts, cX3_init, cX4_init, cX4_isFull, cX4_add, cX4_balance, cX4_moveAll, cX4_hasExpired, cX4_isAhead, cX4_putInRow, cX4_putInOrder, cX4_takeInOrder, cX4_planBack, cX4_plannedForExpired, cX4_putBackUnexpired, cX4_breakage, cX5_init, cX5_add, cX5_takeFromOpen, cX5_moveAll, cX5_marks, cX5_marksOfCard, cX5_isPending, cX6_init, cX6_law, cX6_rate, cX6_sell, cX6_load, cX6_campaign, cX6_bar, cX6_best, cX6_bestAnew, cX6_fewest, cX6_pay, cX6_whyNot, cX6_giveBack, cX6_convert, cX6_join, cX6_attempt, cX6_free, cX6_pass, cX6_die, cX6_month, cX6_ofCard, cX6_ofLot, cX6_orderAt, cX6_ofPayment, cX6_taken, cX6_ofChain, cX6_owed, cX6_leftAnew, cX6_booked, cX6_needPlace, cX6_needRange, cX6_needMultiple, cX6_needUnlike, cX6_refuseIf, cX6_reasonAgainst, cX6_isOfDead, cX6_isOfChain, cX6_addBought, cX6_addGift, cX6_marksOf, cX6_endLots, cX6_endLot, cX6_takeFee, cX6_payOut, cX6_claimOf, cX6_leftOf, cX6_netOf, cX7_init, cX7_thrown, cX7_holds, cX7_in, cX7_isLand, cX7_isChain, cX7_isCard, cX7_isLot, cX7_isCampaign, cX7_isPayment, cX7_law, cX7_rate, cX7_comes, cX7_sell, cX7_balance, cX7_load, cX7_campaign, cX7_bar, cX7_applied, cX7_isBarred, cX7_size, cX7_finds, cX7_best, cX7_bestAnew, cX7_fewest, cX7_isAhead, cX7_first, cX7_whyOf, cX7_pay, cX7_whyNot, cX7_goesBack, cX7_giveBack, cX7_marks, cX7_convert, cX7_join, cX7_code, cX7_attempt, cX7_free, cX7_expires, cX7_fades, cX7_pass, cX7_isOf, cX7_claim, cX7_die, cX7_month, cX7_ofCard, cX7_ofLot, cX7_orderAt, cX7_ofPayment, cX7_taken, cX7_netOf, cX7_ofChain, cX7_owed, cX7_leftAnew, cX7_booked, cJ6_bitCount_0f7a4, cJ7_fill_53178, cL_law, cL_rate, cL_sell, cL_load, cL_campaign, cL_bar, cL_best, cL_bestAnew, cL_fewest, cL_pay, cL_whyNot, cL_giveBack, cL_convert, cL_join, cL_attempt, cL_free, cL_pass, cL_die, cL_ofCard, cL_ofLot, cL_orderAt, cL_ofPayment, cL_taken, cL_ofChain, cL_owed, cL_leftAnew, cL_booked, code]
def az_code (k : Nat) : ByteArray := az_codes.getD k ByteArray.empty
def az_owns : List Nat := [0, 0, 0, 0, 0, 0, 0, 0, 0, 0, 0, 0, 1, 1, 1, 1, 2, 2, 3, 4, 4, 4, 4, 4, 4, 4, 4, 4, 4, 4, 4, 4, 4, 5, 5, 5, 5, 5, 5, 5, 6, 6, 6, 6, 6, 6, 6, 6, 6, 6, 6, 6, 6, 6, 6, 6, 6, 6, 6, 6, 6, 6, 6, 6, 6, 6, 6, 6, 6, 6, 6, 6, 6, 6, 6, 6, 6, 6, 6, 6, 6, 6, 6, 6, 6, 6, 6, 7, 7, 7, 7, 7, 7, 7, 7, 7, 7, 7, 7, 7, 7, 7, 7, 7, 7, 7, 7, 7, 7, 7, 7, 7, 7, 7, 7, 7, 7, 7, 7, 7, 7, 7, 7, 7, 7, 7, 7, 7, 7, 7, 7, 7, 7, 7, 7, 7, 7, 7, 7, 7, 7, 7, 9, 10, 8, 8, 8, 8, 8, 8, 8, 8, 8, 8, 8, 8, 8, 8, 8, 8, 8, 8, 8, 8, 8, 8, 8, 8, 8, 8, 8, 8]
def az_own (k : Nat) : Nat := az_owns.getD k 99
def az_mls : List Nat := [1, 5, 3, 4, 3, 2, 8, 3, 3, 5, 9, 4, 1, 5, 4, 2, 1, 4, 1, 1, 1, 7, 4, 4, 3, 3, 4, 4, 8, 7, 4, 3, 5, 1, 7, 4, 4, 2, 6, 3, 1, 6, 4, 5, 4, 4, 5, 2, 2, 2, 4, 3, 5, 4, 3, 3, 2, 2, 5, 1, 3, 3, 4, 3, 3, 3, 3, 2, 4, 2, 3, 2, 2, 1, 3, 2, 3, 4, 5, 2, 3, 6, 3, 9, 5, 4, 4, 2, 1, 2, 3, 1, 1, 2, 2, 2, 2, 7, 4, 5, 5, 4, 6, 5, 6, 4, 4, 3, 7, 2, 2, 2, 3, 5, 3, 8, 3, 11, 7, 5, 7, 6, 4, 5, 3, 6, 5, 3, 4, 5, 10, 1, 3, 3, 7, 3, 3, 4, 3, 3, 4, 5, 1, 4, 7, 5, 6, 6, 6, 6, 4, 4, 4, 5, 5, 5, 5, 5, 5, 4, 3, 5, 5, 5, 5, 5, 5, 5, 5, 4, 4, 7]
def az_ml (k : Nat) : Nat := az_mls.getD k 0
def az_rts : List Nat := [0, 1, 2, 0, 1, 1, 1, 0, 2, 0, 0, 0, 0, 1, 1, 0, 0, 1, 0, 0, 2, 0, 1, 0, 2, 2, 0, 1, 0, 0, 1, 0, 1, 0, 1, 0, 0, 1, 1, 2, 0, 1, 1, 1, 1, 1, 2, 1, 1, 1, 1, 1, 1, 1, 1, 2, 2, 1, 1, 1, 1, 1, 1, 1, 1, 1, 1, 1, 1, 0, 0, 0, 0, 0, 1, 2, 2, 0, 0, 1, 0, 0, 0, 1, 1, 1, 1, 0, 1, 2, 2, 2, 2, 2, 2, 2, 2, 1, 1, 0, 1, 1, 1, 1, 2, 1, 2, 1, 0, 1, 1, 1, 2, 1, 1, 1, 1, 1, 1, 1, 1, 1, 1, 2, 2, 0, 0, 1, 2, 1, 1, 1, 1, 1, 1, 1, 1, 1, 1, 1, 1, 1, 1, 0, 1, 1, 1, 1, 1, 1, 1, 1, 1, 1, 1, 1, 1, 1, 1, 1, 1, 1, 1, 1, 1, 1, 1, 1, 1, 1, 1, 2]
def az_rt (k : Nat) : Nat := az_rts.getD k 9
def az_tots : List Nat := [1, 4, 3, 4, 3, 2, 4, 2, 2, 2, 5, 3, 1, 4, 2, 2, 1, 2, 1, 1, 1, 6, 2, 3, 3, 3, 3, 2, 3, 3, 2, 2, 4, 1, 5, 3, 3, 2, 4, 3, 1, 5, 3, 4, 4, 4, 4, 2, 2, 2, 3, 3, 3, 3, 3, 3, 2, 1, 3, 1, 3, 3, 3, 3, 3, 3, 3, 2, 2, 2, 3, 2, 2, 1, 3, 2, 3, 3, 5, 2, 2, 3, 2, 4, 3, 2, 2, 1, 1, 2, 3, 1, 1, 2, 2, 2, 2, 5, 3, 4, 4, 2, 4, 4, 4, 3, 2, 1, 2, 2, 2, 2, 3, 2, 3, 3, 3, 4, 3, 3, 3, 3, 2, 3, 2, 2, 2, 1, 4, 3, 3, 1, 3, 3, 3, 3, 3, 2, 3, 3, 2, 2, 1, 2, 6, 4, 5, 5, 5, 5, 3, 3, 3, 4, 4, 4, 4, 4, 4, 3, 2, 4, 4, 4, 4, 4, 4, 4, 4, 3, 3, 1]
def az_tot (k : Nat) : Nat := az_tots.getD k 0
def az_ys : List MethodName := [yX0_init, yX0_add, yX0_isBarring, yX0_setBarring, yX0_reduced, yX0_leastByOrders, yX0_leastFrom, yX0_lookAtAllSets, yX0_isWithoutBars, yX0_markPricesOf, yX0_applyToWord, yX0_mark, yX1_init, yX1_add, yX1_code, yX1_addMiss, yX2_init, yX2_balanceOfAccounts, yX3_init, yX4_init, yX4_isFull, yX4_add, yX4_balance, yX4_moveAll, yX4_hasExpired, yX4_isAhead, yX4_putInRow, yX4_putInOrder, yX4_takeInOrder, yX4_planBack, yX4_plannedForExpired, yX4_putBackUnexpired, yX4_breakage, yX5_init, yX5_add, yX5_takeFromOpen, yX5_moveAll, yX5_marks, yX5_marksOfCard, yX5_isPending, yX6_init, yX6_law, yX6_rate, yX6_sell, yX6_load, yX6_campaign, yX6_bar, yX6_best, yX6_bestAnew, yX6_fewest, yX6_pay, yX6_whyNot, yX6_giveBack, yX6_convert, yX6_join, yX6_attempt, yX6_free, yX6_pass, yX6_die, yX6_month, yX6_ofCard, yX6_ofLot, yX6_orderAt, yX6_ofPayment, yX6_taken, yX6_ofChain, yX6_owed, yX6_leftAnew, yX6_booked, yX6_needPlace, yX6_needRange, yX6_needMultiple, yX6_needUnlike, yX6_refuseIf, yX6_reasonAgainst, yX6_isOfDead, yX6_isOfChain, yX6_addBought, yX6_addGift, yX6_marksOf, yX6_endLots, yX6_endLot, yX6_takeFee, yX6_payOut, yX6_claimOf, yX6_leftOf, yX6_netOf, yX7_init, yX7_thrown, yX7_holds, yX7_in, yX7_isLand, yX7_isChain, yX7_isCard, yX7_isLot, yX7_isCampaign, yX7_isPayment, yX7_law, yX7_rate, yX7_comes, yX7_sell, yX7_balance, yX7_load, yX7_campaign, yX7_bar, yX7_applied, yX7_isBarred, yX7_size, yX7_finds, yX7_best, yX7_bestAnew, yX7_fewest, yX7_isAhead, yX7_first, yX7_whyOf, yX7_pay, yX7_whyNot, yX7_goesBack, yX7_giveBack, yX7_marks, yX7_convert, yX7_join, yX7_code, yX7_attempt, yX7_free, yX7_expires, yX7_fades, yX7_pass, yX7_isOf, yX7_claim, yX7_die, yX7_month, yX7_ofCard, yX7_ofLot, yX7_orderAt, yX7_ofPayment, yX7_taken, yX7_netOf, yX7_ofChain, yX7_owed, yX7_leftAnew, yX7_booked, yJ6_bitCount_0f7a4, yJ7_fill_53178, yL_law, yL_rate, yL_sell, yL_load, yL_campaign, yL_bar, yL_best, yL_bestAnew, yL_fewest, yL_pay, yL_whyNot, yL_giveBack, yL_convert, yL_join, yL_attempt, yL_free, yL_pass, yL_die, yL_ofCard, yL_ofLot, yL_orderAt, yL_ofPayment, yL_taken, yL_ofChain, yL_owed, yL_leftAnew, yL_booked, x]
def az_y (k : Nat) : MethodName := az_ys.getD k ⟨"", "", ""⟩
def az_Rs : List String := [RX0, RX1, RX2, RX3, RX4, RX5, RX6, RX7, RL, RJ6, RJ7]
def az_R (o : Nat) : String := az_Rs.getD o ""
def az_rf (r : Nat) : Option FieldType := if r = 1 then some .int else if r = 2 then some .boolean else none
def az_lk0 : List (Nat × Nat × Nat × Nat) := [(5, 4, 0, 0), (11, 0, 0, 0), (15, 0, 0, 1), (19, 0, 0, 2), (22, 0, 0, 3), (25, 7, 0, 0), (27, 0, 0, 4), (30, 0, 0, 5), (34, 0, 0, 6), (37, 0, 0, 7), (40, 2, 0, 0), (46, 1, 6, 4), (50, 1, 4, 3), (53, 3, 0, 0), (56, 1, 143, 2), (62, 1, 11, 3), (66, 1, 8, 2), (70, 1, 9, 2), (74, 1, 10, 5), (78, 1, 142, 1)]
def az_lk1 : List (Nat × Nat × Nat × Nat) := [(3, 4, 0, 0), (9, 0, 1, 0), (15, 0, 1, 1), (18, 0, 1, 2), (21, 0, 1, 3), (24, 0, 1, 4), (27, 0, 1, 5), (30, 0, 1, 6), (33, 0, 1, 7), (36, 0, 1, 8), (39, 0, 1, 9), (43, 0, 3, 0), (46, 0, 3, 1), (47, 0, 3, 2)]
def az_lk2 : List (Nat × Nat × Nat × Nat) := [(3, 4, 0, 0), (9, 0, 2, 0), (15, 0, 2, 1), (19, 0, 2, 2), (22, 0, 2, 3), (25, 0, 2, 4), (28, 0, 2, 5), (31, 0, 2, 6), (34, 0, 2, 7), (37, 7, 0, 0), (39, 0, 2, 8)]
def az_lk3 : List (Nat × Nat × Nat × Nat) := [(1, 4, 0, 0), (7, 0, 3, 0), (13, 0, 3, 1), (16, 0, 3, 2)]
def az_lk4 : List (Nat × Nat × Nat × Nat) := [(3, 4, 0, 0), (9, 0, 4, 0), (15, 0, 4, 1), (18, 0, 4, 2), (21, 0, 4, 3), (24, 0, 4, 4), (27, 0, 4, 5), (30, 0, 4, 6), (33, 0, 4, 7), (37, 1, 25, 3), (41, 1, 26, 3), (45, 1, 143, 2), (51, 1, 27, 2), (55, 3, 0, 0), (61, 1, 24, 3)]
def az_lk5 : List (Nat × Nat × Nat × Nat) := [(3, 4, 0, 0), (9, 0, 5, 0), (15, 0, 5, 1), (18, 0, 5, 2), (21, 0, 5, 3), (24, 7, 0, 0), (26, 0, 5, 4), (29, 0, 5, 5), (33, 1, 39, 3), (37, 1, 37, 2)]
def az_lk6 : List (Nat × Nat × Nat × Nat) := [(1, 4, 0, 0), (7, 5, 3, 3), (9, 1, 18, 1), (10, 0, 6, 0), (16, 5, 2, 9), (18, 1, 16, 1), (19, 0, 6, 1), (23, 5, 1, 10), (25, 1, 12, 1), (26, 0, 6, 2), (30, 5, 4, 8), (32, 1, 19, 1), (33, 0, 6, 3), (37, 5, 0, 8), (39, 1, 0, 1), (40, 0, 6, 4), (44, 5, 5, 6), (46, 1, 33, 1), (47, 0, 6, 5), (51, 0, 6, 6), (55, 1, 69, 2), (59, 1, 70, 3), (63, 0, 3, 0), (67, 0, 3, 1), (70, 0, 3, 2), (73, 0, 2, 1), (76, 0, 2, 0), (80, 0, 1, 9), (83, 1, 20, 1), (87, 1, 73, 1), (91, 1, 13, 4), (95, 0, 1, 6), (98, 1, 77, 3), (101, 0, 1, 5), (104, 1, 75, 2), (108, 1, 78, 5), (112, 1, 22, 2), (116, 0, 0, 7), (117, 1, 1, 4), (120, 1, 72, 2), (123, 1, 2, 3), (127, 1, 3, 4), (131, 1, 5, 2), (134, 1, 7, 2), (138, 0, 0, 5), (141, 0, 0, 6), (144, 1, 74, 3), (148, 1, 28, 3), (151, 0, 4, 6), (154, 1, 34, 5), (157, 0, 5, 5), (158, 0, 5, 2), (161, 0, 5, 0), (164, 0, 5, 4), (168, 1, 29, 3), (172, 1, 30, 2), (175, 1, 35, 3), (179, 1, 31, 2), (182, 1, 21, 6), (185, 1, 71, 2), (188, 1, 79, 2), (191, 0, 1, 8), (194, 0, 1, 0), (197, 1, 23, 3), (200, 1, 36, 3), (201, 0, 1, 7), (205, 1, 14, 2), (208, 1, 15, 2), (211, 1, 143, 2), (216, 1, 80, 2), (219, 1, 82, 2), (222, 1, 83, 4), (226, 1, 38, 4), (230, 0, 1, 2), (231, 0, 4, 7), (232, 0, 4, 0), (233, 0, 4, 1), (236, 0, 4, 2), (239, 0, 4, 4), (242, 0, 4, 3), (252, 1, 27, 2), (255, 0, 4, 5), (258, 0, 5, 1), (261, 0, 5, 3), (264, 1, 37, 2), (267, 0, 2, 2), (270, 0, 2, 3), (273, 1, 85, 2), (276, 1, 86, 2), (279, 0, 2, 4), (282, 0, 2, 5), (285, 0, 2, 6), (288, 0, 2, 7), (291, 0, 2, 8), (294, 1, 17, 2), (297, 1, 76, 3), (300, 1, 32, 4), (319, 1, 81, 3), (322, 0, 1, 4), (323, 0, 1, 1), (326, 0, 1, 3), (327, 3, 0, 0), (332, 1, 84, 3)]
def az_lk7 : List (Nat × Nat × Nat × Nat) := [(1, 4, 0, 0), (7, 0, 7, 2), (13, 0, 7, 3), (16, 0, 7, 4), (19, 0, 7, 5), (23, 0, 7, 6), (26, 0, 7, 8), (29, 0, 7, 9), (32, 0, 7, 10), (35, 0, 7, 11), (38, 0, 7, 12), (41, 0, 7, 13), (44, 0, 7, 14), (47, 0, 7, 15), (50, 0, 7, 16), (53, 0, 7, 18), (56, 0, 7, 19), (59, 0, 7, 20), (62, 0, 7, 21), (65, 0, 7, 22), (68, 0, 7, 24), (71, 0, 7, 25), (74, 0, 7, 26), (77, 0, 7, 27), (81, 0, 7, 28), (84, 0, 7, 32), (87, 0, 7, 33), (90, 0, 7, 34), (93, 0, 7, 35), (96, 0, 7, 36), (99, 0, 7, 37), (102, 0, 7, 38), (105, 0, 7, 39), (108, 0, 7, 40), (111, 0, 7, 41), (114, 0, 7, 42), (117, 0, 7, 43), (120, 0, 7, 44), (123, 0, 7, 45), (126, 0, 7, 0), (130, 1, 90, 3), (134, 0, 7, 7), (137, 0, 7, 17), (140, 0, 7, 23), (143, 0, 7, 31), (146, 1, 91, 1), (150, 1, 89, 2), (153, 1, 92, 1), (156, 0, 7, 1), (160, 1, 99, 4), (164, 1, 93, 2), (167, 1, 101, 2), (171, 1, 95, 2), (174, 0, 7, 29), (177, 0, 7, 30), (180, 1, 106, 2), (183, 1, 105, 3), (187, 1, 107, 1), (190, 1, 108, 2), (194, 1, 109, 2), (197, 1, 112, 3), (201, 1, 114, 3), (204, 1, 113, 2), (207, 1, 96, 2), (210, 1, 117, 4), (214, 1, 119, 3), (219, 1, 122, 2), (222, 1, 125, 2), (225, 1, 126, 2), (228, 1, 128, 4), (231, 1, 129, 3), (234, 1, 94, 2), (237, 1, 137, 2)]
def az_lk8 : List (Nat × Nat × Nat × Nat) := [(7, 1, 41, 5), (8, 5, 6, 7), (17, 1, 42, 3), (21, 1, 43, 4), (27, 1, 44, 4), (31, 1, 45, 4), (35, 1, 46, 4), (39, 1, 47, 2), (43, 1, 48, 2), (46, 1, 49, 2), (49, 1, 50, 3), (52, 1, 51, 3), (55, 1, 52, 3), (58, 1, 53, 3), (61, 1, 54, 3), (64, 1, 55, 3), (68, 1, 56, 2), (72, 1, 57, 1), (76, 1, 58, 3), (79, 1, 60, 3), (82, 1, 61, 3), (85, 1, 62, 3), (88, 1, 63, 3), (91, 1, 64, 3), (94, 1, 65, 3), (97, 1, 66, 3), (100, 1, 67, 2), (103, 1, 68, 2), (106, 1, 40, 1), (107, 5, 7, 46), (109, 1, 87, 1), (110, 1, 144, 6), (115, 1, 97, 5), (116, 1, 88, 1), (119, 1, 145, 4), (122, 1, 98, 3), (123, 1, 146, 5), (126, 1, 100, 4), (127, 1, 147, 5), (130, 1, 102, 4), (131, 1, 148, 5), (134, 1, 103, 4), (135, 1, 149, 5), (137, 1, 104, 4), (138, 1, 150, 3), (141, 1, 109, 2), (142, 1, 151, 3), (144, 1, 110, 2), (145, 1, 152, 3), (147, 1, 111, 2), (148, 1, 153, 4), (150, 1, 115, 3), (151, 1, 154, 4), (153, 1, 116, 3), (154, 1, 155, 4), (156, 1, 118, 3), (157, 1, 156, 4), (159, 1, 120, 3), (160, 1, 157, 4), (162, 1, 121, 3), (163, 1, 158, 4), (165, 1, 123, 3), (166, 1, 159, 3), (168, 1, 124, 2), (169, 1, 160, 2), (172, 1, 127, 1), (173, 1, 161, 4), (175, 1, 130, 3), (176, 1, 59, 1), (179, 1, 131, 1), (180, 1, 162, 4), (182, 1, 132, 3), (183, 1, 163, 4), (185, 1, 133, 3), (186, 1, 164, 4), (188, 1, 134, 3), (189, 1, 165, 4), (191, 1, 135, 3), (192, 1, 166, 4), (194, 1, 136, 3), (195, 1, 167, 4), (197, 1, 138, 3), (198, 1, 168, 4), (200, 1, 139, 3), (201, 1, 169, 3), (203, 1, 140, 2), (204, 1, 170, 3), (206, 1, 141, 2)]
def az_lk9 : List (Nat × Nat × Nat × Nat) := []
def az_lk10 : List (Nat × Nat × Nat × Nat) := []
def az_lks : List (List (Nat × Nat × Nat × Nat)) := [az_lk0, az_lk1, az_lk2, az_lk3, az_lk4, az_lk5, az_lk6, az_lk7, az_lk8, az_lk9, az_lk10]
def az_lk (o i : Nat) : Option (Nat × Nat × Nat) := ((az_lks.getD o []).find? (fun q => q.1 == i)).map (fun q => q.2)
def az_kcs : List (Nat × Nat × Int32) := [(6, 204, 99999), (7, 80, 64064), (7, 159, 100000), (7, 218, 99999), (9, 265, 1431655765), (9, 266, 858993459), (9, 267, 252645135)]
def az_kc (o i : Nat) : Option Int32 := (az_kcs.find? (fun q => q.1 == o && q.2.1 == i)).map (fun q => q.2.2)
def az_thrs : List (Nat × Nat × Nat) := [(62, 15, 1), (69, 9, 1), (70, 10, 2), (71, 10, 2), (72, 5, 2), (73, 4, 3)]
def az_thr (k pc : Nat) : Option Nat := (az_thrs.find? (fun q => q.1 == k && q.2.1 == pc)).map (fun q => q.2.2)
def az_xts : List (Nat × List (Nat × Nat × Nat × Nat × Nat)) := [(144, [(0, 14, 1, 6, 19), (0, 14, 2, 6, 23)]), (145, [(0, 10, 1, 4, 15), (0, 10, 2, 4, 19)]), (146, [(0, 12, 1, 5, 17), (0, 12, 2, 5, 21), (0, 12, 3, 5, 25)]), (147, [(0, 12, 1, 5, 17), (0, 12, 2, 5, 21), (0, 12, 3, 5, 25)]), (148, [(0, 12, 2, 5, 17), (0, 12, 3, 5, 21)]), (149, [(0, 19, 1, 5, 24), (0, 19, 2, 5, 28)]), (150, [(0, 9, 2, 3, 13)]), (151, [(0, 9, 2, 3, 13)]), (152, [(0, 9, 2, 3, 13)]), (153, [(0, 10, 1, 4, 15), (0, 10, 2, 4, 19), (0, 10, 3, 4, 23)]), (154, [(0, 10, 1, 4, 15), (0, 10, 2, 4, 19)]), (155, [(0, 10, 1, 4, 15), (0, 10, 2, 4, 19), (0, 10, 3, 4, 23)]), (156, [(0, 10, 1, 4, 15), (0, 10, 2, 4, 19), (0, 10, 3, 4, 23)]), (157, [(0, 10, 1, 4, 15), (0, 10, 2, 4, 19), (0, 10, 3, 4, 23)]), (158, [(0, 17, 1, 4, 22), (0, 17, 2, 4, 26), (0, 17, 3, 4, 30)]), (159, [(0, 16, 1, 3, 20)]), (160, [(0, 8, 3, 2, 12)]), (161, [(0, 10, 1, 4, 15), (0, 10, 2, 4, 19), (0, 10, 3, 4, 23)]), (162, [(0, 10, 1, 4, 15), (0, 10, 2, 4, 19)]), (163, [(0, 10, 1, 4, 15), (0, 10, 2, 4, 19)]), (164, [(0, 10, 1, 4, 15)]), (165, [(0, 10, 1, 4, 15), (0, 10, 2, 4, 19)]), (166, [(0, 10, 1, 4, 15)]), (167, [(0, 10, 1, 4, 15), (0, 10, 2, 4, 19)]), (168, [(0, 10, 1, 4, 15)]), (169, [(0, 9, 1, 3, 13)]), (170, [(0, 9, 1, 3, 13)])]
def az_xt (k : Nat) : List (Nat × Nat × Nat × Nat × Nat) := ((az_xts.find? (fun q => q.1 == k)).map (fun q => q.2)).getD []
def az_cl : List vw_C := [(RX0, TX0, 8), (RX1, TX1, 10), (RX2, TX2, 9), (RX3, TX3, 3), (RX4, TX4, 8), (RX5, TX5, 6), (RX6, TX6, 7), (RX7, TX7, 46)]
def az_Ts : List u_T := [TX0, TX1, TX2, TX3, TX4, TX5, TX6, TX7]
def az_T (c : Nat) : u_T := az_Ts.getD c TX0
def az_tys : List (Nat → FieldType) := [tyX0, tyX1, tyX2, tyX3, tyX4, tyX5, tyX6, tyX7]
def az_ty (c j : Nat) : FieldType := (az_tys.getD c tyX0) j
def az_Ns : List Nat := [8, 10, 9, 3, 8, 6, 7, 46]
def az_N (c : Nat) : Nat := az_Ns.getD c 0
def az_stcs : List Bool := [false, false, false, false, false, false, false, false, false, false, false, false, false, false, false, false, false, false, false, false, false, false, false, false, false, false, false, false, false, false, false, false, false, false, false, false, false, false, false, false, false, false, false, false, false, false, false, false, false, false, false, false, false, false, false, false, false, false, false, false, false, false, false, false, false, false, false, false, false, true, true, true, true, true, false, false, false, false, false, false, false, false, false, false, false, false, false, false, false, false, true, true, true, false, false, false, false, false, false, false, false, false, false, false, false, false, false, true, false, false, false, false, false, false, false, false, false, false, false, false, false, false, false, false, false, false, false, false, false, false, false, false, false, false, false, false, false, false, false, false, false, false, true, true, true, true, true, true, true, true, true, true, true, true, true, true, true, true, true, true, true, true, true, true, true, true, true, true, true, true, true, true]
def az_stc (k : Nat) : Bool := az_stcs.getD k false
def az_main : Nat := 171
def az_kd (m : Nat) : Nat := if (az_y m).name = "<init>" then 2 else if 144 ≤ m ∧ m < 171 then 3 else if az_stc m = true then 1 else 0
end
section
def az_ng : List Jvm.Cond := [Jvm.Cond.methodLinkNest "Voucherworks" 9 ⟨"Voucherworks$Lands", "<init>", "()V"⟩ "Voucherworks", Jvm.Cond.methodLinkNest "Voucherworks" 18 ⟨"Voucherworks$Chains", "<init>", "()V"⟩ "Voucherworks", Jvm.Cond.methodLinkNest "Voucherworks" 25 ⟨"Voucherworks$Cards", "<init>", "()V"⟩ "Voucherworks", Jvm.Cond.methodLinkNest "Voucherworks" 32 ⟨"Voucherworks$Lots", "<init>", "()V"⟩ "Voucherworks", Jvm.Cond.methodLinkNest "Voucherworks" 39 ⟨"Voucherworks$Campaigns", "<init>", "()V"⟩ "Voucherworks", Jvm.Cond.methodLinkNest "Voucherworks" 46 ⟨"Voucherworks$Payments", "<init>", "()V"⟩ "Voucherworks", Jvm.Cond.declares ⟨"java/lang/RuntimeException", "<init>", "()V"⟩, Jvm.Cond.declares ⟨"java/lang/RuntimeException", "<init>", "(Ljava/lang/String;)V"⟩, Jvm.Cond.declares ⟨"java/lang/Exception", "<init>", "()V"⟩, Jvm.Cond.declares ⟨"java/lang/Exception", "<init>", "(Ljava/lang/String;)V"⟩, Jvm.Cond.declares ⟨"java/lang/Throwable", "<init>", "()V"⟩, Jvm.Cond.declares ⟨"java/lang/Throwable", "<init>", "(Ljava/lang/String;)V"⟩, Jvm.Cond.castable "java/lang/IndexOutOfBoundsException" "java/lang/IndexOutOfBoundsException", Jvm.Cond.castable "java/lang/IllegalArgumentException" "java/lang/IllegalArgumentException", Jvm.Cond.castable "java/lang/IllegalStateException" "java/lang/IllegalStateException"]
def az_nM : Nat := 172
def az_gw : List Jvm.Cond := lw_tbl.filter goodWord
theorem az_g {w : Jvm.Cond} (i : Nat) (h : lw_tbl[i]? = some w) (g : goodWord w = true) : w ∈ az_gw := List.mem_filter.mpr ⟨List.mem_of_getElem? h, g⟩
theorem az_gd : ∀ w ∈ az_gw, goodWord w = true := fun _ h => (List.mem_filter.mp h).2
theorem az_gi {l : List Jvm.Cond} (h : ∀ w ∈ l, w ∈ az_gw) : GoodIn az_gw l := fun w hw => ⟨h w hw, good_of_word (az_gd w (h w hw))⟩
def az_lkok (o : Nat) (q : Nat × Nat × Nat × Nat) : Prop := match q with
  | (i, 0, c, j) => Jvm.Cond.fieldLink (az_R o) i (az_T c j).1 (az_T c j).2.1 (az_T c j).2.2.1 ∈ az_gw ∧ c < 8 ∧ j < az_N c
  | (i, 1, m, t) => (Jvm.Cond.methodLink (az_R o) i (az_y m) ∈ az_gw ∨ (az_kd m = 2 ∧ ∃ h, Jvm.Cond.methodLinkNest (az_R o) i (az_y m) h ∈ az_ng)) ∧ t = az_tot m ∧ m < 171 ∧ m < az_nM ∧ az_tot m ≤ az_ml m ∧ (az_kd m = 1 → az_tot m ≤ 8)
  | (i, 2, _, _) => Jvm.Cond.methodLink (az_R o) i Lib.Math.max.name ∈ az_gw
  | (i, 3, _, _) => Jvm.Cond.methodLink (az_R o) i Lib.Math.min.name ∈ az_gw
  | (i, 4, _, _) => Jvm.Cond.methodLink (az_R o) i Lib.objectInit ∈ az_gw
  | (i, 5, c, _) => Jvm.Cond.classLink (az_R o) i (az_R c) ∈ az_gw ∧ c < 8
  | (i, 7, _, _) => Jvm.Cond.classLink (az_R o) i "[[I" ∈ az_gw
  | _ => True
theorem az_ngt : ∀ w ∈ az_ng, w ∈ lw_tbl := List.forall_mem_cons.mpr ⟨List.mem_of_getElem? (i := 72) (by decide +kernel), List.forall_mem_cons.mpr ⟨List.mem_of_getElem? (i := 95) (by decide +kernel), List.forall_mem_cons.mpr ⟨List.mem_of_getElem? (i := 141) (by decide +kernel), List.forall_mem_cons.mpr ⟨List.mem_of_getElem? (i := 188) (by decide +kernel), List.forall_mem_cons.mpr ⟨List.mem_of_getElem? (i := 227) (by decide +kernel), List.forall_mem_cons.mpr ⟨List.mem_of_getElem? (i := 262) (by decide +kernel), List.forall_mem_cons.mpr ⟨List.mem_of_getElem? (i := 333) (by decide +kernel), List.forall_mem_cons.mpr ⟨List.mem_of_getElem? (i := 334) (by decide +kernel), List.forall_mem_cons.mpr ⟨List.mem_of_getElem? (i := 335) (by decide +kernel), List.forall_mem_cons.mpr ⟨List.mem_of_getElem? (i := 336) (by decide +kernel), List.forall_mem_cons.mpr ⟨List.mem_of_getElem? (i := 337) (by decide +kernel), List.forall_mem_cons.mpr ⟨List.mem_of_getElem? (i := 338) (by decide +kernel), List.forall_mem_cons.mpr ⟨List.mem_of_getElem? (i := 332) (by decide +kernel), List.forall_mem_cons.mpr ⟨List.mem_of_getElem? (i := 403) (by decide +kernel), List.forall_mem_cons.mpr ⟨List.mem_of_getElem? (i := 441) (by decide +kernel), fun _ h => absurd h List.not_mem_nil⟩⟩⟩⟩⟩⟩⟩⟩⟩⟩⟩⟩⟩⟩⟩
theorem az_ngw : ∀ w ∈ az_ng, ∀ s U : State, s.WarmedH U.vm → va_Nw w s → va_Nw w U := List.forall_mem_cons.mpr ⟨fun _ _ h z => va_Nw.warmM h z, List.forall_mem_cons.mpr ⟨fun _ _ h z => va_Nw.warmM h z, List.forall_mem_cons.mpr ⟨fun _ _ h z => va_Nw.warmM h z, List.forall_mem_cons.mpr ⟨fun _ _ h z => va_Nw.warmM h z, List.forall_mem_cons.mpr ⟨fun _ _ h z => va_Nw.warmM h z, List.forall_mem_cons.mpr ⟨fun _ _ h z => va_Nw.warmM h z, List.forall_mem_cons.mpr ⟨fun _ _ h z => va_Nw.warmD h z, List.forall_mem_cons.mpr ⟨fun _ _ h z => va_Nw.warmD h z, List.forall_mem_cons.mpr ⟨fun _ _ h z => va_Nw.warmD h z, List.forall_mem_cons.mpr ⟨fun _ _ h z => va_Nw.warmD h z, List.forall_mem_cons.mpr ⟨fun _ _ h z => va_Nw.warmD h z, List.forall_mem_cons.mpr ⟨fun _ _ h z => va_Nw.warmD h z, List.forall_mem_cons.mpr ⟨fun _ _ h z => va_Nw.warmC h z, List.forall_mem_cons.mpr ⟨fun _ _ h z => va_Nw.warmC h z, List.forall_mem_cons.mpr ⟨fun _ _ h z => va_Nw.warmC h z, fun _ h => absurd h List.not_mem_nil⟩⟩⟩⟩⟩⟩⟩⟩⟩⟩⟩⟩⟩⟩⟩
theorem az_ngo : ∀ w ∈ az_ng, w.onTables = true := by decide +kernel
def az_str : List (Nat × String) := [(303, "there is none of that number"), (307, "out of range"), (316, "not as things stand"), (312, "both are the same"), (310, "not a multiple"), (247, "no such place")]
theorem az_strt : ∀ q ∈ az_str, Jvm.Cond.stringRef RX6 q.1 q.2 ∈ lw_tbl := List.forall_mem_cons.mpr ⟨List.mem_of_getElem? (i := 371) (by decide +kernel), List.forall_mem_cons.mpr ⟨List.mem_of_getElem? (i := 410) (by decide +kernel), List.forall_mem_cons.mpr ⟨List.mem_of_getElem? (i := 448) (by decide +kernel), List.forall_mem_cons.mpr ⟨List.mem_of_getElem? (i := 507) (by decide +kernel), List.forall_mem_cons.mpr ⟨List.mem_of_getElem? (i := 661) (by decide +kernel), List.forall_mem_cons.mpr ⟨List.mem_of_getElem? (i := 777) (by decide +kernel), fun _ h => absurd h List.not_mem_nil⟩⟩⟩⟩⟩⟩
def az_xn (e : Nat) : String := if e = 1 then "java/lang/IndexOutOfBoundsException" else if e = 2 then "java/lang/IllegalArgumentException" else "java/lang/IllegalStateException"
def az_nc : List (Nat × Nat) := [(2, 1), (3, 1), (3, 2)]
theorem az_lo0 : ∀ q ∈ az_lk0, az_lkok 0 q := List.forall_mem_cons.mpr ⟨az_g 230 (by decide +kernel) (by decide +kernel), List.forall_mem_cons.mpr ⟨⟨az_g 232 (by decide +kernel) (by decide +kernel), by decide, by decide⟩, List.forall_mem_cons.mpr ⟨⟨az_g 233 (by decide +kernel) (by decide +kernel), by decide, by decide⟩, List.forall_mem_cons.mpr ⟨⟨az_g 234 (by decide +kernel) (by decide +kernel), by decide, by decide⟩, List.forall_mem_cons.mpr ⟨⟨az_g 235 (by decide +kernel) (by decide +kernel), by decide, by decide⟩, List.forall_mem_cons.mpr ⟨az_g 231 (by decide +kernel) (by decide +kernel), List.forall_mem_cons.mpr ⟨⟨az_g 236 (by decide +kernel) (by decide +kernel), by decide, by decide⟩, List.forall_mem_cons.mpr ⟨⟨az_g 237 (by decide +kernel) (by decide +kernel), by decide, by decide⟩, List.forall_mem_cons.mpr ⟨⟨az_g 239 (by decide +kernel) (by decide +kernel), by decide, by decide⟩, List.forall_mem_cons.mpr ⟨⟨az_g 241 (by decide +kernel) (by decide +kernel), by decide, by decide⟩, List.forall_mem_cons.mpr ⟨az_g 535 (by decide +kernel) (by decide +kernel), List.forall_mem_cons.mpr ⟨⟨Or.inl (az_g 527 (by decide +kernel) (by decide +kernel)), by decide +kernel, by decide +kernel, by decide +kernel, by decide +kernel, by decide +kernel⟩, List.forall_mem_cons.mpr ⟨⟨Or.inl (az_g 531 (by decide +kernel) (by decide +kernel)), by decide +kernel, by decide +kernel, by decide +kernel, by decide +kernel, by decide +kernel⟩, List.forall_mem_cons.mpr ⟨az_g 538 (by decide +kernel) (by decide +kernel), List.forall_mem_cons.mpr ⟨⟨Or.inl (az_g 552 (by decide +kernel) (by decide +kernel)), by decide +kernel, by decide +kernel, by decide +kernel, by decide +kernel, by decide +kernel⟩, List.forall_mem_cons.mpr ⟨⟨Or.inl (az_g 555 (by decide +kernel) (by decide +kernel)), by decide +kernel, by decide +kernel, by decide +kernel, by decide +kernel, by decide +kernel⟩, List.forall_mem_cons.mpr ⟨⟨Or.inl (az_g 565 (by decide +kernel) (by decide +kernel)), by decide +kernel, by decide +kernel, by decide +kernel, by decide +kernel, by decide +kernel⟩, List.forall_mem_cons.mpr ⟨⟨Or.inl (az_g 569 (by decide +kernel) (by decide +kernel)), by decide +kernel, by decide +kernel, by decide +kernel, by decide +kernel, by decide +kernel⟩, List.forall_mem_cons.mpr ⟨⟨Or.inl (az_g 573 (by decide +kernel) (by decide +kernel)), by decide +kernel, by decide +kernel, by decide +kernel, by decide +kernel, by decide +kernel⟩, List.forall_mem_cons.mpr ⟨⟨Or.inl (az_g 559 (by decide +kernel) (by decide +kernel)), by decide +kernel, by decide +kernel, by decide +kernel, by decide +kernel, by decide +kernel⟩, fun _ h => absurd h List.not_mem_nil⟩⟩⟩⟩⟩⟩⟩⟩⟩⟩⟩⟩⟩⟩⟩⟩⟩⟩⟩⟩
theorem az_lo1 : ∀ q ∈ az_lk1, az_lkok 1 q := List.forall_mem_cons.mpr ⟨az_g 144 (by decide +kernel) (by decide +kernel), List.forall_mem_cons.mpr ⟨⟨az_g 145 (by decide +kernel) (by decide +kernel), by decide, by decide⟩, List.forall_mem_cons.mpr ⟨⟨az_g 147 (by decide +kernel) (by decide +kernel), by decide, by decide⟩, List.forall_mem_cons.mpr ⟨⟨az_g 149 (by decide +kernel) (by decide +kernel), by decide, by decide⟩, List.forall_mem_cons.mpr ⟨⟨az_g 151 (by decide +kernel) (by decide +kernel), by decide, by decide⟩, List.forall_mem_cons.mpr ⟨⟨az_g 153 (by decide +kernel) (by decide +kernel), by decide, by decide⟩, List.forall_mem_cons.mpr ⟨⟨az_g 155 (by decide +kernel) (by decide +kernel), by decide, by decide⟩, List.forall_mem_cons.mpr ⟨⟨az_g 157 (by decide +kernel) (by decide +kernel), by decide, by decide⟩, List.forall_mem_cons.mpr ⟨⟨az_g 159 (by decide +kernel) (by decide +kernel), by decide, by decide⟩, List.forall_mem_cons.mpr ⟨⟨az_g 161 (by decide +kernel) (by decide +kernel), by decide, by decide⟩, List.forall_mem_cons.mpr ⟨⟨az_g 163 (by decide +kernel) (by decide +kernel), by decide, by decide⟩, List.forall_mem_cons.mpr ⟨⟨az_g 78 (by decide +kernel) (by decide +kernel), by decide, by decide⟩, List.forall_mem_cons.mpr ⟨⟨az_g 80 (by decide +kernel) (by decide +kernel), by decide, by decide⟩, List.forall_mem_cons.mpr ⟨⟨az_g 83 (by decide +kernel) (by decide +kernel), by decide, by decide⟩, fun _ h => absurd h List.not_mem_nil⟩⟩⟩⟩⟩⟩⟩⟩⟩⟩⟩⟩⟩⟩
theorem az_lo2 : ∀ q ∈ az_lk2, az_lkok 2 q := List.forall_mem_cons.mpr ⟨az_g 98 (by decide +kernel) (by decide +kernel), List.forall_mem_cons.mpr ⟨⟨az_g 101 (by decide +kernel) (by decide +kernel), by decide, by decide⟩, List.forall_mem_cons.mpr ⟨⟨az_g 103 (by decide +kernel) (by decide +kernel), by decide, by decide⟩, List.forall_mem_cons.mpr ⟨⟨az_g 105 (by decide +kernel) (by decide +kernel), by decide, by decide⟩, List.forall_mem_cons.mpr ⟨⟨az_g 107 (by decide +kernel) (by decide +kernel), by decide, by decide⟩, List.forall_mem_cons.mpr ⟨⟨az_g 109 (by decide +kernel) (by decide +kernel), by decide, by decide⟩, List.forall_mem_cons.mpr ⟨⟨az_g 111 (by decide +kernel) (by decide +kernel), by decide, by decide⟩, List.forall_mem_cons.mpr ⟨⟨az_g 113 (by decide +kernel) (by decide +kernel), by decide, by decide⟩, List.forall_mem_cons.mpr ⟨⟨az_g 115 (by decide +kernel) (by decide +kernel), by decide, by decide⟩, List.forall_mem_cons.mpr ⟨az_g 99 (by decide +kernel) (by decide +kernel), List.forall_mem_cons.mpr ⟨⟨az_g 117 (by decide +kernel) (by decide +kernel), by decide, by decide⟩, fun _ h => absurd h List.not_mem_nil⟩⟩⟩⟩⟩⟩⟩⟩⟩⟩⟩
theorem az_lo3 : ∀ q ∈ az_lk3, az_lkok 3 q := List.forall_mem_cons.mpr ⟨az_g 75 (by decide +kernel) (by decide +kernel), List.forall_mem_cons.mpr ⟨⟨az_g 76 (by decide +kernel) (by decide +kernel), by decide, by decide⟩, List.forall_mem_cons.mpr ⟨⟨az_g 79 (by decide +kernel) (by decide +kernel), by decide, by decide⟩, List.forall_mem_cons.mpr ⟨⟨az_g 82 (by decide +kernel) (by decide +kernel), by decide, by decide⟩, fun _ h => absurd h List.not_mem_nil⟩⟩⟩⟩
theorem az_lo4 : ∀ q ∈ az_lk4, az_lkok 4 q := List.forall_mem_cons.mpr ⟨az_g 191 (by decide +kernel) (by decide +kernel), List.forall_mem_cons.mpr ⟨⟨az_g 192 (by decide +kernel) (by decide +kernel), by decide, by decide⟩, List.forall_mem_cons.mpr ⟨⟨az_g 194 (by decide +kernel) (by decide +kernel), by decide, by decide⟩, List.forall_mem_cons.mpr ⟨⟨az_g 196 (by decide +kernel) (by decide +kernel), by decide, by decide⟩, List.forall_mem_cons.mpr ⟨⟨az_g 198 (by decide +kernel) (by decide +kernel), by decide, by decide⟩, List.forall_mem_cons.mpr ⟨⟨az_g 200 (by decide +kernel) (by decide +kernel), by decide, by decide⟩, List.forall_mem_cons.mpr ⟨⟨az_g 202 (by decide +kernel) (by decide +kernel), by decide, by decide⟩, List.forall_mem_cons.mpr ⟨⟨az_g 204 (by decide +kernel) (by decide +kernel), by decide, by decide⟩, List.forall_mem_cons.mpr ⟨⟨az_g 206 (by decide +kernel) (by decide +kernel), by decide, by decide⟩, List.forall_mem_cons.mpr ⟨⟨Or.inl (az_g 608 (by decide +kernel) (by decide +kernel)), by decide +kernel, by decide +kernel, by decide +kernel, by decide +kernel, by decide +kernel⟩, List.forall_mem_cons.mpr ⟨⟨Or.inl (az_g 604 (by decide +kernel) (by decide +kernel)), by decide +kernel, by decide +kernel, by decide +kernel, by decide +kernel, by decide +kernel⟩, List.forall_mem_cons.mpr ⟨⟨Or.inl (az_g 599 (by decide +kernel) (by decide +kernel)), by decide +kernel, by decide +kernel, by decide +kernel, by decide +kernel, by decide +kernel⟩, List.forall_mem_cons.mpr ⟨⟨Or.inl (az_g 600 (by decide +kernel) (by decide +kernel)), by decide +kernel, by decide +kernel, by decide +kernel, by decide +kernel, by decide +kernel⟩, List.forall_mem_cons.mpr ⟨az_g 612 (by decide +kernel) (by decide +kernel), List.forall_mem_cons.mpr ⟨⟨Or.inl (az_g 639 (by decide +kernel) (by decide +kernel)), by decide +kernel, by decide +kernel, by decide +kernel, by decide +kernel, by decide +kernel⟩, fun _ h => absurd h List.not_mem_nil⟩⟩⟩⟩⟩⟩⟩⟩⟩⟩⟩⟩⟩⟩⟩
theorem az_lo5 : ∀ q ∈ az_lk5, az_lkok 5 q := List.forall_mem_cons.mpr ⟨az_g 265 (by decide +kernel) (by decide +kernel), List.forall_mem_cons.mpr ⟨⟨az_g 267 (by decide +kernel) (by decide +kernel), by decide, by decide⟩, List.forall_mem_cons.mpr ⟨⟨az_g 269 (by decide +kernel) (by decide +kernel), by decide, by decide⟩, List.forall_mem_cons.mpr ⟨⟨az_g 271 (by decide +kernel) (by decide +kernel), by decide, by decide⟩, List.forall_mem_cons.mpr ⟨⟨az_g 273 (by decide +kernel) (by decide +kernel), by decide, by decide⟩, List.forall_mem_cons.mpr ⟨az_g 266 (by decide +kernel) (by decide +kernel), List.forall_mem_cons.mpr ⟨⟨az_g 275 (by decide +kernel) (by decide +kernel), by decide, by decide⟩, List.forall_mem_cons.mpr ⟨⟨az_g 277 (by decide +kernel) (by decide +kernel), by decide, by decide⟩, List.forall_mem_cons.mpr ⟨⟨Or.inl (az_g 670 (by decide +kernel) (by decide +kernel)), by decide +kernel, by decide +kernel, by decide +kernel, by decide +kernel, by decide +kernel⟩, List.forall_mem_cons.mpr ⟨⟨Or.inl (az_g 674 (by decide +kernel) (by decide +kernel)), by decide +kernel, by decide +kernel, by decide +kernel, by decide +kernel, by decide +kernel⟩, fun _ h => absurd h List.not_mem_nil⟩⟩⟩⟩⟩⟩⟩⟩⟩⟩
theorem az_lo6 : ∀ q ∈ az_lk6, az_lkok 6 q := List.forall_mem_cons.mpr ⟨az_g 67 (by decide +kernel) (by decide +kernel), List.forall_mem_cons.mpr ⟨⟨az_g 70 (by decide +kernel) (by decide +kernel), by decide⟩, List.forall_mem_cons.mpr ⟨⟨Or.inr ⟨by decide +kernel, "Voucherworks", List.mem_of_getElem? (i := 0) (by decide +kernel)⟩, by decide +kernel, by decide +kernel, by decide +kernel, by decide +kernel, by decide +kernel⟩, List.forall_mem_cons.mpr ⟨⟨az_g 292 (by decide +kernel) (by decide +kernel), by decide, by decide⟩, List.forall_mem_cons.mpr ⟨⟨az_g 93 (by decide +kernel) (by decide +kernel), by decide⟩, List.forall_mem_cons.mpr ⟨⟨Or.inr ⟨by decide +kernel, "Voucherworks", List.mem_of_getElem? (i := 1) (by decide +kernel)⟩, by decide +kernel, by decide +kernel, by decide +kernel, by decide +kernel, by decide +kernel⟩, List.forall_mem_cons.mpr ⟨⟨az_g 293 (by decide +kernel) (by decide +kernel), by decide, by decide⟩, List.forall_mem_cons.mpr ⟨⟨az_g 139 (by decide +kernel) (by decide +kernel), by decide⟩, List.forall_mem_cons.mpr ⟨⟨Or.inr ⟨by decide +kernel, "Voucherworks", List.mem_of_getElem? (i := 2) (by decide +kernel)⟩, by decide +kernel, by decide +kernel, by decide +kernel, by decide +kernel, by decide +kernel⟩, List.forall_mem_cons.mpr ⟨⟨az_g 294 (by decide +kernel) (by decide +kernel), by decide, by decide⟩, List.forall_mem_cons.mpr ⟨⟨az_g 186 (by decide +kernel) (by decide +kernel), by decide⟩, List.forall_mem_cons.mpr ⟨⟨Or.inr ⟨by decide +kernel, "Voucherworks", List.mem_of_getElem? (i := 3) (by decide +kernel)⟩, by decide +kernel, by decide +kernel, by decide +kernel, by decide +kernel, by decide +kernel⟩, List.forall_mem_cons.mpr ⟨⟨az_g 295 (by decide +kernel) (by decide +kernel), by decide, by decide⟩, List.forall_mem_cons.mpr ⟨⟨az_g 225 (by decide +kernel) (by decide +kernel), by decide⟩, List.forall_mem_cons.mpr ⟨⟨Or.inr ⟨by decide +kernel, "Voucherworks", List.mem_of_getElem? (i := 4) (by decide +kernel)⟩, by decide +kernel, by decide +kernel, by decide +kernel, by decide +kernel, by decide +kernel⟩, List.forall_mem_cons.mpr ⟨⟨az_g 296 (by decide +kernel) (by decide +kernel), by decide, by decide⟩, List.forall_mem_cons.mpr ⟨⟨az_g 260 (by decide +kernel) (by decide +kernel), by decide⟩, List.forall_mem_cons.mpr ⟨⟨Or.inr ⟨by decide +kernel, "Voucherworks", List.mem_of_getElem? (i := 5) (by decide +kernel)⟩, by decide +kernel, by decide +kernel, by decide +kernel, by decide +kernel, by decide +kernel⟩, List.forall_mem_cons.mpr ⟨⟨az_g 297 (by decide +kernel) (by decide +kernel), by decide, by decide⟩, List.forall_mem_cons.mpr ⟨⟨az_g 298 (by decide +kernel) (by decide +kernel), by decide, by decide⟩, List.forall_mem_cons.mpr ⟨⟨Or.inl (az_g 327 (by decide +kernel) (by decide +kernel)), by decide +kernel, by decide +kernel, by decide +kernel, by decide +kernel, by decide +kernel⟩, List.forall_mem_cons.mpr ⟨⟨Or.inl (az_g 398 (by decide +kernel) (by decide +kernel)), by decide +kernel, by decide +kernel, by decide +kernel, by decide +kernel, by decide +kernel⟩, List.forall_mem_cons.mpr ⟨⟨az_g 77 (by decide +kernel) (by decide +kernel), by decide, by decide⟩, List.forall_mem_cons.mpr ⟨⟨az_g 81 (by decide +kernel) (by decide +kernel), by decide, by decide⟩, List.forall_mem_cons.mpr ⟨⟨az_g 84 (by decide +kernel) (by decide +kernel), by decide, by decide⟩, List.forall_mem_cons.mpr ⟨⟨az_g 104 (by decide +kernel) (by decide +kernel), by decide, by decide⟩, List.forall_mem_cons.mpr ⟨⟨az_g 102 (by decide +kernel) (by decide +kernel), by decide, by decide⟩, List.forall_mem_cons.mpr ⟨⟨az_g 164 (by decide +kernel) (by decide +kernel), by decide, by decide⟩, List.forall_mem_cons.mpr ⟨⟨Or.inl (az_g 432 (by decide +kernel) (by decide +kernel)), by decide +kernel, by decide +kernel, by decide +kernel, by decide +kernel, by decide +kernel⟩, List.forall_mem_cons.mpr ⟨⟨Or.inl (az_g 436 (by decide +kernel) (by decide +kernel)), by decide +kernel, by decide +kernel, by decide +kernel, by decide +kernel, by decide +kernel⟩, List.forall_mem_cons.mpr ⟨⟨Or.inl (az_g 455 (by decide +kernel) (by decide +kernel)), by decide +kernel, by decide +kernel, by decide +kernel, by decide +kernel, by decide +kernel⟩, List.forall_mem_cons.mpr ⟨⟨az_g 158 (by decide +kernel) (by decide +kernel), by decide, by decide⟩, List.forall_mem_cons.mpr ⟨⟨Or.inl (az_g 459 (by decide +kernel) (by decide +kernel)), by decide +kernel, by decide +kernel, by decide +kernel, by decide +kernel, by decide +kernel⟩, List.forall_mem_cons.mpr ⟨⟨az_g 156 (by decide +kernel) (by decide +kernel), by decide, by decide⟩, List.forall_mem_cons.mpr ⟨⟨Or.inl (az_g 474 (by decide +kernel) (by decide +kernel)), by decide +kernel, by decide +kernel, by decide +kernel, by decide +kernel, by decide +kernel⟩, List.forall_mem_cons.mpr ⟨⟨Or.inl (az_g 478 (by decide +kernel) (by decide +kernel)), by decide +kernel, by decide +kernel, by decide +kernel, by decide +kernel, by decide +kernel⟩, List.forall_mem_cons.mpr ⟨⟨Or.inl (az_g 482 (by decide +kernel) (by decide +kernel)), by decide +kernel, by decide +kernel, by decide +kernel, by decide +kernel, by decide +kernel⟩, List.forall_mem_cons.mpr ⟨⟨az_g 242 (by decide +kernel) (by decide +kernel), by decide, by decide⟩, List.forall_mem_cons.mpr ⟨⟨Or.inl (az_g 493 (by decide +kernel) (by decide +kernel)), by decide +kernel, by decide +kernel, by decide +kernel, by decide +kernel, by decide +kernel⟩, List.forall_mem_cons.mpr ⟨⟨Or.inl (az_g 504 (by decide +kernel) (by decide +kernel)), by decide +kernel, by decide +kernel, by decide +kernel, by decide +kernel, by decide +kernel⟩, List.forall_mem_cons.mpr ⟨⟨Or.inl (az_g 508 (by decide +kernel) (by decide +kernel)), by decide +kernel, by decide +kernel, by decide +kernel, by decide +kernel, by decide +kernel⟩, List.forall_mem_cons.mpr ⟨⟨Or.inl (az_g 512 (by decide +kernel) (by decide +kernel)), by decide +kernel, by decide +kernel, by decide +kernel, by decide +kernel, by decide +kernel⟩, List.forall_mem_cons.mpr ⟨⟨Or.inl (az_g 523 (by decide +kernel) (by decide +kernel)), by decide +kernel, by decide +kernel, by decide +kernel, by decide +kernel, by decide +kernel⟩, List.forall_mem_cons.mpr ⟨⟨Or.inl (az_g 548 (by decide +kernel) (by decide +kernel)), by decide +kernel, by decide +kernel, by decide +kernel, by decide +kernel, by decide +kernel⟩, List.forall_mem_cons.mpr ⟨⟨az_g 238 (by decide +kernel) (by decide +kernel), by decide, by decide⟩, List.forall_mem_cons.mpr ⟨⟨az_g 240 (by decide +kernel) (by decide +kernel), by decide, by decide⟩, List.forall_mem_cons.mpr ⟨⟨Or.inl (az_g 591 (by decide +kernel) (by decide +kernel)), by decide +kernel, by decide +kernel, by decide +kernel, by decide +kernel, by decide +kernel⟩, List.forall_mem_cons.mpr ⟨⟨Or.inl (az_g 595 (by decide +kernel) (by decide +kernel)), by decide +kernel, by decide +kernel, by decide +kernel, by decide +kernel, by decide +kernel⟩, List.forall_mem_cons.mpr ⟨⟨az_g 205 (by decide +kernel) (by decide +kernel), by decide, by decide⟩, List.forall_mem_cons.mpr ⟨⟨Or.inl (az_g 613 (by decide +kernel) (by decide +kernel)), by decide +kernel, by decide +kernel, by decide +kernel, by decide +kernel, by decide +kernel⟩, List.forall_mem_cons.mpr ⟨⟨az_g 278 (by decide +kernel) (by decide +kernel), by decide, by decide⟩, List.forall_mem_cons.mpr ⟨⟨az_g 272 (by decide +kernel) (by decide +kernel), by decide, by decide⟩, List.forall_mem_cons.mpr ⟨⟨az_g 268 (by decide +kernel) (by decide +kernel), by decide, by decide⟩, List.forall_mem_cons.mpr ⟨⟨az_g 276 (by decide +kernel) (by decide +kernel), by decide, by decide⟩, List.forall_mem_cons.mpr ⟨⟨Or.inl (az_g 631 (by decide +kernel) (by decide +kernel)), by decide +kernel, by decide +kernel, by decide +kernel, by decide +kernel, by decide +kernel⟩, List.forall_mem_cons.mpr ⟨⟨Or.inl (az_g 635 (by decide +kernel) (by decide +kernel)), by decide +kernel, by decide +kernel, by decide +kernel, by decide +kernel, by decide +kernel⟩, List.forall_mem_cons.mpr ⟨⟨Or.inl (az_g 643 (by decide +kernel) (by decide +kernel)), by decide +kernel, by decide +kernel, by decide +kernel, by decide +kernel, by decide +kernel⟩, List.forall_mem_cons.mpr ⟨⟨Or.inl (az_g 647 (by decide +kernel) (by decide +kernel)), by decide +kernel, by decide +kernel, by decide +kernel, by decide +kernel, by decide +kernel⟩, List.forall_mem_cons.mpr ⟨⟨Or.inl (az_g 463 (by decide +kernel) (by decide +kernel)), by decide +kernel, by decide +kernel, by decide +kernel, by decide +kernel, by decide +kernel⟩, List.forall_mem_cons.mpr ⟨⟨Or.inl (az_g 658 (by decide +kernel) (by decide +kernel)), by decide +kernel, by decide +kernel, by decide +kernel, by decide +kernel, by decide +kernel⟩, List.forall_mem_cons.mpr ⟨⟨Or.inl (az_g 662 (by decide +kernel) (by decide +kernel)), by decide +kernel, by decide +kernel, by decide +kernel, by decide +kernel, by decide +kernel⟩, List.forall_mem_cons.mpr ⟨⟨az_g 162 (by decide +kernel) (by decide +kernel), by decide, by decide⟩, List.forall_mem_cons.mpr ⟨⟨az_g 146 (by decide +kernel) (by decide +kernel), by decide, by decide⟩, List.forall_mem_cons.mpr ⟨⟨Or.inl (az_g 685 (by decide +kernel) (by decide +kernel)), by decide +kernel, by decide +kernel, by decide +kernel, by decide +kernel, by decide +kernel⟩, List.forall_mem_cons.mpr ⟨⟨Or.inl (az_g 689 (by decide +kernel) (by decide +kernel)), by decide +kernel, by decide +kernel, by decide +kernel, by decide +kernel, by decide +kernel⟩, List.forall_mem_cons.mpr ⟨⟨az_g 160 (by decide +kernel) (by decide +kernel), by decide, by decide⟩, List.forall_mem_cons.mpr ⟨⟨Or.inl (az_g 701 (by decide +kernel) (by decide +kernel)), by decide +kernel, by decide +kernel, by decide +kernel, by decide +kernel, by decide +kernel⟩, List.forall_mem_cons.mpr ⟨⟨Or.inl (az_g 705 (by decide +kernel) (by decide +kernel)), by decide +kernel, by decide +kernel, by decide +kernel, by decide +kernel, by decide +kernel⟩, List.forall_mem_cons.mpr ⟨⟨Or.inl (az_g 723 (by decide +kernel) (by decide +kernel)), by decide +kernel, by decide +kernel, by decide +kernel, by decide +kernel, by decide +kernel⟩, List.forall_mem_cons.mpr ⟨⟨Or.inl (az_g 724 (by decide +kernel) (by decide +kernel)), by decide +kernel, by decide +kernel, by decide +kernel, by decide +kernel, by decide +kernel⟩, List.forall_mem_cons.mpr ⟨⟨Or.inl (az_g 732 (by decide +kernel) (by decide +kernel)), by decide +kernel, by decide +kernel, by decide +kernel, by decide +kernel, by decide +kernel⟩, List.forall_mem_cons.mpr ⟨⟨Or.inl (az_g 744 (by decide +kernel) (by decide +kernel)), by decide +kernel, by decide +kernel, by decide +kernel, by decide +kernel, by decide +kernel⟩, List.forall_mem_cons.mpr ⟨⟨Or.inl (az_g 666 (by decide +kernel) (by decide +kernel)), by decide +kernel, by decide +kernel, by decide +kernel, by decide +kernel, by decide +kernel⟩, List.forall_mem_cons.mpr ⟨⟨az_g 150 (by decide +kernel) (by decide +kernel), by decide, by decide⟩, List.forall_mem_cons.mpr ⟨⟨az_g 207 (by decide +kernel) (by decide +kernel), by decide, by decide⟩, List.forall_mem_cons.mpr ⟨⟨az_g 193 (by decide +kernel) (by decide +kernel), by decide, by decide⟩, List.forall_mem_cons.mpr ⟨⟨az_g 195 (by decide +kernel) (by decide +kernel), by decide, by decide⟩, List.forall_mem_cons.mpr ⟨⟨az_g 197 (by decide +kernel) (by decide +kernel), by decide, by decide⟩, List.forall_mem_cons.mpr ⟨⟨az_g 201 (by decide +kernel) (by decide +kernel), by decide, by decide⟩, List.forall_mem_cons.mpr ⟨⟨az_g 199 (by decide +kernel) (by decide +kernel), by decide, by decide⟩, List.forall_mem_cons.mpr ⟨⟨Or.inl (az_g 778 (by decide +kernel) (by decide +kernel)), by decide +kernel, by decide +kernel, by decide +kernel, by decide +kernel, by decide +kernel⟩, List.forall_mem_cons.mpr ⟨⟨az_g 203 (by decide +kernel) (by decide +kernel), by decide, by decide⟩, List.forall_mem_cons.mpr ⟨⟨az_g 270 (by decide +kernel) (by decide +kernel), by decide, by decide⟩, List.forall_mem_cons.mpr ⟨⟨az_g 274 (by decide +kernel) (by decide +kernel), by decide, by decide⟩, List.forall_mem_cons.mpr ⟨⟨Or.inl (az_g 786 (by decide +kernel) (by decide +kernel)), by decide +kernel, by decide +kernel, by decide +kernel, by decide +kernel, by decide +kernel⟩, List.forall_mem_cons.mpr ⟨⟨az_g 106 (by decide +kernel) (by decide +kernel), by decide, by decide⟩, List.forall_mem_cons.mpr ⟨⟨az_g 108 (by decide +kernel) (by decide +kernel), by decide, by decide⟩, List.forall_mem_cons.mpr ⟨⟨Or.inl (az_g 801 (by decide +kernel) (by decide +kernel)), by decide +kernel, by decide +kernel, by decide +kernel, by decide +kernel, by decide +kernel⟩, List.forall_mem_cons.mpr ⟨⟨Or.inl (az_g 805 (by decide +kernel) (by decide +kernel)), by decide +kernel, by decide +kernel, by decide +kernel, by decide +kernel, by decide +kernel⟩, List.forall_mem_cons.mpr ⟨⟨az_g 110 (by decide +kernel) (by decide +kernel), by decide, by decide⟩, List.forall_mem_cons.mpr ⟨⟨az_g 112 (by decide +kernel) (by decide +kernel), by decide, by decide⟩, List.forall_mem_cons.mpr ⟨⟨az_g 114 (by decide +kernel) (by decide +kernel), by decide, by decide⟩, List.forall_mem_cons.mpr ⟨⟨az_g 116 (by decide +kernel) (by decide +kernel), by decide, by decide⟩, List.forall_mem_cons.mpr ⟨⟨az_g 118 (by decide +kernel) (by decide +kernel), by decide, by decide⟩, List.forall_mem_cons.mpr ⟨⟨Or.inl (az_g 823 (by decide +kernel) (by decide +kernel)), by decide +kernel, by decide +kernel, by decide +kernel, by decide +kernel, by decide +kernel⟩, List.forall_mem_cons.mpr ⟨⟨Or.inl (az_g 752 (by decide +kernel) (by decide +kernel)), by decide +kernel, by decide +kernel, by decide +kernel, by decide +kernel, by decide +kernel⟩, List.forall_mem_cons.mpr ⟨⟨Or.inl (az_g 834 (by decide +kernel) (by decide +kernel)), by decide +kernel, by decide +kernel, by decide +kernel, by decide +kernel, by decide +kernel⟩, List.forall_mem_cons.mpr ⟨⟨Or.inl (az_g 728 (by decide +kernel) (by decide +kernel)), by decide +kernel, by decide +kernel, by decide +kernel, by decide +kernel, by decide +kernel⟩, List.forall_mem_cons.mpr ⟨⟨az_g 154 (by decide +kernel) (by decide +kernel), by decide, by decide⟩, List.forall_mem_cons.mpr ⟨⟨az_g 148 (by decide +kernel) (by decide +kernel), by decide, by decide⟩, List.forall_mem_cons.mpr ⟨⟨az_g 152 (by decide +kernel) (by decide +kernel), by decide, by decide⟩, List.forall_mem_cons.mpr ⟨az_g 736 (by decide +kernel) (by decide +kernel), List.forall_mem_cons.mpr ⟨⟨Or.inl (az_g 748 (by decide +kernel) (by decide +kernel)), by decide +kernel, by decide +kernel, by decide +kernel, by decide +kernel, by decide +kernel⟩, fun _ h => absurd h List.not_mem_nil⟩⟩⟩⟩⟩⟩⟩⟩⟩⟩⟩⟩⟩⟩⟩⟩⟩⟩⟩⟩⟩⟩⟩⟩⟩⟩⟩⟩⟩⟩⟩⟩⟩⟩⟩⟩⟩⟩⟩⟩⟩⟩⟩⟩⟩⟩⟩⟩⟩⟩⟩⟩⟩⟩⟩⟩⟩⟩⟩⟩⟩⟩⟩⟩⟩⟩⟩⟩⟩⟩⟩⟩⟩⟩⟩⟩⟩⟩⟩⟩⟩⟩⟩⟩⟩⟩⟩⟩⟩⟩⟩⟩⟩⟩⟩⟩⟩⟩⟩⟩⟩⟩⟩
theorem az_lo7 : ∀ q ∈ az_lk7, az_lkok 7 q := List.forall_mem_cons.mpr ⟨az_g 843 (by decide +kernel) (by decide +kernel), List.forall_mem_cons.mpr ⟨⟨az_g 847 (by decide +kernel) (by decide +kernel), by decide, by decide⟩, List.forall_mem_cons.mpr ⟨⟨az_g 848 (by decide +kernel) (by decide +kernel), by decide, by decide⟩, List.forall_mem_cons.mpr ⟨⟨az_g 849 (by decide +kernel) (by decide +kernel), by decide, by decide⟩, List.forall_mem_cons.mpr ⟨⟨az_g 850 (by decide +kernel) (by decide +kernel), by decide, by decide⟩, List.forall_mem_cons.mpr ⟨⟨az_g 851 (by decide +kernel) (by decide +kernel), by decide, by decide⟩, List.forall_mem_cons.mpr ⟨⟨az_g 853 (by decide +kernel) (by decide +kernel), by decide, by decide⟩, List.forall_mem_cons.mpr ⟨⟨az_g 854 (by decide +kernel) (by decide +kernel), by decide, by decide⟩, List.forall_mem_cons.mpr ⟨⟨az_g 855 (by decide +kernel) (by decide +kernel), by decide, by decide⟩, List.forall_mem_cons.mpr ⟨⟨az_g 856 (by decide +kernel) (by decide +kernel), by decide, by decide⟩, List.forall_mem_cons.mpr ⟨⟨az_g 857 (by decide +kernel) (by decide +kernel), by decide, by decide⟩, List.forall_mem_cons.mpr ⟨⟨az_g 858 (by decide +kernel) (by decide +kernel), by decide, by decide⟩, List.forall_mem_cons.mpr ⟨⟨az_g 859 (by decide +kernel) (by decide +kernel), by decide, by decide⟩, List.forall_mem_cons.mpr ⟨⟨az_g 860 (by decide +kernel) (by decide +kernel), by decide, by decide⟩, List.forall_mem_cons.mpr ⟨⟨az_g 861 (by decide +kernel) (by decide +kernel), by decide, by decide⟩, List.forall_mem_cons.mpr ⟨⟨az_g 863 (by decide +kernel) (by decide +kernel), by decide, by decide⟩, List.forall_mem_cons.mpr ⟨⟨az_g 864 (by decide +kernel) (by decide +kernel), by decide, by decide⟩, List.forall_mem_cons.mpr ⟨⟨az_g 865 (by decide +kernel) (by decide +kernel), by decide, by decide⟩, List.forall_mem_cons.mpr ⟨⟨az_g 866 (by decide +kernel) (by decide +kernel), by decide, by decide⟩, List.forall_mem_cons.mpr ⟨⟨az_g 867 (by decide +kernel) (by decide +kernel), by decide, by decide⟩, List.forall_mem_cons.mpr ⟨⟨az_g 869 (by decide +kernel) (by decide +kernel), by decide, by decide⟩, List.forall_mem_cons.mpr ⟨⟨az_g 870 (by decide +kernel) (by decide +kernel), by decide, by decide⟩, List.forall_mem_cons.mpr ⟨⟨az_g 871 (by decide +kernel) (by decide +kernel), by decide, by decide⟩, List.forall_mem_cons.mpr ⟨⟨az_g 872 (by decide +kernel) (by decide +kernel), by decide, by decide⟩, List.forall_mem_cons.mpr ⟨⟨az_g 873 (by decide +kernel) (by decide +kernel), by decide, by decide⟩, List.forall_mem_cons.mpr ⟨⟨az_g 877 (by decide +kernel) (by decide +kernel), by decide, by decide⟩, List.forall_mem_cons.mpr ⟨⟨az_g 878 (by decide +kernel) (by decide +kernel), by decide, by decide⟩, List.forall_mem_cons.mpr ⟨⟨az_g 879 (by decide +kernel) (by decide +kernel), by decide, by decide⟩, List.forall_mem_cons.mpr ⟨⟨az_g 880 (by decide +kernel) (by decide +kernel), by decide, by decide⟩, List.forall_mem_cons.mpr ⟨⟨az_g 881 (by decide +kernel) (by decide +kernel), by decide, by decide⟩, List.forall_mem_cons.mpr ⟨⟨az_g 882 (by decide +kernel) (by decide +kernel), by decide, by decide⟩, List.forall_mem_cons.mpr ⟨⟨az_g 883 (by decide +kernel) (by decide +kernel), by decide, by decide⟩, List.forall_mem_cons.mpr ⟨⟨az_g 884 (by decide +kernel) (by decide +kernel), by decide, by decide⟩, List.forall_mem_cons.mpr ⟨⟨az_g 885 (by decide +kernel) (by decide +kernel), by decide, by decide⟩, List.forall_mem_cons.mpr ⟨⟨az_g 886 (by decide +kernel) (by decide +kernel), by decide, by decide⟩, List.forall_mem_cons.mpr ⟨⟨az_g 887 (by decide +kernel) (by decide +kernel), by decide, by decide⟩, List.forall_mem_cons.mpr ⟨⟨az_g 888 (by decide +kernel) (by decide +kernel), by decide, by decide⟩, List.forall_mem_cons.mpr ⟨⟨az_g 889 (by decide +kernel) (by decide +kernel), by decide, by decide⟩, List.forall_mem_cons.mpr ⟨⟨az_g 890 (by decide +kernel) (by decide +kernel), by decide, by decide⟩, List.forall_mem_cons.mpr ⟨⟨az_g 845 (by decide +kernel) (by decide +kernel), by decide, by decide⟩, List.forall_mem_cons.mpr ⟨⟨Or.inl (az_g 992 (by decide +kernel) (by decide +kernel)), by decide +kernel, by decide +kernel, by decide +kernel, by decide +kernel, by decide +kernel⟩, List.forall_mem_cons.mpr ⟨⟨az_g 852 (by decide +kernel) (by decide +kernel), by decide, by decide⟩, List.forall_mem_cons.mpr ⟨⟨az_g 862 (by decide +kernel) (by decide +kernel), by decide, by decide⟩, List.forall_mem_cons.mpr ⟨⟨az_g 868 (by decide +kernel) (by decide +kernel), by decide, by decide⟩, List.forall_mem_cons.mpr ⟨⟨az_g 876 (by decide +kernel) (by decide +kernel), by decide, by decide⟩, List.forall_mem_cons.mpr ⟨⟨Or.inl (az_g 995 (by decide +kernel) (by decide +kernel)), by decide +kernel, by decide +kernel, by decide +kernel, by decide +kernel, by decide +kernel⟩, List.forall_mem_cons.mpr ⟨⟨Or.inl (az_g 998 (by decide +kernel) (by decide +kernel)), by decide +kernel, by decide +kernel, by decide +kernel, by decide +kernel, by decide +kernel⟩, List.forall_mem_cons.mpr ⟨⟨Or.inl (az_g 1006 (by decide +kernel) (by decide +kernel)), by decide +kernel, by decide +kernel, by decide +kernel, by decide +kernel, by decide +kernel⟩, List.forall_mem_cons.mpr ⟨⟨az_g 846 (by decide +kernel) (by decide +kernel), by decide, by decide⟩, List.forall_mem_cons.mpr ⟨⟨Or.inl (az_g 1013 (by decide +kernel) (by decide +kernel)), by decide +kernel, by decide +kernel, by decide +kernel, by decide +kernel, by decide +kernel⟩, List.forall_mem_cons.mpr ⟨⟨Or.inl (az_g 1022 (by decide +kernel) (by decide +kernel)), by decide +kernel, by decide +kernel, by decide +kernel, by decide +kernel, by decide +kernel⟩, List.forall_mem_cons.mpr ⟨⟨Or.inl (az_g 1026 (by decide +kernel) (by decide +kernel)), by decide +kernel, by decide +kernel, by decide +kernel, by decide +kernel, by decide +kernel⟩, List.forall_mem_cons.mpr ⟨⟨Or.inl (az_g 1038 (by decide +kernel) (by decide +kernel)), by decide +kernel, by decide +kernel, by decide +kernel, by decide +kernel, by decide +kernel⟩, List.forall_mem_cons.mpr ⟨⟨az_g 874 (by decide +kernel) (by decide +kernel), by decide, by decide⟩, List.forall_mem_cons.mpr ⟨⟨az_g 875 (by decide +kernel) (by decide +kernel), by decide, by decide⟩, List.forall_mem_cons.mpr ⟨⟨Or.inl (az_g 1050 (by decide +kernel) (by decide +kernel)), by decide +kernel, by decide +kernel, by decide +kernel, by decide +kernel, by decide +kernel⟩, List.forall_mem_cons.mpr ⟨⟨Or.inl (az_g 1054 (by decide +kernel) (by decide +kernel)), by decide +kernel, by decide +kernel, by decide +kernel, by decide +kernel, by decide +kernel⟩, List.forall_mem_cons.mpr ⟨⟨Or.inl (az_g 1058 (by decide +kernel) (by decide +kernel)), by decide +kernel, by decide +kernel, by decide +kernel, by decide +kernel, by decide +kernel⟩, List.forall_mem_cons.mpr ⟨⟨Or.inl (az_g 1046 (by decide +kernel) (by decide +kernel)), by decide +kernel, by decide +kernel, by decide +kernel, by decide +kernel, by decide +kernel⟩, List.forall_mem_cons.mpr ⟨⟨Or.inl (az_g 1065 (by decide +kernel) (by decide +kernel)), by decide +kernel, by decide +kernel, by decide +kernel, by decide +kernel, by decide +kernel⟩, List.forall_mem_cons.mpr ⟨⟨Or.inl (az_g 1082 (by decide +kernel) (by decide +kernel)), by decide +kernel, by decide +kernel, by decide +kernel, by decide +kernel, by decide +kernel⟩, List.forall_mem_cons.mpr ⟨⟨Or.inl (az_g 1074 (by decide +kernel) (by decide +kernel)), by decide +kernel, by decide +kernel, by decide +kernel, by decide +kernel, by decide +kernel⟩, List.forall_mem_cons.mpr ⟨⟨Or.inl (az_g 1078 (by decide +kernel) (by decide +kernel)), by decide +kernel, by decide +kernel, by decide +kernel, by decide +kernel, by decide +kernel⟩, List.forall_mem_cons.mpr ⟨⟨Or.inl (az_g 1094 (by decide +kernel) (by decide +kernel)), by decide +kernel, by decide +kernel, by decide +kernel, by decide +kernel, by decide +kernel⟩, List.forall_mem_cons.mpr ⟨⟨Or.inl (az_g 1098 (by decide +kernel) (by decide +kernel)), by decide +kernel, by decide +kernel, by decide +kernel, by decide +kernel, by decide +kernel⟩, List.forall_mem_cons.mpr ⟨⟨Or.inl (az_g 1106 (by decide +kernel) (by decide +kernel)), by decide +kernel, by decide +kernel, by decide +kernel, by decide +kernel, by decide +kernel⟩, List.forall_mem_cons.mpr ⟨⟨Or.inl (az_g 1119 (by decide +kernel) (by decide +kernel)), by decide +kernel, by decide +kernel, by decide +kernel, by decide +kernel, by decide +kernel⟩, List.forall_mem_cons.mpr ⟨⟨Or.inl (az_g 1131 (by decide +kernel) (by decide +kernel)), by decide +kernel, by decide +kernel, by decide +kernel, by decide +kernel, by decide +kernel⟩, List.forall_mem_cons.mpr ⟨⟨Or.inl (az_g 1135 (by decide +kernel) (by decide +kernel)), by decide +kernel, by decide +kernel, by decide +kernel, by decide +kernel, by decide +kernel⟩, List.forall_mem_cons.mpr ⟨⟨Or.inl (az_g 1147 (by decide +kernel) (by decide +kernel)), by decide +kernel, by decide +kernel, by decide +kernel, by decide +kernel, by decide +kernel⟩, List.forall_mem_cons.mpr ⟨⟨Or.inl (az_g 1143 (by decide +kernel) (by decide +kernel)), by decide +kernel, by decide +kernel, by decide +kernel, by decide +kernel, by decide +kernel⟩, List.forall_mem_cons.mpr ⟨⟨Or.inl (az_g 1163 (by decide +kernel) (by decide +kernel)), by decide +kernel, by decide +kernel, by decide +kernel, by decide +kernel, by decide +kernel⟩, List.forall_mem_cons.mpr ⟨⟨Or.inl (az_g 1183 (by decide +kernel) (by decide +kernel)), by decide +kernel, by decide +kernel, by decide +kernel, by decide +kernel, by decide +kernel⟩, fun _ h => absurd h List.not_mem_nil⟩⟩⟩⟩⟩⟩⟩⟩⟩⟩⟩⟩⟩⟩⟩⟩⟩⟩⟩⟩⟩⟩⟩⟩⟩⟩⟩⟩⟩⟩⟩⟩⟩⟩⟩⟩⟩⟩⟩⟩⟩⟩⟩⟩⟩⟩⟩⟩⟩⟩⟩⟩⟩⟩⟩⟩⟩⟩⟩⟩⟩⟩⟩⟩⟩⟩⟩⟩⟩⟩⟩⟩⟩
theorem az_lo8 : ∀ q ∈ az_lk8, az_lkok 8 q := List.forall_mem_cons.mpr ⟨⟨Or.inl (az_g 323 (by decide +kernel) (by decide +kernel)), by decide +kernel, by decide +kernel, by decide +kernel, by decide +kernel, by decide +kernel⟩, List.forall_mem_cons.mpr ⟨⟨az_g 62 (by decide +kernel) (by decide +kernel), by decide⟩, List.forall_mem_cons.mpr ⟨⟨Or.inl (az_g 420 (by decide +kernel) (by decide +kernel)), by decide +kernel, by decide +kernel, by decide +kernel, by decide +kernel, by decide +kernel⟩, List.forall_mem_cons.mpr ⟨⟨Or.inl (az_g 428 (by decide +kernel) (by decide +kernel)), by decide +kernel, by decide +kernel, by decide +kernel, by decide +kernel, by decide +kernel⟩, List.forall_mem_cons.mpr ⟨⟨Or.inl (az_g 470 (by decide +kernel) (by decide +kernel)), by decide +kernel, by decide +kernel, by decide +kernel, by decide +kernel, by decide +kernel⟩, List.forall_mem_cons.mpr ⟨⟨Or.inl (az_g 489 (by decide +kernel) (by decide +kernel)), by decide +kernel, by decide +kernel, by decide +kernel, by decide +kernel, by decide +kernel⟩, List.forall_mem_cons.mpr ⟨⟨Or.inl (az_g 500 (by decide +kernel) (by decide +kernel)), by decide +kernel, by decide +kernel, by decide +kernel, by decide +kernel, by decide +kernel⟩, List.forall_mem_cons.mpr ⟨⟨Or.inl (az_g 519 (by decide +kernel) (by decide +kernel)), by decide +kernel, by decide +kernel, by decide +kernel, by decide +kernel, by decide +kernel⟩, List.forall_mem_cons.mpr ⟨⟨Or.inl (az_g 544 (by decide +kernel) (by decide +kernel)), by decide +kernel, by decide +kernel, by decide +kernel, by decide +kernel, by decide +kernel⟩, List.forall_mem_cons.mpr ⟨⟨Or.inl (az_g 580 (by decide +kernel) (by decide +kernel)), by decide +kernel, by decide +kernel, by decide +kernel, by decide +kernel, by decide +kernel⟩, List.forall_mem_cons.mpr ⟨⟨Or.inl (az_g 587 (by decide +kernel) (by decide +kernel)), by decide +kernel, by decide +kernel, by decide +kernel, by decide +kernel, by decide +kernel⟩, List.forall_mem_cons.mpr ⟨⟨Or.inl (az_g 620 (by decide +kernel) (by decide +kernel)), by decide +kernel, by decide +kernel, by decide +kernel, by decide +kernel, by decide +kernel⟩, List.forall_mem_cons.mpr ⟨⟨Or.inl (az_g 627 (by decide +kernel) (by decide +kernel)), by decide +kernel, by decide +kernel, by decide +kernel, by decide +kernel, by decide +kernel⟩, List.forall_mem_cons.mpr ⟨⟨Or.inl (az_g 654 (by decide +kernel) (by decide +kernel)), by decide +kernel, by decide +kernel, by decide +kernel, by decide +kernel, by decide +kernel⟩, List.forall_mem_cons.mpr ⟨⟨Or.inl (az_g 681 (by decide +kernel) (by decide +kernel)), by decide +kernel, by decide +kernel, by decide +kernel, by decide +kernel, by decide +kernel⟩, List.forall_mem_cons.mpr ⟨⟨Or.inl (az_g 696 (by decide +kernel) (by decide +kernel)), by decide +kernel, by decide +kernel, by decide +kernel, by decide +kernel, by decide +kernel⟩, List.forall_mem_cons.mpr ⟨⟨Or.inl (az_g 712 (by decide +kernel) (by decide +kernel)), by decide +kernel, by decide +kernel, by decide +kernel, by decide +kernel, by decide +kernel⟩, List.forall_mem_cons.mpr ⟨⟨Or.inl (az_g 719 (by decide +kernel) (by decide +kernel)), by decide +kernel, by decide +kernel, by decide +kernel, by decide +kernel, by decide +kernel⟩, List.forall_mem_cons.mpr ⟨⟨Or.inl (az_g 740 (by decide +kernel) (by decide +kernel)), by decide +kernel, by decide +kernel, by decide +kernel, by decide +kernel, by decide +kernel⟩, List.forall_mem_cons.mpr ⟨⟨Or.inl (az_g 759 (by decide +kernel) (by decide +kernel)), by decide +kernel, by decide +kernel, by decide +kernel, by decide +kernel, by decide +kernel⟩, List.forall_mem_cons.mpr ⟨⟨Or.inl (az_g 766 (by decide +kernel) (by decide +kernel)), by decide +kernel, by decide +kernel, by decide +kernel, by decide +kernel, by decide +kernel⟩, List.forall_mem_cons.mpr ⟨⟨Or.inl (az_g 773 (by decide +kernel) (by decide +kernel)), by decide +kernel, by decide +kernel, by decide +kernel, by decide +kernel, by decide +kernel⟩, List.forall_mem_cons.mpr ⟨⟨Or.inl (az_g 782 (by decide +kernel) (by decide +kernel)), by decide +kernel, by decide +kernel, by decide +kernel, by decide +kernel, by decide +kernel⟩, List.forall_mem_cons.mpr ⟨⟨Or.inl (az_g 790 (by decide +kernel) (by decide +kernel)), by decide +kernel, by decide +kernel, by decide +kernel, by decide +kernel, by decide +kernel⟩, List.forall_mem_cons.mpr ⟨⟨Or.inl (az_g 797 (by decide +kernel) (by decide +kernel)), by decide +kernel, by decide +kernel, by decide +kernel, by decide +kernel, by decide +kernel⟩, List.forall_mem_cons.mpr ⟨⟨Or.inl (az_g 812 (by decide +kernel) (by decide +kernel)), by decide +kernel, by decide +kernel, by decide +kernel, by decide +kernel, by decide +kernel⟩, List.forall_mem_cons.mpr ⟨⟨Or.inl (az_g 819 (by decide +kernel) (by decide +kernel)), by decide +kernel, by decide +kernel, by decide +kernel, by decide +kernel, by decide +kernel⟩, List.forall_mem_cons.mpr ⟨⟨Or.inl (az_g 830 (by decide +kernel) (by decide +kernel)), by decide +kernel, by decide +kernel, by decide +kernel, by decide +kernel, by decide +kernel⟩, List.forall_mem_cons.mpr ⟨⟨Or.inl (az_g 64 (by decide +kernel) (by decide +kernel)), by decide +kernel, by decide +kernel, by decide +kernel, by decide +kernel, by decide +kernel⟩, List.forall_mem_cons.mpr ⟨⟨az_g 838 (by decide +kernel) (by decide +kernel), by decide⟩, List.forall_mem_cons.mpr ⟨⟨Or.inl (az_g 840 (by decide +kernel) (by decide +kernel)), by decide +kernel, by decide +kernel, by decide +kernel, by decide +kernel, by decide +kernel⟩, List.forall_mem_cons.mpr ⟨⟨Or.inl (az_g 318 (by decide +kernel) (by decide +kernel)), by decide +kernel, by decide +kernel, by decide +kernel, by decide +kernel, by decide +kernel⟩, List.forall_mem_cons.mpr ⟨⟨Or.inl (az_g 988 (by decide +kernel) (by decide +kernel)), by decide +kernel, by decide +kernel, by decide +kernel, by decide +kernel, by decide +kernel⟩, List.forall_mem_cons.mpr ⟨⟨Or.inl (az_g 984 (by decide +kernel) (by decide +kernel)), by decide +kernel, by decide +kernel, by decide +kernel, by decide +kernel, by decide +kernel⟩, List.forall_mem_cons.mpr ⟨⟨Or.inl (az_g 417 (by decide +kernel) (by decide +kernel)), by decide +kernel, by decide +kernel, by decide +kernel, by decide +kernel, by decide +kernel⟩, List.forall_mem_cons.mpr ⟨⟨Or.inl (az_g 1002 (by decide +kernel) (by decide +kernel)), by decide +kernel, by decide +kernel, by decide +kernel, by decide +kernel, by decide +kernel⟩, List.forall_mem_cons.mpr ⟨⟨Or.inl (az_g 424 (by decide +kernel) (by decide +kernel)), by decide +kernel, by decide +kernel, by decide +kernel, by decide +kernel, by decide +kernel⟩, List.forall_mem_cons.mpr ⟨⟨Or.inl (az_g 1009 (by decide +kernel) (by decide +kernel)), by decide +kernel, by decide +kernel, by decide +kernel, by decide +kernel, by decide +kernel⟩, List.forall_mem_cons.mpr ⟨⟨Or.inl (az_g 467 (by decide +kernel) (by decide +kernel)), by decide +kernel, by decide +kernel, by decide +kernel, by decide +kernel, by decide +kernel⟩, List.forall_mem_cons.mpr ⟨⟨Or.inl (az_g 1018 (by decide +kernel) (by decide +kernel)), by decide +kernel, by decide +kernel, by decide +kernel, by decide +kernel, by decide +kernel⟩, List.forall_mem_cons.mpr ⟨⟨Or.inl (az_g 486 (by decide +kernel) (by decide +kernel)), by decide +kernel, by decide +kernel, by decide +kernel, by decide +kernel, by decide +kernel⟩, List.forall_mem_cons.mpr ⟨⟨Or.inl (az_g 1030 (by decide +kernel) (by decide +kernel)), by decide +kernel, by decide +kernel, by decide +kernel, by decide +kernel, by decide +kernel⟩, List.forall_mem_cons.mpr ⟨⟨Or.inl (az_g 497 (by decide +kernel) (by decide +kernel)), by decide +kernel, by decide +kernel, by decide +kernel, by decide +kernel, by decide +kernel⟩, List.forall_mem_cons.mpr ⟨⟨Or.inl (az_g 1034 (by decide +kernel) (by decide +kernel)), by decide +kernel, by decide +kernel, by decide +kernel, by decide +kernel, by decide +kernel⟩, List.forall_mem_cons.mpr ⟨⟨Or.inl (az_g 516 (by decide +kernel) (by decide +kernel)), by decide +kernel, by decide +kernel, by decide +kernel, by decide +kernel, by decide +kernel⟩, List.forall_mem_cons.mpr ⟨⟨Or.inl (az_g 1042 (by decide +kernel) (by decide +kernel)), by decide +kernel, by decide +kernel, by decide +kernel, by decide +kernel, by decide +kernel⟩, List.forall_mem_cons.mpr ⟨⟨Or.inl (az_g 541 (by decide +kernel) (by decide +kernel)), by decide +kernel, by decide +kernel, by decide +kernel, by decide +kernel, by decide +kernel⟩, List.forall_mem_cons.mpr ⟨⟨Or.inl (az_g 1061 (by decide +kernel) (by decide +kernel)), by decide +kernel, by decide +kernel, by decide +kernel, by decide +kernel, by decide +kernel⟩, List.forall_mem_cons.mpr ⟨⟨Or.inl (az_g 577 (by decide +kernel) (by decide +kernel)), by decide +kernel, by decide +kernel, by decide +kernel, by decide +kernel, by decide +kernel⟩, List.forall_mem_cons.mpr ⟨⟨Or.inl (az_g 1066 (by decide +kernel) (by decide +kernel)), by decide +kernel, by decide +kernel, by decide +kernel, by decide +kernel, by decide +kernel⟩, List.forall_mem_cons.mpr ⟨⟨Or.inl (az_g 584 (by decide +kernel) (by decide +kernel)), by decide +kernel, by decide +kernel, by decide +kernel, by decide +kernel, by decide +kernel⟩, List.forall_mem_cons.mpr ⟨⟨Or.inl (az_g 1070 (by decide +kernel) (by decide +kernel)), by decide +kernel, by decide +kernel, by decide +kernel, by decide +kernel, by decide +kernel⟩, List.forall_mem_cons.mpr ⟨⟨Or.inl (az_g 617 (by decide +kernel) (by decide +kernel)), by decide +kernel, by decide +kernel, by decide +kernel, by decide +kernel, by decide +kernel⟩, List.forall_mem_cons.mpr ⟨⟨Or.inl (az_g 1086 (by decide +kernel) (by decide +kernel)), by decide +kernel, by decide +kernel, by decide +kernel, by decide +kernel, by decide +kernel⟩, List.forall_mem_cons.mpr ⟨⟨Or.inl (az_g 624 (by decide +kernel) (by decide +kernel)), by decide +kernel, by decide +kernel, by decide +kernel, by decide +kernel, by decide +kernel⟩, List.forall_mem_cons.mpr ⟨⟨Or.inl (az_g 1090 (by decide +kernel) (by decide +kernel)), by decide +kernel, by decide +kernel, by decide +kernel, by decide +kernel, by decide +kernel⟩, List.forall_mem_cons.mpr ⟨⟨Or.inl (az_g 651 (by decide +kernel) (by decide +kernel)), by decide +kernel, by decide +kernel, by decide +kernel, by decide +kernel, by decide +kernel⟩, List.forall_mem_cons.mpr ⟨⟨Or.inl (az_g 1102 (by decide +kernel) (by decide +kernel)), by decide +kernel, by decide +kernel, by decide +kernel, by decide +kernel, by decide +kernel⟩, List.forall_mem_cons.mpr ⟨⟨Or.inl (az_g 678 (by decide +kernel) (by decide +kernel)), by decide +kernel, by decide +kernel, by decide +kernel, by decide +kernel, by decide +kernel⟩, List.forall_mem_cons.mpr ⟨⟨Or.inl (az_g 1110 (by decide +kernel) (by decide +kernel)), by decide +kernel, by decide +kernel, by decide +kernel, by decide +kernel, by decide +kernel⟩, List.forall_mem_cons.mpr ⟨⟨Or.inl (az_g 693 (by decide +kernel) (by decide +kernel)), by decide +kernel, by decide +kernel, by decide +kernel, by decide +kernel, by decide +kernel⟩, List.forall_mem_cons.mpr ⟨⟨Or.inl (az_g 1114 (by decide +kernel) (by decide +kernel)), by decide +kernel, by decide +kernel, by decide +kernel, by decide +kernel, by decide +kernel⟩, List.forall_mem_cons.mpr ⟨⟨Or.inl (az_g 709 (by decide +kernel) (by decide +kernel)), by decide +kernel, by decide +kernel, by decide +kernel, by decide +kernel, by decide +kernel⟩, List.forall_mem_cons.mpr ⟨⟨Or.inl (az_g 1123 (by decide +kernel) (by decide +kernel)), by decide +kernel, by decide +kernel, by decide +kernel, by decide +kernel, by decide +kernel⟩, List.forall_mem_cons.mpr ⟨⟨Or.inl (az_g 716 (by decide +kernel) (by decide +kernel)), by decide +kernel, by decide +kernel, by decide +kernel, by decide +kernel, by decide +kernel⟩, List.forall_mem_cons.mpr ⟨⟨Or.inl (az_g 1127 (by decide +kernel) (by decide +kernel)), by decide +kernel, by decide +kernel, by decide +kernel, by decide +kernel, by decide +kernel⟩, List.forall_mem_cons.mpr ⟨⟨Or.inl (az_g 737 (by decide +kernel) (by decide +kernel)), by decide +kernel, by decide +kernel, by decide +kernel, by decide +kernel, by decide +kernel⟩, List.forall_mem_cons.mpr ⟨⟨Or.inl (az_g 1139 (by decide +kernel) (by decide +kernel)), by decide +kernel, by decide +kernel, by decide +kernel, by decide +kernel, by decide +kernel⟩, List.forall_mem_cons.mpr ⟨⟨Or.inl (az_g 314 (by decide +kernel) (by decide +kernel)), by decide +kernel, by decide +kernel, by decide +kernel, by decide +kernel, by decide +kernel⟩, List.forall_mem_cons.mpr ⟨⟨Or.inl (az_g 1151 (by decide +kernel) (by decide +kernel)), by decide +kernel, by decide +kernel, by decide +kernel, by decide +kernel, by decide +kernel⟩, List.forall_mem_cons.mpr ⟨⟨Or.inl (az_g 756 (by decide +kernel) (by decide +kernel)), by decide +kernel, by decide +kernel, by decide +kernel, by decide +kernel, by decide +kernel⟩, List.forall_mem_cons.mpr ⟨⟨Or.inl (az_g 1155 (by decide +kernel) (by decide +kernel)), by decide +kernel, by decide +kernel, by decide +kernel, by decide +kernel, by decide +kernel⟩, List.forall_mem_cons.mpr ⟨⟨Or.inl (az_g 763 (by decide +kernel) (by decide +kernel)), by decide +kernel, by decide +kernel, by decide +kernel, by decide +kernel, by decide +kernel⟩, List.forall_mem_cons.mpr ⟨⟨Or.inl (az_g 1159 (by decide +kernel) (by decide +kernel)), by decide +kernel, by decide +kernel, by decide +kernel, by decide +kernel, by decide +kernel⟩, List.forall_mem_cons.mpr ⟨⟨Or.inl (az_g 770 (by decide +kernel) (by decide +kernel)), by decide +kernel, by decide +kernel, by decide +kernel, by decide +kernel, by decide +kernel⟩, List.forall_mem_cons.mpr ⟨⟨Or.inl (az_g 1167 (by decide +kernel) (by decide +kernel)), by decide +kernel, by decide +kernel, by decide +kernel, by decide +kernel, by decide +kernel⟩, List.forall_mem_cons.mpr ⟨⟨Or.inl (az_g 779 (by decide +kernel) (by decide +kernel)), by decide +kernel, by decide +kernel, by decide +kernel, by decide +kernel, by decide +kernel⟩, List.forall_mem_cons.mpr ⟨⟨Or.inl (az_g 1171 (by decide +kernel) (by decide +kernel)), by decide +kernel, by decide +kernel, by decide +kernel, by decide +kernel, by decide +kernel⟩, List.forall_mem_cons.mpr ⟨⟨Or.inl (az_g 787 (by decide +kernel) (by decide +kernel)), by decide +kernel, by decide +kernel, by decide +kernel, by decide +kernel, by decide +kernel⟩, List.forall_mem_cons.mpr ⟨⟨Or.inl (az_g 1175 (by decide +kernel) (by decide +kernel)), by decide +kernel, by decide +kernel, by decide +kernel, by decide +kernel, by decide +kernel⟩, List.forall_mem_cons.mpr ⟨⟨Or.inl (az_g 794 (by decide +kernel) (by decide +kernel)), by decide +kernel, by decide +kernel, by decide +kernel, by decide +kernel, by decide +kernel⟩, List.forall_mem_cons.mpr ⟨⟨Or.inl (az_g 1179 (by decide +kernel) (by decide +kernel)), by decide +kernel, by decide +kernel, by decide +kernel, by decide +kernel, by decide +kernel⟩, List.forall_mem_cons.mpr ⟨⟨Or.inl (az_g 809 (by decide +kernel) (by decide +kernel)), by decide +kernel, by decide +kernel, by decide +kernel, by decide +kernel, by decide +kernel⟩, List.forall_mem_cons.mpr ⟨⟨Or.inl (az_g 1187 (by decide +kernel) (by decide +kernel)), by decide +kernel, by decide +kernel, by decide +kernel, by decide +kernel, by decide +kernel⟩, List.forall_mem_cons.mpr ⟨⟨Or.inl (az_g 816 (by decide +kernel) (by decide +kernel)), by decide +kernel, by decide +kernel, by decide +kernel, by decide +kernel, by decide +kernel⟩, List.forall_mem_cons.mpr ⟨⟨Or.inl (az_g 1191 (by decide +kernel) (by decide +kernel)), by decide +kernel, by decide +kernel, by decide +kernel, by decide +kernel, by decide +kernel⟩, List.forall_mem_cons.mpr ⟨⟨Or.inl (az_g 827 (by decide +kernel) (by decide +kernel)), by decide +kernel, by decide +kernel, by decide +kernel, by decide +kernel, by decide +kernel⟩, List.forall_mem_cons.mpr ⟨⟨Or.inl (az_g 1195 (by decide +kernel) (by decide +kernel)), by decide +kernel, by decide +kernel, by decide +kernel, by decide +kernel, by decide +kernel⟩, fun _ h => absurd h List.not_mem_nil⟩⟩⟩⟩⟩⟩⟩⟩⟩⟩⟩⟩⟩⟩⟩⟩⟩⟩⟩⟩⟩⟩⟩⟩⟩⟩⟩⟩⟩⟩⟩⟩⟩⟩⟩⟩⟩⟩⟩⟩⟩⟩⟩⟩⟩⟩⟩⟩⟩⟩⟩⟩⟩⟩⟩⟩⟩⟩⟩⟩⟩⟩⟩⟩⟩⟩⟩⟩⟩⟩⟩⟩⟩⟩⟩⟩⟩⟩⟩⟩⟩⟩⟩⟩⟩⟩⟩⟩
theorem az_lo9 : ∀ q ∈ az_lk9, az_lkok 9 q := fun _ h => absurd h List.not_mem_nil
theorem az_lo10 : ∀ q ∈ az_lk10, az_lkok 10 q := fun _ h => absurd h List.not_mem_nil
theorem az_lo (o i : Nat) {t : Nat × Nat × Nat} (h : az_lk o i = some t) : az_lkok o (i, t) := by
  unfold az_lk at h
  obtain ⟨q, h1, h2⟩ := Option.map_eq_some_iff.mp h
  have h3 := List.mem_of_find?_eq_some h1
  have h4 : q.1 = i := by simpa using List.find?_some h1
  have h5 : q = (i, t) := by rw [← h4, ← h2]
  rw [h5] at h3
  have key : ∀ l : List (List (Nat × Nat × Nat × Nat)), (∀ n m : List (Nat × Nat × Nat × Nat), True) → True := fun _ _ => trivial
  match o, h3 with

  | 0, h3 => exact az_lo0 _ h3
  | 1, h3 => exact az_lo1 _ h3
  | 2, h3 => exact az_lo2 _ h3
  | 3, h3 => exact az_lo3 _ h3
  | 4, h3 => exact az_lo4 _ h3
  | 5, h3 => exact az_lo5 _ h3
  | 6, h3 => exact az_lo6 _ h3
  | 7, h3 => exact az_lo7 _ h3
  | 8, h3 => exact az_lo8 _ h3
  | 9, h3 => exact az_lo9 _ h3
  | 10, h3 => exact az_lo10 _ h3
  | o + 11, h3 => exact absurd h3 List.not_mem_nil
def az_hhs : List (Nat × List (Nat × Nat × Nat × Nat)) := [(144, [(0, 14, 17, 13), (0, 14, 21, 15)]), (145, [(0, 10, 13, 13), (0, 10, 17, 15)]), (146, [(0, 12, 15, 13), (0, 12, 19, 15), (0, 12, 23, 25)]), (147, [(0, 12, 15, 13), (0, 12, 19, 15), (0, 12, 23, 25)]), (148, [(0, 12, 15, 15), (0, 12, 19, 25)]), (149, [(0, 19, 22, 13), (0, 19, 26, 15)]), (150, [(0, 9, 12, 15)]), (151, [(0, 9, 12, 15)]), (152, [(0, 9, 12, 15)]), (153, [(0, 10, 13, 13), (0, 10, 17, 15), (0, 10, 21, 25)]), (154, [(0, 10, 13, 13), (0, 10, 17, 15)]), (155, [(0, 10, 13, 13), (0, 10, 17, 15), (0, 10, 21, 25)]), (156, [(0, 10, 13, 13), (0, 10, 17, 15), (0, 10, 21, 25)]), (157, [(0, 10, 13, 13), (0, 10, 17, 15), (0, 10, 21, 25)]), (158, [(0, 17, 20, 13), (0, 17, 24, 15), (0, 17, 28, 25)]), (159, [(0, 16, 19, 13)]), (160, [(0, 8, 11, 25)]), (161, [(0, 10, 13, 13), (0, 10, 17, 15), (0, 10, 21, 25)]), (162, [(0, 10, 13, 13), (0, 10, 17, 15)]), (163, [(0, 10, 13, 13), (0, 10, 17, 15)]), (164, [(0, 10, 13, 13)]), (165, [(0, 10, 13, 13), (0, 10, 17, 15)]), (166, [(0, 10, 13, 13)]), (167, [(0, 10, 13, 13), (0, 10, 17, 15)]), (168, [(0, 10, 13, 13)]), (169, [(0, 9, 12, 13)]), (170, [(0, 9, 12, 13)])]
def az_hh (m : Nat) : List (Nat × Nat × Nat × Nat) := ((az_hhs.find? (fun q => q.1 == m)).map (fun q => q.2)).getD []
def az_cw (m : Nat) : Jvm.Cond := if az_kd m = 3 then .codeWith (az_y m) (az_code m) (az_ml m) (az_rf (az_rt m)) (az_hh m) else .code (az_y m) (az_code m) (az_ml m) (az_rf (az_rt m))
/-- what the tables say of a method that is called -/
def az_mok (m : Nat) : Prop := az_cw m ∈ az_gw ∧ Jvm.Cond.initialized (az_R (az_own m)) ∈ az_gw ∧ (az_y m).cls = az_R (az_own m) ∧ ((az_y m).cls ≠ "java/lang/invoke/MethodHandle" ∧ (az_y m).cls ≠ "java/lang/invoke/VarHandle" ∧ plainName (az_y m).cls = true) ∧
  ((az_kd m = 1 ∨ az_kd m = 3) → Jvm.Cond.static (az_y m) ∈ az_gw ∧ (parseMethodDescriptor (az_y m).desc).map (fun d => d.parameters.length) = some (az_tot m)) ∧
  ((az_kd m = 0 ∨ az_kd m = 2) → Jvm.Cond.instanceMethod (az_y m) ∈ az_gw ∧ (parseMethodDescriptor (az_y m).desc).map (fun d => d.parameters.length + 1) = some (az_tot m)) ∧
  (az_kd m = 0 → Jvm.Cond.selects (az_R (az_own m)) (az_y m) (az_y m) ∈ az_gw) ∧ (az_kd m = 2 → (az_y m).name = "<init>" ∧ az_rt m = 0) ∧ az_ml m ≤ 20 ∧ az_rt m ≤ 2 ∧ (az_kd m = 1 → az_own m = 6 ∨ True)
theorem az_m0 : az_mok 0 := ⟨az_g 229 (by decide +kernel) (by decide +kernel), az_g 50 (by decide +kernel) (by decide +kernel), by decide +kernel, ⟨by decide +kernel, by decide +kernel, by decide +kernel⟩, fun h => absurd h (by decide +kernel), fun _ => ⟨az_g 228 (by decide +kernel) (by decide +kernel), by decide +kernel⟩, fun h => absurd h (by decide +kernel), fun _ => ⟨by decide +kernel, by decide +kernel⟩, by decide +kernel, by decide +kernel, fun _ => Or.inr trivial⟩
theorem az_m1 : az_mok 1 := ⟨az_g 496 (by decide +kernel) (by decide +kernel), az_g 50 (by decide +kernel) (by decide +kernel), by decide +kernel, ⟨by decide +kernel, by decide +kernel, by decide +kernel⟩, fun h => absurd h (by decide +kernel), fun _ => ⟨az_g 494 (by decide +kernel) (by decide +kernel), by decide +kernel⟩, fun _ => az_g 495 (by decide +kernel) (by decide +kernel), fun h => absurd h (by decide +kernel), by decide +kernel, by decide +kernel, fun _ => Or.inr trivial⟩
theorem az_m2 : az_mok 2 := ⟨az_g 511 (by decide +kernel) (by decide +kernel), az_g 50 (by decide +kernel) (by decide +kernel), by decide +kernel, ⟨by decide +kernel, by decide +kernel, by decide +kernel⟩, fun h => absurd h (by decide +kernel), fun _ => ⟨az_g 509 (by decide +kernel) (by decide +kernel), by decide +kernel⟩, fun _ => az_g 510 (by decide +kernel) (by decide +kernel), fun h => absurd h (by decide +kernel), by decide +kernel, by decide +kernel, fun _ => Or.inr trivial⟩
theorem az_m3 : az_mok 3 := ⟨az_g 515 (by decide +kernel) (by decide +kernel), az_g 50 (by decide +kernel) (by decide +kernel), by decide +kernel, ⟨by decide +kernel, by decide +kernel, by decide +kernel⟩, fun h => absurd h (by decide +kernel), fun _ => ⟨az_g 513 (by decide +kernel) (by decide +kernel), by decide +kernel⟩, fun _ => az_g 514 (by decide +kernel) (by decide +kernel), fun h => absurd h (by decide +kernel), by decide +kernel, by decide +kernel, fun _ => Or.inr trivial⟩
theorem az_m4 : az_mok 4 := ⟨az_g 534 (by decide +kernel) (by decide +kernel), az_g 50 (by decide +kernel) (by decide +kernel), by decide +kernel, ⟨by decide +kernel, by decide +kernel, by decide +kernel⟩, fun h => absurd h (by decide +kernel), fun _ => ⟨az_g 533 (by decide +kernel) (by decide +kernel), by decide +kernel⟩, fun _ => az_g 5 (by decide +kernel) (by decide +kernel), fun h => absurd h (by decide +kernel), by decide +kernel, by decide +kernel, fun _ => Or.inr trivial⟩
theorem az_m5 : az_mok 5 := ⟨az_g 526 (by decide +kernel) (by decide +kernel), az_g 50 (by decide +kernel) (by decide +kernel), by decide +kernel, ⟨by decide +kernel, by decide +kernel, by decide +kernel⟩, fun h => absurd h (by decide +kernel), fun _ => ⟨az_g 524 (by decide +kernel) (by decide +kernel), by decide +kernel⟩, fun _ => az_g 525 (by decide +kernel) (by decide +kernel), fun h => absurd h (by decide +kernel), by decide +kernel, by decide +kernel, fun _ => Or.inr trivial⟩
theorem az_m6 : az_mok 6 := ⟨az_g 530 (by decide +kernel) (by decide +kernel), az_g 50 (by decide +kernel) (by decide +kernel), by decide +kernel, ⟨by decide +kernel, by decide +kernel, by decide +kernel⟩, fun h => absurd h (by decide +kernel), fun _ => ⟨az_g 529 (by decide +kernel) (by decide +kernel), by decide +kernel⟩, fun _ => az_g 4 (by decide +kernel) (by decide +kernel), fun h => absurd h (by decide +kernel), by decide +kernel, by decide +kernel, fun _ => Or.inr trivial⟩
theorem az_m7 : az_mok 7 := ⟨az_g 551 (by decide +kernel) (by decide +kernel), az_g 50 (by decide +kernel) (by decide +kernel), by decide +kernel, ⟨by decide +kernel, by decide +kernel, by decide +kernel⟩, fun h => absurd h (by decide +kernel), fun _ => ⟨az_g 549 (by decide +kernel) (by decide +kernel), by decide +kernel⟩, fun _ => az_g 550 (by decide +kernel) (by decide +kernel), fun h => absurd h (by decide +kernel), by decide +kernel, by decide +kernel, fun _ => Or.inr trivial⟩
theorem az_m8 : az_mok 8 := ⟨az_g 568 (by decide +kernel) (by decide +kernel), az_g 50 (by decide +kernel) (by decide +kernel), by decide +kernel, ⟨by decide +kernel, by decide +kernel, by decide +kernel⟩, fun h => absurd h (by decide +kernel), fun _ => ⟨az_g 567 (by decide +kernel) (by decide +kernel), by decide +kernel⟩, fun _ => az_g 7 (by decide +kernel) (by decide +kernel), fun h => absurd h (by decide +kernel), by decide +kernel, by decide +kernel, fun _ => Or.inr trivial⟩
theorem az_m9 : az_mok 9 := ⟨az_g 572 (by decide +kernel) (by decide +kernel), az_g 50 (by decide +kernel) (by decide +kernel), by decide +kernel, ⟨by decide +kernel, by decide +kernel, by decide +kernel⟩, fun h => absurd h (by decide +kernel), fun _ => ⟨az_g 571 (by decide +kernel) (by decide +kernel), by decide +kernel⟩, fun _ => az_g 8 (by decide +kernel) (by decide +kernel), fun h => absurd h (by decide +kernel), by decide +kernel, by decide +kernel, fun _ => Or.inr trivial⟩
theorem az_m10 : az_mok 10 := ⟨az_g 576 (by decide +kernel) (by decide +kernel), az_g 50 (by decide +kernel) (by decide +kernel), by decide +kernel, ⟨by decide +kernel, by decide +kernel, by decide +kernel⟩, fun h => absurd h (by decide +kernel), fun _ => ⟨az_g 575 (by decide +kernel) (by decide +kernel), by decide +kernel⟩, fun _ => az_g 9 (by decide +kernel) (by decide +kernel), fun h => absurd h (by decide +kernel), by decide +kernel, by decide +kernel, fun _ => Or.inr trivial⟩
theorem az_m11 : az_mok 11 := ⟨az_g 558 (by decide +kernel) (by decide +kernel), az_g 50 (by decide +kernel) (by decide +kernel), by decide +kernel, ⟨by decide +kernel, by decide +kernel, by decide +kernel⟩, fun h => absurd h (by decide +kernel), fun _ => ⟨az_g 557 (by decide +kernel) (by decide +kernel), by decide +kernel⟩, fun _ => az_g 6 (by decide +kernel) (by decide +kernel), fun h => absurd h (by decide +kernel), by decide +kernel, by decide +kernel, fun _ => Or.inr trivial⟩
theorem az_m12 : az_mok 12 := ⟨az_g 143 (by decide +kernel) (by decide +kernel), az_g 48 (by decide +kernel) (by decide +kernel), by decide +kernel, ⟨by decide +kernel, by decide +kernel, by decide +kernel⟩, fun h => absurd h (by decide +kernel), fun _ => ⟨az_g 142 (by decide +kernel) (by decide +kernel), by decide +kernel⟩, fun h => absurd h (by decide +kernel), fun _ => ⟨by decide +kernel, by decide +kernel⟩, by decide +kernel, by decide +kernel, fun _ => Or.inr trivial⟩
theorem az_m13 : az_mok 13 := ⟨az_g 458 (by decide +kernel) (by decide +kernel), az_g 48 (by decide +kernel) (by decide +kernel), by decide +kernel, ⟨by decide +kernel, by decide +kernel, by decide +kernel⟩, fun h => absurd h (by decide +kernel), fun _ => ⟨az_g 456 (by decide +kernel) (by decide +kernel), by decide +kernel⟩, fun _ => az_g 457 (by decide +kernel) (by decide +kernel), fun h => absurd h (by decide +kernel), by decide +kernel, by decide +kernel, fun _ => Or.inr trivial⟩
theorem az_m14 : az_mok 14 := ⟨az_g 704 (by decide +kernel) (by decide +kernel), az_g 48 (by decide +kernel) (by decide +kernel), by decide +kernel, ⟨by decide +kernel, by decide +kernel, by decide +kernel⟩, fun h => absurd h (by decide +kernel), fun _ => ⟨az_g 702 (by decide +kernel) (by decide +kernel), by decide +kernel⟩, fun _ => az_g 703 (by decide +kernel) (by decide +kernel), fun h => absurd h (by decide +kernel), by decide +kernel, by decide +kernel, fun _ => Or.inr trivial⟩
theorem az_m15 : az_mok 15 := ⟨az_g 708 (by decide +kernel) (by decide +kernel), az_g 48 (by decide +kernel) (by decide +kernel), by decide +kernel, ⟨by decide +kernel, by decide +kernel, by decide +kernel⟩, fun h => absurd h (by decide +kernel), fun _ => ⟨az_g 706 (by decide +kernel) (by decide +kernel), by decide +kernel⟩, fun _ => az_g 707 (by decide +kernel) (by decide +kernel), fun h => absurd h (by decide +kernel), by decide +kernel, by decide +kernel, fun _ => Or.inr trivial⟩
theorem az_m16 : az_mok 16 := ⟨az_g 97 (by decide +kernel) (by decide +kernel), az_g 47 (by decide +kernel) (by decide +kernel), by decide +kernel, ⟨by decide +kernel, by decide +kernel, by decide +kernel⟩, fun h => absurd h (by decide +kernel), fun _ => ⟨az_g 96 (by decide +kernel) (by decide +kernel), by decide +kernel⟩, fun h => absurd h (by decide +kernel), fun _ => ⟨by decide +kernel, by decide +kernel⟩, by decide +kernel, by decide +kernel, fun _ => Or.inr trivial⟩
theorem az_m17 : az_mok 17 := ⟨az_g 826 (by decide +kernel) (by decide +kernel), az_g 47 (by decide +kernel) (by decide +kernel), by decide +kernel, ⟨by decide +kernel, by decide +kernel, by decide +kernel⟩, fun h => absurd h (by decide +kernel), fun _ => ⟨az_g 824 (by decide +kernel) (by decide +kernel), by decide +kernel⟩, fun _ => az_g 825 (by decide +kernel) (by decide +kernel), fun h => absurd h (by decide +kernel), by decide +kernel, by decide +kernel, fun _ => Or.inr trivial⟩
theorem az_m18 : az_mok 18 := ⟨az_g 74 (by decide +kernel) (by decide +kernel), az_g 46 (by decide +kernel) (by decide +kernel), by decide +kernel, ⟨by decide +kernel, by decide +kernel, by decide +kernel⟩, fun h => absurd h (by decide +kernel), fun _ => ⟨az_g 73 (by decide +kernel) (by decide +kernel), by decide +kernel⟩, fun h => absurd h (by decide +kernel), fun _ => ⟨by decide +kernel, by decide +kernel⟩, by decide +kernel, by decide +kernel, fun _ => Or.inr trivial⟩
theorem az_m19 : az_mok 19 := ⟨az_g 190 (by decide +kernel) (by decide +kernel), az_g 49 (by decide +kernel) (by decide +kernel), by decide +kernel, ⟨by decide +kernel, by decide +kernel, by decide +kernel⟩, fun h => absurd h (by decide +kernel), fun _ => ⟨az_g 189 (by decide +kernel) (by decide +kernel), by decide +kernel⟩, fun h => absurd h (by decide +kernel), fun _ => ⟨by decide +kernel, by decide +kernel⟩, by decide +kernel, by decide +kernel, fun _ => Or.inr trivial⟩
theorem az_m20 : az_mok 20 := ⟨az_g 435 (by decide +kernel) (by decide +kernel), az_g 49 (by decide +kernel) (by decide +kernel), by decide +kernel, ⟨by decide +kernel, by decide +kernel, by decide +kernel⟩, fun h => absurd h (by decide +kernel), fun _ => ⟨az_g 433 (by decide +kernel) (by decide +kernel), by decide +kernel⟩, fun _ => az_g 434 (by decide +kernel) (by decide +kernel), fun h => absurd h (by decide +kernel), by decide +kernel, by decide +kernel, fun _ => Or.inr trivial⟩
theorem az_m21 : az_mok 21 := ⟨az_g 466 (by decide +kernel) (by decide +kernel), az_g 49 (by decide +kernel) (by decide +kernel), by decide +kernel, ⟨by decide +kernel, by decide +kernel, by decide +kernel⟩, fun h => absurd h (by decide +kernel), fun _ => ⟨az_g 464 (by decide +kernel) (by decide +kernel), by decide +kernel⟩, fun _ => az_g 465 (by decide +kernel) (by decide +kernel), fun h => absurd h (by decide +kernel), by decide +kernel, by decide +kernel, fun _ => Or.inr trivial⟩
theorem az_m22 : az_mok 22 := ⟨az_g 485 (by decide +kernel) (by decide +kernel), az_g 49 (by decide +kernel) (by decide +kernel), by decide +kernel, ⟨by decide +kernel, by decide +kernel, by decide +kernel⟩, fun h => absurd h (by decide +kernel), fun _ => ⟨az_g 483 (by decide +kernel) (by decide +kernel), by decide +kernel⟩, fun _ => az_g 484 (by decide +kernel) (by decide +kernel), fun h => absurd h (by decide +kernel), by decide +kernel, by decide +kernel, fun _ => Or.inr trivial⟩
theorem az_m23 : az_mok 23 := ⟨az_g 688 (by decide +kernel) (by decide +kernel), az_g 49 (by decide +kernel) (by decide +kernel), by decide +kernel, ⟨by decide +kernel, by decide +kernel, by decide +kernel⟩, fun h => absurd h (by decide +kernel), fun _ => ⟨az_g 686 (by decide +kernel) (by decide +kernel), by decide +kernel⟩, fun _ => az_g 687 (by decide +kernel) (by decide +kernel), fun h => absurd h (by decide +kernel), by decide +kernel, by decide +kernel, fun _ => Or.inr trivial⟩
theorem az_m24 : az_mok 24 := ⟨az_g 642 (by decide +kernel) (by decide +kernel), az_g 49 (by decide +kernel) (by decide +kernel), by decide +kernel, ⟨by decide +kernel, by decide +kernel, by decide +kernel⟩, fun h => absurd h (by decide +kernel), fun _ => ⟨az_g 640 (by decide +kernel) (by decide +kernel), by decide +kernel⟩, fun _ => az_g 641 (by decide +kernel) (by decide +kernel), fun h => absurd h (by decide +kernel), by decide +kernel, by decide +kernel, fun _ => Or.inr trivial⟩
theorem az_m25 : az_mok 25 := ⟨az_g 611 (by decide +kernel) (by decide +kernel), az_g 49 (by decide +kernel) (by decide +kernel), by decide +kernel, ⟨by decide +kernel, by decide +kernel, by decide +kernel⟩, fun h => absurd h (by decide +kernel), fun _ => ⟨az_g 610 (by decide +kernel) (by decide +kernel), by decide +kernel⟩, fun _ => az_g 12 (by decide +kernel) (by decide +kernel), fun h => absurd h (by decide +kernel), by decide +kernel, by decide +kernel, fun _ => Or.inr trivial⟩
theorem az_m26 : az_mok 26 := ⟨az_g 607 (by decide +kernel) (by decide +kernel), az_g 49 (by decide +kernel) (by decide +kernel), by decide +kernel, ⟨by decide +kernel, by decide +kernel, by decide +kernel⟩, fun h => absurd h (by decide +kernel), fun _ => ⟨az_g 606 (by decide +kernel) (by decide +kernel), by decide +kernel⟩, fun _ => az_g 11 (by decide +kernel) (by decide +kernel), fun h => absurd h (by decide +kernel), by decide +kernel, by decide +kernel, fun _ => Or.inr trivial⟩
theorem az_m27 : az_mok 27 := ⟨az_g 603 (by decide +kernel) (by decide +kernel), az_g 49 (by decide +kernel) (by decide +kernel), by decide +kernel, ⟨by decide +kernel, by decide +kernel, by decide +kernel⟩, fun h => absurd h (by decide +kernel), fun _ => ⟨az_g 601 (by decide +kernel) (by decide +kernel), by decide +kernel⟩, fun _ => az_g 602 (by decide +kernel) (by decide +kernel), fun h => absurd h (by decide +kernel), by decide +kernel, by decide +kernel, fun _ => Or.inr trivial⟩
theorem az_m28 : az_mok 28 := ⟨az_g 598 (by decide +kernel) (by decide +kernel), az_g 49 (by decide +kernel) (by decide +kernel), by decide +kernel, ⟨by decide +kernel, by decide +kernel, by decide +kernel⟩, fun h => absurd h (by decide +kernel), fun _ => ⟨az_g 596 (by decide +kernel) (by decide +kernel), by decide +kernel⟩, fun _ => az_g 597 (by decide +kernel) (by decide +kernel), fun h => absurd h (by decide +kernel), by decide +kernel, by decide +kernel, fun _ => Or.inr trivial⟩
theorem az_m29 : az_mok 29 := ⟨az_g 634 (by decide +kernel) (by decide +kernel), az_g 49 (by decide +kernel) (by decide +kernel), by decide +kernel, ⟨by decide +kernel, by decide +kernel, by decide +kernel⟩, fun h => absurd h (by decide +kernel), fun _ => ⟨az_g 632 (by decide +kernel) (by decide +kernel), by decide +kernel⟩, fun _ => az_g 633 (by decide +kernel) (by decide +kernel), fun h => absurd h (by decide +kernel), by decide +kernel, by decide +kernel, fun _ => Or.inr trivial⟩
theorem az_m30 : az_mok 30 := ⟨az_g 638 (by decide +kernel) (by decide +kernel), az_g 49 (by decide +kernel) (by decide +kernel), by decide +kernel, ⟨by decide +kernel, by decide +kernel, by decide +kernel⟩, fun h => absurd h (by decide +kernel), fun _ => ⟨az_g 636 (by decide +kernel) (by decide +kernel), by decide +kernel⟩, fun _ => az_g 637 (by decide +kernel) (by decide +kernel), fun h => absurd h (by decide +kernel), by decide +kernel, by decide +kernel, fun _ => Or.inr trivial⟩
theorem az_m31 : az_mok 31 := ⟨az_g 650 (by decide +kernel) (by decide +kernel), az_g 49 (by decide +kernel) (by decide +kernel), by decide +kernel, ⟨by decide +kernel, by decide +kernel, by decide +kernel⟩, fun h => absurd h (by decide +kernel), fun _ => ⟨az_g 648 (by decide +kernel) (by decide +kernel), by decide +kernel⟩, fun _ => az_g 649 (by decide +kernel) (by decide +kernel), fun h => absurd h (by decide +kernel), by decide +kernel, by decide +kernel, fun _ => Or.inr trivial⟩
theorem az_m32 : az_mok 32 := ⟨az_g 837 (by decide +kernel) (by decide +kernel), az_g 49 (by decide +kernel) (by decide +kernel), by decide +kernel, ⟨by decide +kernel, by decide +kernel, by decide +kernel⟩, fun h => absurd h (by decide +kernel), fun _ => ⟨az_g 835 (by decide +kernel) (by decide +kernel), by decide +kernel⟩, fun _ => az_g 836 (by decide +kernel) (by decide +kernel), fun h => absurd h (by decide +kernel), by decide +kernel, by decide +kernel, fun _ => Or.inr trivial⟩
theorem az_m33 : az_mok 33 := ⟨az_g 264 (by decide +kernel) (by decide +kernel), az_g 51 (by decide +kernel) (by decide +kernel), by decide +kernel, ⟨by decide +kernel, by decide +kernel, by decide +kernel⟩, fun h => absurd h (by decide +kernel), fun _ => ⟨az_g 263 (by decide +kernel) (by decide +kernel), by decide +kernel⟩, fun h => absurd h (by decide +kernel), fun _ => ⟨by decide +kernel, by decide +kernel⟩, by decide +kernel, by decide +kernel, fun _ => Or.inr trivial⟩
theorem az_m34 : az_mok 34 := ⟨az_g 616 (by decide +kernel) (by decide +kernel), az_g 51 (by decide +kernel) (by decide +kernel), by decide +kernel, ⟨by decide +kernel, by decide +kernel, by decide +kernel⟩, fun h => absurd h (by decide +kernel), fun _ => ⟨az_g 614 (by decide +kernel) (by decide +kernel), by decide +kernel⟩, fun _ => az_g 615 (by decide +kernel) (by decide +kernel), fun h => absurd h (by decide +kernel), by decide +kernel, by decide +kernel, fun _ => Or.inr trivial⟩
theorem az_m35 : az_mok 35 := ⟨az_g 646 (by decide +kernel) (by decide +kernel), az_g 51 (by decide +kernel) (by decide +kernel), by decide +kernel, ⟨by decide +kernel, by decide +kernel, by decide +kernel⟩, fun h => absurd h (by decide +kernel), fun _ => ⟨az_g 644 (by decide +kernel) (by decide +kernel), by decide +kernel⟩, fun _ => az_g 645 (by decide +kernel) (by decide +kernel), fun h => absurd h (by decide +kernel), by decide +kernel, by decide +kernel, fun _ => Or.inr trivial⟩
theorem az_m36 : az_mok 36 := ⟨az_g 692 (by decide +kernel) (by decide +kernel), az_g 51 (by decide +kernel) (by decide +kernel), by decide +kernel, ⟨by decide +kernel, by decide +kernel, by decide +kernel⟩, fun h => absurd h (by decide +kernel), fun _ => ⟨az_g 690 (by decide +kernel) (by decide +kernel), by decide +kernel⟩, fun _ => az_g 691 (by decide +kernel) (by decide +kernel), fun h => absurd h (by decide +kernel), by decide +kernel, by decide +kernel, fun _ => Or.inr trivial⟩
theorem az_m37 : az_mok 37 := ⟨az_g 677 (by decide +kernel) (by decide +kernel), az_g 51 (by decide +kernel) (by decide +kernel), by decide +kernel, ⟨by decide +kernel, by decide +kernel, by decide +kernel⟩, fun h => absurd h (by decide +kernel), fun _ => ⟨az_g 675 (by decide +kernel) (by decide +kernel), by decide +kernel⟩, fun _ => az_g 676 (by decide +kernel) (by decide +kernel), fun h => absurd h (by decide +kernel), by decide +kernel, by decide +kernel, fun _ => Or.inr trivial⟩
theorem az_m38 : az_mok 38 := ⟨az_g 669 (by decide +kernel) (by decide +kernel), az_g 51 (by decide +kernel) (by decide +kernel), by decide +kernel, ⟨by decide +kernel, by decide +kernel, by decide +kernel⟩, fun h => absurd h (by decide +kernel), fun _ => ⟨az_g 667 (by decide +kernel) (by decide +kernel), by decide +kernel⟩, fun _ => az_g 668 (by decide +kernel) (by decide +kernel), fun h => absurd h (by decide +kernel), by decide +kernel, by decide +kernel, fun _ => Or.inr trivial⟩
theorem az_m39 : az_mok 39 := ⟨az_g 673 (by decide +kernel) (by decide +kernel), az_g 51 (by decide +kernel) (by decide +kernel), by decide +kernel, ⟨by decide +kernel, by decide +kernel, by decide +kernel⟩, fun h => absurd h (by decide +kernel), fun _ => ⟨az_g 672 (by decide +kernel) (by decide +kernel), by decide +kernel⟩, fun _ => az_g 14 (by decide +kernel) (by decide +kernel), fun h => absurd h (by decide +kernel), by decide +kernel, by decide +kernel, fun _ => Or.inr trivial⟩
theorem az_m40 : az_mok 40 := ⟨az_g 66 (by decide +kernel) (by decide +kernel), az_g 45 (by decide +kernel) (by decide +kernel), by decide +kernel, ⟨by decide +kernel, by decide +kernel, by decide +kernel⟩, fun h => absurd h (by decide +kernel), fun _ => ⟨az_g 65 (by decide +kernel) (by decide +kernel), by decide +kernel⟩, fun h => absurd h (by decide +kernel), fun _ => ⟨by decide +kernel, by decide +kernel⟩, by decide +kernel, by decide +kernel, fun _ => Or.inr trivial⟩
theorem az_m41 : az_mok 41 := ⟨az_g 326 (by decide +kernel) (by decide +kernel), az_g 45 (by decide +kernel) (by decide +kernel), by decide +kernel, ⟨by decide +kernel, by decide +kernel, by decide +kernel⟩, fun h => absurd h (by decide +kernel), fun _ => ⟨az_g 324 (by decide +kernel) (by decide +kernel), by decide +kernel⟩, fun _ => az_g 325 (by decide +kernel) (by decide +kernel), fun h => absurd h (by decide +kernel), by decide +kernel, by decide +kernel, fun _ => Or.inr trivial⟩
theorem az_m42 : az_mok 42 := ⟨az_g 423 (by decide +kernel) (by decide +kernel), az_g 45 (by decide +kernel) (by decide +kernel), by decide +kernel, ⟨by decide +kernel, by decide +kernel, by decide +kernel⟩, fun h => absurd h (by decide +kernel), fun _ => ⟨az_g 421 (by decide +kernel) (by decide +kernel), by decide +kernel⟩, fun _ => az_g 422 (by decide +kernel) (by decide +kernel), fun h => absurd h (by decide +kernel), by decide +kernel, by decide +kernel, fun _ => Or.inr trivial⟩
theorem az_m43 : az_mok 43 := ⟨az_g 431 (by decide +kernel) (by decide +kernel), az_g 45 (by decide +kernel) (by decide +kernel), by decide +kernel, ⟨by decide +kernel, by decide +kernel, by decide +kernel⟩, fun h => absurd h (by decide +kernel), fun _ => ⟨az_g 429 (by decide +kernel) (by decide +kernel), by decide +kernel⟩, fun _ => az_g 430 (by decide +kernel) (by decide +kernel), fun h => absurd h (by decide +kernel), by decide +kernel, by decide +kernel, fun _ => Or.inr trivial⟩
theorem az_m44 : az_mok 44 := ⟨az_g 473 (by decide +kernel) (by decide +kernel), az_g 45 (by decide +kernel) (by decide +kernel), by decide +kernel, ⟨by decide +kernel, by decide +kernel, by decide +kernel⟩, fun h => absurd h (by decide +kernel), fun _ => ⟨az_g 471 (by decide +kernel) (by decide +kernel), by decide +kernel⟩, fun _ => az_g 472 (by decide +kernel) (by decide +kernel), fun h => absurd h (by decide +kernel), by decide +kernel, by decide +kernel, fun _ => Or.inr trivial⟩
theorem az_m45 : az_mok 45 := ⟨az_g 492 (by decide +kernel) (by decide +kernel), az_g 45 (by decide +kernel) (by decide +kernel), by decide +kernel, ⟨by decide +kernel, by decide +kernel, by decide +kernel⟩, fun h => absurd h (by decide +kernel), fun _ => ⟨az_g 490 (by decide +kernel) (by decide +kernel), by decide +kernel⟩, fun _ => az_g 491 (by decide +kernel) (by decide +kernel), fun h => absurd h (by decide +kernel), by decide +kernel, by decide +kernel, fun _ => Or.inr trivial⟩
theorem az_m46 : az_mok 46 := ⟨az_g 503 (by decide +kernel) (by decide +kernel), az_g 45 (by decide +kernel) (by decide +kernel), by decide +kernel, ⟨by decide +kernel, by decide +kernel, by decide +kernel⟩, fun h => absurd h (by decide +kernel), fun _ => ⟨az_g 501 (by decide +kernel) (by decide +kernel), by decide +kernel⟩, fun _ => az_g 502 (by decide +kernel) (by decide +kernel), fun h => absurd h (by decide +kernel), by decide +kernel, by decide +kernel, fun _ => Or.inr trivial⟩
theorem az_m47 : az_mok 47 := ⟨az_g 522 (by decide +kernel) (by decide +kernel), az_g 45 (by decide +kernel) (by decide +kernel), by decide +kernel, ⟨by decide +kernel, by decide +kernel, by decide +kernel⟩, fun h => absurd h (by decide +kernel), fun _ => ⟨az_g 520 (by decide +kernel) (by decide +kernel), by decide +kernel⟩, fun _ => az_g 521 (by decide +kernel) (by decide +kernel), fun h => absurd h (by decide +kernel), by decide +kernel, by decide +kernel, fun _ => Or.inr trivial⟩
theorem az_m48 : az_mok 48 := ⟨az_g 547 (by decide +kernel) (by decide +kernel), az_g 45 (by decide +kernel) (by decide +kernel), by decide +kernel, ⟨by decide +kernel, by decide +kernel, by decide +kernel⟩, fun h => absurd h (by decide +kernel), fun _ => ⟨az_g 545 (by decide +kernel) (by decide +kernel), by decide +kernel⟩, fun _ => az_g 546 (by decide +kernel) (by decide +kernel), fun h => absurd h (by decide +kernel), by decide +kernel, by decide +kernel, fun _ => Or.inr trivial⟩
theorem az_m49 : az_mok 49 := ⟨az_g 583 (by decide +kernel) (by decide +kernel), az_g 45 (by decide +kernel) (by decide +kernel), by decide +kernel, ⟨by decide +kernel, by decide +kernel, by decide +kernel⟩, fun h => absurd h (by decide +kernel), fun _ => ⟨az_g 581 (by decide +kernel) (by decide +kernel), by decide +kernel⟩, fun _ => az_g 582 (by decide +kernel) (by decide +kernel), fun h => absurd h (by decide +kernel), by decide +kernel, by decide +kernel, fun _ => Or.inr trivial⟩
theorem az_m50 : az_mok 50 := ⟨az_g 590 (by decide +kernel) (by decide +kernel), az_g 45 (by decide +kernel) (by decide +kernel), by decide +kernel, ⟨by decide +kernel, by decide +kernel, by decide +kernel⟩, fun h => absurd h (by decide +kernel), fun _ => ⟨az_g 588 (by decide +kernel) (by decide +kernel), by decide +kernel⟩, fun _ => az_g 589 (by decide +kernel) (by decide +kernel), fun h => absurd h (by decide +kernel), by decide +kernel, by decide +kernel, fun _ => Or.inr trivial⟩
theorem az_m51 : az_mok 51 := ⟨az_g 623 (by decide +kernel) (by decide +kernel), az_g 45 (by decide +kernel) (by decide +kernel), by decide +kernel, ⟨by decide +kernel, by decide +kernel, by decide +kernel⟩, fun h => absurd h (by decide +kernel), fun _ => ⟨az_g 621 (by decide +kernel) (by decide +kernel), by decide +kernel⟩, fun _ => az_g 622 (by decide +kernel) (by decide +kernel), fun h => absurd h (by decide +kernel), by decide +kernel, by decide +kernel, fun _ => Or.inr trivial⟩
theorem az_m52 : az_mok 52 := ⟨az_g 630 (by decide +kernel) (by decide +kernel), az_g 45 (by decide +kernel) (by decide +kernel), by decide +kernel, ⟨by decide +kernel, by decide +kernel, by decide +kernel⟩, fun h => absurd h (by decide +kernel), fun _ => ⟨az_g 628 (by decide +kernel) (by decide +kernel), by decide +kernel⟩, fun _ => az_g 629 (by decide +kernel) (by decide +kernel), fun h => absurd h (by decide +kernel), by decide +kernel, by decide +kernel, fun _ => Or.inr trivial⟩
theorem az_m53 : az_mok 53 := ⟨az_g 657 (by decide +kernel) (by decide +kernel), az_g 45 (by decide +kernel) (by decide +kernel), by decide +kernel, ⟨by decide +kernel, by decide +kernel, by decide +kernel⟩, fun h => absurd h (by decide +kernel), fun _ => ⟨az_g 655 (by decide +kernel) (by decide +kernel), by decide +kernel⟩, fun _ => az_g 656 (by decide +kernel) (by decide +kernel), fun h => absurd h (by decide +kernel), by decide +kernel, by decide +kernel, fun _ => Or.inr trivial⟩
theorem az_m54 : az_mok 54 := ⟨az_g 684 (by decide +kernel) (by decide +kernel), az_g 45 (by decide +kernel) (by decide +kernel), by decide +kernel, ⟨by decide +kernel, by decide +kernel, by decide +kernel⟩, fun h => absurd h (by decide +kernel), fun _ => ⟨az_g 682 (by decide +kernel) (by decide +kernel), by decide +kernel⟩, fun _ => az_g 683 (by decide +kernel) (by decide +kernel), fun h => absurd h (by decide +kernel), by decide +kernel, by decide +kernel, fun _ => Or.inr trivial⟩
theorem az_m55 : az_mok 55 := ⟨az_g 699 (by decide +kernel) (by decide +kernel), az_g 45 (by decide +kernel) (by decide +kernel), by decide +kernel, ⟨by decide +kernel, by decide +kernel, by decide +kernel⟩, fun h => absurd h (by decide +kernel), fun _ => ⟨az_g 697 (by decide +kernel) (by decide +kernel), by decide +kernel⟩, fun _ => az_g 698 (by decide +kernel) (by decide +kernel), fun h => absurd h (by decide +kernel), by decide +kernel, by decide +kernel, fun _ => Or.inr trivial⟩
theorem az_m56 : az_mok 56 := ⟨az_g 715 (by decide +kernel) (by decide +kernel), az_g 45 (by decide +kernel) (by decide +kernel), by decide +kernel, ⟨by decide +kernel, by decide +kernel, by decide +kernel⟩, fun h => absurd h (by decide +kernel), fun _ => ⟨az_g 713 (by decide +kernel) (by decide +kernel), by decide +kernel⟩, fun _ => az_g 714 (by decide +kernel) (by decide +kernel), fun h => absurd h (by decide +kernel), by decide +kernel, by decide +kernel, fun _ => Or.inr trivial⟩
theorem az_m57 : az_mok 57 := ⟨az_g 722 (by decide +kernel) (by decide +kernel), az_g 45 (by decide +kernel) (by decide +kernel), by decide +kernel, ⟨by decide +kernel, by decide +kernel, by decide +kernel⟩, fun h => absurd h (by decide +kernel), fun _ => ⟨az_g 720 (by decide +kernel) (by decide +kernel), by decide +kernel⟩, fun _ => az_g 721 (by decide +kernel) (by decide +kernel), fun h => absurd h (by decide +kernel), by decide +kernel, by decide +kernel, fun _ => Or.inr trivial⟩
theorem az_m58 : az_mok 58 := ⟨az_g 743 (by decide +kernel) (by decide +kernel), az_g 45 (by decide +kernel) (by decide +kernel), by decide +kernel, ⟨by decide +kernel, by decide +kernel, by decide +kernel⟩, fun h => absurd h (by decide +kernel), fun _ => ⟨az_g 741 (by decide +kernel) (by decide +kernel), by decide +kernel⟩, fun _ => az_g 742 (by decide +kernel) (by decide +kernel), fun h => absurd h (by decide +kernel), by decide +kernel, by decide +kernel, fun _ => Or.inr trivial⟩
theorem az_m59 : az_mok 59 := ⟨az_g 317 (by decide +kernel) (by decide +kernel), az_g 45 (by decide +kernel) (by decide +kernel), by decide +kernel, ⟨by decide +kernel, by decide +kernel, by decide +kernel⟩, fun h => absurd h (by decide +kernel), fun _ => ⟨az_g 315 (by decide +kernel) (by decide +kernel), by decide +kernel⟩, fun _ => az_g 316 (by decide +kernel) (by decide +kernel), fun h => absurd h (by decide +kernel), by decide +kernel, by decide +kernel, fun _ => Or.inr trivial⟩
theorem az_m60 : az_mok 60 := ⟨az_g 762 (by decide +kernel) (by decide +kernel), az_g 45 (by decide +kernel) (by decide +kernel), by decide +kernel, ⟨by decide +kernel, by decide +kernel, by decide +kernel⟩, fun h => absurd h (by decide +kernel), fun _ => ⟨az_g 760 (by decide +kernel) (by decide +kernel), by decide +kernel⟩, fun _ => az_g 761 (by decide +kernel) (by decide +kernel), fun h => absurd h (by decide +kernel), by decide +kernel, by decide +kernel, fun _ => Or.inr trivial⟩
theorem az_m61 : az_mok 61 := ⟨az_g 769 (by decide +kernel) (by decide +kernel), az_g 45 (by decide +kernel) (by decide +kernel), by decide +kernel, ⟨by decide +kernel, by decide +kernel, by decide +kernel⟩, fun h => absurd h (by decide +kernel), fun _ => ⟨az_g 767 (by decide +kernel) (by decide +kernel), by decide +kernel⟩, fun _ => az_g 768 (by decide +kernel) (by decide +kernel), fun h => absurd h (by decide +kernel), by decide +kernel, by decide +kernel, fun _ => Or.inr trivial⟩
theorem az_m62 : az_mok 62 := ⟨az_g 776 (by decide +kernel) (by decide +kernel), az_g 45 (by decide +kernel) (by decide +kernel), by decide +kernel, ⟨by decide +kernel, by decide +kernel, by decide +kernel⟩, fun h => absurd h (by decide +kernel), fun _ => ⟨az_g 774 (by decide +kernel) (by decide +kernel), by decide +kernel⟩, fun _ => az_g 775 (by decide +kernel) (by decide +kernel), fun h => absurd h (by decide +kernel), by decide +kernel, by decide +kernel, fun _ => Or.inr trivial⟩
theorem az_m63 : az_mok 63 := ⟨az_g 785 (by decide +kernel) (by decide +kernel), az_g 45 (by decide +kernel) (by decide +kernel), by decide +kernel, ⟨by decide +kernel, by decide +kernel, by decide +kernel⟩, fun h => absurd h (by decide +kernel), fun _ => ⟨az_g 783 (by decide +kernel) (by decide +kernel), by decide +kernel⟩, fun _ => az_g 784 (by decide +kernel) (by decide +kernel), fun h => absurd h (by decide +kernel), by decide +kernel, by decide +kernel, fun _ => Or.inr trivial⟩
theorem az_m64 : az_mok 64 := ⟨az_g 793 (by decide +kernel) (by decide +kernel), az_g 45 (by decide +kernel) (by decide +kernel), by decide +kernel, ⟨by decide +kernel, by decide +kernel, by decide +kernel⟩, fun h => absurd h (by decide +kernel), fun _ => ⟨az_g 791 (by decide +kernel) (by decide +kernel), by decide +kernel⟩, fun _ => az_g 792 (by decide +kernel) (by decide +kernel), fun h => absurd h (by decide +kernel), by decide +kernel, by decide +kernel, fun _ => Or.inr trivial⟩
theorem az_m65 : az_mok 65 := ⟨az_g 800 (by decide +kernel) (by decide +kernel), az_g 45 (by decide +kernel) (by decide +kernel), by decide +kernel, ⟨by decide +kernel, by decide +kernel, by decide +kernel⟩, fun h => absurd h (by decide +kernel), fun _ => ⟨az_g 798 (by decide +kernel) (by decide +kernel), by decide +kernel⟩, fun _ => az_g 799 (by decide +kernel) (by decide +kernel), fun h => absurd h (by decide +kernel), by decide +kernel, by decide +kernel, fun _ => Or.inr trivial⟩
theorem az_m66 : az_mok 66 := ⟨az_g 815 (by decide +kernel) (by decide +kernel), az_g 45 (by decide +kernel) (by decide +kernel), by decide +kernel, ⟨by decide +kernel, by decide +kernel, by decide +kernel⟩, fun h => absurd h (by decide +kernel), fun _ => ⟨az_g 813 (by decide +kernel) (by decide +kernel), by decide +kernel⟩, fun _ => az_g 814 (by decide +kernel) (by decide +kernel), fun h => absurd h (by decide +kernel), by decide +kernel, by decide +kernel, fun _ => Or.inr trivial⟩
theorem az_m67 : az_mok 67 := ⟨az_g 822 (by decide +kernel) (by decide +kernel), az_g 45 (by decide +kernel) (by decide +kernel), by decide +kernel, ⟨by decide +kernel, by decide +kernel, by decide +kernel⟩, fun h => absurd h (by decide +kernel), fun _ => ⟨az_g 820 (by decide +kernel) (by decide +kernel), by decide +kernel⟩, fun _ => az_g 821 (by decide +kernel) (by decide +kernel), fun h => absurd h (by decide +kernel), by decide +kernel, by decide +kernel, fun _ => Or.inr trivial⟩
theorem az_m68 : az_mok 68 := ⟨az_g 833 (by decide +kernel) (by decide +kernel), az_g 45 (by decide +kernel) (by decide +kernel), by decide +kernel, ⟨by decide +kernel, by decide +kernel, by decide +kernel⟩, fun h => absurd h (by decide +kernel), fun _ => ⟨az_g 831 (by decide +kernel) (by decide +kernel), by decide +kernel⟩, fun _ => az_g 832 (by decide +kernel) (by decide +kernel), fun h => absurd h (by decide +kernel), by decide +kernel, by decide +kernel, fun _ => Or.inr trivial⟩
theorem az_m69 : az_mok 69 := ⟨az_g 329 (by decide +kernel) (by decide +kernel), az_g 45 (by decide +kernel) (by decide +kernel), by decide +kernel, ⟨by decide +kernel, by decide +kernel, by decide +kernel⟩, fun _ => ⟨az_g 328 (by decide +kernel) (by decide +kernel), by decide +kernel⟩, fun h => absurd h (by decide +kernel), fun h => absurd h (by decide +kernel), fun h => absurd h (by decide +kernel), by decide +kernel, by decide +kernel, fun _ => Or.inr trivial⟩
theorem az_m70 : az_mok 70 := ⟨az_g 400 (by decide +kernel) (by decide +kernel), az_g 45 (by decide +kernel) (by decide +kernel), by decide +kernel, ⟨by decide +kernel, by decide +kernel, by decide +kernel⟩, fun _ => ⟨az_g 399 (by decide +kernel) (by decide +kernel), by decide +kernel⟩, fun h => absurd h (by decide +kernel), fun h => absurd h (by decide +kernel), fun h => absurd h (by decide +kernel), by decide +kernel, by decide +kernel, fun _ => Or.inr trivial⟩
theorem az_m71 : az_mok 71 := ⟨az_g 660 (by decide +kernel) (by decide +kernel), az_g 45 (by decide +kernel) (by decide +kernel), by decide +kernel, ⟨by decide +kernel, by decide +kernel, by decide +kernel⟩, fun _ => ⟨az_g 659 (by decide +kernel) (by decide +kernel), by decide +kernel⟩, fun h => absurd h (by decide +kernel), fun h => absurd h (by decide +kernel), fun h => absurd h (by decide +kernel), by decide +kernel, by decide +kernel, fun _ => Or.inr trivial⟩
theorem az_m72 : az_mok 72 := ⟨az_g 506 (by decide +kernel) (by decide +kernel), az_g 45 (by decide +kernel) (by decide +kernel), by decide +kernel, ⟨by decide +kernel, by decide +kernel, by decide +kernel⟩, fun _ => ⟨az_g 505 (by decide +kernel) (by decide +kernel), by decide +kernel⟩, fun h => absurd h (by decide +kernel), fun h => absurd h (by decide +kernel), fun h => absurd h (by decide +kernel), by decide +kernel, by decide +kernel, fun _ => Or.inr trivial⟩
theorem az_m73 : az_mok 73 := ⟨az_g 438 (by decide +kernel) (by decide +kernel), az_g 45 (by decide +kernel) (by decide +kernel), by decide +kernel, ⟨by decide +kernel, by decide +kernel, by decide +kernel⟩, fun _ => ⟨az_g 437 (by decide +kernel) (by decide +kernel), by decide +kernel⟩, fun h => absurd h (by decide +kernel), fun h => absurd h (by decide +kernel), fun h => absurd h (by decide +kernel), by decide +kernel, by decide +kernel, fun _ => Or.inr trivial⟩
theorem az_m74 : az_mok 74 := ⟨az_g 594 (by decide +kernel) (by decide +kernel), az_g 45 (by decide +kernel) (by decide +kernel), by decide +kernel, ⟨by decide +kernel, by decide +kernel, by decide +kernel⟩, fun h => absurd h (by decide +kernel), fun _ => ⟨az_g 593 (by decide +kernel) (by decide +kernel), by decide +kernel⟩, fun _ => az_g 10 (by decide +kernel) (by decide +kernel), fun h => absurd h (by decide +kernel), by decide +kernel, by decide +kernel, fun _ => Or.inr trivial⟩
theorem az_m75 : az_mok 75 := ⟨az_g 477 (by decide +kernel) (by decide +kernel), az_g 45 (by decide +kernel) (by decide +kernel), by decide +kernel, ⟨by decide +kernel, by decide +kernel, by decide +kernel⟩, fun h => absurd h (by decide +kernel), fun _ => ⟨az_g 476 (by decide +kernel) (by decide +kernel), by decide +kernel⟩, fun _ => az_g 2 (by decide +kernel) (by decide +kernel), fun h => absurd h (by decide +kernel), by decide +kernel, by decide +kernel, fun _ => Or.inr trivial⟩
theorem az_m76 : az_mok 76 := ⟨az_g 755 (by decide +kernel) (by decide +kernel), az_g 45 (by decide +kernel) (by decide +kernel), by decide +kernel, ⟨by decide +kernel, by decide +kernel, by decide +kernel⟩, fun h => absurd h (by decide +kernel), fun _ => ⟨az_g 754 (by decide +kernel) (by decide +kernel), by decide +kernel⟩, fun _ => az_g 20 (by decide +kernel) (by decide +kernel), fun h => absurd h (by decide +kernel), by decide +kernel, by decide +kernel, fun _ => Or.inr trivial⟩
theorem az_m77 : az_mok 77 := ⟨az_g 462 (by decide +kernel) (by decide +kernel), az_g 45 (by decide +kernel) (by decide +kernel), by decide +kernel, ⟨by decide +kernel, by decide +kernel, by decide +kernel⟩, fun h => absurd h (by decide +kernel), fun _ => ⟨az_g 461 (by decide +kernel) (by decide +kernel), by decide +kernel⟩, fun _ => az_g 1 (by decide +kernel) (by decide +kernel), fun h => absurd h (by decide +kernel), by decide +kernel, by decide +kernel, fun _ => Or.inr trivial⟩
theorem az_m78 : az_mok 78 := ⟨az_g 481 (by decide +kernel) (by decide +kernel), az_g 45 (by decide +kernel) (by decide +kernel), by decide +kernel, ⟨by decide +kernel, by decide +kernel, by decide +kernel⟩, fun h => absurd h (by decide +kernel), fun _ => ⟨az_g 480 (by decide +kernel) (by decide +kernel), by decide +kernel⟩, fun _ => az_g 3 (by decide +kernel) (by decide +kernel), fun h => absurd h (by decide +kernel), by decide +kernel, by decide +kernel, fun _ => Or.inr trivial⟩
theorem az_m79 : az_mok 79 := ⟨az_g 665 (by decide +kernel) (by decide +kernel), az_g 45 (by decide +kernel) (by decide +kernel), by decide +kernel, ⟨by decide +kernel, by decide +kernel, by decide +kernel⟩, fun h => absurd h (by decide +kernel), fun _ => ⟨az_g 664 (by decide +kernel) (by decide +kernel), by decide +kernel⟩, fun _ => az_g 13 (by decide +kernel) (by decide +kernel), fun h => absurd h (by decide +kernel), by decide +kernel, by decide +kernel, fun _ => Or.inr trivial⟩
theorem az_m80 : az_mok 80 := ⟨az_g 727 (by decide +kernel) (by decide +kernel), az_g 45 (by decide +kernel) (by decide +kernel), by decide +kernel, ⟨by decide +kernel, by decide +kernel, by decide +kernel⟩, fun h => absurd h (by decide +kernel), fun _ => ⟨az_g 726 (by decide +kernel) (by decide +kernel), by decide +kernel⟩, fun _ => az_g 15 (by decide +kernel) (by decide +kernel), fun h => absurd h (by decide +kernel), by decide +kernel, by decide +kernel, fun _ => Or.inr trivial⟩
theorem az_m81 : az_mok 81 := ⟨az_g 731 (by decide +kernel) (by decide +kernel), az_g 45 (by decide +kernel) (by decide +kernel), by decide +kernel, ⟨by decide +kernel, by decide +kernel, by decide +kernel⟩, fun h => absurd h (by decide +kernel), fun _ => ⟨az_g 730 (by decide +kernel) (by decide +kernel), by decide +kernel⟩, fun _ => az_g 16 (by decide +kernel) (by decide +kernel), fun h => absurd h (by decide +kernel), by decide +kernel, by decide +kernel, fun _ => Or.inr trivial⟩
theorem az_m82 : az_mok 82 := ⟨az_g 735 (by decide +kernel) (by decide +kernel), az_g 45 (by decide +kernel) (by decide +kernel), by decide +kernel, ⟨by decide +kernel, by decide +kernel, by decide +kernel⟩, fun h => absurd h (by decide +kernel), fun _ => ⟨az_g 734 (by decide +kernel) (by decide +kernel), by decide +kernel⟩, fun _ => az_g 17 (by decide +kernel) (by decide +kernel), fun h => absurd h (by decide +kernel), by decide +kernel, by decide +kernel, fun _ => Or.inr trivial⟩
theorem az_m83 : az_mok 83 := ⟨az_g 747 (by decide +kernel) (by decide +kernel), az_g 45 (by decide +kernel) (by decide +kernel), by decide +kernel, ⟨by decide +kernel, by decide +kernel, by decide +kernel⟩, fun h => absurd h (by decide +kernel), fun _ => ⟨az_g 746 (by decide +kernel) (by decide +kernel), by decide +kernel⟩, fun _ => az_g 18 (by decide +kernel) (by decide +kernel), fun h => absurd h (by decide +kernel), by decide +kernel, by decide +kernel, fun _ => Or.inr trivial⟩
theorem az_m84 : az_mok 84 := ⟨az_g 751 (by decide +kernel) (by decide +kernel), az_g 45 (by decide +kernel) (by decide +kernel), by decide +kernel, ⟨by decide +kernel, by decide +kernel, by decide +kernel⟩, fun h => absurd h (by decide +kernel), fun _ => ⟨az_g 750 (by decide +kernel) (by decide +kernel), by decide +kernel⟩, fun _ => az_g 19 (by decide +kernel) (by decide +kernel), fun h => absurd h (by decide +kernel), by decide +kernel, by decide +kernel, fun _ => Or.inr trivial⟩
theorem az_m85 : az_mok 85 := ⟨az_g 804 (by decide +kernel) (by decide +kernel), az_g 45 (by decide +kernel) (by decide +kernel), by decide +kernel, ⟨by decide +kernel, by decide +kernel, by decide +kernel⟩, fun h => absurd h (by decide +kernel), fun _ => ⟨az_g 803 (by decide +kernel) (by decide +kernel), by decide +kernel⟩, fun _ => az_g 21 (by decide +kernel) (by decide +kernel), fun h => absurd h (by decide +kernel), by decide +kernel, by decide +kernel, fun _ => Or.inr trivial⟩
theorem az_m86 : az_mok 86 := ⟨az_g 808 (by decide +kernel) (by decide +kernel), az_g 45 (by decide +kernel) (by decide +kernel), by decide +kernel, ⟨by decide +kernel, by decide +kernel, by decide +kernel⟩, fun h => absurd h (by decide +kernel), fun _ => ⟨az_g 807 (by decide +kernel) (by decide +kernel), by decide +kernel⟩, fun _ => az_g 22 (by decide +kernel) (by decide +kernel), fun h => absurd h (by decide +kernel), by decide +kernel, by decide +kernel, fun _ => Or.inr trivial⟩
theorem az_m87 : az_mok 87 := ⟨az_g 842 (by decide +kernel) (by decide +kernel), az_g 52 (by decide +kernel) (by decide +kernel), by decide +kernel, ⟨by decide +kernel, by decide +kernel, by decide +kernel⟩, fun h => absurd h (by decide +kernel), fun _ => ⟨az_g 841 (by decide +kernel) (by decide +kernel), by decide +kernel⟩, fun h => absurd h (by decide +kernel), fun _ => ⟨by decide +kernel, by decide +kernel⟩, by decide +kernel, by decide +kernel, fun _ => Or.inr trivial⟩
theorem az_m88 : az_mok 88 := ⟨az_g 987 (by decide +kernel) (by decide +kernel), az_g 52 (by decide +kernel) (by decide +kernel), by decide +kernel, ⟨by decide +kernel, by decide +kernel, by decide +kernel⟩, fun h => absurd h (by decide +kernel), fun _ => ⟨az_g 985 (by decide +kernel) (by decide +kernel), by decide +kernel⟩, fun _ => az_g 986 (by decide +kernel) (by decide +kernel), fun h => absurd h (by decide +kernel), by decide +kernel, by decide +kernel, fun _ => Or.inr trivial⟩
theorem az_m89 : az_mok 89 := ⟨az_g 1001 (by decide +kernel) (by decide +kernel), az_g 52 (by decide +kernel) (by decide +kernel), by decide +kernel, ⟨by decide +kernel, by decide +kernel, by decide +kernel⟩, fun h => absurd h (by decide +kernel), fun _ => ⟨az_g 1000 (by decide +kernel) (by decide +kernel), by decide +kernel⟩, fun _ => az_g 23 (by decide +kernel) (by decide +kernel), fun h => absurd h (by decide +kernel), by decide +kernel, by decide +kernel, fun _ => Or.inr trivial⟩
theorem az_m90 : az_mok 90 := ⟨az_g 994 (by decide +kernel) (by decide +kernel), az_g 52 (by decide +kernel) (by decide +kernel), by decide +kernel, ⟨by decide +kernel, by decide +kernel, by decide +kernel⟩, fun _ => ⟨az_g 993 (by decide +kernel) (by decide +kernel), by decide +kernel⟩, fun h => absurd h (by decide +kernel), fun h => absurd h (by decide +kernel), fun h => absurd h (by decide +kernel), by decide +kernel, by decide +kernel, fun _ => Or.inr trivial⟩
theorem az_m91 : az_mok 91 := ⟨az_g 997 (by decide +kernel) (by decide +kernel), az_g 52 (by decide +kernel) (by decide +kernel), by decide +kernel, ⟨by decide +kernel, by decide +kernel, by decide +kernel⟩, fun _ => ⟨az_g 996 (by decide +kernel) (by decide +kernel), by decide +kernel⟩, fun h => absurd h (by decide +kernel), fun h => absurd h (by decide +kernel), fun h => absurd h (by decide +kernel), by decide +kernel, by decide +kernel, fun _ => Or.inr trivial⟩
theorem az_m92 : az_mok 92 := ⟨az_g 1008 (by decide +kernel) (by decide +kernel), az_g 52 (by decide +kernel) (by decide +kernel), by decide +kernel, ⟨by decide +kernel, by decide +kernel, by decide +kernel⟩, fun _ => ⟨az_g 1007 (by decide +kernel) (by decide +kernel), by decide +kernel⟩, fun h => absurd h (by decide +kernel), fun h => absurd h (by decide +kernel), fun h => absurd h (by decide +kernel), by decide +kernel, by decide +kernel, fun _ => Or.inr trivial⟩
theorem az_m93 : az_mok 93 := ⟨az_g 1025 (by decide +kernel) (by decide +kernel), az_g 52 (by decide +kernel) (by decide +kernel), by decide +kernel, ⟨by decide +kernel, by decide +kernel, by decide +kernel⟩, fun h => absurd h (by decide +kernel), fun _ => ⟨az_g 1024 (by decide +kernel) (by decide +kernel), by decide +kernel⟩, fun _ => az_g 25 (by decide +kernel) (by decide +kernel), fun h => absurd h (by decide +kernel), by decide +kernel, by decide +kernel, fun _ => Or.inr trivial⟩
theorem az_m94 : az_mok 94 := ⟨az_g 1166 (by decide +kernel) (by decide +kernel), az_g 52 (by decide +kernel) (by decide +kernel), by decide +kernel, ⟨by decide +kernel, by decide +kernel, by decide +kernel⟩, fun h => absurd h (by decide +kernel), fun _ => ⟨az_g 1165 (by decide +kernel) (by decide +kernel), by decide +kernel⟩, fun _ => az_g 42 (by decide +kernel) (by decide +kernel), fun h => absurd h (by decide +kernel), by decide +kernel, by decide +kernel, fun _ => Or.inr trivial⟩
theorem az_m95 : az_mok 95 := ⟨az_g 1041 (by decide +kernel) (by decide +kernel), az_g 52 (by decide +kernel) (by decide +kernel), by decide +kernel, ⟨by decide +kernel, by decide +kernel, by decide +kernel⟩, fun h => absurd h (by decide +kernel), fun _ => ⟨az_g 1040 (by decide +kernel) (by decide +kernel), by decide +kernel⟩, fun _ => az_g 27 (by decide +kernel) (by decide +kernel), fun h => absurd h (by decide +kernel), by decide +kernel, by decide +kernel, fun _ => Or.inr trivial⟩
theorem az_m96 : az_mok 96 := ⟨az_g 1097 (by decide +kernel) (by decide +kernel), az_g 52 (by decide +kernel) (by decide +kernel), by decide +kernel, ⟨by decide +kernel, by decide +kernel, by decide +kernel⟩, fun h => absurd h (by decide +kernel), fun _ => ⟨az_g 1096 (by decide +kernel) (by decide +kernel), by decide +kernel⟩, fun _ => az_g 34 (by decide +kernel) (by decide +kernel), fun h => absurd h (by decide +kernel), by decide +kernel, by decide +kernel, fun _ => Or.inr trivial⟩
theorem az_m97 : az_mok 97 := ⟨az_g 991 (by decide +kernel) (by decide +kernel), az_g 52 (by decide +kernel) (by decide +kernel), by decide +kernel, ⟨by decide +kernel, by decide +kernel, by decide +kernel⟩, fun h => absurd h (by decide +kernel), fun _ => ⟨az_g 989 (by decide +kernel) (by decide +kernel), by decide +kernel⟩, fun _ => az_g 990 (by decide +kernel) (by decide +kernel), fun h => absurd h (by decide +kernel), by decide +kernel, by decide +kernel, fun _ => Or.inr trivial⟩
theorem az_m98 : az_mok 98 := ⟨az_g 1005 (by decide +kernel) (by decide +kernel), az_g 52 (by decide +kernel) (by decide +kernel), by decide +kernel, ⟨by decide +kernel, by decide +kernel, by decide +kernel⟩, fun h => absurd h (by decide +kernel), fun _ => ⟨az_g 1003 (by decide +kernel) (by decide +kernel), by decide +kernel⟩, fun _ => az_g 1004 (by decide +kernel) (by decide +kernel), fun h => absurd h (by decide +kernel), by decide +kernel, by decide +kernel, fun _ => Or.inr trivial⟩
theorem az_m99 : az_mok 99 := ⟨az_g 1016 (by decide +kernel) (by decide +kernel), az_g 52 (by decide +kernel) (by decide +kernel), by decide +kernel, ⟨by decide +kernel, by decide +kernel, by decide +kernel⟩, fun h => absurd h (by decide +kernel), fun _ => ⟨az_g 1015 (by decide +kernel) (by decide +kernel), by decide +kernel⟩, fun _ => az_g 24 (by decide +kernel) (by decide +kernel), fun h => absurd h (by decide +kernel), by decide +kernel, by decide +kernel, fun _ => Or.inr trivial⟩
theorem az_m100 : az_mok 100 := ⟨az_g 1012 (by decide +kernel) (by decide +kernel), az_g 52 (by decide +kernel) (by decide +kernel), by decide +kernel, ⟨by decide +kernel, by decide +kernel, by decide +kernel⟩, fun h => absurd h (by decide +kernel), fun _ => ⟨az_g 1010 (by decide +kernel) (by decide +kernel), by decide +kernel⟩, fun _ => az_g 1011 (by decide +kernel) (by decide +kernel), fun h => absurd h (by decide +kernel), by decide +kernel, by decide +kernel, fun _ => Or.inr trivial⟩
theorem az_m101 : az_mok 101 := ⟨az_g 1029 (by decide +kernel) (by decide +kernel), az_g 52 (by decide +kernel) (by decide +kernel), by decide +kernel, ⟨by decide +kernel, by decide +kernel, by decide +kernel⟩, fun h => absurd h (by decide +kernel), fun _ => ⟨az_g 1028 (by decide +kernel) (by decide +kernel), by decide +kernel⟩, fun _ => az_g 26 (by decide +kernel) (by decide +kernel), fun h => absurd h (by decide +kernel), by decide +kernel, by decide +kernel, fun _ => Or.inr trivial⟩
theorem az_m102 : az_mok 102 := ⟨az_g 1021 (by decide +kernel) (by decide +kernel), az_g 52 (by decide +kernel) (by decide +kernel), by decide +kernel, ⟨by decide +kernel, by decide +kernel, by decide +kernel⟩, fun h => absurd h (by decide +kernel), fun _ => ⟨az_g 1019 (by decide +kernel) (by decide +kernel), by decide +kernel⟩, fun _ => az_g 1020 (by decide +kernel) (by decide +kernel), fun h => absurd h (by decide +kernel), by decide +kernel, by decide +kernel, fun _ => Or.inr trivial⟩
theorem az_m103 : az_mok 103 := ⟨az_g 1033 (by decide +kernel) (by decide +kernel), az_g 52 (by decide +kernel) (by decide +kernel), by decide +kernel, ⟨by decide +kernel, by decide +kernel, by decide +kernel⟩, fun h => absurd h (by decide +kernel), fun _ => ⟨az_g 1031 (by decide +kernel) (by decide +kernel), by decide +kernel⟩, fun _ => az_g 1032 (by decide +kernel) (by decide +kernel), fun h => absurd h (by decide +kernel), by decide +kernel, by decide +kernel, fun _ => Or.inr trivial⟩
theorem az_m104 : az_mok 104 := ⟨az_g 1037 (by decide +kernel) (by decide +kernel), az_g 52 (by decide +kernel) (by decide +kernel), by decide +kernel, ⟨by decide +kernel, by decide +kernel, by decide +kernel⟩, fun h => absurd h (by decide +kernel), fun _ => ⟨az_g 1035 (by decide +kernel) (by decide +kernel), by decide +kernel⟩, fun _ => az_g 1036 (by decide +kernel) (by decide +kernel), fun h => absurd h (by decide +kernel), by decide +kernel, by decide +kernel, fun _ => Or.inr trivial⟩
theorem az_m105 : az_mok 105 := ⟨az_g 1057 (by decide +kernel) (by decide +kernel), az_g 52 (by decide +kernel) (by decide +kernel), by decide +kernel, ⟨by decide +kernel, by decide +kernel, by decide +kernel⟩, fun h => absurd h (by decide +kernel), fun _ => ⟨az_g 1056 (by decide +kernel) (by decide +kernel), by decide +kernel⟩, fun _ => az_g 30 (by decide +kernel) (by decide +kernel), fun h => absurd h (by decide +kernel), by decide +kernel, by decide +kernel, fun _ => Or.inr trivial⟩
theorem az_m106 : az_mok 106 := ⟨az_g 1053 (by decide +kernel) (by decide +kernel), az_g 52 (by decide +kernel) (by decide +kernel), by decide +kernel, ⟨by decide +kernel, by decide +kernel, by decide +kernel⟩, fun h => absurd h (by decide +kernel), fun _ => ⟨az_g 1052 (by decide +kernel) (by decide +kernel), by decide +kernel⟩, fun _ => az_g 29 (by decide +kernel) (by decide +kernel), fun h => absurd h (by decide +kernel), by decide +kernel, by decide +kernel, fun _ => Or.inr trivial⟩
theorem az_m107 : az_mok 107 := ⟨az_g 1060 (by decide +kernel) (by decide +kernel), az_g 52 (by decide +kernel) (by decide +kernel), by decide +kernel, ⟨by decide +kernel, by decide +kernel, by decide +kernel⟩, fun _ => ⟨az_g 1059 (by decide +kernel) (by decide +kernel), by decide +kernel⟩, fun h => absurd h (by decide +kernel), fun h => absurd h (by decide +kernel), fun h => absurd h (by decide +kernel), by decide +kernel, by decide +kernel, fun _ => Or.inr trivial⟩
theorem az_m108 : az_mok 108 := ⟨az_g 1049 (by decide +kernel) (by decide +kernel), az_g 52 (by decide +kernel) (by decide +kernel), by decide +kernel, ⟨by decide +kernel, by decide +kernel, by decide +kernel⟩, fun h => absurd h (by decide +kernel), fun _ => ⟨az_g 1048 (by decide +kernel) (by decide +kernel), by decide +kernel⟩, fun _ => az_g 28 (by decide +kernel) (by decide +kernel), fun h => absurd h (by decide +kernel), by decide +kernel, by decide +kernel, fun _ => Or.inr trivial⟩
theorem az_m109 : az_mok 109 := ⟨az_g 1045 (by decide +kernel) (by decide +kernel), az_g 52 (by decide +kernel) (by decide +kernel), by decide +kernel, ⟨by decide +kernel, by decide +kernel, by decide +kernel⟩, fun h => absurd h (by decide +kernel), fun _ => ⟨az_g 1043 (by decide +kernel) (by decide +kernel), by decide +kernel⟩, fun _ => az_g 1044 (by decide +kernel) (by decide +kernel), fun h => absurd h (by decide +kernel), by decide +kernel, by decide +kernel, fun _ => Or.inr trivial⟩
theorem az_m110 : az_mok 110 := ⟨az_g 1064 (by decide +kernel) (by decide +kernel), az_g 52 (by decide +kernel) (by decide +kernel), by decide +kernel, ⟨by decide +kernel, by decide +kernel, by decide +kernel⟩, fun h => absurd h (by decide +kernel), fun _ => ⟨az_g 1062 (by decide +kernel) (by decide +kernel), by decide +kernel⟩, fun _ => az_g 1063 (by decide +kernel) (by decide +kernel), fun h => absurd h (by decide +kernel), by decide +kernel, by decide +kernel, fun _ => Or.inr trivial⟩
theorem az_m111 : az_mok 111 := ⟨az_g 1069 (by decide +kernel) (by decide +kernel), az_g 52 (by decide +kernel) (by decide +kernel), by decide +kernel, ⟨by decide +kernel, by decide +kernel, by decide +kernel⟩, fun h => absurd h (by decide +kernel), fun _ => ⟨az_g 1067 (by decide +kernel) (by decide +kernel), by decide +kernel⟩, fun _ => az_g 1068 (by decide +kernel) (by decide +kernel), fun h => absurd h (by decide +kernel), by decide +kernel, by decide +kernel, fun _ => Or.inr trivial⟩
theorem az_m112 : az_mok 112 := ⟨az_g 1085 (by decide +kernel) (by decide +kernel), az_g 52 (by decide +kernel) (by decide +kernel), by decide +kernel, ⟨by decide +kernel, by decide +kernel, by decide +kernel⟩, fun h => absurd h (by decide +kernel), fun _ => ⟨az_g 1084 (by decide +kernel) (by decide +kernel), by decide +kernel⟩, fun _ => az_g 33 (by decide +kernel) (by decide +kernel), fun h => absurd h (by decide +kernel), by decide +kernel, by decide +kernel, fun _ => Or.inr trivial⟩
theorem az_m113 : az_mok 113 := ⟨az_g 1081 (by decide +kernel) (by decide +kernel), az_g 52 (by decide +kernel) (by decide +kernel), by decide +kernel, ⟨by decide +kernel, by decide +kernel, by decide +kernel⟩, fun h => absurd h (by decide +kernel), fun _ => ⟨az_g 1080 (by decide +kernel) (by decide +kernel), by decide +kernel⟩, fun _ => az_g 32 (by decide +kernel) (by decide +kernel), fun h => absurd h (by decide +kernel), by decide +kernel, by decide +kernel, fun _ => Or.inr trivial⟩
theorem az_m114 : az_mok 114 := ⟨az_g 1077 (by decide +kernel) (by decide +kernel), az_g 52 (by decide +kernel) (by decide +kernel), by decide +kernel, ⟨by decide +kernel, by decide +kernel, by decide +kernel⟩, fun h => absurd h (by decide +kernel), fun _ => ⟨az_g 1076 (by decide +kernel) (by decide +kernel), by decide +kernel⟩, fun _ => az_g 31 (by decide +kernel) (by decide +kernel), fun h => absurd h (by decide +kernel), by decide +kernel, by decide +kernel, fun _ => Or.inr trivial⟩
theorem az_m115 : az_mok 115 := ⟨az_g 1073 (by decide +kernel) (by decide +kernel), az_g 52 (by decide +kernel) (by decide +kernel), by decide +kernel, ⟨by decide +kernel, by decide +kernel, by decide +kernel⟩, fun h => absurd h (by decide +kernel), fun _ => ⟨az_g 1071 (by decide +kernel) (by decide +kernel), by decide +kernel⟩, fun _ => az_g 1072 (by decide +kernel) (by decide +kernel), fun h => absurd h (by decide +kernel), by decide +kernel, by decide +kernel, fun _ => Or.inr trivial⟩
theorem az_m116 : az_mok 116 := ⟨az_g 1089 (by decide +kernel) (by decide +kernel), az_g 52 (by decide +kernel) (by decide +kernel), by decide +kernel, ⟨by decide +kernel, by decide +kernel, by decide +kernel⟩, fun h => absurd h (by decide +kernel), fun _ => ⟨az_g 1087 (by decide +kernel) (by decide +kernel), by decide +kernel⟩, fun _ => az_g 1088 (by decide +kernel) (by decide +kernel), fun h => absurd h (by decide +kernel), by decide +kernel, by decide +kernel, fun _ => Or.inr trivial⟩
theorem az_m117 : az_mok 117 := ⟨az_g 1101 (by decide +kernel) (by decide +kernel), az_g 52 (by decide +kernel) (by decide +kernel), by decide +kernel, ⟨by decide +kernel, by decide +kernel, by decide +kernel⟩, fun h => absurd h (by decide +kernel), fun _ => ⟨az_g 1100 (by decide +kernel) (by decide +kernel), by decide +kernel⟩, fun _ => az_g 35 (by decide +kernel) (by decide +kernel), fun h => absurd h (by decide +kernel), by decide +kernel, by decide +kernel, fun _ => Or.inr trivial⟩
theorem az_m118 : az_mok 118 := ⟨az_g 1093 (by decide +kernel) (by decide +kernel), az_g 52 (by decide +kernel) (by decide +kernel), by decide +kernel, ⟨by decide +kernel, by decide +kernel, by decide +kernel⟩, fun h => absurd h (by decide +kernel), fun _ => ⟨az_g 1091 (by decide +kernel) (by decide +kernel), by decide +kernel⟩, fun _ => az_g 1092 (by decide +kernel) (by decide +kernel), fun h => absurd h (by decide +kernel), by decide +kernel, by decide +kernel, fun _ => Or.inr trivial⟩
theorem az_m119 : az_mok 119 := ⟨az_g 1109 (by decide +kernel) (by decide +kernel), az_g 52 (by decide +kernel) (by decide +kernel), by decide +kernel, ⟨by decide +kernel, by decide +kernel, by decide +kernel⟩, fun h => absurd h (by decide +kernel), fun _ => ⟨az_g 1108 (by decide +kernel) (by decide +kernel), by decide +kernel⟩, fun _ => az_g 36 (by decide +kernel) (by decide +kernel), fun h => absurd h (by decide +kernel), by decide +kernel, by decide +kernel, fun _ => Or.inr trivial⟩
theorem az_m120 : az_mok 120 := ⟨az_g 1105 (by decide +kernel) (by decide +kernel), az_g 52 (by decide +kernel) (by decide +kernel), by decide +kernel, ⟨by decide +kernel, by decide +kernel, by decide +kernel⟩, fun h => absurd h (by decide +kernel), fun _ => ⟨az_g 1103 (by decide +kernel) (by decide +kernel), by decide +kernel⟩, fun _ => az_g 1104 (by decide +kernel) (by decide +kernel), fun h => absurd h (by decide +kernel), by decide +kernel, by decide +kernel, fun _ => Or.inr trivial⟩
theorem az_m121 : az_mok 121 := ⟨az_g 1113 (by decide +kernel) (by decide +kernel), az_g 52 (by decide +kernel) (by decide +kernel), by decide +kernel, ⟨by decide +kernel, by decide +kernel, by decide +kernel⟩, fun h => absurd h (by decide +kernel), fun _ => ⟨az_g 1111 (by decide +kernel) (by decide +kernel), by decide +kernel⟩, fun _ => az_g 1112 (by decide +kernel) (by decide +kernel), fun h => absurd h (by decide +kernel), by decide +kernel, by decide +kernel, fun _ => Or.inr trivial⟩
theorem az_m122 : az_mok 122 := ⟨az_g 1122 (by decide +kernel) (by decide +kernel), az_g 52 (by decide +kernel) (by decide +kernel), by decide +kernel, ⟨by decide +kernel, by decide +kernel, by decide +kernel⟩, fun h => absurd h (by decide +kernel), fun _ => ⟨az_g 1121 (by decide +kernel) (by decide +kernel), by decide +kernel⟩, fun _ => az_g 37 (by decide +kernel) (by decide +kernel), fun h => absurd h (by decide +kernel), by decide +kernel, by decide +kernel, fun _ => Or.inr trivial⟩
theorem az_m123 : az_mok 123 := ⟨az_g 1117 (by decide +kernel) (by decide +kernel), az_g 52 (by decide +kernel) (by decide +kernel), by decide +kernel, ⟨by decide +kernel, by decide +kernel, by decide +kernel⟩, fun h => absurd h (by decide +kernel), fun _ => ⟨az_g 1115 (by decide +kernel) (by decide +kernel), by decide +kernel⟩, fun _ => az_g 1116 (by decide +kernel) (by decide +kernel), fun h => absurd h (by decide +kernel), by decide +kernel, by decide +kernel, fun _ => Or.inr trivial⟩
theorem az_m124 : az_mok 124 := ⟨az_g 1126 (by decide +kernel) (by decide +kernel), az_g 52 (by decide +kernel) (by decide +kernel), by decide +kernel, ⟨by decide +kernel, by decide +kernel, by decide +kernel⟩, fun h => absurd h (by decide +kernel), fun _ => ⟨az_g 1124 (by decide +kernel) (by decide +kernel), by decide +kernel⟩, fun _ => az_g 1125 (by decide +kernel) (by decide +kernel), fun h => absurd h (by decide +kernel), by decide +kernel, by decide +kernel, fun _ => Or.inr trivial⟩
theorem az_m125 : az_mok 125 := ⟨az_g 1134 (by decide +kernel) (by decide +kernel), az_g 52 (by decide +kernel) (by decide +kernel), by decide +kernel, ⟨by decide +kernel, by decide +kernel, by decide +kernel⟩, fun h => absurd h (by decide +kernel), fun _ => ⟨az_g 1133 (by decide +kernel) (by decide +kernel), by decide +kernel⟩, fun _ => az_g 38 (by decide +kernel) (by decide +kernel), fun h => absurd h (by decide +kernel), by decide +kernel, by decide +kernel, fun _ => Or.inr trivial⟩
theorem az_m126 : az_mok 126 := ⟨az_g 1138 (by decide +kernel) (by decide +kernel), az_g 52 (by decide +kernel) (by decide +kernel), by decide +kernel, ⟨by decide +kernel, by decide +kernel, by decide +kernel⟩, fun h => absurd h (by decide +kernel), fun _ => ⟨az_g 1137 (by decide +kernel) (by decide +kernel), by decide +kernel⟩, fun _ => az_g 39 (by decide +kernel) (by decide +kernel), fun h => absurd h (by decide +kernel), by decide +kernel, by decide +kernel, fun _ => Or.inr trivial⟩
theorem az_m127 : az_mok 127 := ⟨az_g 1130 (by decide +kernel) (by decide +kernel), az_g 52 (by decide +kernel) (by decide +kernel), by decide +kernel, ⟨by decide +kernel, by decide +kernel, by decide +kernel⟩, fun h => absurd h (by decide +kernel), fun _ => ⟨az_g 1128 (by decide +kernel) (by decide +kernel), by decide +kernel⟩, fun _ => az_g 1129 (by decide +kernel) (by decide +kernel), fun h => absurd h (by decide +kernel), by decide +kernel, by decide +kernel, fun _ => Or.inr trivial⟩
theorem az_m128 : az_mok 128 := ⟨az_g 1150 (by decide +kernel) (by decide +kernel), az_g 52 (by decide +kernel) (by decide +kernel), by decide +kernel, ⟨by decide +kernel, by decide +kernel, by decide +kernel⟩, fun h => absurd h (by decide +kernel), fun _ => ⟨az_g 1149 (by decide +kernel) (by decide +kernel), by decide +kernel⟩, fun _ => az_g 41 (by decide +kernel) (by decide +kernel), fun h => absurd h (by decide +kernel), by decide +kernel, by decide +kernel, fun _ => Or.inr trivial⟩
theorem az_m129 : az_mok 129 := ⟨az_g 1146 (by decide +kernel) (by decide +kernel), az_g 52 (by decide +kernel) (by decide +kernel), by decide +kernel, ⟨by decide +kernel, by decide +kernel, by decide +kernel⟩, fun h => absurd h (by decide +kernel), fun _ => ⟨az_g 1145 (by decide +kernel) (by decide +kernel), by decide +kernel⟩, fun _ => az_g 40 (by decide +kernel) (by decide +kernel), fun h => absurd h (by decide +kernel), by decide +kernel, by decide +kernel, fun _ => Or.inr trivial⟩
theorem az_m130 : az_mok 130 := ⟨az_g 1142 (by decide +kernel) (by decide +kernel), az_g 52 (by decide +kernel) (by decide +kernel), by decide +kernel, ⟨by decide +kernel, by decide +kernel, by decide +kernel⟩, fun h => absurd h (by decide +kernel), fun _ => ⟨az_g 1140 (by decide +kernel) (by decide +kernel), by decide +kernel⟩, fun _ => az_g 1141 (by decide +kernel) (by decide +kernel), fun h => absurd h (by decide +kernel), by decide +kernel, by decide +kernel, fun _ => Or.inr trivial⟩
theorem az_m131 : az_mok 131 := ⟨az_g 1154 (by decide +kernel) (by decide +kernel), az_g 52 (by decide +kernel) (by decide +kernel), by decide +kernel, ⟨by decide +kernel, by decide +kernel, by decide +kernel⟩, fun h => absurd h (by decide +kernel), fun _ => ⟨az_g 1152 (by decide +kernel) (by decide +kernel), by decide +kernel⟩, fun _ => az_g 1153 (by decide +kernel) (by decide +kernel), fun h => absurd h (by decide +kernel), by decide +kernel, by decide +kernel, fun _ => Or.inr trivial⟩
theorem az_m132 : az_mok 132 := ⟨az_g 1158 (by decide +kernel) (by decide +kernel), az_g 52 (by decide +kernel) (by decide +kernel), by decide +kernel, ⟨by decide +kernel, by decide +kernel, by decide +kernel⟩, fun h => absurd h (by decide +kernel), fun _ => ⟨az_g 1156 (by decide +kernel) (by decide +kernel), by decide +kernel⟩, fun _ => az_g 1157 (by decide +kernel) (by decide +kernel), fun h => absurd h (by decide +kernel), by decide +kernel, by decide +kernel, fun _ => Or.inr trivial⟩
theorem az_m133 : az_mok 133 := ⟨az_g 1162 (by decide +kernel) (by decide +kernel), az_g 52 (by decide +kernel) (by decide +kernel), by decide +kernel, ⟨by decide +kernel, by decide +kernel, by decide +kernel⟩, fun h => absurd h (by decide +kernel), fun _ => ⟨az_g 1160 (by decide +kernel) (by decide +kernel), by decide +kernel⟩, fun _ => az_g 1161 (by decide +kernel) (by decide +kernel), fun h => absurd h (by decide +kernel), by decide +kernel, by decide +kernel, fun _ => Or.inr trivial⟩
theorem az_m134 : az_mok 134 := ⟨az_g 1170 (by decide +kernel) (by decide +kernel), az_g 52 (by decide +kernel) (by decide +kernel), by decide +kernel, ⟨by decide +kernel, by decide +kernel, by decide +kernel⟩, fun h => absurd h (by decide +kernel), fun _ => ⟨az_g 1168 (by decide +kernel) (by decide +kernel), by decide +kernel⟩, fun _ => az_g 1169 (by decide +kernel) (by decide +kernel), fun h => absurd h (by decide +kernel), by decide +kernel, by decide +kernel, fun _ => Or.inr trivial⟩
theorem az_m135 : az_mok 135 := ⟨az_g 1174 (by decide +kernel) (by decide +kernel), az_g 52 (by decide +kernel) (by decide +kernel), by decide +kernel, ⟨by decide +kernel, by decide +kernel, by decide +kernel⟩, fun h => absurd h (by decide +kernel), fun _ => ⟨az_g 1172 (by decide +kernel) (by decide +kernel), by decide +kernel⟩, fun _ => az_g 1173 (by decide +kernel) (by decide +kernel), fun h => absurd h (by decide +kernel), by decide +kernel, by decide +kernel, fun _ => Or.inr trivial⟩
theorem az_m136 : az_mok 136 := ⟨az_g 1178 (by decide +kernel) (by decide +kernel), az_g 52 (by decide +kernel) (by decide +kernel), by decide +kernel, ⟨by decide +kernel, by decide +kernel, by decide +kernel⟩, fun h => absurd h (by decide +kernel), fun _ => ⟨az_g 1176 (by decide +kernel) (by decide +kernel), by decide +kernel⟩, fun _ => az_g 1177 (by decide +kernel) (by decide +kernel), fun h => absurd h (by decide +kernel), by decide +kernel, by decide +kernel, fun _ => Or.inr trivial⟩
theorem az_m137 : az_mok 137 := ⟨az_g 1186 (by decide +kernel) (by decide +kernel), az_g 52 (by decide +kernel) (by decide +kernel), by decide +kernel, ⟨by decide +kernel, by decide +kernel, by decide +kernel⟩, fun h => absurd h (by decide +kernel), fun _ => ⟨az_g 1185 (by decide +kernel) (by decide +kernel), by decide +kernel⟩, fun _ => az_g 43 (by decide +kernel) (by decide +kernel), fun h => absurd h (by decide +kernel), by decide +kernel, by decide +kernel, fun _ => Or.inr trivial⟩
theorem az_m138 : az_mok 138 := ⟨az_g 1182 (by decide +kernel) (by decide +kernel), az_g 52 (by decide +kernel) (by decide +kernel), by decide +kernel, ⟨by decide +kernel, by decide +kernel, by decide +kernel⟩, fun h => absurd h (by decide +kernel), fun _ => ⟨az_g 1180 (by decide +kernel) (by decide +kernel), by decide +kernel⟩, fun _ => az_g 1181 (by decide +kernel) (by decide +kernel), fun h => absurd h (by decide +kernel), by decide +kernel, by decide +kernel, fun _ => Or.inr trivial⟩
theorem az_m139 : az_mok 139 := ⟨az_g 1190 (by decide +kernel) (by decide +kernel), az_g 52 (by decide +kernel) (by decide +kernel), by decide +kernel, ⟨by decide +kernel, by decide +kernel, by decide +kernel⟩, fun h => absurd h (by decide +kernel), fun _ => ⟨az_g 1188 (by decide +kernel) (by decide +kernel), by decide +kernel⟩, fun _ => az_g 1189 (by decide +kernel) (by decide +kernel), fun h => absurd h (by decide +kernel), by decide +kernel, by decide +kernel, fun _ => Or.inr trivial⟩
theorem az_m140 : az_mok 140 := ⟨az_g 1194 (by decide +kernel) (by decide +kernel), az_g 52 (by decide +kernel) (by decide +kernel), by decide +kernel, ⟨by decide +kernel, by decide +kernel, by decide +kernel⟩, fun h => absurd h (by decide +kernel), fun _ => ⟨az_g 1192 (by decide +kernel) (by decide +kernel), by decide +kernel⟩, fun _ => az_g 1193 (by decide +kernel) (by decide +kernel), fun h => absurd h (by decide +kernel), by decide +kernel, by decide +kernel, fun _ => Or.inr trivial⟩
theorem az_m141 : az_mok 141 := ⟨az_g 1198 (by decide +kernel) (by decide +kernel), az_g 52 (by decide +kernel) (by decide +kernel), by decide +kernel, ⟨by decide +kernel, by decide +kernel, by decide +kernel⟩, fun h => absurd h (by decide +kernel), fun _ => ⟨az_g 1196 (by decide +kernel) (by decide +kernel), by decide +kernel⟩, fun _ => az_g 1197 (by decide +kernel) (by decide +kernel), fun h => absurd h (by decide +kernel), by decide +kernel, by decide +kernel, fun _ => Or.inr trivial⟩
theorem az_m142 : az_mok 142 := ⟨az_g 561 (by decide +kernel) (by decide +kernel), az_g 61 (by decide +kernel) (by decide +kernel), by decide +kernel, ⟨by decide +kernel, by decide +kernel, by decide +kernel⟩, fun _ => ⟨az_g 560 (by decide +kernel) (by decide +kernel), by decide +kernel⟩, fun h => absurd h (by decide +kernel), fun h => absurd h (by decide +kernel), fun h => absurd h (by decide +kernel), by decide +kernel, by decide +kernel, fun _ => Or.inr trivial⟩
theorem az_m143 : az_mok 143 := ⟨az_g 554 (by decide +kernel) (by decide +kernel), az_g 60 (by decide +kernel) (by decide +kernel), by decide +kernel, ⟨by decide +kernel, by decide +kernel, by decide +kernel⟩, fun _ => ⟨az_g 553 (by decide +kernel) (by decide +kernel), by decide +kernel⟩, fun h => absurd h (by decide +kernel), fun h => absurd h (by decide +kernel), fun h => absurd h (by decide +kernel), by decide +kernel, by decide +kernel, fun _ => Or.inr trivial⟩
theorem az_m144 : az_mok 144 := ⟨az_g 320 (by decide +kernel) (by decide +kernel), az_g 44 (by decide +kernel) (by decide +kernel), by decide +kernel, ⟨by decide +kernel, by decide +kernel, by decide +kernel⟩, fun _ => ⟨az_g 319 (by decide +kernel) (by decide +kernel), by decide +kernel⟩, fun h => absurd h (by decide +kernel), fun h => absurd h (by decide +kernel), fun h => absurd h (by decide +kernel), by decide +kernel, by decide +kernel, fun _ => Or.inr trivial⟩
theorem az_m145 : az_mok 145 := ⟨az_g 419 (by decide +kernel) (by decide +kernel), az_g 44 (by decide +kernel) (by decide +kernel), by decide +kernel, ⟨by decide +kernel, by decide +kernel, by decide +kernel⟩, fun _ => ⟨az_g 418 (by decide +kernel) (by decide +kernel), by decide +kernel⟩, fun h => absurd h (by decide +kernel), fun h => absurd h (by decide +kernel), fun h => absurd h (by decide +kernel), by decide +kernel, by decide +kernel, fun _ => Or.inr trivial⟩
theorem az_m146 : az_mok 146 := ⟨az_g 426 (by decide +kernel) (by decide +kernel), az_g 44 (by decide +kernel) (by decide +kernel), by decide +kernel, ⟨by decide +kernel, by decide +kernel, by decide +kernel⟩, fun _ => ⟨az_g 425 (by decide +kernel) (by decide +kernel), by decide +kernel⟩, fun h => absurd h (by decide +kernel), fun h => absurd h (by decide +kernel), fun h => absurd h (by decide +kernel), by decide +kernel, by decide +kernel, fun _ => Or.inr trivial⟩
theorem az_m147 : az_mok 147 := ⟨az_g 469 (by decide +kernel) (by decide +kernel), az_g 44 (by decide +kernel) (by decide +kernel), by decide +kernel, ⟨by decide +kernel, by decide +kernel, by decide +kernel⟩, fun _ => ⟨az_g 468 (by decide +kernel) (by decide +kernel), by decide +kernel⟩, fun h => absurd h (by decide +kernel), fun h => absurd h (by decide +kernel), fun h => absurd h (by decide +kernel), by decide +kernel, by decide +kernel, fun _ => Or.inr trivial⟩
theorem az_m148 : az_mok 148 := ⟨az_g 488 (by decide +kernel) (by decide +kernel), az_g 44 (by decide +kernel) (by decide +kernel), by decide +kernel, ⟨by decide +kernel, by decide +kernel, by decide +kernel⟩, fun _ => ⟨az_g 487 (by decide +kernel) (by decide +kernel), by decide +kernel⟩, fun h => absurd h (by decide +kernel), fun h => absurd h (by decide +kernel), fun h => absurd h (by decide +kernel), by decide +kernel, by decide +kernel, fun _ => Or.inr trivial⟩
theorem az_m149 : az_mok 149 := ⟨az_g 499 (by decide +kernel) (by decide +kernel), az_g 44 (by decide +kernel) (by decide +kernel), by decide +kernel, ⟨by decide +kernel, by decide +kernel, by decide +kernel⟩, fun _ => ⟨az_g 498 (by decide +kernel) (by decide +kernel), by decide +kernel⟩, fun h => absurd h (by decide +kernel), fun h => absurd h (by decide +kernel), fun h => absurd h (by decide +kernel), by decide +kernel, by decide +kernel, fun _ => Or.inr trivial⟩
theorem az_m150 : az_mok 150 := ⟨az_g 518 (by decide +kernel) (by decide +kernel), az_g 44 (by decide +kernel) (by decide +kernel), by decide +kernel, ⟨by decide +kernel, by decide +kernel, by decide +kernel⟩, fun _ => ⟨az_g 517 (by decide +kernel) (by decide +kernel), by decide +kernel⟩, fun h => absurd h (by decide +kernel), fun h => absurd h (by decide +kernel), fun h => absurd h (by decide +kernel), by decide +kernel, by decide +kernel, fun _ => Or.inr trivial⟩
theorem az_m151 : az_mok 151 := ⟨az_g 543 (by decide +kernel) (by decide +kernel), az_g 44 (by decide +kernel) (by decide +kernel), by decide +kernel, ⟨by decide +kernel, by decide +kernel, by decide +kernel⟩, fun _ => ⟨az_g 542 (by decide +kernel) (by decide +kernel), by decide +kernel⟩, fun h => absurd h (by decide +kernel), fun h => absurd h (by decide +kernel), fun h => absurd h (by decide +kernel), by decide +kernel, by decide +kernel, fun _ => Or.inr trivial⟩
theorem az_m152 : az_mok 152 := ⟨az_g 579 (by decide +kernel) (by decide +kernel), az_g 44 (by decide +kernel) (by decide +kernel), by decide +kernel, ⟨by decide +kernel, by decide +kernel, by decide +kernel⟩, fun _ => ⟨az_g 578 (by decide +kernel) (by decide +kernel), by decide +kernel⟩, fun h => absurd h (by decide +kernel), fun h => absurd h (by decide +kernel), fun h => absurd h (by decide +kernel), by decide +kernel, by decide +kernel, fun _ => Or.inr trivial⟩
theorem az_m153 : az_mok 153 := ⟨az_g 586 (by decide +kernel) (by decide +kernel), az_g 44 (by decide +kernel) (by decide +kernel), by decide +kernel, ⟨by decide +kernel, by decide +kernel, by decide +kernel⟩, fun _ => ⟨az_g 585 (by decide +kernel) (by decide +kernel), by decide +kernel⟩, fun h => absurd h (by decide +kernel), fun h => absurd h (by decide +kernel), fun h => absurd h (by decide +kernel), by decide +kernel, by decide +kernel, fun _ => Or.inr trivial⟩
theorem az_m154 : az_mok 154 := ⟨az_g 619 (by decide +kernel) (by decide +kernel), az_g 44 (by decide +kernel) (by decide +kernel), by decide +kernel, ⟨by decide +kernel, by decide +kernel, by decide +kernel⟩, fun _ => ⟨az_g 618 (by decide +kernel) (by decide +kernel), by decide +kernel⟩, fun h => absurd h (by decide +kernel), fun h => absurd h (by decide +kernel), fun h => absurd h (by decide +kernel), by decide +kernel, by decide +kernel, fun _ => Or.inr trivial⟩
theorem az_m155 : az_mok 155 := ⟨az_g 626 (by decide +kernel) (by decide +kernel), az_g 44 (by decide +kernel) (by decide +kernel), by decide +kernel, ⟨by decide +kernel, by decide +kernel, by decide +kernel⟩, fun _ => ⟨az_g 625 (by decide +kernel) (by decide +kernel), by decide +kernel⟩, fun h => absurd h (by decide +kernel), fun h => absurd h (by decide +kernel), fun h => absurd h (by decide +kernel), by decide +kernel, by decide +kernel, fun _ => Or.inr trivial⟩
theorem az_m156 : az_mok 156 := ⟨az_g 653 (by decide +kernel) (by decide +kernel), az_g 44 (by decide +kernel) (by decide +kernel), by decide +kernel, ⟨by decide +kernel, by decide +kernel, by decide +kernel⟩, fun _ => ⟨az_g 652 (by decide +kernel) (by decide +kernel), by decide +kernel⟩, fun h => absurd h (by decide +kernel), fun h => absurd h (by decide +kernel), fun h => absurd h (by decide +kernel), by decide +kernel, by decide +kernel, fun _ => Or.inr trivial⟩
theorem az_m157 : az_mok 157 := ⟨az_g 680 (by decide +kernel) (by decide +kernel), az_g 44 (by decide +kernel) (by decide +kernel), by decide +kernel, ⟨by decide +kernel, by decide +kernel, by decide +kernel⟩, fun _ => ⟨az_g 679 (by decide +kernel) (by decide +kernel), by decide +kernel⟩, fun h => absurd h (by decide +kernel), fun h => absurd h (by decide +kernel), fun h => absurd h (by decide +kernel), by decide +kernel, by decide +kernel, fun _ => Or.inr trivial⟩
theorem az_m158 : az_mok 158 := ⟨az_g 695 (by decide +kernel) (by decide +kernel), az_g 44 (by decide +kernel) (by decide +kernel), by decide +kernel, ⟨by decide +kernel, by decide +kernel, by decide +kernel⟩, fun _ => ⟨az_g 694 (by decide +kernel) (by decide +kernel), by decide +kernel⟩, fun h => absurd h (by decide +kernel), fun h => absurd h (by decide +kernel), fun h => absurd h (by decide +kernel), by decide +kernel, by decide +kernel, fun _ => Or.inr trivial⟩
theorem az_m159 : az_mok 159 := ⟨az_g 711 (by decide +kernel) (by decide +kernel), az_g 44 (by decide +kernel) (by decide +kernel), by decide +kernel, ⟨by decide +kernel, by decide +kernel, by decide +kernel⟩, fun _ => ⟨az_g 710 (by decide +kernel) (by decide +kernel), by decide +kernel⟩, fun h => absurd h (by decide +kernel), fun h => absurd h (by decide +kernel), fun h => absurd h (by decide +kernel), by decide +kernel, by decide +kernel, fun _ => Or.inr trivial⟩
theorem az_m160 : az_mok 160 := ⟨az_g 718 (by decide +kernel) (by decide +kernel), az_g 44 (by decide +kernel) (by decide +kernel), by decide +kernel, ⟨by decide +kernel, by decide +kernel, by decide +kernel⟩, fun _ => ⟨az_g 717 (by decide +kernel) (by decide +kernel), by decide +kernel⟩, fun h => absurd h (by decide +kernel), fun h => absurd h (by decide +kernel), fun h => absurd h (by decide +kernel), by decide +kernel, by decide +kernel, fun _ => Or.inr trivial⟩
theorem az_m161 : az_mok 161 := ⟨az_g 739 (by decide +kernel) (by decide +kernel), az_g 44 (by decide +kernel) (by decide +kernel), by decide +kernel, ⟨by decide +kernel, by decide +kernel, by decide +kernel⟩, fun _ => ⟨az_g 738 (by decide +kernel) (by decide +kernel), by decide +kernel⟩, fun h => absurd h (by decide +kernel), fun h => absurd h (by decide +kernel), fun h => absurd h (by decide +kernel), by decide +kernel, by decide +kernel, fun _ => Or.inr trivial⟩
theorem az_m162 : az_mok 162 := ⟨az_g 758 (by decide +kernel) (by decide +kernel), az_g 44 (by decide +kernel) (by decide +kernel), by decide +kernel, ⟨by decide +kernel, by decide +kernel, by decide +kernel⟩, fun _ => ⟨az_g 757 (by decide +kernel) (by decide +kernel), by decide +kernel⟩, fun h => absurd h (by decide +kernel), fun h => absurd h (by decide +kernel), fun h => absurd h (by decide +kernel), by decide +kernel, by decide +kernel, fun _ => Or.inr trivial⟩
theorem az_m163 : az_mok 163 := ⟨az_g 765 (by decide +kernel) (by decide +kernel), az_g 44 (by decide +kernel) (by decide +kernel), by decide +kernel, ⟨by decide +kernel, by decide +kernel, by decide +kernel⟩, fun _ => ⟨az_g 764 (by decide +kernel) (by decide +kernel), by decide +kernel⟩, fun h => absurd h (by decide +kernel), fun h => absurd h (by decide +kernel), fun h => absurd h (by decide +kernel), by decide +kernel, by decide +kernel, fun _ => Or.inr trivial⟩
theorem az_m164 : az_mok 164 := ⟨az_g 772 (by decide +kernel) (by decide +kernel), az_g 44 (by decide +kernel) (by decide +kernel), by decide +kernel, ⟨by decide +kernel, by decide +kernel, by decide +kernel⟩, fun _ => ⟨az_g 771 (by decide +kernel) (by decide +kernel), by decide +kernel⟩, fun h => absurd h (by decide +kernel), fun h => absurd h (by decide +kernel), fun h => absurd h (by decide +kernel), by decide +kernel, by decide +kernel, fun _ => Or.inr trivial⟩
theorem az_m165 : az_mok 165 := ⟨az_g 781 (by decide +kernel) (by decide +kernel), az_g 44 (by decide +kernel) (by decide +kernel), by decide +kernel, ⟨by decide +kernel, by decide +kernel, by decide +kernel⟩, fun _ => ⟨az_g 780 (by decide +kernel) (by decide +kernel), by decide +kernel⟩, fun h => absurd h (by decide +kernel), fun h => absurd h (by decide +kernel), fun h => absurd h (by decide +kernel), by decide +kernel, by decide +kernel, fun _ => Or.inr trivial⟩
theorem az_m166 : az_mok 166 := ⟨az_g 789 (by decide +kernel) (by decide +kernel), az_g 44 (by decide +kernel) (by decide +kernel), by decide +kernel, ⟨by decide +kernel, by decide +kernel, by decide +kernel⟩, fun _ => ⟨az_g 788 (by decide +kernel) (by decide +kernel), by decide +kernel⟩, fun h => absurd h (by decide +kernel), fun h => absurd h (by decide +kernel), fun h => absurd h (by decide +kernel), by decide +kernel, by decide +kernel, fun _ => Or.inr trivial⟩
theorem az_m167 : az_mok 167 := ⟨az_g 796 (by decide +kernel) (by decide +kernel), az_g 44 (by decide +kernel) (by decide +kernel), by decide +kernel, ⟨by decide +kernel, by decide +kernel, by decide +kernel⟩, fun _ => ⟨az_g 795 (by decide +kernel) (by decide +kernel), by decide +kernel⟩, fun h => absurd h (by decide +kernel), fun h => absurd h (by decide +kernel), fun h => absurd h (by decide +kernel), by decide +kernel, by decide +kernel, fun _ => Or.inr trivial⟩
theorem az_m168 : az_mok 168 := ⟨az_g 811 (by decide +kernel) (by decide +kernel), az_g 44 (by decide +kernel) (by decide +kernel), by decide +kernel, ⟨by decide +kernel, by decide +kernel, by decide +kernel⟩, fun _ => ⟨az_g 810 (by decide +kernel) (by decide +kernel), by decide +kernel⟩, fun h => absurd h (by decide +kernel), fun h => absurd h (by decide +kernel), fun h => absurd h (by decide +kernel), by decide +kernel, by decide +kernel, fun _ => Or.inr trivial⟩
theorem az_m169 : az_mok 169 := ⟨az_g 818 (by decide +kernel) (by decide +kernel), az_g 44 (by decide +kernel) (by decide +kernel), by decide +kernel, ⟨by decide +kernel, by decide +kernel, by decide +kernel⟩, fun _ => ⟨az_g 817 (by decide +kernel) (by decide +kernel), by decide +kernel⟩, fun h => absurd h (by decide +kernel), fun h => absurd h (by decide +kernel), fun h => absurd h (by decide +kernel), by decide +kernel, by decide +kernel, fun _ => Or.inr trivial⟩
theorem az_m170 : az_mok 170 := ⟨az_g 829 (by decide +kernel) (by decide +kernel), az_g 44 (by decide +kernel) (by decide +kernel), by decide +kernel, ⟨by decide +kernel, by decide +kernel, by decide +kernel⟩, fun _ => ⟨az_g 828 (by decide +kernel) (by decide +kernel), by decide +kernel⟩, fun h => absurd h (by decide +kernel), fun h => absurd h (by decide +kernel), fun h => absurd h (by decide +kernel), by decide +kernel, by decide +kernel, fun _ => Or.inr trivial⟩
theorem az_ms (m : Nat) (h : m < 171) : az_mok m := by
  match m, h with
  | 0, _ => exact az_m0
  | 1, _ => exact az_m1
  | 2, _ => exact az_m2
  | 3, _ => exact az_m3
  | 4, _ => exact az_m4
  | 5, _ => exact az_m5
  | 6, _ => exact az_m6
  | 7, _ => exact az_m7
  | 8, _ => exact az_m8
  | 9, _ => exact az_m9
  | 10, _ => exact az_m10
  | 11, _ => exact az_m11
  | 12, _ => exact az_m12
  | 13, _ => exact az_m13
  | 14, _ => exact az_m14
  | 15, _ => exact az_m15
  | 16, _ => exact az_m16
  | 17, _ => exact az_m17
  | 18, _ => exact az_m18
  | 19, _ => exact az_m19
  | 20, _ => exact az_m20
  | 21, _ => exact az_m21
  | 22, _ => exact az_m22
  | 23, _ => exact az_m23
  | 24, _ => exact az_m24
  | 25, _ => exact az_m25
  | 26, _ => exact az_m26
  | 27, _ => exact az_m27
  | 28, _ => exact az_m28
  | 29, _ => exact az_m29
  | 30, _ => exact az_m30
  | 31, _ => exact az_m31
  | 32, _ => exact az_m32
  | 33, _ => exact az_m33
  | 34, _ => exact az_m34
  | 35, _ => exact az_m35
  | 36, _ => exact az_m36
  | 37, _ => exact az_m37
  | 38, _ => exact az_m38
  | 39, _ => exact az_m39
  | 40, _ => exact az_m40
  | 41, _ => exact az_m41
  | 42, _ => exact az_m42
  | 43, _ => exact az_m43
  | 44, _ => exact az_m44
  | 45, _ => exact az_m45
  | 46, _ => exact az_m46
  | 47, _ => exact az_m47
  | 48, _ => exact az_m48
  | 49, _ => exact az_m49
  | 50, _ => exact az_m50
  | 51, _ => exact az_m51
  | 52, _ => exact az_m52
  | 53, _ => exact az_m53
  | 54, _ => exact az_m54
  | 55, _ => exact az_m55
  | 56, _ => exact az_m56
  | 57, _ => exact az_m57
  | 58, _ => exact az_m58
  | 59, _ => exact az_m59
  | 60, _ => exact az_m60
  | 61, _ => exact az_m61
  | 62, _ => exact az_m62
  | 63, _ => exact az_m63
  | 64, _ => exact az_m64
  | 65, _ => exact az_m65
  | 66, _ => exact az_m66
  | 67, _ => exact az_m67
  | 68, _ => exact az_m68
  | 69, _ => exact az_m69
  | 70, _ => exact az_m70
  | 71, _ => exact az_m71
  | 72, _ => exact az_m72
  | 73, _ => exact az_m73
  | 74, _ => exact az_m74
  | 75, _ => exact az_m75
  | 76, _ => exact az_m76
  | 77, _ => exact az_m77
  | 78, _ => exact az_m78
  | 79, _ => exact az_m79
  | 80, _ => exact az_m80
  | 81, _ => exact az_m81
  | 82, _ => exact az_m82
  | 83, _ => exact az_m83
  | 84, _ => exact az_m84
  | 85, _ => exact az_m85
  | 86, _ => exact az_m86
  | 87, _ => exact az_m87
  | 88, _ => exact az_m88
  | 89, _ => exact az_m89
  | 90, _ => exact az_m90
  | 91, _ => exact az_m91
  | 92, _ => exact az_m92
  | 93, _ => exact az_m93
  | 94, _ => exact az_m94
  | 95, _ => exact az_m95
  | 96, _ => exact az_m96
  | 97, _ => exact az_m97
  | 98, _ => exact az_m98
  | 99, _ => exact az_m99
  | 100, _ => exact az_m100
  | 101, _ => exact az_m101
  | 102, _ => exact az_m102
  | 103, _ => exact az_m103
  | 104, _ => exact az_m104
  | 105, _ => exact az_m105
  | 106, _ => exact az_m106
  | 107, _ => exact az_m107
  | 108, _ => exact az_m108
  | 109, _ => exact az_m109
  | 110, _ => exact az_m110
  | 111, _ => exact az_m111
  | 112, _ => exact az_m112
  | 113, _ => exact az_m113
  | 114, _ => exact az_m114
  | 115, _ => exact az_m115
  | 116, _ => exact az_m116
  | 117, _ => exact az_m117
  | 118, _ => exact az_m118
  | 119, _ => exact az_m119
  | 120, _ => exact az_m120
  | 121, _ => exact az_m121
  | 122, _ => exact az_m122
  | 123, _ => exact az_m123
  | 124, _ => exact az_m124
  | 125, _ => exact az_m125
  | 126, _ => exact az_m126
  | 127, _ => exact az_m127
  | 128, _ => exact az_m128
  | 129, _ => exact az_m129
  | 130, _ => exact az_m130
  | 131, _ => exact az_m131
  | 132, _ => exact az_m132
  | 133, _ => exact az_m133
  | 134, _ => exact az_m134
  | 135, _ => exact az_m135
  | 136, _ => exact az_m136
  | 137, _ => exact az_m137
  | 138, _ => exact az_m138
  | 139, _ => exact az_m139
  | 140, _ => exact az_m140
  | 141, _ => exact az_m141
  | 142, _ => exact az_m142
  | 143, _ => exact az_m143
  | 144, _ => exact az_m144
  | 145, _ => exact az_m145
  | 146, _ => exact az_m146
  | 147, _ => exact az_m147
  | 148, _ => exact az_m148
  | 149, _ => exact az_m149
  | 150, _ => exact az_m150
  | 151, _ => exact az_m151
  | 152, _ => exact az_m152
  | 153, _ => exact az_m153
  | 154, _ => exact az_m154
  | 155, _ => exact az_m155
  | 156, _ => exact az_m156
  | 157, _ => exact az_m157
  | 158, _ => exact az_m158
  | 159, _ => exact az_m159
  | 160, _ => exact az_m160
  | 161, _ => exact az_m161
  | 162, _ => exact az_m162
  | 163, _ => exact az_m163
  | 164, _ => exact az_m164
  | 165, _ => exact az_m165
  | 166, _ => exact az_m166
  | 167, _ => exact az_m167
  | 168, _ => exact az_m168
  | 169, _ => exact az_m169
  | 170, _ => exact az_m170
  | m + 171, h => omega
end
section
theorem az_u7_45 : u_lay RX7 TX7 45 ∈ az_gw := az_g 981 (by decide +kernel) (by decide +kernel)
theorem az_u7_44 : u_lay RX7 TX7 44 ∈ az_gw := az_g 979 (by decide +kernel) (by decide +kernel)
theorem az_u7_43 : u_lay RX7 TX7 43 ∈ az_gw := az_g 977 (by decide +kernel) (by decide +kernel)
theorem az_u7_42 : u_lay RX7 TX7 42 ∈ az_gw := az_g 975 (by decide +kernel) (by decide +kernel)
theorem az_u7_41 : u_lay RX7 TX7 41 ∈ az_gw := az_g 973 (by decide +kernel) (by decide +kernel)
theorem az_u7_40 : u_lay RX7 TX7 40 ∈ az_gw := az_g 971 (by decide +kernel) (by decide +kernel)
theorem az_u7_39 : u_lay RX7 TX7 39 ∈ az_gw := az_g 969 (by decide +kernel) (by decide +kernel)
theorem az_u7_38 : u_lay RX7 TX7 38 ∈ az_gw := az_g 967 (by decide +kernel) (by decide +kernel)
theorem az_u7_37 : u_lay RX7 TX7 37 ∈ az_gw := az_g 965 (by decide +kernel) (by decide +kernel)
theorem az_u7_36 : u_lay RX7 TX7 36 ∈ az_gw := az_g 963 (by decide +kernel) (by decide +kernel)
theorem az_u7_35 : u_lay RX7 TX7 35 ∈ az_gw := az_g 961 (by decide +kernel) (by decide +kernel)
theorem az_u7_34 : u_lay RX7 TX7 34 ∈ az_gw := az_g 959 (by decide +kernel) (by decide +kernel)
theorem az_u7_33 : u_lay RX7 TX7 33 ∈ az_gw := az_g 957 (by decide +kernel) (by decide +kernel)
theorem az_u7_32 : u_lay RX7 TX7 32 ∈ az_gw := az_g 955 (by decide +kernel) (by decide +kernel)
theorem az_u7_31 : u_lay RX7 TX7 31 ∈ az_gw := az_g 953 (by decide +kernel) (by decide +kernel)
theorem az_u7_30 : u_lay RX7 TX7 30 ∈ az_gw := az_g 951 (by decide +kernel) (by decide +kernel)
theorem az_u7_29 : u_lay RX7 TX7 29 ∈ az_gw := az_g 949 (by decide +kernel) (by decide +kernel)
theorem az_u7_28 : u_lay RX7 TX7 28 ∈ az_gw := az_g 947 (by decide +kernel) (by decide +kernel)
theorem az_u7_27 : u_lay RX7 TX7 27 ∈ az_gw := az_g 945 (by decide +kernel) (by decide +kernel)
theorem az_u7_26 : u_lay RX7 TX7 26 ∈ az_gw := az_g 943 (by decide +kernel) (by decide +kernel)
theorem az_u7_25 : u_lay RX7 TX7 25 ∈ az_gw := az_g 941 (by decide +kernel) (by decide +kernel)
theorem az_u7_24 : u_lay RX7 TX7 24 ∈ az_gw := az_g 939 (by decide +kernel) (by decide +kernel)
theorem az_u7_23 : u_lay RX7 TX7 23 ∈ az_gw := az_g 937 (by decide +kernel) (by decide +kernel)
theorem az_u7_22 : u_lay RX7 TX7 22 ∈ az_gw := az_g 935 (by decide +kernel) (by decide +kernel)
theorem az_u7_21 : u_lay RX7 TX7 21 ∈ az_gw := az_g 933 (by decide +kernel) (by decide +kernel)
theorem az_u7_20 : u_lay RX7 TX7 20 ∈ az_gw := az_g 931 (by decide +kernel) (by decide +kernel)
theorem az_u7_19 : u_lay RX7 TX7 19 ∈ az_gw := az_g 929 (by decide +kernel) (by decide +kernel)
theorem az_u7_18 : u_lay RX7 TX7 18 ∈ az_gw := az_g 927 (by decide +kernel) (by decide +kernel)
theorem az_u7_17 : u_lay RX7 TX7 17 ∈ az_gw := az_g 925 (by decide +kernel) (by decide +kernel)
theorem az_u7_16 : u_lay RX7 TX7 16 ∈ az_gw := az_g 923 (by decide +kernel) (by decide +kernel)
theorem az_u7_15 : u_lay RX7 TX7 15 ∈ az_gw := az_g 921 (by decide +kernel) (by decide +kernel)
theorem az_u7_14 : u_lay RX7 TX7 14 ∈ az_gw := az_g 919 (by decide +kernel) (by decide +kernel)
theorem az_u7_13 : u_lay RX7 TX7 13 ∈ az_gw := az_g 917 (by decide +kernel) (by decide +kernel)
theorem az_u7_12 : u_lay RX7 TX7 12 ∈ az_gw := az_g 915 (by decide +kernel) (by decide +kernel)
theorem az_u7_11 : u_lay RX7 TX7 11 ∈ az_gw := az_g 913 (by decide +kernel) (by decide +kernel)
theorem az_u7_10 : u_lay RX7 TX7 10 ∈ az_gw := az_g 911 (by decide +kernel) (by decide +kernel)
theorem az_u7_9 : u_lay RX7 TX7 9 ∈ az_gw := az_g 909 (by decide +kernel) (by decide +kernel)
theorem az_u7_8 : u_lay RX7 TX7 8 ∈ az_gw := az_g 907 (by decide +kernel) (by decide +kernel)
theorem az_u7_7 : u_lay RX7 TX7 7 ∈ az_gw := az_g 905 (by decide +kernel) (by decide +kernel)
theorem az_u7_6 : u_lay RX7 TX7 6 ∈ az_gw := az_g 903 (by decide +kernel) (by decide +kernel)
theorem az_u7_5 : u_lay RX7 TX7 5 ∈ az_gw := az_g 901 (by decide +kernel) (by decide +kernel)
theorem az_u7_4 : u_lay RX7 TX7 4 ∈ az_gw := az_g 899 (by decide +kernel) (by decide +kernel)
theorem az_u7_3 : u_lay RX7 TX7 3 ∈ az_gw := az_g 897 (by decide +kernel) (by decide +kernel)
theorem az_u7_2 : u_lay RX7 TX7 2 ∈ az_gw := az_g 895 (by decide +kernel) (by decide +kernel)
theorem az_u7_1 : u_lay RX7 TX7 1 ∈ az_gw := az_g 893 (by decide +kernel) (by decide +kernel)
theorem az_u7_0 : u_lay RX7 TX7 0 ∈ az_gw := az_g 891 (by decide +kernel) (by decide +kernel)
theorem az_u6_6 : u_lay RX6 TX6 6 ∈ az_gw := az_g 311 (by decide +kernel) (by decide +kernel)
theorem az_u6_5 : u_lay RX6 TX6 5 ∈ az_gw := az_g 309 (by decide +kernel) (by decide +kernel)
theorem az_u6_4 : u_lay RX6 TX6 4 ∈ az_gw := az_g 307 (by decide +kernel) (by decide +kernel)
theorem az_u6_3 : u_lay RX6 TX6 3 ∈ az_gw := az_g 305 (by decide +kernel) (by decide +kernel)
theorem az_u6_2 : u_lay RX6 TX6 2 ∈ az_gw := az_g 303 (by decide +kernel) (by decide +kernel)
theorem az_u6_1 : u_lay RX6 TX6 1 ∈ az_gw := az_g 301 (by decide +kernel) (by decide +kernel)
theorem az_u6_0 : u_lay RX6 TX6 0 ∈ az_gw := az_g 299 (by decide +kernel) (by decide +kernel)
theorem az_u5_5 : u_lay RX5 TX5 5 ∈ az_gw := az_g 289 (by decide +kernel) (by decide +kernel)
theorem az_u5_4 : u_lay RX5 TX5 4 ∈ az_gw := az_g 287 (by decide +kernel) (by decide +kernel)
theorem az_u5_3 : u_lay RX5 TX5 3 ∈ az_gw := az_g 285 (by decide +kernel) (by decide +kernel)
theorem az_u5_2 : u_lay RX5 TX5 2 ∈ az_gw := az_g 283 (by decide +kernel) (by decide +kernel)
theorem az_u5_1 : u_lay RX5 TX5 1 ∈ az_gw := az_g 281 (by decide +kernel) (by decide +kernel)
theorem az_u5_0 : u_lay RX5 TX5 0 ∈ az_gw := az_g 279 (by decide +kernel) (by decide +kernel)
theorem az_u4_7 : u_lay RX4 TX4 7 ∈ az_gw := az_g 222 (by decide +kernel) (by decide +kernel)
theorem az_u4_6 : u_lay RX4 TX4 6 ∈ az_gw := az_g 220 (by decide +kernel) (by decide +kernel)
theorem az_u4_5 : u_lay RX4 TX4 5 ∈ az_gw := az_g 218 (by decide +kernel) (by decide +kernel)
theorem az_u4_4 : u_lay RX4 TX4 4 ∈ az_gw := az_g 216 (by decide +kernel) (by decide +kernel)
theorem az_u4_3 : u_lay RX4 TX4 3 ∈ az_gw := az_g 214 (by decide +kernel) (by decide +kernel)
theorem az_u4_2 : u_lay RX4 TX4 2 ∈ az_gw := az_g 212 (by decide +kernel) (by decide +kernel)
theorem az_u4_1 : u_lay RX4 TX4 1 ∈ az_gw := az_g 210 (by decide +kernel) (by decide +kernel)
theorem az_u4_0 : u_lay RX4 TX4 0 ∈ az_gw := az_g 208 (by decide +kernel) (by decide +kernel)
theorem az_u3_2 : u_lay RX3 TX3 2 ∈ az_gw := az_g 89 (by decide +kernel) (by decide +kernel)
theorem az_u3_1 : u_lay RX3 TX3 1 ∈ az_gw := az_g 87 (by decide +kernel) (by decide +kernel)
theorem az_u3_0 : u_lay RX3 TX3 0 ∈ az_gw := az_g 85 (by decide +kernel) (by decide +kernel)
theorem az_u2_8 : u_lay RX2 TX2 8 ∈ az_gw := az_g 135 (by decide +kernel) (by decide +kernel)
theorem az_u2_7 : u_lay RX2 TX2 7 ∈ az_gw := az_g 133 (by decide +kernel) (by decide +kernel)
theorem az_u2_6 : u_lay RX2 TX2 6 ∈ az_gw := az_g 131 (by decide +kernel) (by decide +kernel)
theorem az_u2_5 : u_lay RX2 TX2 5 ∈ az_gw := az_g 129 (by decide +kernel) (by decide +kernel)
theorem az_u2_4 : u_lay RX2 TX2 4 ∈ az_gw := az_g 127 (by decide +kernel) (by decide +kernel)
theorem az_u2_3 : u_lay RX2 TX2 3 ∈ az_gw := az_g 125 (by decide +kernel) (by decide +kernel)
theorem az_u2_2 : u_lay RX2 TX2 2 ∈ az_gw := az_g 123 (by decide +kernel) (by decide +kernel)
theorem az_u2_1 : u_lay RX2 TX2 1 ∈ az_gw := az_g 121 (by decide +kernel) (by decide +kernel)
theorem az_u2_0 : u_lay RX2 TX2 0 ∈ az_gw := az_g 119 (by decide +kernel) (by decide +kernel)
theorem az_u1_9 : u_lay RX1 TX1 9 ∈ az_gw := az_g 183 (by decide +kernel) (by decide +kernel)
theorem az_u1_8 : u_lay RX1 TX1 8 ∈ az_gw := az_g 181 (by decide +kernel) (by decide +kernel)
theorem az_u1_7 : u_lay RX1 TX1 7 ∈ az_gw := az_g 179 (by decide +kernel) (by decide +kernel)
theorem az_u1_6 : u_lay RX1 TX1 6 ∈ az_gw := az_g 177 (by decide +kernel) (by decide +kernel)
theorem az_u1_5 : u_lay RX1 TX1 5 ∈ az_gw := az_g 175 (by decide +kernel) (by decide +kernel)
theorem az_u1_4 : u_lay RX1 TX1 4 ∈ az_gw := az_g 173 (by decide +kernel) (by decide +kernel)
theorem az_u1_3 : u_lay RX1 TX1 3 ∈ az_gw := az_g 171 (by decide +kernel) (by decide +kernel)
theorem az_u1_2 : u_lay RX1 TX1 2 ∈ az_gw := az_g 169 (by decide +kernel) (by decide +kernel)
theorem az_u1_1 : u_lay RX1 TX1 1 ∈ az_gw := az_g 167 (by decide +kernel) (by decide +kernel)
theorem az_u1_0 : u_lay RX1 TX1 0 ∈ az_gw := az_g 165 (by decide +kernel) (by decide +kernel)
theorem az_u0_7 : u_lay RX0 TX0 7 ∈ az_gw := az_g 257 (by decide +kernel) (by decide +kernel)
theorem az_u0_6 : u_lay RX0 TX0 6 ∈ az_gw := az_g 255 (by decide +kernel) (by decide +kernel)
theorem az_u0_5 : u_lay RX0 TX0 5 ∈ az_gw := az_g 253 (by decide +kernel) (by decide +kernel)
theorem az_u0_4 : u_lay RX0 TX0 4 ∈ az_gw := az_g 251 (by decide +kernel) (by decide +kernel)
theorem az_u0_3 : u_lay RX0 TX0 3 ∈ az_gw := az_g 249 (by decide +kernel) (by decide +kernel)
theorem az_u0_2 : u_lay RX0 TX0 2 ∈ az_gw := az_g 247 (by decide +kernel) (by decide +kernel)
theorem az_u0_1 : u_lay RX0 TX0 1 ∈ az_gw := az_g 245 (by decide +kernel) (by decide +kernel)
theorem az_u0_0 : u_lay RX0 TX0 0 ∈ az_gw := az_g 243 (by decide +kernel) (by decide +kernel)
theorem az_u (c j : Nat) (hc : c < 8) (hj : j < az_N c) : u_lay (az_R c) (az_T c) j ∈ az_gw := by
  match c, hc with
  | 0, _ => exact (match j, hj with
    | 0, _ => az_u0_0
    | 1, _ => az_u0_1
    | 2, _ => az_u0_2
    | 3, _ => az_u0_3
    | 4, _ => az_u0_4
    | 5, _ => az_u0_5
    | 6, _ => az_u0_6
    | 7, _ => az_u0_7
    | j + 8, h => absurd h (by show ¬ (j + 8 < 8); omega))
  | 1, _ => exact (match j, hj with
    | 0, _ => az_u1_0
    | 1, _ => az_u1_1
    | 2, _ => az_u1_2
    | 3, _ => az_u1_3
    | 4, _ => az_u1_4
    | 5, _ => az_u1_5
    | 6, _ => az_u1_6
    | 7, _ => az_u1_7
    | 8, _ => az_u1_8
    | 9, _ => az_u1_9
    | j + 10, h => absurd h (by show ¬ (j + 10 < 10); omega))
  | 2, _ => exact (match j, hj with
    | 0, _ => az_u2_0
    | 1, _ => az_u2_1
    | 2, _ => az_u2_2
    | 3, _ => az_u2_3
    | 4, _ => az_u2_4
    | 5, _ => az_u2_5
    | 6, _ => az_u2_6
    | 7, _ => az_u2_7
    | 8, _ => az_u2_8
    | j + 9, h => absurd h (by show ¬ (j + 9 < 9); omega))
  | 3, _ => exact (match j, hj with
    | 0, _ => az_u3_0
    | 1, _ => az_u3_1
    | 2, _ => az_u3_2
    | j + 3, h => absurd h (by show ¬ (j + 3 < 3); omega))
  | 4, _ => exact (match j, hj with
    | 0, _ => az_u4_0
    | 1, _ => az_u4_1
    | 2, _ => az_u4_2
    | 3, _ => az_u4_3
    | 4, _ => az_u4_4
    | 5, _ => az_u4_5
    | 6, _ => az_u4_6
    | 7, _ => az_u4_7
    | j + 8, h => absurd h (by show ¬ (j + 8 < 8); omega))
  | 5, _ => exact (match j, hj with
    | 0, _ => az_u5_0
    | 1, _ => az_u5_1
    | 2, _ => az_u5_2
    | 3, _ => az_u5_3
    | 4, _ => az_u5_4
    | 5, _ => az_u5_5
    | j + 6, h => absurd h (by show ¬ (j + 6 < 6); omega))
  | 6, _ => exact (match j, hj with
    | 0, _ => az_u6_0
    | 1, _ => az_u6_1
    | 2, _ => az_u6_2
    | 3, _ => az_u6_3
    | 4, _ => az_u6_4
    | 5, _ => az_u6_5
    | 6, _ => az_u6_6
    | j + 7, h => absurd h (by show ¬ (j + 7 < 7); omega))
  | 7, _ => exact (match j, hj with
    | 0, _ => az_u7_0
    | 1, _ => az_u7_1
    | 2, _ => az_u7_2
    | 3, _ => az_u7_3
    | 4, _ => az_u7_4
    | 5, _ => az_u7_5
    | 6, _ => az_u7_6
    | 7, _ => az_u7_7
    | 8, _ => az_u7_8
    | 9, _ => az_u7_9
    | 10, _ => az_u7_10
    | 11, _ => az_u7_11
    | 12, _ => az_u7_12
    | 13, _ => az_u7_13
    | 14, _ => az_u7_14
    | 15, _ => az_u7_15
    | 16, _ => az_u7_16
    | 17, _ => az_u7_17
    | 18, _ => az_u7_18
    | 19, _ => az_u7_19
    | 20, _ => az_u7_20
    | 21, _ => az_u7_21
    | 22, _ => az_u7_22
    | 23, _ => az_u7_23
    | 24, _ => az_u7_24
    | 25, _ => az_u7_25
    | 26, _ => az_u7_26
    | 27, _ => az_u7_27
    | 28, _ => az_u7_28
    | 29, _ => az_u7_29
    | 30, _ => az_u7_30
    | 31, _ => az_u7_31
    | 32, _ => az_u7_32
    | 33, _ => az_u7_33
    | 34, _ => az_u7_34
    | 35, _ => az_u7_35
    | 36, _ => az_u7_36
    | 37, _ => az_u7_37
    | 38, _ => az_u7_38
    | 39, _ => az_u7_39
    | 40, _ => az_u7_40
    | 41, _ => az_u7_41
    | 42, _ => az_u7_42
    | 43, _ => az_u7_43
    | 44, _ => az_u7_44
    | 45, _ => az_u7_45
    | j + 46, h => absurd h (by show ¬ (j + 46 < 46); omega))
  | c + 8, h => omega
theorem az_uin (c : Nat) (hc : c < 8) : ∀ w ∈ u_ws (az_R c) (az_T c) (az_N c), w ∈ az_gw := by
  intro w hw
  obtain ⟨j, h1, h2⟩ := List.mem_map.mp hw
  rw [← h2]
  exact az_u c j hc (List.mem_range.mp h1)
theorem az_clg (c : Nat) (hc : c < 8) : az_cl[c]? = some (az_R c, az_T c, az_N c) := by
  match c, hc with
  | 0, _ => rfl
  | 1, _ => rfl
  | 2, _ => rfl
  | 3, _ => rfl
  | 4, _ => rfl
  | 5, _ => rfl
  | 6, _ => rfl
  | 7, _ => rfl
  | c + 8, h => omega
theorem az_tyk (c : Nat) (hc : c < 8) : ∀ j, j < az_N c → parseFieldDescriptor (az_T c j).2.2.1 = some (az_ty c j) := by
  match c, hc with
  | 0, _ => exact tyX0_ok
  | 1, _ => exact tyX1_ok
  | 2, _ => exact tyX2_ok
  | 3, _ => exact tyX3_ok
  | 4, _ => exact tyX4_ok
  | 5, _ => exact tyX5_ok
  | 6, _ => exact tyX6_ok
  | 7, _ => exact tyX7_ok
  | c + 8, h => omega
theorem az_nmk (c : Nat) (hc : c < 8) : ∀ a, a < az_N c → ∀ b, b < az_N c → a ≠ b → (az_T c a).2.1 ≠ (az_T c b).2.1 := by
  match c, hc with
  | 0, _ => exact nmX0
  | 1, _ => exact nmX1
  | 2, _ => exact nmX2
  | 3, _ => exact nmX3
  | 4, _ => exact nmX4
  | 5, _ => exact nmX5
  | 6, _ => exact nmX6
  | 7, _ => exact nmX7
  | c + 8, h => omega
theorem az_ins (c : Nat) (hc : c < 8) : Jvm.Cond.instantiable (az_R c) (az_N c) ∈ az_gw ∧ Jvm.Cond.initialized (az_R c) ∈ az_gw := by
  match c, hc with
  | 0, _ => exact ⟨az_g 226 (by decide +kernel) (by decide +kernel), az_g 50 (by decide +kernel) (by decide +kernel)⟩
  | 1, _ => exact ⟨az_g 140 (by decide +kernel) (by decide +kernel), az_g 48 (by decide +kernel) (by decide +kernel)⟩
  | 2, _ => exact ⟨az_g 94 (by decide +kernel) (by decide +kernel), az_g 47 (by decide +kernel) (by decide +kernel)⟩
  | 3, _ => exact ⟨az_g 71 (by decide +kernel) (by decide +kernel), az_g 46 (by decide +kernel) (by decide +kernel)⟩
  | 4, _ => exact ⟨az_g 187 (by decide +kernel) (by decide +kernel), az_g 49 (by decide +kernel) (by decide +kernel)⟩
  | 5, _ => exact ⟨az_g 261 (by decide +kernel) (by decide +kernel), az_g 51 (by decide +kernel) (by decide +kernel)⟩
  | 6, _ => exact ⟨az_g 63 (by decide +kernel) (by decide +kernel), az_g 45 (by decide +kernel) (by decide +kernel)⟩
  | 7, _ => exact ⟨az_g 839 (by decide +kernel) (by decide +kernel), az_g 52 (by decide +kernel) (by decide +kernel)⟩
  | c + 8, h => omega
theorem az_ac_int : Jvm.Cond.arrayClass .int ∈ az_gw := az_g 92 (by decide +kernel) (by decide +kernel)
theorem az_ac_boolean : Jvm.Cond.arrayClass .boolean ∈ az_gw := az_g 138 (by decide +kernel) (by decide +kernel)
theorem az_ac_long : Jvm.Cond.arrayClass .long ∈ az_gw := az_g 1199 (by decide +kernel) (by decide +kernel)
theorem az_max : Jvm.Cond.static Lib.Math.max.name ∈ az_gw ∧ Jvm.Cond.initialized "java/lang/Math" ∈ az_gw ∧ Jvm.Cond.code Lib.Math.max.name Lib.Math.max.code 2 (some .int) ∈ az_gw := ⟨az_g 536 (by decide +kernel) (by decide +kernel), az_g 59 (by decide +kernel) (by decide +kernel), az_g 537 (by decide +kernel) (by decide +kernel)⟩
theorem az_min : Jvm.Cond.static Lib.Math.min.name ∈ az_gw ∧ Jvm.Cond.initialized "java/lang/Math" ∈ az_gw ∧ Jvm.Cond.code Lib.Math.min.name Lib.Math.min.code 2 (some .int) ∈ az_gw := ⟨az_g 539 (by decide +kernel) (by decide +kernel), az_g 59 (by decide +kernel) (by decide +kernel), az_g 540 (by decide +kernel) (by decide +kernel)⟩
theorem az_obi : Jvm.Cond.instanceMethod Lib.objectInit ∈ az_gw ∧ Jvm.Cond.code Lib.objectInit ⟨#[0xb1]⟩ 1 none ∈ az_gw := ⟨az_g 68 (by decide +kernel) (by decide +kernel), az_g 69 (by decide +kernel) (by decide +kernel)⟩
theorem az_kcw : ∀ q ∈ az_kcs, Jvm.Cond.constant (az_R q.1) q.2.1 q.2.2 ∈ az_gw := List.forall_mem_cons.mpr ⟨az_g 700 (by decide +kernel) (by decide +kernel), List.forall_mem_cons.mpr ⟨az_g 844 (by decide +kernel) (by decide +kernel), List.forall_mem_cons.mpr ⟨az_g 1017 (by decide +kernel) (by decide +kernel), List.forall_mem_cons.mpr ⟨az_g 1118 (by decide +kernel) (by decide +kernel), List.forall_mem_cons.mpr ⟨az_g 562 (by decide +kernel) (by decide +kernel), List.forall_mem_cons.mpr ⟨az_g 563 (by decide +kernel) (by decide +kernel), List.forall_mem_cons.mpr ⟨az_g 564 (by decide +kernel) (by decide +kernel), fun _ h => absurd h List.not_mem_nil⟩⟩⟩⟩⟩⟩⟩
end
section
/-! a small machine of its own: cells by number, their shapes, their numbers; every step of it is a step of the machine (part 08) -/
abbrev az_Shp : Type := Nat × Nat × List (Option (Option Nat))
abbrev az_G : Type := List az_Shp × (Nat → Nat → Int32) × (Nat → Nat → Int64) × Nat × Nat
abbrev az_Ls : Type := List (Option Value)
abbrev az_O : Type := Nat × Option Value × az_G
abbrev az_Nx : Type := Nat × az_Ls × List Value × az_G
abbrev az_X : Type := Nat × (Nat → Int32)
def az_scr : Nat := 1000000
def az_up (I : Nat → Nat → Int32) (a k : Nat) (x : Int32) : Nat → Nat → Int32 := fun b j => if b = a ∧ j = k then x else I b j
def az_upJ (J : Nat → Nat → Int64) (a k : Nat) (x : Int64) : Nat → Nat → Int64 := fun b j => if b = a ∧ j = k then x else J b j
def az_clr (I : Nat → Nat → Int32) (a : Nat) : Nat → Nat → Int32 := fun b j => if a ≤ b then 0 else I b j
def az_clrJ (J : Nat → Nat → Int64) (a : Nat) : Nat → Nat → Int64 := fun b j => if a ≤ b then 0 else J b j
def az_in (x : Int32) (n : Nat) : Bool := decide (¬ (x < 0 ∨ n ≤ x.toNatClampNeg))
def az_cat (l : List Value) : Nat := (l.map fun v => v.category).sum
def az_b2 (f : Int32 → Int32 → Int32) (nx : Nat) (L : az_Ls) (st : List Value) (G : az_G) : Option az_Nx := match st with
  | .int y :: .int x :: r => some (nx, L, .int (f x y) :: r, G)
  | _ => none
def az_dv (f : Int32 → Int32 → Int32) (nx : Nat) (L : az_Ls) (st : List Value) (G : az_G) : Option az_Nx := match st with
  | .int y :: .int x :: r => if y = 0 then none else some (nx, L, .int (f x y) :: r, G)
  | _ => none
def az_ild (n nx : Nat) (L : az_Ls) (st : List Value) (G : az_G) : Option az_Nx := match L[n]? with
  | some (some (.int x)) => some (nx, L, .int x :: st, G)
  | _ => none
def az_ald (n nx : Nat) (L : az_Ls) (st : List Value) (G : az_G) : Option az_Nx := match L[n]? with
  | some (some (.ref x)) => some (nx, L, .ref x :: st, G)
  | _ => none
def az_ist (n nx : Nat) (L : az_Ls) (st : List Value) (G : az_G) : Option az_Nx := match st with
  | .int x :: r => if n < L.length then some (nx, L.set n (some (.int x)), r, G) else none
  | _ => none
def az_ast (n nx : Nat) (L : az_Ls) (st : List Value) (G : az_G) : Option az_Nx := match st with
  | .ref x :: r => if n < L.length then some (nx, L.set n (some (.ref x)), r, G) else none
  | _ => none
def az_inc (n : Nat) (v : Int) (nx : Nat) (L : az_Ls) (st : List Value) (G : az_G) : Option az_Nx := match L[n]? with
  | some (some (.int x)) => some (nx, L.set n (some (.int (x + Int32.ofInt v))), st, G)
  | _ => none
def az_br (b : Bool) (off : Int) (pc nx : Nat) (L : az_Ls) (st : List Value) (G : az_G) : Option az_Nx :=
  if 0 ≤ (pc : Int) + off then (if b then some (((pc : Int) + off).toNat, L, st, G) else some (nx, L, st, G)) else none
def az_if1 (f : Int32 → Bool) (off : Int) (pc nx : Nat) (L : az_Ls) (st : List Value) (G : az_G) : Option az_Nx := match st with
  | .int x :: r => az_br (f x) off pc nx L r G
  | _ => none
def az_if2 (f : Int32 → Int32 → Bool) (off : Int) (pc nx : Nat) (L : az_Ls) (st : List Value) (G : az_G) : Option az_Nx := match st with
  | .int y :: .int x :: r => az_br (f x y) off pc nx L r G
  | _ => none
def az_tsw (d lo hi : Int) (offs : Array Int) (pc : Nat) (L : az_Ls) (st : List Value) (G : az_G) : Option az_Nx := match st with
  | .int x :: r =>
    if x.toInt < lo ∨ hi < x.toInt then az_br true d pc 0 L r G else
    match offs[(x.toInt - lo).toNat]? with
    | some off => az_br true off pc 0 L r G
    | none => none
  | _ => none
/-- what a field holds -/
def az_gfl (S : List az_Shp) (I : Nat → Nat → Int32) (a ci j : Nat) : Option Value := match S[a]? with
  | some (0, c, sl) => if c = ci then (match sl[j]? with
    | some none => some (.int (I a j))
    | some (some (some r)) => some (.ref r)
    | _ => none) else none
  | _ => none
def az_gf (k x nx : Nat) (L : az_Ls) (st : List Value) (G : az_G) : Option az_Nx := match az_lk (az_own k) x, st with
  | some (0, ci, j), .ref a :: r => (match az_gfl G.1 G.2.1 a ci j with
    | some v => some (nx, L, v :: r, G)
    | none => none)
  | _, _ => none
def az_wr (k ci j : Nat) : Bool := (az_T ci j).2.2.2 == false || ((az_y k).name == "<init>" && (az_T ci j).1 == az_R (az_own k))
/-- a number goes into a field -/
def az_pfi (S : List az_Shp) (k a ci j : Nat) : Bool := match S[a]? with
  | some (0, c, sl) => c == ci && az_wr k ci j && decide (az_ty ci j = .int) && (match sl[j]? with
    | some none => true
    | _ => false)
  | _ => false
/-- a cell's number goes into a field -/
def az_pfr (S : List az_Shp) (k a ci j r : Nat) : Option (List az_Shp) := match S[a]? with
  | some (0, c, sl) => if c = ci ∧ az_wr k ci j = true ∧ (az_ty ci j).isReference = true ∧ r < S.length then (match sl[j]? with
    | some (some _) => some (S.set a (0, c, sl.set j (some (some r))))
    | _ => none) else none
  | _ => none
def az_pf (k x nx : Nat) (L : az_Ls) (st : List Value) (G : az_G) : Option az_Nx := match az_lk (az_own k) x, st with
  | some (0, ci, j), .int v :: .ref a :: r => if az_pfi G.1 k a ci j = true then some (nx, L, r, (G.1, az_up G.2.1 a j v, G.2.2)) else none
  | some (0, ci, j), .ref v :: .ref a :: r => (match az_pfr G.1 k a ci j v with
    | some S => some (nx, L, r, (S, G.2))
    | none => none)
  | _, _ => none
/-- an array's kind and length -/
def az_isA (S : List az_Shp) (kd a : Nat) (i : Int32) : Bool := match S[a]? with
  | some (d, n, _) => d == kd && az_in i n
  | none => false
def az_ial (xs : az_X) (kd k nx : Nat) (L : az_Ls) (st : List Value) (G : az_G) : Option az_Nx := match st with
  | .int i :: .ref a :: r =>
    if k = az_main then (if a = az_scr ∧ az_in i xs.1 = true ∧ kd = 1 then some (nx, L, .int (xs.2 i.toNatClampNeg) :: r, G) else none)
    else if az_isA G.1 kd a i = true then some (nx, L, .int (G.2.1 a i.toNatClampNeg) :: r, G) else none
  | _ => none
def az_lal (nx : Nat) (L : az_Ls) (st : List Value) (G : az_G) : Option az_Nx := match st with
  | .int i :: .ref a :: r => if az_isA G.1 3 a i = true then some (nx, L, .long (G.2.2.1 a i.toNatClampNeg) :: r, G) else none
  | _ => none
def az_aal (nx : Nat) (L : az_Ls) (st : List Value) (G : az_G) : Option az_Nx := match st with
  | .int i :: .ref a :: r => (match G.1[a]? with
    | some (4, n, sl) => if az_in i n = true then (match sl[i.toNatClampNeg]? with
      | some (some (some q)) => some (nx, L, .ref q :: r, G)
      | _ => none) else none
    | _ => none)
  | _ => none
def az_iast (nx : Nat) (L : az_Ls) (st : List Value) (G : az_G) : Option az_Nx := match st with
  | .int x :: .int i :: .ref a :: r => if az_isA G.1 1 a i = true then some (nx, L, r, (G.1, az_up G.2.1 a i.toNatClampNeg x, G.2.2)) else none
  | _ => none
def az_bast (nx : Nat) (L : az_Ls) (st : List Value) (G : az_G) : Option az_Nx := match st with
  | .int x :: .int i :: .ref a :: r => if az_isA G.1 2 a i = true then some (nx, L, r, (G.1, az_up G.2.1 a i.toNatClampNeg (vp_nar .boolean x), G.2.2)) else none
  | _ => none
def az_last (nx : Nat) (L : az_Ls) (st : List Value) (G : az_G) : Option az_Nx := match st with
  | .long x :: .int i :: .ref a :: r => if az_isA G.1 3 a i = true then some (nx, L, r, (G.1, G.2.1, az_upJ G.2.2.1 a i.toNatClampNeg x, G.2.2.2)) else none
  | _ => none
def az_len (xs : az_X) (k nx : Nat) (L : az_Ls) (st : List Value) (G : az_G) : Option az_Nx := match st with
  | .ref a :: r => if k = az_main then (if a = az_scr then some (nx, L, .int (Int32.ofNat xs.1) :: r, G) else none)
    else (match G.1[a]? with
    | some (1, n, _) => some (nx, L, .int (Int32.ofNat n) :: r, G)
    | _ => none)
  | _ => none
def az_df (ci : Nat) : List (Option (Option Nat)) := (List.range (az_N ci)).map fun j => if az_ty ci j = .int then none else some none
def az_new (k x nx : Nat) (L : az_Ls) (st : List Value) (G : az_G) : Option az_Nx := match az_lk (az_own k) x with
  | some (5, ci, _) => if G.1.length < 100000 then some (nx, L, .ref G.1.length :: st, (G.1 ++ [(0, ci, az_df ci)], az_clr G.2.1 G.1.length, G.2.2.1, G.2.2.2.1 + 1, G.2.2.2.2 + az_N ci)) else none
  | _ => none
def az_nwa (kd nx : Nat) (L : az_Ls) (st : List Value) (G : az_G) : Option az_Nx := match st with
  | .int n :: r => if ¬ n < 0 ∧ n.toNatClampNeg ≤ 100000 ∧ G.1.length < 100000 then some (nx, L, .ref G.1.length :: r, (G.1 ++ [(kd, n.toNatClampNeg, [])], az_clr G.2.1 G.1.length, az_clrJ G.2.2.1 G.1.length, G.2.2.2.1 + 1, G.2.2.2.2 + n.toNatClampNeg)) else none
  | _ => none
def az_nwm (k x nx : Nat) (L : az_Ls) (st : List Value) (G : az_G) : Option az_Nx := match az_lk (az_own k) x, st with
  | some (7, _, _), .int m :: .int n :: r => if ¬ n < 0 ∧ ¬ m < 0 ∧ n.toNatClampNeg ≤ 1000 ∧ m.toNatClampNeg ≤ 1000 ∧ G.1.length < 100000 then
      some (nx, L, .ref G.1.length :: r, ((G.1 ++ [(4, n.toNatClampNeg, (List.range n.toNatClampNeg).map fun j => some (some (G.1.length + 1 + j)))]) ++ List.replicate n.toNatClampNeg (1, m.toNatClampNeg, []), az_clr G.2.1 G.1.length, G.2.2.1, G.2.2.2.1 + 1 + n.toNatClampNeg, G.2.2.2.2 + n.toNatClampNeg + n.toNatClampNeg * m.toNatClampNeg)) else none
  | _, _ => none
def az_mth (k x nx : Nat) (L : az_Ls) (st : List Value) (G : az_G) : Option az_Nx := match az_lk (az_own k) x, st with
  | some (2, _, _), .int b :: .int a :: r => if az_cat r ≤ 8 then some (nx, L, .int (if a < b then b else a) :: r, G) else none
  | some (3, _, _), .int b :: .int a :: r => if az_cat r ≤ 8 then some (nx, L, .int (if b < a then b else a) :: r, G) else none
  | _, _ => none
def az_oin (k x nx : Nat) (L : az_Ls) (st : List Value) (G : az_G) : Option az_Nx := match az_lk (az_own k) x, st with
  | some (4, _, _), .ref _ :: r => if az_cat r ≤ 8 then some (nx, L, r, G) else none
  | _, _ => none
def az_stp (xs : az_X) (k : Nat) (i : Instr) (pc nx : Nat) (L : az_Ls) (st : List Value) (G : az_G) : Option az_Nx := match i with
  | .iconst n => some (nx, L, .int (Int32.ofInt n) :: st, G)
  | .bipush n => some (nx, L, .int (Int8.ofInt n).toInt32 :: st, G)
  | .sipush n => some (nx, L, .int (Int16.ofInt n).toInt32 :: st, G)
  | .ldc x => (az_kc (az_own k) x).map fun v => (nx, L, .int v :: st, G)
  | .ldc_w x => (az_kc (az_own k) x).map fun v => (nx, L, .int v :: st, G)
  | .lconst n => some (nx, L, .long (Int64.ofNat (n : Nat)) :: st, G)
  | .iload n => az_ild n nx L st G
  | .iload_n n => az_ild n.val nx L st G
  | .aload n => az_ald n nx L st G
  | .aload_n n => az_ald n.val nx L st G
  | .istore n => az_ist n nx L st G
  | .istore_n n => az_ist n.val nx L st G
  | .astore n => az_ast n nx L st G
  | .astore_n n => az_ast n.val nx L st G
  | .iinc n v => az_inc n v nx L st G
  | .iadd => az_b2 (fun x y => x + y) nx L st G
  | .isub => az_b2 (fun x y => x - y) nx L st G
  | .imul => az_b2 (fun x y => x * y) nx L st G
  | .iand => az_b2 (fun x y => x &&& y) nx L st G
  | .ior => az_b2 (fun x y => x ||| y) nx L st G
  | .ixor => az_b2 (fun x y => x ^^^ y) nx L st G
  | .ishl => az_b2 (fun x y => x <<< (y &&& 31)) nx L st G
  | .ishr => az_b2 (fun x y => x >>> (y &&& 31)) nx L st G
  | .iushr => az_b2 (fun x y => (x.toUInt32 >>> (y.toUInt32 &&& Int32.toUInt32 31)).toInt32) nx L st G
  | .idiv => az_dv (fun x y => x / y) nx L st G
  | .irem => az_dv (fun x y => x - x / y * y) nx L st G
  | .ineg => (match st with
    | .int x :: r => some (nx, L, .int (-x) :: r, G)
    | _ => none)
  | .i2l => (match st with
    | .int x :: r => some (nx, L, .long x.toInt64 :: r, G)
    | _ => none)
  | .lcmp => (match st with
    | .long y :: .long x :: r => some (nx, L, .int (lg_cmp x y) :: r, G)
    | _ => none)
  | .ifCond .eq off => az_if1 (fun x => decide (x = 0)) off pc nx L st G
  | .ifCond .ne off => az_if1 (fun x => decide (¬ x = 0)) off pc nx L st G
  | .ifCond .lt off => az_if1 (fun x => decide (x < 0)) off pc nx L st G
  | .ifCond .ge off => az_if1 (fun x => decide (0 ≤ x)) off pc nx L st G
  | .ifCond .gt off => az_if1 (fun x => decide (0 < x)) off pc nx L st G
  | .ifCond .le off => az_if1 (fun x => decide (x ≤ 0)) off pc nx L st G
  | .if_icmp .eq off => az_if2 (fun x y => decide (x = y)) off pc nx L st G
  | .if_icmp .ne off => az_if2 (fun x y => decide (¬ x = y)) off pc nx L st G
  | .if_icmp .lt off => az_if2 (fun x y => decide (x < y)) off pc nx L st G
  | .if_icmp .ge off => az_if2 (fun x y => decide (y ≤ x)) off pc nx L st G
  | .if_icmp .gt off => az_if2 (fun x y => decide (y < x)) off pc nx L st G
  | .if_icmp .le off => az_if2 (fun x y => decide (x ≤ y)) off pc nx L st G
  | .goto off => az_br true off pc nx L st G
  | .tableswitch d lo hi offs => az_tsw d lo hi offs pc L st G
  | .dup => (match st with
    | v :: r => if v.category = 1 then some (nx, L, v :: v :: r, G) else none
    | _ => none)
  | .dup2 => (match st with
    | v :: w :: r => if v.category = 1 ∧ w.category = 1 then some (nx, L, v :: w :: v :: w :: r, G) else none
    | _ => none)
  | .getfield x => az_gf k x nx L st G
  | .putfield x => az_pf k x nx L st G
  | .iaload => az_ial xs 1 k nx L st G
  | .baload => az_ial xs 2 k nx L st G
  | .laload => az_lal nx L st G
  | .aaload => az_aal nx L st G
  | .iastore => az_iast nx L st G
  | .bastore => az_bast nx L st G
  | .lastore => az_last nx L st G
  | .arraylength => az_len xs k nx L st G
  | .new x => az_new k x nx L st G
  | .newarray .int => az_nwa 1 nx L st G
  | .newarray .boolean => az_nwa 2 nx L st G
  | .newarray .long => az_nwa 3 nx L st G
  | .multianewarray x 2 => az_nwm k x nx L st G
  | .invokestatic x => az_mth k x nx L st G
  | .invokespecial x => az_oin k x nx L st G
  | _ => none
def az_rcv (S : List az_Shp) (m : Nat) (as : List Value) : Bool := match as with
  | .ref b :: _ => (match S[b]? with
    | some (0, ci, _) => ci == az_own m
    | _ => false)
  | _ => false
def az_cl1 (kd o x : Nat) (st : List Value) (S : List az_Shp) : Option (Nat × List Value × List Value) := match az_lk o x with
  | some (1, m, t) => if t ≤ st.length ∧ (az_kd m = kd ∨ (kd = 1 ∧ az_kd m = 3)) ∧ az_cat (st.drop t) ≤ 8 ∧ az_cat (st.take t) = t ∧ (kd = 1 ∨ az_rcv S m (st.take t).reverse = true) then some (m, (st.take t).reverse, st.drop t) else none
  | _ => none
def az_cal (k : Nat) (i : Instr) (st : List Value) (S : List az_Shp) : Option (Nat × List Value × List Value) := match i with
  | .invokevirtual x => az_cl1 0 (az_own k) x st S
  | .invokestatic x => az_cl1 1 (az_own k) x st S
  | .invokespecial x => az_cl1 2 (az_own k) x st S
  | _ => none
def az_end (k : Nat) (i : Instr) (pc : Nat) (st : List Value) (G : az_G) : Option az_O := match i with
  | .ireturn => (match st with
    | [.int v] => if az_rt k = 1 ∨ (az_rt k = 2 ∧ narrow .boolean (.int v) = .int v) then some (0, some (.int v), G) else none
    | _ => none)
  | .return_ => (match st with
    | [] => if az_rt k = 0 then some (0, none, G) else none
    | _ => none)
  | .new _ => (match st with
    | [] => (az_thr k pc).map fun E => (E, none, (G.1, G.2.1, G.2.2.1, G.2.2.2.1 + 1, G.2.2.2.2 + 6))
    | _ => none)
  | _ => none
def az_lay (m : Nat) (as : List Value) : az_Ls := as.map some ++ List.replicate (az_ml m - as.length) none
def az_hnd (k pc E : Nat) : Option (Nat × Nat) := ((az_xt k).find? (fun q => decide (q.1 ≤ pc) && decide (pc < q.2.1) && q.2.2.1 == E)).map fun q => q.2.2.2
def az_il (i : Instr) (len : Nat) : Bool := match i with
  | .bipush _ | .ldc _ | .iload _ | .aload _ | .istore _ | .astore _ | .newarray _ => len == 2
  | .sipush _ | .ldc_w _ | .iinc _ _ | .ifCond _ _ | .if_icmp _ _ | .goto _ | .getfield _ | .putfield _ | .new _ | .invokestatic _ | .invokespecial _ | .invokevirtual _ => len == 3
  | .multianewarray _ _ => len == 4
  | .tableswitch _ _ _ _ => true
  | _ => len == 1
def az_run (xs : az_X) : Nat → Nat → Nat → Nat → az_Ls → List Value → az_G → Option az_O
  | 0, _, _, _, _, _, _ => none
  | f + 1, d, k, pc, L, st, G => match decode (az_code k) pc with
    | .ok (i, len) => if az_il i len = true then (match az_end k i pc st G with
      | some o => some o
      | none => (match az_cal k i st G.1 with
        | some (m, as, rest) => (match d with
          | 0 => none
          | d + 1 => (match az_run xs f d m 0 (az_lay m as) [] G with
            | none => none
            | some o => if o.1 = 0 then az_run xs f (d + 1) k (pc + len) L (o.2.1.toList ++ rest) o.2.2 else (match az_hnd k pc o.1 with
              | some (n, nx) => az_run xs f (d + 1) k nx (L.set n none) [] o.2.2
              | none => if az_xt k = [] ∧ k ≠ az_main then some (o.1, none, o.2.2) else none)))
        | none => (match az_stp xs k i pc (pc + len) L st G with
          | some q => az_run xs f d k q.1 q.2.1 q.2.2.1 q.2.2.2
          | none => none))) else none
    | .error _ => none
end
section
/-! the small machine's cells as a world of the machine -/
def az_c (ad : Nat → Nat) : Value → Value
  | .ref a => .ref (ad a)
  | v => v
def az_ok (n : Nat) : Value → Prop
  | .ref a => a < n ∨ a = az_scr
  | _ => True
def az_fv (ad : Nat → Nat) (x : Int32) : Option (Option Nat) → Value
  | none => .int x
  | some r => va_rf (r.map ad)
def az_E (cy : Nat → ClassId) (ad : Nat → Nat) (I : Nat → Nat → Int32) (J : Nat → Nat → Int64) (a : Nat) (sh : az_Shp) : va_E := match sh.1 with
  | 0 => .inr (sh.2.1, (List.range sh.2.2.length).map fun j => az_fv ad (I a j) (sh.2.2.getD j none))
  | 1 => .inl (cy 0, sh.2.1, .inl (I a))
  | 2 => .inl (cy 1, sh.2.1, .inl (I a))
  | 3 => .inl (cy 2, sh.2.1, .inr (.inl (J a)))
  | _ => .inl (cy 3, sh.2.1, .inr (.inr (.inr (.inr fun j => ((sh.2.2.getD j none).getD none).map ad))))
def az_w (cy : Nat → ClassId) (ad : Nat → Nat) (G : az_G) : va_W := (List.range G.1.length).map fun a => (ad a, az_E cy ad G.2.1 G.2.2.1 a (G.1.getD a (0, 0, [])))
def az_wf (S : List az_Shp) : Prop := ∀ sh ∈ S, ∀ r : Nat, some (some r) ∈ sh.2.2 → r < S.length
def az_tl (cy : Nat → ClassId) : List (ClassId × FieldType) := [(cy 0, .int), (cy 1, .boolean), (cy 2, .long), (cy 3, .array .int)]
def az_Lr (ad : Nat → Nat) (n : Nat) (L : az_Ls) (ls : Array Slot) : Prop := ls.size = L.length ∧ lv_wf ls ∧ ∀ (i : Nat) (v : Value), L[i]? = some (some v) → v.category = 1 ∧ az_ok n v ∧ ls[i]? = some (.val (az_c ad v))
def az_ag (ad0 : Nat → Nat) (n0 : Nat) (ad : Nat → Nat) : Prop := (∀ i : Nat, i < n0 → ad i = ad0 i) ∧ ad az_scr = ad0 az_scr
/-- the small machine stands where the machine stands -/
def az_at (D : va_G) (cy : Nat → ClassId) (A : Nat → Prop) (H0 : Heap) (ad0 : Nat → Nat) (n0 c0 s0 : Nat) (ad : Nat → Nat) (L : az_Ls) (ls : Array Slot) (st : List Value) (G : az_G) (H : Heap) (locs : List Loc) (cells slots : Nat) : Prop :=
  (az_Lr ad G.1.length L ls ∧ (∀ v ∈ st, az_ok G.1.length v)) ∧ az_wf G.1 ∧ va_P D az_cl (az_w cy ad G) H ∧ va_D A (az_w cy ad G) ∧ va_S A H0 H locs ∧ az_ag ad0 n0 ad ∧ (n0 ≤ G.1.length ∧ cells + c0 = G.2.2.2.1 ∧ slots + s0 = G.2.2.2.2 ∧ G.1.length ≤ 300000)
theorem az_w_len (cy : Nat → ClassId) (ad : Nat → Nat) (G : az_G) : (az_w cy ad G).length = G.1.length := by simp [az_w]
theorem az_w_get {cy : Nat → ClassId} {ad : Nat → Nat} {G : az_G} {a : Nat} {sh : az_Shp} (h : G.1[a]? = some sh) : (az_w cy ad G)[a]? = some (ad a, az_E cy ad G.2.1 G.2.2.1 a sh) := by
  have hl : a < G.1.length := (List.getElem?_eq_some_iff.mp h).1
  unfold az_w
  rw [List.getElem?_map, List.getElem?_range hl]
  simp [List.getD, h]
theorem az_w_set {cy : Nat → ClassId} {ad : Nat → Nat} {G G' : az_G} {a : Nat} {e : va_E} (hl : G'.1.length = G.1.length)
    (ho : ∀ b : Nat, b ≠ a → az_E cy ad G'.2.1 G'.2.2.1 b (G'.1.getD b (0, 0, [])) = az_E cy ad G.2.1 G.2.2.1 b (G.1.getD b (0, 0, []))) (he : e = az_E cy ad G'.2.1 G'.2.2.1 a (G'.1.getD a (0, 0, []))) :
    (az_w cy ad G).set a (ad a, e) = az_w cy ad G' := by
  apply List.ext_getElem?
  intro i
  by_cases h : i = a
  · subst h
    by_cases hi : i < G.1.length
    · rw [List.getElem?_set_self (by rw [az_w_len]; exact hi)]
      unfold az_w
      rw [List.getElem?_map, List.getElem?_range (by rw [hl]; exact hi), he]
      rfl
    · rw [List.getElem?_eq_none (by rw [List.length_set, az_w_len]; omega), List.getElem?_eq_none (by rw [az_w_len]; omega)]
  · rw [List.getElem?_set_ne (Ne.symm h)]
    unfold az_w
    rw [List.getElem?_map, List.getElem?_map, hl]
    by_cases hi : i < G.1.length
    · rw [List.getElem?_range hi]
      simp only [Option.map_some]
      rw [ho i h]
    · rw [List.getElem?_eq_none (by rw [List.length_range]; omega)]
      rfl
theorem az_E_ad {cy : Nat → ClassId} {ad ad' : Nat → Nat} {I : Nat → Nat → Int32} {J : Nat → Nat → Int64} {a : Nat} {sh : az_Shp} (h : ∀ r : Nat, some (some r) ∈ sh.2.2 → ad' r = ad r) : az_E cy ad' I J a sh = az_E cy ad I J a sh := by
  have key : ∀ j : Nat, ((sh.2.2.getD j none).getD none).map ad' = ((sh.2.2.getD j none).getD none).map ad := by
    intro j
    cases hj : sh.2.2[j]? with
    | none => simp [List.getD, hj]
    | some o =>
      cases o with
      | none => simp [List.getD, hj]
      | some r =>
        cases r with
        | none => simp [List.getD, hj]
        | some r => simp [List.getD, hj, h r (List.mem_of_getElem? hj)]
  have key2 : ∀ j : Nat, az_fv ad' (I a j) (sh.2.2.getD j none) = az_fv ad (I a j) (sh.2.2.getD j none) := by
    intro j
    have hk := key j
    cases hj : sh.2.2.getD j none with
    | none => rfl
    | some r =>
      rw [hj] at hk
      simp only [Option.getD_some] at hk
      simp only [az_fv, hk]
  unfold az_E
  split
  · simp only [key2]
  · rfl
  · rfl
  · rfl
  · simp only [key]
theorem az_c_ad {ad ad' : Nat → Nat} {n : Nat} (h1 : ∀ i : Nat, i < n → ad' i = ad i) (h2 : ad' az_scr = ad az_scr) {v : Value} (hv : az_ok n v) : az_c ad' v = az_c ad v := by
  cases v with
  | ref a =>
    rcases hv with h | h
    · simp only [az_c, h1 a h]
    · subst h
      simp only [az_c, h2]
  | _ => rfl
theorem az_map_ad {ad ad' : Nat → Nat} {n : Nat} (h1 : ∀ i : Nat, i < n → ad' i = ad i) (h2 : ad' az_scr = ad az_scr) {st : List Value} (hv : ∀ v ∈ st, az_ok n v) : st.map (az_c ad') = st.map (az_c ad) :=
  List.map_congr_left fun v h => az_c_ad h1 h2 (hv v h)
theorem az_ok_mono {n n' : Nat} (h : n ≤ n') {v : Value} (hv : az_ok n v) : az_ok n' v := by
  cases v with
  | ref a =>
    rcases hv with q | q
    · exact Or.inl (Nat.lt_of_lt_of_le q h)
    · exact Or.inr q
  | _ => trivial
theorem az_Lr_ad {ad ad' : Nat → Nat} {n n' : Nat} (hn : n ≤ n') (h1 : ∀ i : Nat, i < n → ad' i = ad i) (h2 : ad' az_scr = ad az_scr) {L : az_Ls} {ls : Array Slot} (h : az_Lr ad n L ls) : az_Lr ad' n' L ls :=
  ⟨h.1, h.2.1, fun i v hi => by
    obtain ⟨q1, q2, q3⟩ := h.2.2 i v hi
    exact ⟨q1, az_ok_mono hn q2, by rw [az_c_ad h1 h2 q2]; exact q3⟩⟩
theorem az_cat1 {ad : Nat → Nat} {v : Value} : (az_c ad v).category = v.category := by cases v <;> rfl
theorem az_cats {ad : Nat → Nat} {st : List Value} : ((st.map (az_c ad)).map fun v => v.category).sum = az_cat st := by
  unfold az_cat
  rw [List.map_map]
  congr 1
  exact List.map_congr_left fun v _ => az_cat1
/-- the locals as the kit's list -/
def az_pr (ad : Nat → Nat) (L : az_Ls) : List (Nat × Value) := (List.range L.length).filterMap fun i => match L[i]? with
  | some (some v) => some (i, az_c ad v)
  | _ => none
theorem az_pr_mem {ad : Nat → Nat} {L : az_Ls} {q : Nat × Value} : q ∈ az_pr ad L ↔ ∃ v, L[q.1]? = some (some v) ∧ q.2 = az_c ad v := by
  unfold az_pr
  rw [List.mem_filterMap]
  constructor
  · rintro ⟨i, -, hi⟩
    cases hL : L[i]? with
    | none => rw [hL] at hi; cases hi
    | some o =>
      cases o with
      | none => rw [hL] at hi; cases hi
      | some v => rw [hL] at hi; cases hi; exact ⟨v, hL, rfl⟩
  · rintro ⟨v, h1, h2⟩
    refine ⟨q.1, List.mem_range.mpr (List.getElem?_eq_some_iff.mp h1).1, ?_⟩
    rw [h1]
    simp only [Option.some.injEq]
    rw [← h2]
theorem az_pr_has {ad : Nat → Nat} {n : Nat} {L : az_Ls} {ls : Array Slot} (h : az_Lr ad n L ls) : lv_has ls L.length (az_pr ad L) :=
  ⟨h.1, h.2.1, fun q hq => by
    obtain ⟨v, h1, h2⟩ := az_pr_mem.mp hq
    rw [h2]
    exact (h.2.2 q.1 v h1).2.2⟩
/-- behind a store -/
theorem az_Lr_set {ad : Nat → Nat} {n i : Nat} {L : az_Ls} {ls ls' : Array Slot} {v : Value} (hL : az_Lr ad n L ls) (hv : v.category = 1) (hok : az_ok n v)
    (h : lv_has ls' L.length ((i, az_c ad v) :: (az_pr ad L).filter (fun q => !(q.1 == i) && !(q.1 + 1 == i && q.2.category == 2)))) : az_Lr ad n (L.set i (some v)) ls' := by
  refine ⟨by rw [List.length_set]; exact h.1, h.2.1, fun j w hj => ?_⟩
  by_cases hij : i = j
  · subst hij
    have hlt : i < L.length := by
      have := (List.getElem?_eq_some_iff.mp hj).1
      rwa [List.length_set] at this
    rw [List.getElem?_set_self hlt] at hj
    cases hj
    exact ⟨hv, hok, h.2.2 (i, az_c ad v) List.mem_cons_self⟩
  · rw [List.getElem?_set_ne hij] at hj
    obtain ⟨q1, q2, q3⟩ := hL.2.2 j w hj
    refine ⟨q1, q2, h.2.2 (j, az_c ad w) (List.mem_cons_of_mem _ (List.mem_filter.mpr ⟨az_pr_mem.mpr ⟨w, hj, rfl⟩, ?_⟩))⟩
    have h1 : (j == i) = false := by simp [Ne.symm hij]
    have h2 : ((az_c ad w).category == 2) = false := by rw [az_cat1, q1]; rfl
    simp only [h1, h2, Bool.and_false, Bool.not_false, Bool.and_self]
theorem az_Lr_unset {ad : Nat → Nat} {n i : Nat} {L : az_Ls} {ls ls' : Array Slot} {v : Value} (hL : az_Lr ad n L ls)
    (h : lv_has ls' L.length ((i, v) :: (az_pr ad L).filter (fun q => !(q.1 == i) && !(q.1 + 1 == i && q.2.category == 2)))) : az_Lr ad n (L.set i none) ls' := by
  refine ⟨by rw [List.length_set]; exact h.1, h.2.1, fun j w hj => ?_⟩
  by_cases hij : i = j
  · subst hij
    have hlt : i < L.length := by
      have := (List.getElem?_eq_some_iff.mp hj).1
      rwa [List.length_set] at this
    rw [List.getElem?_set_self hlt] at hj
    cases hj
  · rw [List.getElem?_set_ne hij] at hj
    obtain ⟨q1, q2, q3⟩ := hL.2.2 j w hj
    refine ⟨q1, q2, h.2.2 (j, az_c ad w) (List.mem_cons_of_mem _ (List.mem_filter.mpr ⟨az_pr_mem.mpr ⟨w, hj, rfl⟩, ?_⟩))⟩
    have h1 : (j == i) = false := by simp [Ne.symm hij]
    have h2 : ((az_c ad w).category == 2) = false := by rw [az_cat1, q1]; rfl
    simp only [h1, h2, Bool.and_false, Bool.not_false, Bool.and_self]
theorem az_in_iff {x : Int32} {n : Nat} : az_in x n = true ↔ vp_in x n := by simp [az_in, vp_in]
end
section
/-! each step of the small machine is a step of the machine: one row an instruction -/
def az_K (p : Program) (s : State) (m : MethodId) (args : Array Value) (meth : Method) (c : Code) (xs : az_X) (k : Nat) (D : va_G) (cy : Nat → ClassId) (A : Nat → Prop) (ad0 : Nat → Nat) : Prop :=
  p.tables.exec = Jvm.exec ∧ c.code = az_code k ∧ s.vm.findClass (az_R (az_own k)) = some m.cls ∧ c.maxLocals = az_ml k ∧ (∀ w ∈ az_gw, w.before args s = true) ∧ va_K D az_cl (az_tl cy) s ∧ (∀ q : Nat, s.heap.size ≤ q → A q) ∧ ((az_y k).name = "<init>" → meth.name = "<init>") ∧
  (k = az_main → va_X (ad0 az_scr) xs.1 xs.2 s s.heap ∧ ad0 az_scr < s.heap.size ∧ ¬ A (ad0 az_scr)) ∧ (Jvm.Cond.arrayOver (.array .int)).before args s = true
def az_kk (p : Program) (l : Launch) (e : Env) (R : Room) (s : State) (m : MethodId) (args : Array Value) (below : List Frame) (meth : Method) (c : Code) (Q : State → Prop) (D : va_G) (cy : Nat → ClassId) (A : Nat → Prop) (ad0 : Nat → Nat) (n0 c0 s0 : Nat) (q : az_Nx) : Prop :=
  ∀ (ad : Nat → Nat) (ls : Array Slot) (H : Heap) (locs : List Loc) (cells slots : Nat), az_at D cy A s.heap ad0 n0 c0 s0 ad q.2.1 ls q.2.2.1 q.2.2.2 H locs cells slots → W p l e R s m args below meth c H locs cells slots Q (F0 m q.1 ls (q.2.2.1.map (az_c ad)))
theorem az_at.st {D : va_G} {cy : Nat → ClassId} {A : Nat → Prop} {H0 : Heap} {ad0 : Nat → Nat} {n0 c0 s0 : Nat} {ad : Nat → Nat} {L : az_Ls} {ls : Array Slot} {st st' : List Value} {G : az_G} {H : Heap} {locs : List Loc} {cells slots : Nat}
    (h : az_at D cy A H0 ad0 n0 c0 s0 ad L ls st G H locs cells slots) (hs : ∀ v ∈ st', az_ok G.1.length v) : az_at D cy A H0 ad0 n0 c0 s0 ad L ls st' G H locs cells slots := ⟨⟨h.1.1, hs⟩, h.2⟩
theorem az_at.lo {D : va_G} {cy : Nat → ClassId} {A : Nat → Prop} {H0 : Heap} {ad0 : Nat → Nat} {n0 c0 s0 : Nat} {ad : Nat → Nat} {L L' : az_Ls} {ls ls' : Array Slot} {st st' : List Value} {G : az_G} {H : Heap} {locs : List Loc} {cells slots : Nat}
    (h : az_at D cy A H0 ad0 n0 c0 s0 ad L ls st G H locs cells slots) (hl : az_Lr ad G.1.length L' ls') (hs : ∀ v ∈ st', az_ok G.1.length v) : az_at D cy A H0 ad0 n0 c0 s0 ad L' ls' st' G H locs cells slots := ⟨⟨hl, hs⟩, h.2⟩
theorem az_sub1 {P : Value → Prop} {a v : Value} {r : List Value} (h : ∀ w ∈ a :: r, P w) (hv : P v) : ∀ w ∈ v :: r, P w := fun w hw => (List.mem_cons.mp hw).elim (fun e => e ▸ hv) (fun q => h w (List.mem_cons_of_mem _ q))
theorem az_tl1 {P : Value → Prop} {a : Value} {r : List Value} (h : ∀ w ∈ a :: r, P w) : ∀ w ∈ r, P w := fun w hw => h w (List.mem_cons_of_mem _ hw)
theorem az_cn1 {P : Value → Prop} {v : Value} {r : List Value} (hv : P v) (h : ∀ w ∈ r, P w) : ∀ w ∈ v :: r, P w := fun w hw => (List.mem_cons.mp hw).elim (fun e => e ▸ hv) (h w)
section
variable {p : Program} {l : Launch} {e : Env} {R : Room} {s : State} {m : MethodId} {args : Array Value} {below : List Frame} {meth : Method} {c : Code} {Q : State → Prop}
variable {xs : az_X} {k pc : Nat} {D : va_G} {cy : Nat → ClassId} {A : Nat → Prop} {ad0 : Nat → Nat} {n0 c0 s0 : Nat} {L : az_Ls} {st : List Value} {G : az_G} {q : az_Nx}
theorem az_o_b2 {f : Int32 → Int32 → Int32} {nx : Nat} (hs : az_b2 f nx L st G = some q)
    (row : ∀ (H : Heap) (locs : List Loc) (cells slots : Nat) (ls : Array Slot) (x y : Int32) (rest : List Value), W p l e R s m args below meth c H locs cells slots Q (F0 m nx ls (.int (f x y) :: rest)) → W p l e R s m args below meth c H locs cells slots Q (F0 m pc ls (.int y :: .int x :: rest)))
    (kk : az_kk p l e R s m args below meth c Q D cy A ad0 n0 c0 s0 q) : az_kk p l e R s m args below meth c Q D cy A ad0 n0 c0 s0 (pc, L, st, G) := by
  intro ad ls H locs cells slots hR
  unfold az_b2 at hs
  split at hs
  · cases hs
    exact row _ _ _ _ _ _ _ _ (kk ad ls H locs cells slots (hR.st (az_cn1 trivial (az_tl1 (az_tl1 hR.1.2)))))
  · cases hs
theorem az_o_dv {f : Int32 → Int32 → Int32} {nx : Nat} (hs : az_dv f nx L st G = some q)
    (row : ∀ (H : Heap) (locs : List Loc) (cells slots : Nat) (ls : Array Slot) (x y : Int32) (rest : List Value), ¬ y = 0 → W p l e R s m args below meth c H locs cells slots Q (F0 m nx ls (.int (f x y) :: rest)) → W p l e R s m args below meth c H locs cells slots Q (F0 m pc ls (.int y :: .int x :: rest)))
    (kk : az_kk p l e R s m args below meth c Q D cy A ad0 n0 c0 s0 q) : az_kk p l e R s m args below meth c Q D cy A ad0 n0 c0 s0 (pc, L, st, G) := by
  intro ad ls H locs cells slots hR
  unfold az_dv at hs
  split at hs
  · split at hs
    · cases hs
    · rename_i h0
      cases hs
      exact row _ _ _ _ _ _ _ _ h0 (kk ad ls H locs cells slots (hR.st (az_cn1 trivial (az_tl1 (az_tl1 hR.1.2)))))
  · cases hs
theorem az_o_pi {nx : Nat} {v : Int32}
    (row : ∀ (H : Heap) (locs : List Loc) (cells slots : Nat) (ls : Array Slot) (rest : List Value), W p l e R s m args below meth c H locs cells slots Q (F0 m nx ls (.int v :: rest)) → W p l e R s m args below meth c H locs cells slots Q (F0 m pc ls rest))
    (kk : az_kk p l e R s m args below meth c Q D cy A ad0 n0 c0 s0 (nx, L, .int v :: st, G)) : az_kk p l e R s m args below meth c Q D cy A ad0 n0 c0 s0 (pc, L, st, G) := by
  intro ad ls H locs cells slots hR
  exact row _ _ _ _ _ _ (kk ad ls H locs cells slots (hR.st (az_cn1 trivial hR.1.2)))
theorem az_o_pl {nx : Nat} {v : Int64}
    (row : ∀ (H : Heap) (locs : List Loc) (cells slots : Nat) (ls : Array Slot) (rest : List Value), W p l e R s m args below meth c H locs cells slots Q (F0 m nx ls (.long v :: rest)) → W p l e R s m args below meth c H locs cells slots Q (F0 m pc ls rest))
    (kk : az_kk p l e R s m args below meth c Q D cy A ad0 n0 c0 s0 (nx, L, .long v :: st, G)) : az_kk p l e R s m args below meth c Q D cy A ad0 n0 c0 s0 (pc, L, st, G) := by
  intro ad ls H locs cells slots hR
  exact row _ _ _ _ _ _ (kk ad ls H locs cells slots (hR.st (az_cn1 trivial hR.1.2)))
theorem az_o_ild {n nx : Nat} (hs : az_ild n nx L st G = some q)
    (row : ∀ (H : Heap) (locs : List Loc) (cells slots : Nat) (ls : Array Slot) (x : Int32) (rest : List Value), ls[n]? = some (.val (.int x)) → W p l e R s m args below meth c H locs cells slots Q (F0 m nx ls (.int x :: rest)) → W p l e R s m args below meth c H locs cells slots Q (F0 m pc ls rest))
    (kk : az_kk p l e R s m args below meth c Q D cy A ad0 n0 c0 s0 q) : az_kk p l e R s m args below meth c Q D cy A ad0 n0 c0 s0 (pc, L, st, G) := by
  intro ad ls H locs cells slots hR
  unfold az_ild at hs
  split at hs
  · rename_i x hx
    cases hs
    exact row _ _ _ _ _ _ _ (hR.1.1.2.2 _ _ hx).2.2 (kk ad ls H locs cells slots (hR.st (az_cn1 trivial hR.1.2)))
  · cases hs
theorem az_o_ald {n nx : Nat} (hs : az_ald n nx L st G = some q)
    (row : ∀ (H : Heap) (locs : List Loc) (cells slots : Nat) (ls : Array Slot) (x : Nat) (rest : List Value), ls[n]? = some (.val (.ref x)) → W p l e R s m args below meth c H locs cells slots Q (F0 m nx ls (.ref x :: rest)) → W p l e R s m args below meth c H locs cells slots Q (F0 m pc ls rest))
    (kk : az_kk p l e R s m args below meth c Q D cy A ad0 n0 c0 s0 q) : az_kk p l e R s m args below meth c Q D cy A ad0 n0 c0 s0 (pc, L, st, G) := by
  intro ad ls H locs cells slots hR
  unfold az_ald at hs
  split at hs
  · rename_i x hx
    cases hs
    have h9 := hR.1.1.2.2 _ _ hx
    exact row _ _ _ _ _ _ _ h9.2.2 (kk ad ls H locs cells slots (hR.st (az_cn1 h9.2.1 hR.1.2)))
  · cases hs
theorem az_o_ist {n nx : Nat} (hs : az_ist n nx L st G = some q)
    (row : ∀ (H : Heap) (locs : List Loc) (cells slots : Nat) (ls : Array Slot) (x : Int32) (rest : List Value) (nL : Nat) (lv lv' : List (Nat × Value)), lv_has ls nL lv → n < nL → (n, Value.int x) :: lv.filter (fun q => !(q.1 == n) && !(q.1 + 1 == n && q.2.category == 2)) = lv' → (∀ ls' : Array Slot, lv_has ls' nL lv' → W p l e R s m args below meth c H locs cells slots Q (F0 m nx ls' rest)) → W p l e R s m args below meth c H locs cells slots Q (F0 m pc ls (.int x :: rest)))
    (kk : az_kk p l e R s m args below meth c Q D cy A ad0 n0 c0 s0 q) : az_kk p l e R s m args below meth c Q D cy A ad0 n0 c0 s0 (pc, L, st, G) := by
  intro ad ls H locs cells slots hR
  unfold az_ist at hs
  split at hs
  · split at hs
    · rename_i hn
      cases hs
      exact row _ _ _ _ _ _ _ _ _ _ (az_pr_has hR.1.1) hn rfl (fun ls' hl => kk ad ls' H locs cells slots (hR.lo (az_Lr_set (v := .int _) hR.1.1 rfl trivial hl) (az_tl1 hR.1.2)))
    · cases hs
  · cases hs
theorem az_o_ast {n nx : Nat} (hs : az_ast n nx L st G = some q)
    (row : ∀ (H : Heap) (locs : List Loc) (cells slots : Nat) (ls : Array Slot) (x : Nat) (rest : List Value) (nL : Nat) (lv lv' : List (Nat × Value)), lv_has ls nL lv → n < nL → (n, Value.ref x) :: lv.filter (fun q => !(q.1 == n) && !(q.1 + 1 == n && q.2.category == 2)) = lv' → (∀ ls' : Array Slot, lv_has ls' nL lv' → W p l e R s m args below meth c H locs cells slots Q (F0 m nx ls' rest)) → W p l e R s m args below meth c H locs cells slots Q (F0 m pc ls (.ref x :: rest)))
    (kk : az_kk p l e R s m args below meth c Q D cy A ad0 n0 c0 s0 q) : az_kk p l e R s m args below meth c Q D cy A ad0 n0 c0 s0 (pc, L, st, G) := by
  intro ad ls H locs cells slots hR
  unfold az_ast at hs
  split at hs
  · split at hs
    · rename_i x r hn
      cases hs
      exact row _ _ _ _ _ _ _ _ _ _ (az_pr_has hR.1.1) hn rfl (fun ls' hl => kk ad ls' H locs cells slots (hR.lo (az_Lr_set (v := .ref _) hR.1.1 rfl (hR.1.2 _ List.mem_cons_self) hl) (az_tl1 hR.1.2)))
    · cases hs
  · cases hs
theorem az_o_inc {n nx : Nat} {v : Int} (hs : az_inc n v nx L st G = some q)
    (row : ∀ (H : Heap) (locs : List Loc) (cells slots : Nat) (ls : Array Slot) (x : Int32) (rest : List Value) (nL j : Nat) (lv lv' : List (Nat × Value)), lv_has ls nL lv → lv[j]? = some (n, .int x) → n < nL → (n, Value.int (x + Int32.ofInt v)) :: lv.filter (fun q => !(q.1 == n) && !(q.1 + 1 == n && q.2.category == 2)) = lv' → (∀ ls' : Array Slot, lv_has ls' nL lv' → W p l e R s m args below meth c H locs cells slots Q (F0 m nx ls' rest)) → W p l e R s m args below meth c H locs cells slots Q (F0 m pc ls rest))
    (kk : az_kk p l e R s m args below meth c Q D cy A ad0 n0 c0 s0 q) : az_kk p l e R s m args below meth c Q D cy A ad0 n0 c0 s0 (pc, L, st, G) := by
  intro ad ls H locs cells slots hR
  unfold az_inc at hs
  split at hs
  · rename_i x hx
    cases hs
    obtain ⟨j, hj⟩ := List.getElem?_of_mem (az_pr_mem.mpr ⟨.int x, hx, rfl⟩ : (n, az_c ad (.int x)) ∈ az_pr ad L)
    exact row _ _ _ _ _ _ _ _ j _ _ (az_pr_has hR.1.1) hj (List.getElem?_eq_some_iff.mp hx).1 rfl (fun ls' hl => kk ad ls' H locs cells slots (hR.lo (az_Lr_set (v := .int _) hR.1.1 rfl trivial hl) hR.1.2))
  · cases hs
theorem az_o_br {b : Bool} {off : Int} {nx : Nat} {ad : Nat → Nat} {ls : Array Slot} {H : Heap} {locs : List Loc} {cells slots : Nat} {g : JFrame} (hs : az_br b off pc nx L st G = some q)
    (hR : az_at D cy A s.heap ad0 n0 c0 s0 ad L ls st G H locs cells slots)
    (row : ∀ tgt : Nat, (pc : Int) + off = (tgt : Int) → (b = true → W p l e R s m args below meth c H locs cells slots Q (F0 m tgt ls (st.map (az_c ad)))) → (b = false → W p l e R s m args below meth c H locs cells slots Q (F0 m nx ls (st.map (az_c ad)))) → W p l e R s m args below meth c H locs cells slots Q g)
    (kk : az_kk p l e R s m args below meth c Q D cy A ad0 n0 c0 s0 q) : W p l e R s m args below meth c H locs cells slots Q g := by
  unfold az_br at hs
  split at hs
  · rename_i h0
    split at hs
    · rename_i hb
      cases hs
      exact row _ (by rw [Int.toNat_of_nonneg h0]) (fun _ => kk ad ls H locs cells slots hR) (fun h => by rw [hb] at h; cases h)
    · rename_i hb
      cases hs
      exact row _ (by rw [Int.toNat_of_nonneg h0]) (fun h => absurd h hb) (fun _ => kk ad ls H locs cells slots hR)
  · cases hs
theorem az_o_if1 {f : Int32 → Bool} {off : Int} {nx : Nat} (hs : az_if1 f off pc nx L st G = some q)
    (row : ∀ (H : Heap) (locs : List Loc) (cells slots : Nat) (ls : Array Slot) (x : Int32) (rest : List Value) (tgt : Nat), (pc : Int) + off = (tgt : Int) → (f x = true → W p l e R s m args below meth c H locs cells slots Q (F0 m tgt ls rest)) → (f x = false → W p l e R s m args below meth c H locs cells slots Q (F0 m nx ls rest)) → W p l e R s m args below meth c H locs cells slots Q (F0 m pc ls (.int x :: rest)))
    (kk : az_kk p l e R s m args below meth c Q D cy A ad0 n0 c0 s0 q) : az_kk p l e R s m args below meth c Q D cy A ad0 n0 c0 s0 (pc, L, st, G) := by
  intro ad ls H locs cells slots hR
  unfold az_if1 at hs
  split at hs
  · exact az_o_br hs (hR.st (az_tl1 hR.1.2)) (fun tgt ht w1 w2 => row H locs cells slots ls _ _ tgt ht w1 w2) kk
  · cases hs
theorem az_o_if2 {f : Int32 → Int32 → Bool} {off : Int} {nx : Nat} (hs : az_if2 f off pc nx L st G = some q)
    (row : ∀ (H : Heap) (locs : List Loc) (cells slots : Nat) (ls : Array Slot) (x y : Int32) (rest : List Value) (tgt : Nat), (pc : Int) + off = (tgt : Int) → (f x y = true → W p l e R s m args below meth c H locs cells slots Q (F0 m tgt ls rest)) → (f x y = false → W p l e R s m args below meth c H locs cells slots Q (F0 m nx ls rest)) → W p l e R s m args below meth c H locs cells slots Q (F0 m pc ls (.int y :: .int x :: rest)))
    (kk : az_kk p l e R s m args below meth c Q D cy A ad0 n0 c0 s0 q) : az_kk p l e R s m args below meth c Q D cy A ad0 n0 c0 s0 (pc, L, st, G) := by
  intro ad ls H locs cells slots hR
  unfold az_if2 at hs
  split at hs
  · exact az_o_br hs (hR.st (az_tl1 (az_tl1 hR.1.2))) (fun tgt ht w1 w2 => row H locs cells slots ls _ _ _ tgt ht w1 w2) kk
  · cases hs
end
end
section
/-! the steps that read or write cells -/
theorem az_up_ne {I : Nat → Nat → Int32} {a b k : Nat} {x : Int32} (h : b ≠ a) : az_up I a k x b = I b := by
  funext j
  simp [az_up, h]
theorem az_upJ_ne {J : Nat → Nat → Int64} {a b k : Nat} {x : Int64} (h : b ≠ a) : az_upJ J a k x b = J b := by
  funext j
  simp [az_upJ, h]
theorem az_up_self {I : Nat → Nat → Int32} {a k : Nat} {x : Int32} : az_up I a k x a = upd (I a) k x := by
  funext j
  simp [az_up, upd]
theorem az_upJ_self {J : Nat → Nat → Int64} {a k : Nat} {x : Int64} : az_upJ J a k x a = vp_updL (J a) k x := by
  funext j
  simp [az_upJ, vp_updL]
theorem az_E_I {cy : Nat → ClassId} {ad : Nat → Nat} {I I' : Nat → Nat → Int32} {J J' : Nat → Nat → Int64} {a : Nat} {sh : az_Shp} (h : I' a = I a) (hJ : J' a = J a) : az_E cy ad I' J' a sh = az_E cy ad I J a sh := by
  unfold az_E
  rw [h, hJ]
theorem az_fs_get {ad : Nat → Nat} {f : Nat → Int32} {sl : List (Option (Option Nat))} {j : Nat} {o : Option (Option Nat)} (h : sl[j]? = some o) : ((List.range sl.length).map fun j => az_fv ad (f j) (sl.getD j none))[j]? = some (az_fv ad (f j) o) := by
  rw [List.getElem?_map, List.getElem?_range (List.getElem?_eq_some_iff.mp h).1]
  simp [List.getD, h]
theorem az_fs_seti {ad : Nat → Nat} {f : Nat → Int32} {sl : List (Option (Option Nat))} {j : Nat} {v : Int32} (h : sl[j]? = some none) : ((List.range sl.length).map fun j => az_fv ad (f j) (sl.getD j none)).set j (.int v) = (List.range sl.length).map fun i => az_fv ad (upd f j v i) (sl.getD i none) := by
  have hl := (List.getElem?_eq_some_iff.mp h).1
  apply List.ext_getElem?
  intro i
  by_cases hij : j = i
  · subst hij
    rw [List.getElem?_set_self (by simpa using hl), List.getElem?_map, List.getElem?_range hl]
    simp [List.getD, h, az_fv, upd]
  · rw [List.getElem?_set_ne hij, List.getElem?_map, List.getElem?_map]
    by_cases hi : i < sl.length
    · rw [List.getElem?_range hi]
      simp [upd, Ne.symm hij]
    · rw [List.getElem?_eq_none (by rw [List.length_range]; omega)]
      rfl
theorem az_fs_setr {ad : Nat → Nat} {f : Nat → Int32} {sl : List (Option (Option Nat))} {j r : Nat} {o : Option Nat} (h : sl[j]? = some (some o)) : ((List.range sl.length).map fun j => az_fv ad (f j) (sl.getD j none)).set j (.ref (ad r)) = (List.range (sl.set j (some (some r))).length).map fun i => az_fv ad (f i) ((sl.set j (some (some r))).getD i none) := by
  have hl := (List.getElem?_eq_some_iff.mp h).1
  apply List.ext_getElem?
  intro i
  rw [List.length_set]
  by_cases hij : j = i
  · subst hij
    rw [List.getElem?_set_self (by simpa using hl), List.getElem?_map, List.getElem?_range hl]
    simp [List.getD, List.getElem?_set_self hl, az_fv, va_rf]
  · rw [List.getElem?_set_ne hij, List.getElem?_map, List.getElem?_map]
    by_cases hi : i < sl.length
    · rw [List.getElem?_range hi]
      simp [List.getD, List.getElem?_set_ne hij]
    · rw [List.getElem?_eq_none (by rw [List.length_range]; omega)]
      rfl
theorem az_nar_ref {ty : FieldType} {a : Nat} (h : ty.isReference = true) : narrow ty (.ref a) = .ref a ∧ fits ty (.ref a) = true := by
  cases ty <;> first | (cases h; done) | exact ⟨rfl, rfl⟩
theorem az_wr_fin {k ci j : Nat} (h : az_wr k ci j = true) : (az_T ci j).2.2.2 = false ∨ ((az_T ci j).2.2.2 = true ∧ (az_y k).name = "<init>" ∧ (az_T ci j).1 = az_R (az_own k)) := by
  unfold az_wr at h
  simp only [Bool.or_eq_true, beq_iff_eq, Bool.and_eq_true] at h
  rcases h with h | h
  · exact Or.inl h
  · cases hf : (az_T ci j).2.2.2 with
    | false => exact Or.inl rfl
    | true => exact Or.inr ⟨rfl, h.1, h.2⟩
section
variable {p : Program} {l : Launch} {e : Env} {R : Room} {s : State} {m : MethodId} {args : Array Value} {below : List Frame} {meth : Method} {c : Code} {Q : State → Prop}
variable {xs : az_X} {k pc : Nat} {D : va_G} {cy : Nat → ClassId} {A : Nat → Prop} {ad0 : Nat → Nat} {n0 c0 s0 : Nat} {L : az_Ls} {st : List Value} {G : az_G} {q : az_Nx}
theorem az_o_gf {x : Nat} (hK : az_K p s m args meth c xs k D cy A ad0) (hd : decode (az_code k) pc = .ok (.getfield x, 3)) (hs : az_gf k x (pc + 3) L st G = some q)
    (kk : az_kk p l e R s m args below meth c Q D cy A ad0 n0 c0 s0 q) : az_kk p l e R s m args below meth c Q D cy A ad0 n0 c0 s0 (pc, L, st, G) := by
  intro ad ls H locs cells slots hR
  obtain ⟨hx, hb, hown, hml, hts, hV, -, -, -, -⟩ := hK
  unfold az_gf at hs
  split at hs
  · rename_i ci j a r hlk
    split at hs
    · rename_i v hv
      cases hs
      obtain ⟨hw, hc8, hjN⟩ := az_lo _ _ hlk
      have hP := hR.2.2.1
      have hwf := hR.2.1
      unfold az_gfl at hv
      split at hv
      · rename_i cc sl hS
        split at hv
        · rename_i hcc
          subst hcc
          have he := az_w_get (cy := cy) (ad := ad) hS
          have row := fun (v : Value) hv2 => va_get (l := l) (e := e) (R := R) (below := below) (meth := meth) (locs := hR.2.2.2.2.1.2.2 |> fun _ => locs) (cells := cells) (slots := slots) (Q := Q) (D := D) (pc := pc) (ls := ls) (rest := r.map (az_c ad)) hx hb hts (az_uin cc hc8) hown hV hP a he (az_clg cc hc8) j hjN (hts _ hw) (fun _ h9 => h9) (v := v) hv2 hd
          split at hv
          · rename_i hj
            cases hv
            exact row _ (az_fs_get hj) (kk ad ls H locs cells slots (hR.st (az_cn1 trivial (az_tl1 hR.1.2))))
          · rename_i r9 hj
            cases hv
            have hok : az_ok G.1.length (.ref r9) := Or.inl (hwf _ (List.mem_of_getElem? hS) _ (List.mem_of_getElem? hj))
            exact row _ (az_fs_get hj) (kk ad ls H locs cells slots (hR.st (az_cn1 hok (az_tl1 hR.1.2))))
          · cases hv
        · cases hv
      · cases hv
    · cases hs
  · cases hs
theorem az_o_pf {x : Nat} (hK : az_K p s m args meth c xs k D cy A ad0) (hd : decode (az_code k) pc = .ok (.putfield x, 3)) (hs : az_pf k x (pc + 3) L st G = some q)
    (kk : az_kk p l e R s m args below meth c Q D cy A ad0 n0 c0 s0 q) : az_kk p l e R s m args below meth c Q D cy A ad0 n0 c0 s0 (pc, L, st, G) := by
  intro ad ls H locs cells slots hR
  obtain ⟨hx, hb, hown, hml, hts, hV, -, hini, -, -⟩ := hK
  obtain ⟨⟨hL, hst⟩, hwf, hP, hD, hS, hag, hn⟩ := id hR
  have row : ∀ (ci j a : Nat) (fs : List Value) (ty : FieldType) (v : Value) (rest : List Value), az_lk (az_own k) x = some (0, ci, j) → (az_w cy ad G)[a]? = some (ad a, .inr (ci, fs)) → az_wr k ci j = true → az_ty ci j = ty → narrow ty v = v → fits ty v = true → j < fs.length →
      (∀ (H1 : Heap) (locs1 : List Loc), va_P D az_cl ((az_w cy ad G).set a (ad a, .inr (ci, fs.set j v))) H1 → va_D A ((az_w cy ad G).set a (ad a, .inr (ci, fs.set j v))) → va_S A s.heap H1 locs1 → W p l e R s m args below meth c H1 locs1 cells slots Q (F0 m (pc + 3) ls rest)) → W p l e R s m args below meth c H locs cells slots Q (F0 m pc ls (v :: .ref (ad a) :: rest)) := by
    intro ci j a fs ty v rest hlk he hwr hty hnar hfit hlen k9
    obtain ⟨hw, hc8, hjN⟩ := az_lo _ _ hlk
    rcases az_wr_fin hwr with hf | ⟨hf, hi, hdecl⟩
    · exact va_put (ty := ty) hx hb hts (az_uin ci hc8) (az_ty ci) (az_tyk ci hc8) (az_nmk ci hc8) hown hV hP hD hS a he (az_clg ci hc8) j hjN (hts _ hw) (fun _ h9 => h9) hf (by rw [← hty]; exact az_tyk ci hc8 j hjN) hnar hfit hlen hd k9
    · exact va_putF (ty := ty) hx hb hts (az_uin ci hc8) (az_ty ci) (az_tyk ci hc8) (az_nmk ci hc8) hown hV hP hD hS a he (az_clg ci hc8) j hjN (hts _ hw) (fun _ h9 => h9) hf (hini hi) hdecl (by rw [← hty]; exact az_tyk ci hc8 j hjN) hnar hfit hlen hd k9
  unfold az_pf at hs
  split at hs
  · rename_i ci j v a r hlk
    split at hs
    · rename_i hpf
      cases hs
      unfold az_pfi at hpf
      split at hpf
      · rename_i cc sl hSa
        simp only [Bool.and_eq_true, beq_iff_eq, decide_eq_true_eq] at hpf
        obtain ⟨⟨⟨hcc, hwr⟩, hty⟩, hsl⟩ := hpf
        subst hcc
        have hj : sl[j]? = some none := by
          split at hsl
          · assumption
          · cases hsl
        have hset : (az_w cy ad G).set a (ad a, .inr (cc, (((List.range sl.length).map fun j => az_fv ad (G.2.1 a j) (sl.getD j none))).set j (.int v))) = az_w cy ad (G.1, az_up G.2.1 a j v, G.2.2) := by
          refine az_w_set rfl (fun b hb => az_E_I (az_up_ne hb) rfl) ?_
          show _ = az_E cy ad (az_up G.2.1 a j v) G.2.2.1 a (G.1.getD a (0, 0, []))
          have hg : G.1.getD a (0, 0, []) = (0, cc, sl) := by simp [List.getD, hSa]
          rw [hg, az_fs_seti hj]
          unfold az_E
          rw [az_up_self]
          rfl
        refine row cc j a _ .int (.int v) _ hlk (az_w_get hSa) hwr hty rfl rfl (by simpa using (List.getElem?_eq_some_iff.mp hj).1) (fun H1 locs1 hP1 hD1 hS1 => ?_)
        rw [hset] at hP1 hD1
        exact kk ad ls H1 locs1 cells slots ⟨⟨hL, az_tl1 (az_tl1 hst)⟩, hwf, hP1, hD1, hS1, hag, hn⟩
      · cases hpf
    · cases hs
  · rename_i ci j v a r hlk
    split at hs
    · rename_i S' hpf
      cases hs
      unfold az_pfr at hpf
      split at hpf
      · rename_i cc sl hSa
        split at hpf
        · rename_i hcond
          obtain ⟨hcc, hwr, href, hlt⟩ := hcond
          subst hcc
          split at hpf
          · rename_i o hj
            cases hpf
            have hal : a < G.1.length := (List.getElem?_eq_some_iff.mp hSa).1
            have hset : (az_w cy ad G).set a (ad a, .inr (cc, (((List.range sl.length).map fun j => az_fv ad (G.2.1 a j) (sl.getD j none))).set j (.ref (ad v)))) = az_w cy ad (G.1.set a (0, cc, sl.set j (some (some v))), G.2) := by
              refine az_w_set (by simp) (fun b hb => ?_) ?_
              · simp [List.getD, List.getElem?_set_ne (Ne.symm hb)]
              · have hg : (G.1.set a (0, cc, sl.set j (some (some v)))).getD a (0, 0, []) = (0, cc, sl.set j (some (some v))) := by simp [List.getD, List.getElem?_set_self hal]
                rw [hg, az_fs_setr hj]
                rfl
            have hnr := az_nar_ref (a := ad v) href
            refine row cc j a _ _ (.ref (ad v)) _ hlk (az_w_get hSa) hwr rfl hnr.1 hnr.2 (by simpa using (List.getElem?_eq_some_iff.mp hj).1) (fun H1 locs1 hP1 hD1 hS1 => ?_)
            rw [hset] at hP1 hD1
            refine kk ad ls H1 locs1 cells slots ⟨⟨?_, ?_⟩, ?_, hP1, hD1, hS1, hag, ?_⟩
            · show az_Lr ad (G.1.set a (0, cc, sl.set j (some (some v)))).length L ls
              rw [List.length_set]
              exact hL
            · show ∀ w ∈ r, az_ok (G.1.set a (0, cc, sl.set j (some (some v)))).length w
              rw [List.length_set]
              exact az_tl1 (az_tl1 hst)
            · intro sh hsh r9 hr9
              show r9 < (G.1.set a (0, cc, sl.set j (some (some v)))).length
              rw [List.length_set]
              rcases List.mem_or_eq_of_mem_set hsh with h | h
              · exact hwf sh h r9 hr9
              · subst h
                rcases List.mem_or_eq_of_mem_set hr9 with h | h
                · exact hwf _ (List.mem_of_getElem? hSa) r9 h
                · cases h
                  exact hlt
            · show n0 ≤ (G.1.set a (0, cc, sl.set j (some (some v)))).length ∧ _ ∧ _ ∧ (G.1.set a (0, cc, sl.set j (some (some v)))).length ≤ _
              rw [List.length_set]
              exact hn
          · cases hpf
        · cases hpf
      · cases hpf
    · cases hs
  · cases hs
theorem az_isA_of {S : List az_Shp} {kd a : Nat} {i : Int32} (h : az_isA S kd a i = true) : ∃ n sl, S[a]? = some (kd, n, sl) ∧ vp_in i n := by
  unfold az_isA at h
  split at h
  · rename_i d n sl hS
    simp only [Bool.and_eq_true, beq_iff_eq] at h
    obtain ⟨h1, h2⟩ := h
    subst h1
    exact ⟨n, sl, hS, az_in_iff.mp h2⟩
  · cases h
theorem az_o_ial (hK : az_K p s m args meth c xs k D cy A ad0) (hd : decode (az_code k) pc = .ok (.iaload, 1)) (hs : az_ial xs 1 k (pc + 1) L st G = some q)
    (kk : az_kk p l e R s m args below meth c Q D cy A ad0 n0 c0 s0 q) : az_kk p l e R s m args below meth c Q D cy A ad0 n0 c0 s0 (pc, L, st, G) := by
  intro ad ls H locs cells slots hR
  obtain ⟨hx, hb, hown, hml, hts, hV, -, hini, hX, -⟩ := hK
  obtain ⟨⟨hL, hst⟩, hwf, hP, hD, hS, hag, hn⟩ := id hR
  unfold az_ial at hs
  split at hs
  · rename_i i a r
    split at hs
    · rename_i hmain
      split at hs
      · rename_i hcond
        cases hs
        obtain ⟨h1, h2, -⟩ := hcond
        subst h1
        obtain ⟨x1, x2, x3⟩ := hX hmain
        show W p l e R s m args below meth c H locs cells slots Q (F0 m pc ls (.int i :: .ref (ad az_scr) :: r.map (az_c ad)))
        rw [hag.2]
        exact va_sld hx hb x1 x2 x3 hS (az_in_iff.mp h2) hd (kk ad ls H locs cells slots (hR.st (az_cn1 trivial (az_tl1 (az_tl1 hst)))))
      · cases hs
    · split at hs
      · rename_i hA
        cases hs
        obtain ⟨n, sl, hSa, hin⟩ := az_isA_of hA
        exact va_iald hx hb hV hP a 0 (az_w_get hSa) rfl hin hd (kk ad ls H locs cells slots (hR.st (az_cn1 trivial (az_tl1 (az_tl1 hst)))))
      · cases hs
  · cases hs
theorem az_o_bal (hK : az_K p s m args meth c xs k D cy A ad0) (hd : decode (az_code k) pc = .ok (.baload, 1)) (hs : az_ial xs 2 k (pc + 1) L st G = some q)
    (kk : az_kk p l e R s m args below meth c Q D cy A ad0 n0 c0 s0 q) : az_kk p l e R s m args below meth c Q D cy A ad0 n0 c0 s0 (pc, L, st, G) := by
  intro ad ls H locs cells slots hR
  obtain ⟨hx, hb, hown, hml, hts, hV, -, hini, hX, -⟩ := hK
  obtain ⟨⟨hL, hst⟩, hwf, hP, hD, hS, hag, hn⟩ := id hR
  unfold az_ial at hs
  split at hs
  · rename_i i a r
    split at hs
    · split at hs
      · rename_i hcond
        exact absurd hcond.2.2 (by decide)
      · cases hs
    · split at hs
      · rename_i hA
        cases hs
        obtain ⟨n, sl, hSa, hin⟩ := az_isA_of hA
        exact va_zald hx hb hV hP a 1 (az_w_get hSa) rfl hin hd (kk ad ls H locs cells slots (hR.st (az_cn1 trivial (az_tl1 (az_tl1 hst)))))
      · cases hs
  · cases hs
theorem az_o_lal (hK : az_K p s m args meth c xs k D cy A ad0) (hd : decode (az_code k) pc = .ok (.laload, 1)) (hs : az_lal (pc + 1) L st G = some q)
    (kk : az_kk p l e R s m args below meth c Q D cy A ad0 n0 c0 s0 q) : az_kk p l e R s m args below meth c Q D cy A ad0 n0 c0 s0 (pc, L, st, G) := by
  intro ad ls H locs cells slots hR
  obtain ⟨hx, hb, hown, hml, hts, hV, -, hini, hX, -⟩ := hK
  obtain ⟨⟨hL, hst⟩, hwf, hP, hD, hS, hag, hn⟩ := id hR
  unfold az_lal at hs
  split at hs
  · split at hs
    · rename_i i a r hA
      cases hs
      obtain ⟨n, sl, hSa, hin⟩ := az_isA_of hA
      exact va_lald hx hb hV hP a 2 (az_w_get hSa) rfl hin hd (kk ad ls H locs cells slots (hR.st (az_cn1 trivial (az_tl1 (az_tl1 hst)))))
    · cases hs
  · cases hs
theorem az_o_aal (hK : az_K p s m args meth c xs k D cy A ad0) (hd : decode (az_code k) pc = .ok (.aaload, 1)) (hs : az_aal (pc + 1) L st G = some q)
    (kk : az_kk p l e R s m args below meth c Q D cy A ad0 n0 c0 s0 q) : az_kk p l e R s m args below meth c Q D cy A ad0 n0 c0 s0 (pc, L, st, G) := by
  intro ad ls H locs cells slots hR
  obtain ⟨hx, hb, hown, hml, hts, hV, -, hini, hX, -⟩ := hK
  obtain ⟨⟨hL, hst⟩, hwf, hP, hD, hS, hag, hn⟩ := id hR
  unfold az_aal at hs
  split at hs
  · rename_i i a r
    split at hs
    · rename_i n sl hSa
      split at hs
      · rename_i hin0
        have hin := az_in_iff.mp hin0
        split at hs
        · rename_i q9 hq9
          cases hs
          have hlt : i.toNatClampNeg < n := Nat.not_le.mp fun q => hin (Or.inr q)
          have hcell := hP a _ (az_w_get hSa)
          have hok : az_ok G.1.length (.ref q9) := Or.inl (hwf _ (List.mem_of_getElem? hSa) _ (List.mem_of_getElem? hq9))
          refine W.aald (v := .ref (ad q9)) (ty := .array .int) hx hb hcell ((hV.2 3 _ rfl).1 n (fun j => va_rf (((sl.getD j none).getD none).map ad))) rfl (fun q => by cases q) (by show ¬ (i < 0 ∨ (arrV _ _ _).slots.size ≤ _); rw [arrV_size]; exact hin) ?_ rfl rfl hd (kk ad ls H locs cells slots (hR.st (az_cn1 hok (az_tl1 (az_tl1 hst)))))
          show (arrV _ _ _).slots[_]? = _
          rw [arrV_read _ _ hlt]
          simp [List.getD, hq9, va_rf]
        · cases hs
      · cases hs
    · cases hs
  · cases hs
theorem az_o_iast (hK : az_K p s m args meth c xs k D cy A ad0) (hd : decode (az_code k) pc = .ok (.iastore, 1)) (hs : az_iast (pc + 1) L st G = some q)
    (kk : az_kk p l e R s m args below meth c Q D cy A ad0 n0 c0 s0 q) : az_kk p l e R s m args below meth c Q D cy A ad0 n0 c0 s0 (pc, L, st, G) := by
  intro ad ls H locs cells slots hR
  obtain ⟨hx, hb, hown, hml, hts, hV, -, hini, hX, -⟩ := hK
  obtain ⟨⟨hL, hst⟩, hwf, hP, hD, hS, hag, hn⟩ := id hR
  unfold az_iast at hs
  split at hs
  · split at hs
    · rename_i x i a r hA
      cases hs
      obtain ⟨n, sl, hSa, hin⟩ := az_isA_of hA
      have hset : (az_w cy ad G).set a (ad a, .inl (cy 0, n, .inl (upd (G.2.1 a) i.toNatClampNeg x))) = az_w cy ad (G.1, az_up G.2.1 a i.toNatClampNeg x, G.2.2) := by
        refine az_w_set rfl (fun b hb => az_E_I (az_up_ne hb) rfl) ?_
        have hg : G.1.getD a (0, 0, []) = (1, n, sl) := by simp [List.getD, hSa]
        show _ = az_E cy ad (az_up G.2.1 a i.toNatClampNeg x) G.2.2.1 a (G.1.getD a (0, 0, []))
        rw [hg]
        unfold az_E
        rw [az_up_self]
        rfl
      refine va_iast hx hb hV hP hD hS a 0 (az_w_get hSa) rfl hin hd (fun H1 locs1 hP1 hD1 hS1 => ?_)
      have hP1 : va_P D az_cl ((az_w cy ad G).set a (ad a, .inl (cy 0, n, .inl (upd (G.2.1 a) i.toNatClampNeg x)))) H1 := hP1
      have hD1 : va_D A ((az_w cy ad G).set a (ad a, .inl (cy 0, n, .inl (upd (G.2.1 a) i.toNatClampNeg x)))) := hD1
      rw [hset] at hP1 hD1
      exact kk ad ls H1 locs1 cells slots ⟨⟨hL, az_tl1 (az_tl1 (az_tl1 hst))⟩, hwf, hP1, hD1, hS1, hag, hn⟩
    · cases hs
  · cases hs
theorem az_o_bast (hK : az_K p s m args meth c xs k D cy A ad0) (hd : decode (az_code k) pc = .ok (.bastore, 1)) (hs : az_bast (pc + 1) L st G = some q)
    (kk : az_kk p l e R s m args below meth c Q D cy A ad0 n0 c0 s0 q) : az_kk p l e R s m args below meth c Q D cy A ad0 n0 c0 s0 (pc, L, st, G) := by
  intro ad ls H locs cells slots hR
  obtain ⟨hx, hb, hown, hml, hts, hV, -, hini, hX, -⟩ := hK
  obtain ⟨⟨hL, hst⟩, hwf, hP, hD, hS, hag, hn⟩ := id hR
  unfold az_bast at hs
  split at hs
  · split at hs
    · rename_i x i a r hA
      cases hs
      obtain ⟨n, sl, hSa, hin⟩ := az_isA_of hA
      have hset : (az_w cy ad G).set a (ad a, .inl (cy 1, n, .inl (upd (G.2.1 a) i.toNatClampNeg (vp_nar .boolean x)))) = az_w cy ad (G.1, az_up G.2.1 a i.toNatClampNeg (vp_nar .boolean x), G.2.2) := by
        refine az_w_set rfl (fun b hb => az_E_I (az_up_ne hb) rfl) ?_
        have hg : G.1.getD a (0, 0, []) = (2, n, sl) := by simp [List.getD, hSa]
        show _ = az_E cy ad (az_up G.2.1 a i.toNatClampNeg (vp_nar .boolean x)) G.2.2.1 a (G.1.getD a (0, 0, []))
        rw [hg]
        unfold az_E
        rw [az_up_self]
        rfl
      refine va_zast hx hb hV hP hD hS a 1 (az_w_get hSa) rfl hin hd (fun H1 locs1 hP1 hD1 hS1 => ?_)
      have hP1 : va_P D az_cl ((az_w cy ad G).set a (ad a, .inl (cy 1, n, .inl (upd (G.2.1 a) i.toNatClampNeg (vp_nar .boolean x))))) H1 := hP1
      have hD1 : va_D A ((az_w cy ad G).set a (ad a, .inl (cy 1, n, .inl (upd (G.2.1 a) i.toNatClampNeg (vp_nar .boolean x))))) := hD1
      rw [hset] at hP1 hD1
      exact kk ad ls H1 locs1 cells slots ⟨⟨hL, az_tl1 (az_tl1 (az_tl1 hst))⟩, hwf, hP1, hD1, hS1, hag, hn⟩
    · cases hs
  · cases hs
theorem az_o_last (hK : az_K p s m args meth c xs k D cy A ad0) (hd : decode (az_code k) pc = .ok (.lastore, 1)) (hs : az_last (pc + 1) L st G = some q)
    (kk : az_kk p l e R s m args below meth c Q D cy A ad0 n0 c0 s0 q) : az_kk p l e R s m args below meth c Q D cy A ad0 n0 c0 s0 (pc, L, st, G) := by
  intro ad ls H locs cells slots hR
  obtain ⟨hx, hb, hown, hml, hts, hV, -, hini, hX, -⟩ := hK
  obtain ⟨⟨hL, hst⟩, hwf, hP, hD, hS, hag, hn⟩ := id hR
  unfold az_last at hs
  split at hs
  · split at hs
    · rename_i x i a r hA
      cases hs
      obtain ⟨n, sl, hSa, hin⟩ := az_isA_of hA
      have hset : (az_w cy ad G).set a (ad a, .inl (cy 2, n, .inr (.inl (vp_updL (G.2.2.1 a) i.toNatClampNeg x)))) = az_w cy ad (G.1, G.2.1, az_upJ G.2.2.1 a i.toNatClampNeg x, G.2.2.2) := by
        refine az_w_set rfl (fun b hb => az_E_I rfl (az_upJ_ne hb)) ?_
        have hg : G.1.getD a (0, 0, []) = (3, n, sl) := by simp [List.getD, hSa]
        show _ = az_E cy ad G.2.1 (az_upJ G.2.2.1 a i.toNatClampNeg x) a (G.1.getD a (0, 0, []))
        rw [hg]
        unfold az_E
        rw [az_upJ_self]
        rfl
      refine va_last hx hb hV hP hD hS a 2 (az_w_get hSa) rfl hin hd (fun H1 locs1 hP1 hD1 hS1 => ?_)
      have hP1 : va_P D az_cl ((az_w cy ad G).set a (ad a, .inl (cy 2, n, .inr (.inl (vp_updL (G.2.2.1 a) i.toNatClampNeg x))))) H1 := hP1
      have hD1 : va_D A ((az_w cy ad G).set a (ad a, .inl (cy 2, n, .inr (.inl (vp_updL (G.2.2.1 a) i.toNatClampNeg x))))) := hD1
      rw [hset] at hP1 hD1
      exact kk ad ls H1 locs1 cells slots ⟨⟨hL, az_tl1 (az_tl1 (az_tl1 hst))⟩, hwf, hP1, hD1, hS1, hag, hn⟩
    · cases hs
  · cases hs
theorem az_o_len (hK : az_K p s m args meth c xs k D cy A ad0) (hd : decode (az_code k) pc = .ok (.arraylength, 1)) (hs : az_len xs k (pc + 1) L st G = some q)
    (kk : az_kk p l e R s m args below meth c Q D cy A ad0 n0 c0 s0 q) : az_kk p l e R s m args below meth c Q D cy A ad0 n0 c0 s0 (pc, L, st, G) := by
  intro ad ls H locs cells slots hR
  obtain ⟨hx, hb, hown, hml, hts, hV, -, hini, hX, -⟩ := hK
  obtain ⟨⟨hL, hst⟩, hwf, hP, hD, hS, hag, hn⟩ := id hR
  unfold az_len at hs
  split at hs
  · rename_i a r
    split at hs
    · rename_i hmain
      split at hs
      · rename_i h1
        cases hs
        subst h1
        obtain ⟨x1, x2, x3⟩ := hX hmain
        show W p l e R s m args below meth c H locs cells slots Q (F0 m pc ls (.ref (ad az_scr) :: r.map (az_c ad)))
        rw [hag.2]
        exact va_slen hx hb x1 x2 x3 hS hd (kk ad ls H locs cells slots (hR.st (az_cn1 trivial (az_tl1 hst))))
      · cases hs
    · split at hs
      · rename_i n sl hSa
        cases hs
        exact va_alen hx hb hV hP a 0 (az_w_get hSa) rfl rfl hd (kk ad ls H locs cells slots (hR.st (az_cn1 trivial (az_tl1 hst))))
      · cases hs
  · cases hs
end
end
section
/-! ===== BEGIN new T[n][m]: the outer array a place, the inner ones among the pooled ===== -/
/-- f, but v at every address of l -/
def vr_up {α : Type} (f : Nat → α) (l : List Nat) (v : α) : Nat → α := fun a => if a ∈ l then v else f a
theorem vr_up_in {α : Type} {f : Nat → α} {l : List Nat} {v : α} {a : Nat} (h : a ∈ l) : vr_up f l v a = v := if_pos h
theorem vr_up_ne {α : Type} {f : Nat → α} {l : List Nat} {v : α} {a : Nat} (h : a ∉ l) : vr_up f l v a = f a := if_neg h
theorem vr_rows {L l : List Nat} {f : Nat → va_E} {e : va_E} (h : ∀ a, a ∈ l → a ∉ L) : va_pl L f ++ l.map (fun a => (a, e)) = va_pl (L ++ l) (vr_up f l e) := by
  unfold va_pl
  rw [List.map_append]
  congr 1
  · apply List.map_congr_left
    intro a ha
    rw [vr_up_ne (fun q => h a q ha)]
  · apply List.map_congr_left
    intro a ha
    rw [vr_up_in ha]
theorem vr_lay {X rows : va_W} {x : Nat × va_E} {pl : va_W} {D : va_G} {cl : List vw_C} {H : Heap} (hP : va_P D cl (((X ++ pl) ++ [x]) ++ rows) H) : va_P D cl ((X ++ [x]) ++ (pl ++ rows)) H := by
  rw [List.append_assoc (X ++ pl)] at hP
  have h := va_P.swap hP
  rw [← List.append_assoc X] at h
  have h2 := va_P.swap h
  rw [List.append_assoc (X ++ [x])] at h2
  exact h2
theorem vr_layD {X rows : va_W} {x : Nat × va_E} {pl : va_W} {A : Nat → Prop} (hD : va_D A (((X ++ pl) ++ [x]) ++ rows)) : va_D A ((X ++ [x]) ++ (pl ++ rows)) := by
  rw [List.append_assoc (X ++ pl)] at hD
  have h := va_D.swap hD
  rw [← List.append_assoc X] at h
  have h2 := va_D.swap h
  rw [List.append_assoc (X ++ [x])] at h2
  exact h2
theorem vr_outer (c : ClassId) (N h0 : Nat) : ∀ i : Nat, Jvm.Free.Multi.outerC c N h0 i = arrV c N (fun j => va_rf (if j < i then some (h0 + 1 + j) else none))
  | 0 => by
    show ({ cls := c, slots := Array.replicate N .null, vm := .none } : Cell) = _
    rw [arrV_new]
    refine congrArg (arrV c N) (funext fun j => ?_)
    simp [va_rf]
  | i + 1 => by
    show (Jvm.Free.Multi.outerC c N h0 i).setSlot i (.ref (h0 + 1 + i)) = _
    rw [vr_outer c N h0 i, arrV_store]
    refine congrArg (arrV c N) (funext fun j => ?_)
    by_cases e : j = i
    · subst e
      simp [updV, va_rf]
    · by_cases h : j < i
      · simp [updV, e, h, Nat.lt_succ_of_lt h]
      · simp [updV, e, h, show ¬ j < i + 1 by omega]
section VGM
variable {p : Program} {l : Launch} {e : Env} {R : Room} {s : State} {m : MethodId} {args : Array Value} {below : List Frame} {meth : Method} {c : Code} {H : Heap} {locs : List Loc} {cells slots : Nat} {Q : State → Prop}
variable {cc : ByteArray} {pc : Nat} {ls : Array Slot} {rest : List Value} {D : va_G} {cl : List vw_C} {A : Nat → Prop} {a : Nat} {tys : List (ClassId × FieldType)} {ws : va_W} {H0 : Heap}
theorem va_mna {X : va_W} {L : List Nat} {f : Nat → va_E} {cc : ByteArray} (hexec : p.tables.exec = Jvm.exec) (hb : c.code = cc) {own : String} {index : Nat} {ty : FieldType} {cy : ClassId} (hown : s.vm.findClass own = some m.cls) (hclink : (Cond.classLink own index ("[" ++ (FieldType.array ty).toString)).before args s = true) (hover : (Jvm.Cond.arrayOver (.array ty)).before args s = true) (harr : (Cond.arrayClass ty).before args s = true) (hcy : s.vm.findClass (FieldType.array ty).toString = some cy)
    (hK : va_K D cl tys s) (hP : va_P D cl (X ++ va_pl L f) H) (hD : va_D A (X ++ va_pl L f)) (hS : va_S A H0 H locs) (hA : ∀ q, H0.size ≤ q → A q) {n k : Int32} {N' K' : Nat} {z : vp_A} (hn : ¬ n < 0) (hk : ¬ k < 0) (hN : n.toNatClampNeg = N') (hM : k.toNatClampNeg = K')
    (hb1 : N' * 4 ≤ 536870912) (hb2 : K' * componentBytes ty ≤ 536870912) (hb3 : K' ≤ 536870912) (hdf : fits ty (defaultValue ty) = true) (hdd : (defaultValue ty).isDefault = true) (hcells : cells + (1 + N') ≤ R.cells) (hslots : slots + (N' + N' * K') ≤ R.slots) (hz : ∀ c : ClassId, Jvm.Free.Multi.innerC c K' (defaultValue ty) = vp_cell c z) (hdg : decode cc pc = .ok (.multianewarray index 2, 4))
    (kk : ∀ (q : Nat) (r : Nat → Nat) (cA : ClassId) (H1 : Heap), (∀ i j : Nat, i < N' → j < N' → r i = r j → i = j) → (∀ i : Nat, i < N' → r i ∉ L) → va_K D cl (tys ++ [(cA, .array ty)]) s →
      va_P D cl ((X ++ [(q, .inl (cA, N', .inr (.inr (.inr (.inr (fun i => if i < N' then some (r i) else none))))))]) ++ va_pl (L ++ (List.range N').map r) (vr_up f ((List.range N').map r) (.inl (cy, z)))) H1 → va_D A ((X ++ [(q, .inl (cA, N', .inr (.inr (.inr (.inr (fun i => if i < N' then some (r i) else none))))))]) ++ va_pl (L ++ (List.range N').map r) (vr_up f ((List.range N').map r) (.inl (cy, z)))) → va_S A H0 H1 locs →
      W p l e R s m args below meth c H1 locs (cells + 1 + N') (slots + N' + N' * K') Q (F0 m (pc + 4) ls (.ref q :: rest))) : W p l e R s m args below meth c H locs cells slots Q (F0 m pc ls (.int k :: .int n :: rest)) := by
  subst hN
  subst hM
  intro T hT Xs
  obtain ⟨vm₁, cA, comp, -, fA, fC, hO, -, X', step⟩ := Xs.multianewarray2F hexec hown hclink hover harr (g := F0 m pc ls (.int k :: .int n :: rest)) rfl (by rw [hb]; exact hdg) rfl hn hk hb1 hb2 hb3 hdf hdd hcells hslots
  have ec : some cy = some comp := hcy.symm.trans fC
  cases ec
  generalize hF : Jvm.Free.Multi.fill (T.setVm vm₁) cA cy n.toNatClampNeg k.toNatClampNeg (defaultValue ty) n.toNatClampNeg = F at X' step
  have hTh : (T.setVm vm₁).heap = H := hT
  obtain ⟨f1, f2, -, -⟩ := Jvm.Free.Multi.fill_facts (T.setVm vm₁) cA cy n.toNatClampNeg k.toNatClampNeg (defaultValue ty) n.toNatClampNeg
  rw [hF, hTh] at f1 f2
  have hold : ∀ x : Nat, x < H.size → F.heap[x]? = H[x]? := fun x hx => by
    have := Jvm.Free.Multi.fill_old (T.setVm vm₁) cA cy n.toNatClampNeg k.toNatClampNeg (defaultValue ty) (a := x) (by rw [hTh]; exact hx) n.toNatClampNeg
    rw [hF, hTh] at this
    exact this
  have hrow : ∀ j : Nat, j < n.toNatClampNeg → F.heap[H.size + 1 + j]? = some (vp_cell cy z) := fun j hj => by
    have := Jvm.Free.Multi.fill_inner (T.setVm vm₁) cA cy n.toNatClampNeg k.toNatClampNeg (defaultValue ty) n.toNatClampNeg j hj
    rw [hF, hTh, hz] at this
    exact this
  have hout : Jvm.Free.Multi.outerC cA n.toNatClampNeg H.size n.toNatClampNeg = vp_cell cA (n.toNatClampNeg, .inr (.inr (.inr (.inr (fun i => if i < n.toNatClampNeg then some (H.size + 1 + i) else none))))) := by
    rw [vp_cell_q]
    exact vr_outer cA n.toNatClampNeg H.size n.toNatClampNeg
  rw [hout] at f2
  have hlt : ∀ a, a ∈ L → a < H.size := fun a ha => by
    obtain ⟨k9, hk9⟩ := va_pl_get (X := X) (f := f) ha
    exact (hP k9 _ hk9).lt
  have hnl : ∀ i : Nat, i < n.toNatClampNeg → H.size + 1 + i ∉ L := fun i _ h => by
    have := hlt _ h
    omega
  have hnm : ∀ a, a ∈ (List.range n.toNatClampNeg).map (fun i => H.size + 1 + i) → a ∉ L := fun a ha h => by
    obtain ⟨i, -, rfl⟩ := List.mem_map.mp ha
    have := hlt _ h
    omega
  have hP0 : va_P D cl (X ++ va_pl L f) F.heap := hP.kept (fun k9 x hx => hold x.1 ((hP k9 x hx).lt))
  have hP1 : va_P D cl ((X ++ va_pl L f) ++ [(H.size, .inl (cA, n.toNatClampNeg, .inr (.inr (.inr (.inr (fun i => if i < n.toNatClampNeg then some (H.size + 1 + i) else none))))))]) F.heap := hP0.app (fun k9 x hx => by
    have h0 : k9 < 1 := (List.getElem?_eq_some_iff.mp hx).1
    rw [show k9 = 0 by omega] at hx
    cases hx
    exact f2)
  have hP2 : va_P D cl (((X ++ va_pl L f) ++ [(H.size, .inl (cA, n.toNatClampNeg, .inr (.inr (.inr (.inr (fun i => if i < n.toNatClampNeg then some (H.size + 1 + i) else none))))))]) ++ ((List.range n.toNatClampNeg).map (fun i => H.size + 1 + i)).map (fun a => (a, .inl (cy, z)))) F.heap := hP1.app (fun k9 x hx => by
    obtain ⟨a, ha, rfl⟩ := List.mem_map.mp (List.mem_of_getElem? hx)
    obtain ⟨i, hi, rfl⟩ := List.mem_map.mp ha
    exact hrow i (List.mem_range.mp hi))
  have hD2 : va_D A (((X ++ va_pl L f) ++ [(H.size, .inl (cA, n.toNatClampNeg, .inr (.inr (.inr (.inr (fun i => if i < n.toNatClampNeg then some (H.size + 1 + i) else none))))))]) ++ ((List.range n.toNatClampNeg).map (fun i => H.size + 1 + i)).map (fun a => (a, .inl (cy, z)))) := by
    have hD1 := hD.push (e := .inl (cA, n.toNatClampNeg, .inr (.inr (.inr (.inr (fun i => if i < n.toNatClampNeg then some (H.size + 1 + i) else none)))))) hP rfl (hA _ hS.1)
    generalize hW1 : (X ++ va_pl L f) ++ [(H.size, .inl (cA, n.toNatClampNeg, .inr (.inr (.inr (.inr (fun i => if i < n.toNatClampNeg then some (H.size + 1 + i) else none))))))] = W1 at hD1 hP1 ⊢
    have hle : ∀ (k9 : Nat) (x : Nat × va_E), W1[k9]? = some x → x.1 ≤ H.size := fun k9 x hx => by
      rw [← hW1] at hx
      by_cases hl : k9 < (X ++ va_pl L f).length
      · rw [List.getElem?_append_left hl] at hx
        exact Nat.le_of_lt ((hP k9 x hx).lt)
      · rw [List.getElem?_append_right (by omega)] at hx
        have h0 : k9 - (X ++ va_pl L f).length < 1 := (List.getElem?_eq_some_iff.mp hx).1
        rw [show k9 - (X ++ va_pl L f).length = 0 by omega] at hx
        cases hx
        exact Nat.le_refl _
    have hr : ∀ (k9 : Nat) (x : Nat × va_E), (((List.range n.toNatClampNeg).map (fun i => H.size + 1 + i)).map (fun a => ((a, .inl (cy, z)) : Nat × va_E)))[k9]? = some x → x.1 = H.size + 1 + k9 := fun k9 x hx => by
      rw [List.getElem?_map, List.getElem?_map] at hx
      by_cases h9 : k9 < n.toNatClampNeg
      · rw [List.getElem?_range h9] at hx
        cases hx
        rfl
      · have hn0 : (List.range n.toNatClampNeg)[k9]? = none := List.getElem?_eq_none (by rw [List.length_range]; omega)
        rw [hn0] at hx
        cases hx
    refine ⟨fun i j x y hi hj hxy => ?_, fun k9 x hx => ?_⟩
    · by_cases h1 : i < W1.length <;> by_cases h2 : j < W1.length
      · rw [List.getElem?_append_left h1] at hi
        rw [List.getElem?_append_left h2] at hj
        exact hD1.1 i j x y hi hj hxy
      · rw [List.getElem?_append_left h1] at hi
        rw [List.getElem?_append_right (by omega)] at hj
        have := hle _ _ hi
        have := hr _ _ hj
        omega
      · rw [List.getElem?_append_right (by omega)] at hi
        rw [List.getElem?_append_left h2] at hj
        have := hle _ _ hj
        have := hr _ _ hi
        omega
      · rw [List.getElem?_append_right (by omega)] at hi hj
        have := hr _ _ hi
        have := hr _ _ hj
        omega
    · by_cases h1 : k9 < W1.length
      · rw [List.getElem?_append_left h1] at hx
        exact hD1.2 k9 x hx
      · rw [List.getElem?_append_right (by omega)] at hx
        have := hr _ _ hx
        exact hA _ (by have := hS.1; omega)
  have hAr : ArrOfT s cA (.array ty) := fun N9 z9 => by
    obtain ⟨-, k9, hk9, cm9, hkk9⟩ := (hO 0 0 0).1
    exact ⟨(fun q hq => by cases hq), k9, hk9, cm9, hkk9⟩
  have hK2 : va_K D cl (tys ++ [(cA, .array ty)]) s := ⟨hK.1, fun k9 x hx => by
    by_cases hl : k9 < tys.length
    · rw [List.getElem?_append_left hl] at hx
      exact hK.2 k9 x hx
    · rw [List.getElem?_append_right (by omega)] at hx
      have h0 : k9 - tys.length < 1 := (List.getElem?_eq_some_iff.mp hx).1
      rw [show k9 - tys.length = 0 by omega] at hx
      cases hx
      exact ⟨hAr, fA⟩⟩
  obtain ⟨t, a1, b1⟩ := kk H.size (fun i => H.size + 1 + i) cA F.heap (fun i j _ _ h => by have h9 : H.size + 1 + i = H.size + 1 + j := h; omega) hnl hK2 (by rw [← vr_rows hnm]; exact vr_lay hP2) (by rw [← vr_rows hnm]; exact vr_layD hD2) ⟨by rw [f1]; have := hS.1; omega, fun x h1 h2 => (hold x (Nat.lt_of_lt_of_le h1 hS.1)).trans (hS.2.1 x h1 h2), hS.2.2⟩ F rfl X'
  refine ⟨t, step t ?_, b1⟩
  have e : T.heap.size = H.size := by rw [hT]
  rw [e]
  exact a1
end VGM
/-! ===== END ===== -/
end
section
/-! the steps that make cells -/
theorem az_w_apps {cy : Nat → ClassId} {ad ad' : Nat → Nat} {G G' : az_G} {sl : List az_Shp} {ws : va_W} (hwf : az_wf G.1) (h1 : G'.1 = G.1 ++ sl) (hI : ∀ b : Nat, b < G.1.length → G'.2.1 b = G.2.1 b) (hJ : ∀ b : Nat, b < G.1.length → G'.2.2.1 b = G.2.2.1 b)
    (had : ∀ b : Nat, b < G.1.length → ad' b = ad b) (hws : ws = (List.range sl.length).map fun j => (ad' (G.1.length + j), az_E cy ad' G'.2.1 G'.2.2.1 (G.1.length + j) (sl.getD j (0, 0, [])))) : az_w cy ad G ++ ws = az_w cy ad' G' := by
  subst hws
  unfold az_w
  apply List.ext_getElem?
  intro i
  have hlen : G'.1.length = G.1.length + sl.length := by rw [h1, List.length_append]
  by_cases hi : i < G.1.length
  · rw [List.getElem?_append_left (by simpa using hi), List.getElem?_map, List.getElem?_map, List.getElem?_range hi, List.getElem?_range (by omega)]
    simp only [Option.map_some]
    rw [had i hi]
    have hg : G'.1.getD i (0, 0, []) = G.1.getD i (0, 0, []) := by simp only [List.getD, h1, List.getElem?_append_left hi]
    rw [hg, az_E_I (hI i hi) (hJ i hi)]
    have hE : az_E cy ad' G.2.1 G.2.2.1 i (G.1.getD i (0, 0, [])) = az_E cy ad G.2.1 G.2.2.1 i (G.1.getD i (0, 0, [])) := by
      refine az_E_ad (fun r hr => had r ?_)
      have hm : G.1.getD i (0, 0, []) ∈ G.1 := by
        rw [show G.1.getD i (0, 0, []) = G.1[i] by simp [List.getD, hi]]
        exact List.getElem_mem hi
      exact hwf _ hm r hr
    rw [hE]
  · rw [List.getElem?_append_right (by simpa using hi), List.getElem?_map, List.getElem?_map, List.length_map, List.length_range]
    by_cases h2 : i < G'.1.length
    · rw [List.getElem?_range (by omega), List.getElem?_range h2]
      simp only [Option.map_some]
      have he : G.1.length + (i - G.1.length) = i := by omega
      have hg : G'.1.getD i (0, 0, []) = sl.getD (i - G.1.length) (0, 0, []) := by simp only [List.getD, h1, List.getElem?_append_right (Nat.le_of_not_lt hi)]
      rw [he, hg]
    · rw [List.getElem?_eq_none (by rw [List.length_range]; omega), List.getElem?_eq_none (by rw [List.length_range]; omega)]
      rfl
theorem az_clr_lt {I : Nat → Nat → Int32} {n b : Nat} (h : b < n) : az_clr I n b = I b := by
  funext j
  simp [az_clr, Nat.not_le.mpr h]
theorem az_clrJ_lt {J : Nat → Nat → Int64} {n b : Nat} (h : b < n) : az_clrJ J n b = J b := by
  funext j
  simp [az_clrJ, Nat.not_le.mpr h]
theorem az_clr_ge {I : Nat → Nat → Int32} {n b : Nat} (h : n ≤ b) : az_clr I n b = fun _ => 0 := by
  funext j
  simp [az_clr, h]
theorem az_clrJ_ge {J : Nat → Nat → Int64} {n b : Nat} (h : n ≤ b) : az_clrJ J n b = fun _ => 0 := by
  funext j
  simp [az_clrJ, h]
theorem az_tyc : ∀ c, c < 8 → ∀ j, j < az_N c → az_ty c j = .int ∨ (az_ty c j).isReference = true := by decide +kernel
theorem az_dfr {ty : FieldType} (h : ty.isReference = true) : defaultValue ty = .null := by
  cases ty <;> first | (cases h; done) | rfl
theorem az_df_no (ci r : Nat) : ¬ some (some r) ∈ az_df ci := by
  intro h
  unfold az_df at h
  obtain ⟨j, -, hj⟩ := List.mem_map.mp h
  split at hj <;> cases hj
theorem az_wf_app {S sl : List az_Shp} (h : az_wf S) (hs : ∀ sh ∈ sl, ∀ r : Nat, some (some r) ∈ sh.2.2 → r < S.length + sl.length) : az_wf (S ++ sl) := by
  intro sh hsh r hr
  rw [List.length_append]
  rcases List.mem_append.mp hsh with h1 | h1
  · exact Nat.lt_of_lt_of_le (h sh h1 r hr) (Nat.le_add_right _ _)
  · exact hs sh h1 r hr
/-- the state behind a making -/
theorem az_at_app {D : va_G} {cy : Nat → ClassId} {A : Nat → Prop} {H0 H1 : Heap} {ad0 ad ad' : Nat → Nat} {n0 c0 s0 cells slots k n : Nat} {L : az_Ls} {ls : Array Slot} {st st' : List Value} {G G' : az_G} {H : Heap} {locs : List Loc} {sl : List az_Shp} {ws : va_W}
    (hR : az_at D cy A H0 ad0 n0 c0 s0 ad L ls st G H locs cells slots) (hlt : G.1.length < 100000) (hsl : sl.length ≤ 1001) (h1 : G'.1 = G.1 ++ sl) (hI : ∀ b : Nat, b < G.1.length → G'.2.1 b = G.2.1 b) (hJ : ∀ b : Nat, b < G.1.length → G'.2.2.1 b = G.2.2.1 b)
    (had : ∀ b : Nat, b < G.1.length → ad' b = ad b) (hsc : ad' az_scr = ad az_scr) (hws : ws = (List.range sl.length).map fun j => (ad' (G.1.length + j), az_E cy ad' G'.2.1 G'.2.2.1 (G.1.length + j) (sl.getD j (0, 0, []))))
    (hr : ∀ sh ∈ sl, ∀ r : Nat, some (some r) ∈ sh.2.2 → r < G.1.length + sl.length) (hc : G'.2.2.2.1 = G.2.2.2.1 + k) (hs : G'.2.2.2.2 = G.2.2.2.2 + n)
    (hP : va_P D az_cl (az_w cy ad G ++ ws) H1) (hD : va_D A (az_w cy ad G ++ ws)) (hS : va_S A H0 H1 locs) (hst : ∀ v ∈ st', az_ok G'.1.length v) :
    az_at D cy A H0 ad0 n0 c0 s0 ad' L ls st' G' H1 locs (cells + k) (slots + n) := by
  obtain ⟨⟨hL, -⟩, hwf, -, -, -, hag, hn0, hn1, hn2, hn3⟩ := hR
  have hw := az_w_apps (ad := ad) (ad' := ad') (cy := cy) hwf h1 hI hJ had hws
  rw [hw] at hP hD
  have hlen : G'.1.length = G.1.length + sl.length := by rw [h1, List.length_append]
  refine ⟨⟨az_Lr_ad (by omega) had hsc hL, hst⟩, ?_, hP, hD, hS, ⟨fun i hi => ?_, hsc.trans hag.2⟩, by omega, by omega, by omega, by omega⟩
  · rw [h1]
    exact az_wf_app hwf hr
  · rw [had i (Nat.lt_of_lt_of_le hi hn0)]
    exact hag.1 i hi
section
variable {p : Program} {l : Launch} {e : Env} {R : Room} {s : State} {m : MethodId} {args : Array Value} {below : List Frame} {meth : Method} {c : Code} {Q : State → Prop}
variable {xs : az_X} {k pc : Nat} {D : va_G} {cy : Nat → ClassId} {A : Nat → Prop} {ad0 : Nat → Nat} {n0 c0 s0 : Nat} {L : az_Ls} {st : List Value} {G : az_G} {q : az_Nx}
theorem az_o_new {x : Nat} (hK : az_K p s m args meth c xs k D cy A ad0) (hd : decode (az_code k) pc = .ok (.new x, 3)) (hs : az_new k x (pc + 3) L st G = some q) (hB : q.2.2.2.2.2.2.1 ≤ c0 + R.cells ∧ q.2.2.2.2.2.2.2 ≤ s0 + R.slots)
    (kk : az_kk p l e R s m args below meth c Q D cy A ad0 n0 c0 s0 q) : az_kk p l e R s m args below meth c Q D cy A ad0 n0 c0 s0 (pc, L, st, G) := by
  intro ad ls H locs cells slots hR
  obtain ⟨hx, hb, hown, hml, hts, hV, hA, -, -, -⟩ := hK
  obtain ⟨⟨hL, hst⟩, hwf, hP, hD, hS, hag, hn0, hn1, hn2, hn3⟩ := id hR
  unfold az_new at hs
  split at hs
  · rename_i ci N hlk
    split at hs
    · rename_i hlt
      cases hs
      obtain ⟨hw, hc8⟩ := az_lo _ _ hlk
      have hi := az_ins ci hc8
      have hn1 : cells + c0 = G.2.2.2.1 := hn1
      have hn2 : slots + s0 = G.2.2.2.2 := hn2
      have hB1 : G.2.2.2.1 + 1 ≤ c0 + R.cells := hB.1
      have hB2 : G.2.2.2.2 + az_N ci ≤ s0 + R.slots := hB.2
      have hdl : (az_df ci).length = az_N ci := by simp [az_df]
      refine va_new (T := az_T ci) (N := az_N ci) (ci := ci) (C := az_R ci) (fs := (List.range (az_df ci).length).map fun j => az_fv ad 0 ((az_df ci).getD j none)) hx hb hts (az_uin ci hc8) (az_ty ci) (az_tyk ci hc8) hown (hts _ hw) (hts _ hi.1) (hts _ hi.2) hV hP hD hS hA (az_clg ci hc8) (fun j hj => ?_) (by omega) (by omega) hd (fun q9 H1 hP1 hD1 hS1 => ?_)
      · unfold vp_V
        rw [List.getD, List.getElem?_map, List.getElem?_range (by rw [hdl]; exact hj)]
        have hg : (az_df ci).getD j none = if az_ty ci j = .int then none else some none := by
          unfold az_df
          rw [List.getD, List.getElem?_map, List.getElem?_range hj]
          rfl
        simp only [Option.map_some, Option.getD_some]
        rw [hg]
        rcases az_tyc ci hc8 j hj with h | h
        · rw [if_pos h, h]
          rfl
        · rw [if_neg (fun q => by rw [q] at h; cases h), az_dfr h]
          rfl
      · have had : ∀ b : Nat, b < G.1.length → va_up ad G.1.length q9 b = ad b := fun b hb2 => va_up_ne _ _ (by omega)
        have hsc : va_up ad G.1.length q9 az_scr = ad az_scr := va_up_ne _ _ (by unfold az_scr; omega)
        have hself : va_up ad G.1.length q9 G.1.length = q9 := va_up_self _ _ _
        have hk := kk (va_up ad G.1.length q9) ls H1 locs (cells + 1) (slots + az_N ci) (az_at_app (sl := [(0, ci, az_df ci)]) (ws := [(q9, .inr (ci, (List.range (az_df ci).length).map fun j => az_fv ad 0 ((az_df ci).getD j none)))]) (ad' := va_up ad G.1.length q9) hR hlt (by simp) rfl (fun b hb2 => az_clr_lt hb2) (fun _ _ => rfl) had hsc ?_ ?_ rfl rfl hP1 hD1 hS1 ?_)
        · have e1 : List.map (az_c (va_up ad G.1.length q9)) (.ref G.1.length :: st) = .ref q9 :: st.map (az_c ad) := by
            rw [List.map_cons, az_map_ad had hsc hst]
            show Value.ref (va_up ad G.1.length q9 G.1.length) :: _ = _
            rw [hself]
          have hk' : W p l e R s m args below meth c H1 locs (cells + 1) (slots + az_N ci) Q (F0 m (pc + 3) ls (List.map (az_c (va_up ad G.1.length q9)) (.ref G.1.length :: st))) := hk
          rw [e1] at hk'
          exact hk'
        · show _ = [_]
          simp only [Nat.add_zero, hself]
          refine congrArg (fun z => [(q9, z)]) ?_
          show _ = az_E cy (va_up ad G.1.length q9) (az_clr G.2.1 G.1.length) G.2.2.1 G.1.length (0, ci, az_df ci)
          unfold az_E
          rw [az_clr_ge (Nat.le_refl _)]
          show Sum.inr (ci, _) = Sum.inr (ci, _)
          refine congrArg (fun z => Sum.inr (ci, z)) (List.map_congr_left fun j _ => ?_)
          have hg : (az_df ci).getD j none = none ∨ (az_df ci).getD j none = some none := by
            cases h : (az_df ci)[j]? with
            | none => exact Or.inl (by simp [List.getD, h])
            | some o =>
              have hm := List.mem_of_getElem? h
              cases o with
              | none => exact Or.inl (by simp [List.getD, h])
              | some r =>
                cases r with
                | none => exact Or.inr (by simp [List.getD, h])
                | some r => exact absurd hm (az_df_no ci r)
          rcases hg with h | h <;> rw [h] <;> rfl
        · intro sh hsh r hr
          rw [List.mem_singleton.mp hsh] at hr
          exact absurd hr (az_df_no ci r)
        · show ∀ v ∈ Value.ref G.1.length :: st, az_ok (G.1 ++ [(0, ci, az_df ci)]).length v
          rw [List.length_append]
          exact az_cn1 (Or.inl (Nat.lt_succ_self _)) (fun v hv => az_ok_mono (Nat.le_add_right _ _) (hst v hv))
    · cases hs
  · cases hs
theorem az_cls_eq {cA : ClassId} {ty : FieldType} {t : Nat} {cl : List vw_C} (hty : ∀ C, ty ≠ .object C) (hV : va_K D cl (az_tl cy) s) (ht : (az_tl cy)[t]? = some (cy t, ty)) (h : va_RA s cA ty) : cA = cy t := by
  have h2 := (hV.2 t _ ht).2
  cases ty <;> first | exact absurd rfl (hty _) | exact Option.some.inj (h.symm.trans h2)
theorem az_o_nwa {at' : ArrayType} {ty : FieldType} {kd : Nat} {f0 : Nat → vp_A} (hK : az_K p s m args meth c xs k D cy A ad0) (hd : decode (az_code k) pc = .ok (.newarray at', 2)) (hs : az_nwa kd (pc + 2) L st G = some q) (hB : q.2.2.2.2.2.2.1 ≤ c0 + R.cells ∧ q.2.2.2.2.2.2.2 ≤ s0 + R.slots)
    (hT : newarray.typeOf at' = ty) (hty : ∀ C, ty ≠ .object C) (t : Nat) (ht : (az_tl cy)[t]? = some (cy t, ty)) (hw : Jvm.Cond.arrayClass (newarray.typeOf at') ∈ az_gw) (hf : ∀ (N : Nat) (cA : ClassId), vp_cell cA (f0 N) = arrV cA N (fun _ => defaultValue ty)) (hbytes : componentBytes ty ≤ 8)
    (hE : ∀ (ad : Nat → Nat) (I : Nat → Nat → Int32) (J : Nat → Nat → Int64) (n N : Nat), az_E cy ad (az_clr I n) (az_clrJ J n) n (kd, N, []) = .inl (cy t, f0 N))
    (kk : az_kk p l e R s m args below meth c Q D cy A ad0 n0 c0 s0 q) : az_kk p l e R s m args below meth c Q D cy A ad0 n0 c0 s0 (pc, L, st, G) := by
  intro ad ls H locs cells slots hR
  obtain ⟨hx, hb, hown, hml, hts, hV, hA, -, -, -⟩ := hK
  obtain ⟨⟨hL, hst⟩, hwf, hP, hD, hS, hag, hn0, hn1, hn2, hn3⟩ := id hR
  unfold az_nwa at hs
  split at hs
  · rename_i n r
    split at hs
    · rename_i hcond
      obtain ⟨h0, hle, hlt⟩ := hcond
      cases hs
      have hn1 : cells + c0 = G.2.2.2.1 := hn1
      have hn2 : slots + s0 = G.2.2.2.2 := hn2
      have hB1 : G.2.2.2.1 + 1 ≤ c0 + R.cells := hB.1
      have hB2 : G.2.2.2.2 + n.toNatClampNeg ≤ s0 + R.slots := hB.2
      have hby : n.toNatClampNeg * componentBytes ty ≤ 536870912 := Nat.le_trans (Nat.mul_le_mul hle hbytes) (by decide)
      refine va_newa (a0 := f0 n.toNatClampNeg) hx hb (hts _ hw) hT hV hP hD hS hA (fun cA => hf _ cA) h0 rfl hby (by omega) (by omega) hd (fun q9 cA H1 hK1 hP1 hD1 hS1 => ?_)
      have hcA : cA = cy t := az_cls_eq hty hV ht (hK1.2 4 _ rfl).2
      subst hcA
      have had : ∀ b : Nat, b < G.1.length → va_up ad G.1.length q9 b = ad b := fun b hb2 => va_up_ne _ _ (by omega)
      have hsc : va_up ad G.1.length q9 az_scr = ad az_scr := va_up_ne _ _ (by unfold az_scr; omega)
      have hself : va_up ad G.1.length q9 G.1.length = q9 := va_up_self _ _ _
      have hk := kk (va_up ad G.1.length q9) ls H1 locs (cells + 1) (slots + n.toNatClampNeg) (az_at_app (sl := [(kd, n.toNatClampNeg, [])]) (ws := [(q9, .inl (cy t, f0 n.toNatClampNeg))]) (ad' := va_up ad G.1.length q9) hR hlt (by simp) rfl (fun b hb2 => az_clr_lt hb2) (fun b hb2 => az_clrJ_lt hb2) had hsc ?_ ?_ rfl rfl hP1 hD1 hS1 ?_)
      · have e1 : List.map (az_c (va_up ad G.1.length q9)) (.ref G.1.length :: r) = .ref q9 :: r.map (az_c ad) := by
          rw [List.map_cons, az_map_ad had hsc (az_tl1 hst)]
          show Value.ref (va_up ad G.1.length q9 G.1.length) :: _ = _
          rw [hself]
        have hk' : W p l e R s m args below meth c H1 locs (cells + 1) (slots + n.toNatClampNeg) Q (F0 m (pc + 2) ls (List.map (az_c (va_up ad G.1.length q9)) (.ref G.1.length :: r))) := hk
        rw [e1] at hk'
        exact hk'
      · show _ = [_]
        simp only [Nat.add_zero, hself]
        refine congrArg (fun z => [(q9, z)]) ?_
        exact (hE _ _ _ _ _).symm
      · intro sh hsh r hr
        rw [List.mem_singleton.mp hsh] at hr
        cases hr
      · show ∀ v ∈ Value.ref G.1.length :: r, az_ok (G.1 ++ [(kd, n.toNatClampNeg, [])]).length v
        rw [List.length_append]
        exact az_cn1 (Or.inl (Nat.lt_succ_self _)) (fun v hv => az_ok_mono (Nat.le_add_right _ _) (az_tl1 hst v hv))
    · cases hs
  · cases hs
end
end
section
/-! the rest of the steps, and all of them together -/
section
variable {p : Program} {l : Launch} {e : Env} {R : Room} {s : State} {m : MethodId} {args : Array Value} {below : List Frame} {meth : Method} {c : Code} {Q : State → Prop}
variable {xs : az_X} {k pc : Nat} {D : va_G} {cy : Nat → ClassId} {A : Nat → Prop} {ad0 : Nat → Nat} {n0 c0 s0 : Nat} {L : az_Ls} {st : List Value} {G : az_G} {q : az_Nx}
theorem az_o_nwm {x : Nat} (hK : az_K p s m args meth c xs k D cy A ad0) (hd : decode (az_code k) pc = .ok (.multianewarray x 2, 4)) (hs : az_nwm k x (pc + 4) L st G = some q) (hB : q.2.2.2.2.2.2.1 ≤ c0 + R.cells ∧ q.2.2.2.2.2.2.2 ≤ s0 + R.slots)
    (kk : az_kk p l e R s m args below meth c Q D cy A ad0 n0 c0 s0 q) : az_kk p l e R s m args below meth c Q D cy A ad0 n0 c0 s0 (pc, L, st, G) := by
  intro ad ls H locs cells slots hR
  obtain ⟨hx, hb, hown, hml, hts, hV, hA, -, -, hover⟩ := hK
  obtain ⟨⟨hL, hst⟩, hwf, hP, hD, hS, hag, hn0, hn1, hn2, hn3⟩ := id hR
  unfold az_nwm at hs
  split at hs
  · rename_i b1 b2 m9 n9 r hlk
    split at hs
    · rename_i hcond
      obtain ⟨h0, h1, hle, hle2, hlt⟩ := hcond
      cases hs
      have hw0 : Jvm.Cond.classLink (az_R (az_own k)) x "[[I" ∈ az_gw := az_lo _ _ hlk
      have hw : Jvm.Cond.classLink (az_R (az_own k)) x ("[" ++ (FieldType.array .int).toString) ∈ az_gw := by rw [show "[" ++ (FieldType.array .int).toString = "[[I" by decide +kernel]; exact hw0
      have hn1 : cells + c0 = G.2.2.2.1 := hn1
      have hn2 : slots + s0 = G.2.2.2.2 := hn2
      have hB1 : G.2.2.2.1 + 1 + n9.toNatClampNeg ≤ c0 + R.cells := hB.1
      have hB2 : G.2.2.2.2 + n9.toNatClampNeg + n9.toNatClampNeg * m9.toNatClampNeg ≤ s0 + R.slots := hB.2
      generalize hN : n9.toNatClampNeg = N at *
      generalize hM : m9.toNatClampNeg = M at *
      have hcy : s.vm.findClass (FieldType.array .int).toString = some (cy 0) := (hV.2 0 _ rfl).2
      have hP' : va_P D az_cl (az_w cy ad G ++ va_pl [] (fun _ => .inr (0, []))) H := by rw [show az_w cy ad G ++ va_pl [] (fun _ => .inr (0, [])) = az_w cy ad G by simp [va_pl]]; exact hP
      have hD' : va_D A (az_w cy ad G ++ va_pl [] (fun _ => .inr (0, []))) := by rw [show az_w cy ad G ++ va_pl [] (fun _ => .inr (0, [])) = az_w cy ad G by simp [va_pl]]; exact hD
      refine va_mna (z := (M, .inl fun _ => 0)) hx hb hown (hts _ hw) hover (hts _ az_ac_int) hcy hV hP' hD' hS hA h0 h1 hN hM (by omega) (Nat.le_trans (Nat.mul_le_mul hle2 (show componentBytes .int ≤ 8 by decide)) (by decide)) (by omega) rfl rfl (by omega) (by omega) (fun c9 => ?_) hd (fun q9 r9 cA H1 hinj _ hK1 hP1 hD1 hS1 => ?_)
      · show ({ cls := c9, slots := Array.replicate M (.int 0), vm := .none } : Cell) = _
        rw [arrV_new]
        rfl
      · have hcA : cA = cy 3 := az_cls_eq (t := 3) (fun C h => by cases h) hV rfl (hK1.2 4 _ rfl).2
        subst hcA
        obtain ⟨ad', hadd⟩ : ∃ f : Nat → Nat, f = fun i => if i < G.1.length then ad i else if i = G.1.length then q9 else if i < G.1.length + 1 + N then r9 (i - (G.1.length + 1)) else ad i := ⟨_, rfl⟩
        have had : ∀ b : Nat, b < G.1.length → ad' b = ad b := fun b hb2 => by rw [hadd]; simp [hb2]
        have hsc : ad' az_scr = ad az_scr := by
          rw [hadd]
          have h9 : ¬ az_scr < G.1.length := by unfold az_scr; omega
          have h8 : ¬ az_scr = G.1.length := by unfold az_scr; omega
          have h7 : ¬ az_scr < G.1.length + 1 + N := by unfold az_scr; omega
          simp only [h9, h8, h7, if_false]
        have hself : ad' G.1.length = q9 := by rw [hadd]; simp
        have hrow : ∀ j : Nat, j < N → ad' (G.1.length + 1 + j) = r9 j := fun j hj => by
          rw [hadd]
          have h9 : ¬ G.1.length + 1 + j < G.1.length := by omega
          have h8 : ¬ G.1.length + 1 + j = G.1.length := by omega
          have h7 : G.1.length + 1 + j < G.1.length + 1 + N := by omega
          simp only [h9, h8, h7, if_false, if_true]
          rw [show G.1.length + 1 + j - (G.1.length + 1) = j by omega]
        obtain ⟨sl, hsl⟩ : ∃ z : List az_Shp, z = (4, N, (List.range N).map fun j => some (some (G.1.length + 1 + j))) :: List.replicate N (1, M, []) := ⟨_, rfl⟩
        have hsll : sl.length = N + 1 := by rw [hsl]; simp
        have hk := kk ad' ls H1 locs (cells + (1 + N)) (slots + (N + N * M)) (az_at_app (sl := sl) (ws := [(q9, .inl (cy 3, N, .inr (.inr (.inr (.inr fun i => if i < N then some (r9 i) else none)))))] ++ va_pl ([] ++ (List.range N).map r9) (vr_up (fun _ => .inr (0, [])) ((List.range N).map r9) (.inl (cy 0, M, .inl fun _ => 0)))) hR hlt (by rw [hsll]; omega) ?_ (fun b hb2 => az_clr_lt hb2) (fun b hb2 => rfl) had hsc ?_ ?_ ?_ ?_ ?_ ?_ hS1 ?_)
        · have e1 : List.map (az_c ad') (.ref G.1.length :: r) = .ref q9 :: r.map (az_c ad) := by
            rw [List.map_cons, az_map_ad had hsc (az_tl1 (az_tl1 hst))]
            show Value.ref (ad' G.1.length) :: _ = _
            rw [hself]
          have hk' : W p l e R s m args below meth c H1 locs (cells + (1 + N)) (slots + (N + N * M)) Q (F0 m (pc + 4) ls (List.map (az_c ad') (.ref G.1.length :: r))) := hk
          rw [e1] at hk'
          rw [Nat.add_assoc cells, Nat.add_assoc slots]
          exact hk'
        · show (G.1 ++ [_]) ++ _ = G.1 ++ sl
          rw [hsl, List.append_assoc]
          rfl
        · rw [hsll]
          apply List.ext_getElem?
          intro i
          cases i with
          | zero =>
            rw [List.getElem?_map, List.getElem?_range (by omega)]
            simp only [Option.map_some, Nat.add_zero, hself]
            show some _ = some _
            refine congrArg some (Prod.ext rfl ?_)
            show _ = az_E cy ad' _ _ _ (sl.getD 0 (0, 0, []))
            rw [hsl]
            show _ = Sum.inl (cy 3, N, Sum.inr (Sum.inr (Sum.inr (Sum.inr fun j => ((((List.range N).map fun j => some (some (G.1.length + 1 + j))).getD j none).getD none).map ad'))))
            refine congrArg (fun z => Sum.inl (cy 3, N, Sum.inr (Sum.inr (Sum.inr (Sum.inr z))))) (funext fun j => ?_)
            by_cases hj : j < N
            · simp [List.getD, List.getElem?_range, hj, hrow j hj]
            · simp [List.getD, hj]
          | succ i =>
            by_cases hi : i < N
            · rw [List.getElem?_map, List.getElem?_range (by omega)]
              show (va_pl ([] ++ (List.range N).map r9) _)[i]? = _
              unfold va_pl
              rw [List.nil_append, List.getElem?_map, List.getElem?_map, List.getElem?_range hi]
              simp only [Option.map_some]
              have hmem : r9 i ∈ (List.range N).map r9 := List.mem_map.mpr ⟨i, List.mem_range.mpr hi, rfl⟩
              rw [vr_up_in hmem, show G.1.length + (i + 1) = G.1.length + 1 + i by omega, hrow i hi]
              refine congrArg some (Prod.ext rfl ?_)
              have hg : sl.getD (i + 1) (0, 0, []) = (1, M, []) := by rw [hsl]; simp [List.getD, hi]
              rw [hg]
              show _ = az_E cy ad' (az_clr G.2.1 G.1.length) G.2.2.1 (G.1.length + 1 + i) (1, M, [])
              unfold az_E
              rw [az_clr_ge (by omega)]
              rfl
            · rw [List.getElem?_eq_none (by simp [va_pl]; omega), List.getElem?_eq_none (by simp; omega)]
        · intro sh hsh r8 hr8
          rw [hsll]
          rw [hsl] at hsh
          rcases List.mem_cons.mp hsh with h | h
          · rw [h] at hr8
            obtain ⟨j, hj, he⟩ := List.mem_map.mp hr8
            have := List.mem_range.mp hj
            cases he
            show G.1.length + 1 + j < G.1.length + (N + 1)
            omega
          · rw [List.eq_of_mem_replicate h] at hr8
            cases hr8
        · show G.2.2.2.1 + 1 + N = _
          omega
        · show G.2.2.2.2 + N + N * M = _
          omega
        · rw [← List.append_assoc]
          exact hP1
        · rw [← List.append_assoc]
          exact hD1
        · show ∀ v ∈ Value.ref G.1.length :: r, az_ok ((G.1 ++ [(4, N, (List.range N).map fun j => some (some (G.1.length + 1 + j)))]) ++ List.replicate N (1, M, [])).length v
          rw [List.append_assoc, List.length_append]
          refine az_cn1 (Or.inl ?_) (fun v hv => az_ok_mono (Nat.le_add_right _ _) (az_tl1 (az_tl1 hst) v hv))
          simp
    · cases hs
  · cases hs
theorem az_o_mth {x : Nat} (hRm : 1 ≤ R.frames ∧ 21 ≤ R.locals) (hRc : ∀ cells slots : Nat, cells + c0 = G.2.2.2.1 → slots + s0 = G.2.2.2.2 → cells ≤ R.cells ∧ slots ≤ R.slots) (hK : az_K p s m args meth c xs k D cy A ad0) (hlL : L.length = az_ml k) (hd : decode (az_code k) pc = .ok (.invokestatic x, 3)) (hs : az_mth k x (pc + 3) L st G = some q)
    (kk : az_kk p l e R s m args below meth c Q D cy A ad0 n0 c0 s0 q) : az_kk p l e R s m args below meth c Q D cy A ad0 n0 c0 s0 (pc, L, st, G) := by
  intro ad ls H locs cells slots hR
  obtain ⟨hx, hb, hown, hml, hts, hV, -, hini, hX, -⟩ := hK
  obtain ⟨⟨hL, hst⟩, hwf, hP, hD, hS, hag, hn⟩ := id hR
  have hsz : c.maxLocals = ls.size := by rw [hml, hL.1]; exact hlL.symm
  obtain ⟨hc1, hc2⟩ := hRc cells slots hn.2.1 hn.2.2.1
  unfold az_mth at hs
  split at hs
  · rename_i b1 b2 b a r hlk
    split at hs
    · rename_i hcat
      cases hs
      have hw := az_lo _ _ hlk
      exact va_mmax hx hb hsz hown (hts _ hw) (hts _ az_max.1) (hts _ az_max.2.1) (hts _ az_max.2.2) hRm.1 (by rw [az_cats]; omega) hc1 hc2 hd (kk ad ls H locs cells slots (hR.st (az_cn1 trivial (az_tl1 (az_tl1 hst)))))
    · cases hs
  · rename_i b1 b2 b a r hlk
    split at hs
    · rename_i hcat
      cases hs
      have hw := az_lo _ _ hlk
      exact va_mmin hx hb hsz hown (hts _ hw) (hts _ az_min.1) (hts _ az_min.2.1) (hts _ az_min.2.2) hRm.1 (by rw [az_cats]; omega) hc1 hc2 hd (kk ad ls H locs cells slots (hR.st (az_cn1 trivial (az_tl1 (az_tl1 hst)))))
    · cases hs
  · cases hs
theorem az_o_oin {x : Nat} (hRm : 1 ≤ R.frames ∧ 21 ≤ R.locals) (hK : az_K p s m args meth c xs k D cy A ad0) (hlL : L.length = az_ml k) (hd : decode (az_code k) pc = .ok (.invokespecial x, 3)) (hs : az_oin k x (pc + 3) L st G = some q)
    (kk : az_kk p l e R s m args below meth c Q D cy A ad0 n0 c0 s0 q) : az_kk p l e R s m args below meth c Q D cy A ad0 n0 c0 s0 (pc, L, st, G) := by
  intro ad ls H locs cells slots hR
  obtain ⟨hx, hb, hown, hml, hts, hV, -, hini, hX, -⟩ := hK
  obtain ⟨⟨hL, hst⟩, hwf, hP, hD, hS, hag, hn⟩ := id hR
  have hsz : ls.size = c.maxLocals := by rw [hml, hL.1]; exact hlL
  unfold az_oin at hs
  split at hs
  · rename_i b1 b2 a r hlk
    split at hs
    · rename_i hcat
      cases hs
      have hw := az_lo _ _ hlk
      refine W.objInit (a := ad a) (rest := r.map (az_c ad)) hx hb hown (hts _ hw) (hts _ az_obi.1) (hts _ az_obi.2) rfl hsz rfl hd hRm.1 ?_ (kk ad ls H locs cells slots (hR.st (az_tl1 hst)))
      rw [az_cats]
      show 0 + az_cat r + 12 ≤ R.locals
      omega
    · cases hs
  · cases hs
theorem az_o_tsw {d lo hi : Int} {offs : Array Int} {len : Nat} (hK : az_K p s m args meth c xs k D cy A ad0) (hd : decode (az_code k) pc = .ok (.tableswitch d lo hi offs, len)) (hs : az_tsw d lo hi offs pc L st G = some q)
    (kk : az_kk p l e R s m args below meth c Q D cy A ad0 n0 c0 s0 q) : az_kk p l e R s m args below meth c Q D cy A ad0 n0 c0 s0 (pc, L, st, G) := by
  intro ad ls H locs cells slots hR
  obtain ⟨hx, hb, -, -, -, -, -, -, -, -⟩ := hK
  have hst := hR.1.2
  unfold az_tsw at hs
  split at hs
  · rename_i x r
    split at hs
    · rename_i hout
      exact az_o_br hs (hR.st (az_tl1 hst)) (fun tgt ht w1 _ => lv_tableOut hx hb hd hout ht (w1 rfl)) kk
    · rename_i hin
      split at hs
      · rename_i off hoff
        exact az_o_br hs (hR.st (az_tl1 hst)) (fun tgt ht w1 _ => lv_tableIn hx hb hd (fun h => hin (Or.inl h)) (fun h => hin (Or.inr h)) hoff ht (w1 rfl)) kk
      · cases hs
  · cases hs
theorem az_kcm {o i : Nat} {v : Int32} (h : az_kc o i = some v) : Jvm.Cond.constant (az_R o) i v ∈ az_gw := by
  unfold az_kc at h
  obtain ⟨q, h1, h2⟩ := Option.map_eq_some_iff.mp h
  have h3 := List.mem_of_find?_eq_some h1
  have h4 := List.find?_some h1
  simp only [Bool.and_eq_true, beq_iff_eq] at h4
  have h5 := az_kcw q h3
  rw [h4.1, h4.2, h2] at h5
  exact h5
end
end
section
/-! any step of the small machine that is no call and no end -/
theorem az_stp_len {xs : az_X} {k pc nx : Nat} {i : Instr} {L : az_Ls} {st : List Value} {G : az_G} {q : az_Nx} (hs : az_stp xs k i pc nx L st G = some q) : q.2.1.length = L.length := by
  unfold az_stp at hs
  split at hs <;> (try unfold az_b2 at hs) <;> (try unfold az_dv at hs) <;> (try unfold az_ild at hs) <;> (try unfold az_ald at hs) <;> (try unfold az_ist at hs) <;> (try unfold az_ast at hs) <;> (try unfold az_inc at hs) <;> (try unfold az_if1 at hs) <;> (try unfold az_if2 at hs) <;> (try unfold az_tsw at hs) <;> (try unfold az_gf at hs) <;> (try unfold az_pf at hs) <;> (try unfold az_ial at hs) <;> (try unfold az_lal at hs) <;> (try unfold az_aal at hs) <;> (try unfold az_iast at hs) <;> (try unfold az_bast at hs) <;> (try unfold az_last at hs) <;> (try unfold az_len at hs) <;> (try unfold az_new at hs) <;> (try unfold az_nwa at hs) <;> (try unfold az_nwm at hs) <;> (try unfold az_mth at hs) <;> (try unfold az_oin at hs) <;> (try unfold az_br at hs) <;> (try (simp only [Option.map_eq_some_iff] at hs; obtain ⟨w9, -, hs⟩ := hs)) <;> (repeat' split at hs) <;> first | (cases hs; done) | (cases hs; rfl) | (cases hs; exact List.length_set ..) | (subst hs; rfl)
section
variable {p : Program} {l : Launch} {e : Env} {R : Room} {s : State} {m : MethodId} {args : Array Value} {below : List Frame} {meth : Method} {c : Code} {Q : State → Prop}
variable {xs : az_X} {k pc : Nat} {D : va_G} {cy : Nat → ClassId} {A : Nat → Prop} {ad0 : Nat → Nat} {n0 c0 s0 : Nat} {L : az_Ls} {st : List Value} {G : az_G} {q : az_Nx}
theorem az_stp_ok {i : Instr} {len : Nat} (hRm : 1 ≤ R.frames ∧ 21 ≤ R.locals) (hRc : ∀ cells slots : Nat, cells + c0 = G.2.2.2.1 → slots + s0 = G.2.2.2.2 → cells ≤ R.cells ∧ slots ≤ R.slots) (hK : az_K p s m args meth c xs k D cy A ad0) (hlL : L.length = az_ml k) (hd : decode (az_code k) pc = .ok (i, len)) (hil : az_il i len = true) (hs : az_stp xs k i pc (pc + len) L st G = some q)
    (hB : q.2.2.2.2.2.2.1 ≤ c0 + R.cells ∧ q.2.2.2.2.2.2.2 ≤ s0 + R.slots) (kk : az_kk p l e R s m args below meth c Q D cy A ad0 n0 c0 s0 q) : az_kk p l e R s m args below meth c Q D cy A ad0 n0 c0 s0 (pc, L, st, G) := by
  have hx := hK.1
  have hb := hK.2.1
  have hown := hK.2.2.1
  have hts := hK.2.2.2.2.1
  unfold az_stp at hs
  split at hs
  · obtain rfl : len = 1 := by simpa [az_il] using hil
    cases hs
    exact az_o_pi (fun H locs cells slots ls rest w => lv_iconst hx hb hd rfl w) kk
  · obtain rfl : len = 2 := by simpa [az_il] using hil
    cases hs
    exact az_o_pi (fun H locs cells slots ls rest w => lv_bipush hx hb hd rfl w) kk
  · obtain rfl : len = 3 := by simpa [az_il] using hil
    cases hs
    exact az_o_pi (fun H locs cells slots ls rest w => lv_sipush hx hb hd rfl w) kk
  · obtain rfl : len = 2 := by simpa [az_il] using hil
    obtain ⟨v, hv, rfl⟩ := Option.map_eq_some_iff.mp hs
    exact az_o_pi (fun H locs cells slots ls rest w => lv_ldc hx hb hown (hts _ (az_kcm hv)) hd w) kk
  · obtain rfl : len = 3 := by simpa [az_il] using hil
    obtain ⟨v, hv, rfl⟩ := Option.map_eq_some_iff.mp hs
    exact az_o_pi (fun H locs cells slots ls rest w => lv_ldcw hx hb hown (hts _ (az_kcm hv)) hd w) kk
  · obtain rfl : len = 1 := by simpa [az_il] using hil
    cases hs
    exact az_o_pl (fun H locs cells slots ls rest w => lv_lconst hx hb hd rfl w) kk
  · obtain rfl : len = 2 := by simpa [az_il] using hil
    exact az_o_ild hs (fun H locs cells slots ls x rest hl w => lv_iload hx hb hd hl w) kk
  · obtain rfl : len = 1 := by simpa [az_il] using hil
    exact az_o_ild hs (fun H locs cells slots ls x rest hl w => lv_iload_n hx hb hd rfl hl w) kk
  · obtain rfl : len = 2 := by simpa [az_il] using hil
    exact az_o_ald hs (fun H locs cells slots ls x rest hl w => lv_aload hx hb hd hl w) kk
  · obtain rfl : len = 1 := by simpa [az_il] using hil
    exact az_o_ald hs (fun H locs cells slots ls x rest hl w => lv_aload_n hx hb hd rfl hl w) kk
  · obtain rfl : len = 2 := by simpa [az_il] using hil
    exact az_o_ist hs (fun H locs cells slots ls x rest nL lv lv2 h hn hl w => lv_istore hx hb hd h hn hl w) kk
  · obtain rfl : len = 1 := by simpa [az_il] using hil
    exact az_o_ist hs (fun H locs cells slots ls x rest nL lv lv2 h hn hl w => lv_istore_n hx hb hd rfl h hn hl w) kk
  · obtain rfl : len = 2 := by simpa [az_il] using hil
    exact az_o_ast hs (fun H locs cells slots ls x rest nL lv lv2 h hn hl w => lv_astore hx hb hd h hn hl w) kk
  · obtain rfl : len = 1 := by simpa [az_il] using hil
    exact az_o_ast hs (fun H locs cells slots ls x rest nL lv lv2 h hn hl w => lv_astore_n hx hb hd rfl h hn hl w) kk
  · obtain rfl : len = 3 := by simpa [az_il] using hil
    exact az_o_inc hs (fun H locs cells slots ls x rest nL j lv lv2 h hj hn hl w => lv_iinc hx hb hd h hj rfl hn hl w) kk
  · obtain rfl : len = 1 := by simpa [az_il] using hil
    exact az_o_b2 hs (fun H locs cells slots ls x y rest w => lv_iadd hx hb hd w) kk
  · obtain rfl : len = 1 := by simpa [az_il] using hil
    exact az_o_b2 hs (fun H locs cells slots ls x y rest w => lv_isub hx hb hd w) kk
  · obtain rfl : len = 1 := by simpa [az_il] using hil
    exact az_o_b2 hs (fun H locs cells slots ls x y rest w => lv_imul hx hb hd w) kk
  · obtain rfl : len = 1 := by simpa [az_il] using hil
    exact az_o_b2 hs (fun H locs cells slots ls x y rest w => lv_iand hx hb hd w) kk
  · obtain rfl : len = 1 := by simpa [az_il] using hil
    exact az_o_b2 hs (fun H locs cells slots ls x y rest w => lv_ior hx hb hd w) kk
  · obtain rfl : len = 1 := by simpa [az_il] using hil
    exact az_o_b2 hs (fun H locs cells slots ls x y rest w => lv_ixor hx hb hd w) kk
  · obtain rfl : len = 1 := by simpa [az_il] using hil
    exact az_o_b2 hs (fun H locs cells slots ls x y rest w => lv_ishl hx hb hd w) kk
  · obtain rfl : len = 1 := by simpa [az_il] using hil
    exact az_o_b2 hs (fun H locs cells slots ls x y rest w => lv_ishr hx hb hd w) kk
  · obtain rfl : len = 1 := by simpa [az_il] using hil
    exact az_o_b2 hs (fun H locs cells slots ls x y rest w => lv_iushr hx hb hd rfl w) kk
  · obtain rfl : len = 1 := by simpa [az_il] using hil
    exact az_o_dv hs (fun H locs cells slots ls x y rest h0 w => lv_idiv hx hb hd h0 w) kk
  · obtain rfl : len = 1 := by simpa [az_il] using hil
    exact az_o_dv hs (fun H locs cells slots ls x y rest h0 w => lv_irem hx hb hd h0 w) kk
  · obtain rfl : len = 1 := by simpa [az_il] using hil
    split at hs
    · cases hs
      intro ad ls H locs cells slots hR
      exact lv_ineg hx hb hd (kk ad ls H locs cells slots (hR.st (az_cn1 trivial (az_tl1 hR.1.2))))
    · cases hs
  · obtain rfl : len = 1 := by simpa [az_il] using hil
    split at hs
    · cases hs
      intro ad ls H locs cells slots hR
      exact lv_i2l hx hb hd rfl (kk ad ls H locs cells slots (hR.st (az_cn1 trivial (az_tl1 hR.1.2))))
    · cases hs
  · obtain rfl : len = 1 := by simpa [az_il] using hil
    split at hs
    · cases hs
      intro ad ls H locs cells slots hR
      exact W.lcmp hx hb hd (kk ad ls H locs cells slots (hR.st (az_cn1 trivial (az_tl1 (az_tl1 hR.1.2)))))
    · cases hs
  · obtain rfl : len = 3 := by simpa [az_il] using hil
    exact az_o_if1 hs (fun H locs cells slots ls x rest tgt ht w1 w2 => lv_if_eq hx hb hd ht (fun h => w1 (decide_eq_true h)) (fun h => w2 (decide_eq_false h))) kk
  · obtain rfl : len = 3 := by simpa [az_il] using hil
    exact az_o_if1 hs (fun H locs cells slots ls x rest tgt ht w1 w2 => lv_if_ne hx hb hd ht (fun h => w1 (decide_eq_true h)) (fun h => w2 (decide_eq_false (fun q => q h)))) kk
  · obtain rfl : len = 3 := by simpa [az_il] using hil
    exact az_o_if1 hs (fun H locs cells slots ls x rest tgt ht w1 w2 => lv_if_lt hx hb hd ht (fun h => w1 (decide_eq_true h)) (fun h => w2 (decide_eq_false h))) kk
  · obtain rfl : len = 3 := by simpa [az_il] using hil
    exact az_o_if1 hs (fun H locs cells slots ls x rest tgt ht w1 w2 => lv_if_ge hx hb hd ht (fun h => w1 (decide_eq_true h)) (fun h => w2 (decide_eq_false h))) kk
  · obtain rfl : len = 3 := by simpa [az_il] using hil
    exact az_o_if1 hs (fun H locs cells slots ls x rest tgt ht w1 w2 => lv_if_gt hx hb hd ht (fun h => w1 (decide_eq_true h)) (fun h => w2 (decide_eq_false h))) kk
  · obtain rfl : len = 3 := by simpa [az_il] using hil
    exact az_o_if1 hs (fun H locs cells slots ls x rest tgt ht w1 w2 => lv_if_le hx hb hd ht (fun h => w1 (decide_eq_true h)) (fun h => w2 (decide_eq_false h))) kk
  · obtain rfl : len = 3 := by simpa [az_il] using hil
    exact az_o_if2 hs (fun H locs cells slots ls x y rest tgt ht w1 w2 => lv_icmp_eq hx hb hd ht (fun h => w1 (decide_eq_true h)) (fun h => w2 (decide_eq_false h))) kk
  · obtain rfl : len = 3 := by simpa [az_il] using hil
    exact az_o_if2 hs (fun H locs cells slots ls x y rest tgt ht w1 w2 => lv_icmp_ne hx hb hd ht (fun h => w1 (decide_eq_true h)) (fun h => w2 (decide_eq_false (fun q => q h)))) kk
  · obtain rfl : len = 3 := by simpa [az_il] using hil
    exact az_o_if2 hs (fun H locs cells slots ls x y rest tgt ht w1 w2 => lv_icmp_lt hx hb hd ht (fun h => w1 (decide_eq_true h)) (fun h => w2 (decide_eq_false h))) kk
  · obtain rfl : len = 3 := by simpa [az_il] using hil
    exact az_o_if2 hs (fun H locs cells slots ls x y rest tgt ht w1 w2 => lv_icmp_ge hx hb hd ht (fun h => w1 (decide_eq_true h)) (fun h => w2 (decide_eq_false h))) kk
  · obtain rfl : len = 3 := by simpa [az_il] using hil
    exact az_o_if2 hs (fun H locs cells slots ls x y rest tgt ht w1 w2 => lv_icmp_gt hx hb hd ht (fun h => w1 (decide_eq_true h)) (fun h => w2 (decide_eq_false h))) kk
  · obtain rfl : len = 3 := by simpa [az_il] using hil
    exact az_o_if2 hs (fun H locs cells slots ls x y rest tgt ht w1 w2 => lv_icmp_le hx hb hd ht (fun h => w1 (decide_eq_true h)) (fun h => w2 (decide_eq_false h))) kk
  · obtain rfl : len = 3 := by simpa [az_il] using hil
    intro ad ls H locs cells slots hR
    exact az_o_br hs hR (fun tgt ht w1 _ => lv_goto hx hb hd ht (w1 rfl)) kk
  · exact az_o_tsw hK hd hs kk
  · obtain rfl : len = 1 := by simpa [az_il] using hil
    split at hs
    · split at hs
      · rename_i hc1
        cases hs
        intro ad ls H locs cells slots hR
        exact lv_dup hx hb hd (by rw [az_cat1]; exact hc1) (kk ad ls H locs cells slots (hR.st (az_cn1 (hR.1.2 _ List.mem_cons_self) hR.1.2)))
      · cases hs
    · cases hs
  · obtain rfl : len = 1 := by simpa [az_il] using hil
    split at hs
    · split at hs
      · rename_i hc1
        cases hs
        intro ad ls H locs cells slots hR
        exact lv_dup2_11 hx hb hd (by rw [az_cat1]; exact hc1.1) (by rw [az_cat1]; exact hc1.2) (kk ad ls H locs cells slots (hR.st (az_cn1 (hR.1.2 _ List.mem_cons_self) (az_cn1 (hR.1.2 _ (List.mem_cons_of_mem _ List.mem_cons_self)) hR.1.2))))
      · cases hs
    · cases hs
  · obtain rfl : len = 3 := by simpa [az_il] using hil
    exact az_o_gf hK hd hs kk
  · obtain rfl : len = 3 := by simpa [az_il] using hil
    exact az_o_pf hK hd hs kk
  · obtain rfl : len = 1 := by simpa [az_il] using hil
    exact az_o_ial hK hd hs kk
  · obtain rfl : len = 1 := by simpa [az_il] using hil
    exact az_o_bal hK hd hs kk
  · obtain rfl : len = 1 := by simpa [az_il] using hil
    exact az_o_lal hK hd hs kk
  · obtain rfl : len = 1 := by simpa [az_il] using hil
    exact az_o_aal hK hd hs kk
  · obtain rfl : len = 1 := by simpa [az_il] using hil
    exact az_o_iast hK hd hs kk
  · obtain rfl : len = 1 := by simpa [az_il] using hil
    exact az_o_bast hK hd hs kk
  · obtain rfl : len = 1 := by simpa [az_il] using hil
    exact az_o_last hK hd hs kk
  · obtain rfl : len = 1 := by simpa [az_il] using hil
    exact az_o_len hK hd hs kk
  · obtain rfl : len = 3 := by simpa [az_il] using hil
    exact az_o_new hK hd hs hB kk
  · obtain rfl : len = 2 := by simpa [az_il] using hil
    exact az_o_nwa (ty := .int) (f0 := fun N => (N, .inl fun _ => 0)) hK hd hs hB rfl (fun C h => by cases h) 0 rfl az_ac_int (fun N cA => rfl) (by decide) (fun ad I J n N => by unfold az_E; rw [az_clr_ge (Nat.le_refl _)]; rfl) kk
  · obtain rfl : len = 2 := by simpa [az_il] using hil
    exact az_o_nwa (ty := .boolean) (f0 := fun N => (N, .inl fun _ => 0)) hK hd hs hB rfl (fun C h => by cases h) 1 rfl az_ac_boolean (fun N cA => rfl) (by decide) (fun ad I J n N => by unfold az_E; rw [az_clr_ge (Nat.le_refl _)]; rfl) kk
  · obtain rfl : len = 2 := by simpa [az_il] using hil
    exact az_o_nwa (ty := .long) (f0 := fun N => (N, .inr (.inl fun _ => 0))) hK hd hs hB rfl (fun C h => by cases h) 2 rfl az_ac_long (fun N cA => rfl) (by decide) (fun ad I J n N => by unfold az_E; rw [az_clrJ_ge (Nat.le_refl _)]; rfl) kk
  · obtain rfl : len = 4 := by simpa [az_il] using hil
    exact az_o_nwm hK hd hs hB kk
  · obtain rfl : len = 3 := by simpa [az_il] using hil
    exact az_o_mth hRm hRc hK hlL hd hs kk
  · obtain rfl : len = 3 := by simpa [az_il] using hil
    exact az_o_oin hRm hK hlL hd hs kk
  · cases hs
end
end
section
def az_nms : List String := ["java/lang/RuntimeException", "java/lang/Exception"]
/-- a place that throws -/
def az_site (k pc n ik is ic : Nat) (text : String) (wd : Bool) : Prop :=
  az_own k = 6 ∧ Jvm.Cond.classLink RX6 ik (az_xn n) ∈ az_gw ∧ Jvm.Cond.initialized (az_xn n) ∈ az_gw ∧ (is, text) ∈ az_str ∧ (∀ w ∈ vx_atS RX6 ic (az_xn n) az_nms, w ∈ az_gw ∨ w ∈ az_ng) ∧
  (∀ w ∈ Jvm.Cond.classLink RX6 ik (az_xn n) :: Jvm.Cond.initialized (az_xn n) :: vx_atS RX6 ic (az_xn n) az_nms, vx_ot w = true) ∧ (Bundle.fit (az_xn n) = true ∧ ∀ z ∈ az_nms, Bundle.fit z = true) ∧
  (decode (az_code k) pc = .ok (.new ik, 3) ∧ decode (az_code k) (pc + 3) = .ok (.dup, 1)) ∧
  (if wd = true then decode (az_code k) (pc + 4) = .ok (.ldc_w is, 3) ∧ decode (az_code k) (pc + 7) = .ok (.invokespecial ic, 3) ∧ decode (az_code k) (pc + 10) = .ok (.athrow, 1)
    else decode (az_code k) (pc + 4) = .ok (.ldc is, 2) ∧ decode (az_code k) (pc + 6) = .ok (.invokespecial ic, 3) ∧ decode (az_code k) (pc + 9) = .ok (.athrow, 1)) ∧
  (az_hh k = [] ∧ 1 ≤ n ∧ n ≤ 3)
theorem az_ats {ic : Nat} {n : Nat} (h : ((vx_atS RX6 ic (az_xn n) az_nms).all fun w => (decide (w ∈ lw_tbl) && goodWord w) || decide (w ∈ az_ng)) = true) : ∀ w ∈ vx_atS RX6 ic (az_xn n) az_nms, w ∈ az_gw ∨ w ∈ az_ng := by
  intro w hw
  have h1 := List.all_eq_true.mp h w hw
  simp only [Bool.or_eq_true, Bool.and_eq_true, decide_eq_true_eq] at h1
  rcases h1 with h1 | h1
  · exact Or.inl (List.mem_filter.mpr h1)
  · exact Or.inr h1
theorem az_at_249 : ∀ w ∈ vx_atS RX6 249 (az_xn 1) az_nms, w ∈ az_gw ∨ w ∈ az_ng := az_ats (by decide +kernel)
theorem az_at_309 : ∀ w ∈ vx_atS RX6 309 (az_xn 2) az_nms, w ∈ az_gw ∨ w ∈ az_ng := az_ats (by decide +kernel)
theorem az_at_318 : ∀ w ∈ vx_atS RX6 318 (az_xn 3) az_nms, w ∈ az_gw ∨ w ∈ az_ng := az_ats (by decide +kernel)
theorem az_site0 : az_site 62 15 1 245 247 249 "no such place" false := ⟨by decide +kernel, az_g 330 (by decide +kernel) (by decide +kernel), az_g 56 (by decide +kernel) (by decide +kernel), by decide +kernel, az_at_249, by decide +kernel, ⟨by decide +kernel, by decide +kernel⟩, ⟨by decide +kernel, by decide +kernel⟩, by decide +kernel, ⟨by decide +kernel, by decide, by decide⟩⟩
theorem az_site1 : az_site 69 9 1 245 303 249 "there is none of that number" true := ⟨by decide +kernel, az_g 330 (by decide +kernel) (by decide +kernel), az_g 56 (by decide +kernel) (by decide +kernel), by decide +kernel, az_at_249, by decide +kernel, ⟨by decide +kernel, by decide +kernel⟩, ⟨by decide +kernel, by decide +kernel⟩, by decide +kernel, ⟨by decide +kernel, by decide, by decide⟩⟩
theorem az_site2 : az_site 70 10 2 305 307 309 "out of range" true := ⟨by decide +kernel, az_g 401 (by decide +kernel) (by decide +kernel), az_g 57 (by decide +kernel) (by decide +kernel), by decide +kernel, az_at_309, by decide +kernel, ⟨by decide +kernel, by decide +kernel⟩, ⟨by decide +kernel, by decide +kernel⟩, by decide +kernel, ⟨by decide +kernel, by decide, by decide⟩⟩
theorem az_site3 : az_site 71 10 2 305 310 309 "not a multiple" true := ⟨by decide +kernel, az_g 401 (by decide +kernel) (by decide +kernel), az_g 57 (by decide +kernel) (by decide +kernel), by decide +kernel, az_at_309, by decide +kernel, ⟨by decide +kernel, by decide +kernel⟩, ⟨by decide +kernel, by decide +kernel⟩, by decide +kernel, ⟨by decide +kernel, by decide, by decide⟩⟩
theorem az_site4 : az_site 72 5 2 305 312 309 "both are the same" true := ⟨by decide +kernel, az_g 401 (by decide +kernel) (by decide +kernel), az_g 57 (by decide +kernel) (by decide +kernel), by decide +kernel, az_at_309, by decide +kernel, ⟨by decide +kernel, by decide +kernel⟩, ⟨by decide +kernel, by decide +kernel⟩, by decide +kernel, ⟨by decide +kernel, by decide, by decide⟩⟩
theorem az_site5 : az_site 73 4 3 314 316 318 "not as things stand" true := ⟨by decide +kernel, az_g 439 (by decide +kernel) (by decide +kernel), az_g 58 (by decide +kernel) (by decide +kernel), by decide +kernel, az_at_318, by decide +kernel, ⟨by decide +kernel, by decide +kernel⟩, ⟨by decide +kernel, by decide +kernel⟩, by decide +kernel, ⟨by decide +kernel, by decide, by decide⟩⟩
theorem az_sites {k pc n : Nat} (h : az_thr k pc = some n) : ∃ ik is ic text wd, az_site k pc n ik is ic text wd := by
  unfold az_thr at h
  obtain ⟨q, h1, h2⟩ := Option.map_eq_some_iff.mp h
  have h3 := List.mem_of_find?_eq_some h1
  have h4 := List.find?_some h1
  simp only [Bool.and_eq_true, beq_iff_eq] at h4
  have h5 : q = (k, pc, n) := by rw [← h4.1, ← h4.2, ← h2]
  rw [h5] at h3
  simp only [az_thrs, List.mem_cons, Prod.mk.injEq, List.not_mem_nil, or_false] at h3
  rcases h3 with ⟨rfl, rfl, rfl⟩ | ⟨rfl, rfl, rfl⟩ | ⟨rfl, rfl, rfl⟩ | ⟨rfl, rfl, rfl⟩ | ⟨rfl, rfl, rfl⟩ | ⟨rfl, rfl, rfl⟩
  · exact ⟨_, _, _, _, _, az_site0⟩
  · exact ⟨_, _, _, _, _, az_site1⟩
  · exact ⟨_, _, _, _, _, az_site2⟩
  · exact ⟨_, _, _, _, _, az_site3⟩
  · exact ⟨_, _, _, _, _, az_site4⟩
  · exact ⟨_, _, _, _, _, az_site5⟩
/-- where a throw is caught -/
def az_hok (k pc n i nx : Nat) : Prop := ∃ (pre : List (Nat × Nat × Nat × Nat)) (a b h ct : Nat) (suf : List (Nat × Nat × Nat × Nat)), az_hh k = pre ++ (a, b, h, ct) :: suf ∧ (a ≤ pc ∧ pc < b ∧ ct ≠ 0) ∧ (az_own k = 8 ∧ Jvm.Cond.classLink RL ct (az_xn n) ∈ az_gw) ∧
  (∀ z ∈ pre, z.2.2.2 ≠ 0 ∧ ∃ n2, Jvm.Cond.classLink RL z.2.2.2 (az_xn n2) ∈ az_gw ∧ (n, n2) ∈ az_nc) ∧ ((decode (az_code k) h = .ok (.astore i, 2) ∧ nx = h + 2) ∨ ∃ j : Fin 4, j.val = i ∧ decode (az_code k) h = .ok (.astore_n j, 1) ∧ nx = h + 1) ∧ Jvm.Cond.castable (az_xn n) (az_xn n) ∈ az_ng ∧ i < az_ml k
theorem az_hk144 : ∀ pc n i nx : Nat, az_hnd 144 pc n = some (i, nx) → az_hok 144 pc n i nx := by
  intro pc n i nx h
  unfold az_hnd at h
  obtain ⟨q, h1, h2⟩ := Option.map_eq_some_iff.mp h
  have h3 := List.mem_of_find?_eq_some h1
  have h4 := List.find?_some h1
  simp only [Bool.and_eq_true, beq_iff_eq, decide_eq_true_eq] at h4
  rw [show az_xt 144 = [(0, 14, 1, 6, 19), (0, 14, 2, 6, 23)] by decide +kernel] at h3
  simp only [List.mem_cons, List.not_mem_nil, or_false] at h3
  rcases h3 with rfl | rfl
  · obtain ⟨⟨ha, hb⟩, rfl⟩ := h4
    cases h2
    exact ⟨[], 0, 14, 17, 13, [(0, 14, 21, 15)], by decide +kernel, ⟨ha, hb, by decide⟩, ⟨by decide +kernel, az_g 321 (by decide +kernel) (by decide +kernel)⟩, fun _ h => absurd h List.not_mem_nil, Or.inl ⟨by decide +kernel, rfl⟩, by decide +kernel, by decide +kernel⟩
  · obtain ⟨⟨ha, hb⟩, rfl⟩ := h4
    cases h2
    exact ⟨[(0, 14, 17, 13)], 0, 14, 21, 15, [], by decide +kernel, ⟨ha, hb, by decide⟩, ⟨by decide +kernel, az_g 322 (by decide +kernel) (by decide +kernel)⟩, List.forall_mem_cons.mpr ⟨⟨by decide, 1, az_g 321 (by decide +kernel) (by decide +kernel), by decide⟩, fun _ h => absurd h List.not_mem_nil⟩, Or.inl ⟨by decide +kernel, rfl⟩, by decide +kernel, by decide +kernel⟩
theorem az_hk145 : ∀ pc n i nx : Nat, az_hnd 145 pc n = some (i, nx) → az_hok 145 pc n i nx := by
  intro pc n i nx h
  unfold az_hnd at h
  obtain ⟨q, h1, h2⟩ := Option.map_eq_some_iff.mp h
  have h3 := List.mem_of_find?_eq_some h1
  have h4 := List.find?_some h1
  simp only [Bool.and_eq_true, beq_iff_eq, decide_eq_true_eq] at h4
  rw [show az_xt 145 = [(0, 10, 1, 4, 15), (0, 10, 2, 4, 19)] by decide +kernel] at h3
  simp only [List.mem_cons, List.not_mem_nil, or_false] at h3
  rcases h3 with rfl | rfl
  · obtain ⟨⟨ha, hb⟩, rfl⟩ := h4
    cases h2
    exact ⟨[], 0, 10, 13, 13, [(0, 10, 17, 15)], by decide +kernel, ⟨ha, hb, by decide⟩, ⟨by decide +kernel, az_g 321 (by decide +kernel) (by decide +kernel)⟩, fun _ h => absurd h List.not_mem_nil, Or.inl ⟨by decide +kernel, rfl⟩, by decide +kernel, by decide +kernel⟩
  · obtain ⟨⟨ha, hb⟩, rfl⟩ := h4
    cases h2
    exact ⟨[(0, 10, 13, 13)], 0, 10, 17, 15, [], by decide +kernel, ⟨ha, hb, by decide⟩, ⟨by decide +kernel, az_g 322 (by decide +kernel) (by decide +kernel)⟩, List.forall_mem_cons.mpr ⟨⟨by decide, 1, az_g 321 (by decide +kernel) (by decide +kernel), by decide⟩, fun _ h => absurd h List.not_mem_nil⟩, Or.inl ⟨by decide +kernel, rfl⟩, by decide +kernel, by decide +kernel⟩
theorem az_hk146 : ∀ pc n i nx : Nat, az_hnd 146 pc n = some (i, nx) → az_hok 146 pc n i nx := by
  intro pc n i nx h
  unfold az_hnd at h
  obtain ⟨q, h1, h2⟩ := Option.map_eq_some_iff.mp h
  have h3 := List.mem_of_find?_eq_some h1
  have h4 := List.find?_some h1
  simp only [Bool.and_eq_true, beq_iff_eq, decide_eq_true_eq] at h4
  rw [show az_xt 146 = [(0, 12, 1, 5, 17), (0, 12, 2, 5, 21), (0, 12, 3, 5, 25)] by decide +kernel] at h3
  simp only [List.mem_cons, List.not_mem_nil, or_false] at h3
  rcases h3 with rfl | rfl | rfl
  · obtain ⟨⟨ha, hb⟩, rfl⟩ := h4
    cases h2
    exact ⟨[], 0, 12, 15, 13, [(0, 12, 19, 15), (0, 12, 23, 25)], by decide +kernel, ⟨ha, hb, by decide⟩, ⟨by decide +kernel, az_g 321 (by decide +kernel) (by decide +kernel)⟩, fun _ h => absurd h List.not_mem_nil, Or.inl ⟨by decide +kernel, rfl⟩, by decide +kernel, by decide +kernel⟩
  · obtain ⟨⟨ha, hb⟩, rfl⟩ := h4
    cases h2
    exact ⟨[(0, 12, 15, 13)], 0, 12, 19, 15, [(0, 12, 23, 25)], by decide +kernel, ⟨ha, hb, by decide⟩, ⟨by decide +kernel, az_g 322 (by decide +kernel) (by decide +kernel)⟩, List.forall_mem_cons.mpr ⟨⟨by decide, 1, az_g 321 (by decide +kernel) (by decide +kernel), by decide⟩, fun _ h => absurd h List.not_mem_nil⟩, Or.inl ⟨by decide +kernel, rfl⟩, by decide +kernel, by decide +kernel⟩
  · obtain ⟨⟨ha, hb⟩, rfl⟩ := h4
    cases h2
    exact ⟨[(0, 12, 15, 13), (0, 12, 19, 15)], 0, 12, 23, 25, [], by decide +kernel, ⟨ha, hb, by decide⟩, ⟨by decide +kernel, az_g 427 (by decide +kernel) (by decide +kernel)⟩, List.forall_mem_cons.mpr ⟨⟨by decide, 1, az_g 321 (by decide +kernel) (by decide +kernel), by decide⟩, List.forall_mem_cons.mpr ⟨⟨by decide, 2, az_g 322 (by decide +kernel) (by decide +kernel), by decide⟩, fun _ h => absurd h List.not_mem_nil⟩⟩, Or.inl ⟨by decide +kernel, rfl⟩, by decide +kernel, by decide +kernel⟩
theorem az_hk147 : ∀ pc n i nx : Nat, az_hnd 147 pc n = some (i, nx) → az_hok 147 pc n i nx := by
  intro pc n i nx h
  unfold az_hnd at h
  obtain ⟨q, h1, h2⟩ := Option.map_eq_some_iff.mp h
  have h3 := List.mem_of_find?_eq_some h1
  have h4 := List.find?_some h1
  simp only [Bool.and_eq_true, beq_iff_eq, decide_eq_true_eq] at h4
  rw [show az_xt 147 = [(0, 12, 1, 5, 17), (0, 12, 2, 5, 21), (0, 12, 3, 5, 25)] by decide +kernel] at h3
  simp only [List.mem_cons, List.not_mem_nil, or_false] at h3
  rcases h3 with rfl | rfl | rfl
  · obtain ⟨⟨ha, hb⟩, rfl⟩ := h4
    cases h2
    exact ⟨[], 0, 12, 15, 13, [(0, 12, 19, 15), (0, 12, 23, 25)], by decide +kernel, ⟨ha, hb, by decide⟩, ⟨by decide +kernel, az_g 321 (by decide +kernel) (by decide +kernel)⟩, fun _ h => absurd h List.not_mem_nil, Or.inl ⟨by decide +kernel, rfl⟩, by decide +kernel, by decide +kernel⟩
  · obtain ⟨⟨ha, hb⟩, rfl⟩ := h4
    cases h2
    exact ⟨[(0, 12, 15, 13)], 0, 12, 19, 15, [(0, 12, 23, 25)], by decide +kernel, ⟨ha, hb, by decide⟩, ⟨by decide +kernel, az_g 322 (by decide +kernel) (by decide +kernel)⟩, List.forall_mem_cons.mpr ⟨⟨by decide, 1, az_g 321 (by decide +kernel) (by decide +kernel), by decide⟩, fun _ h => absurd h List.not_mem_nil⟩, Or.inl ⟨by decide +kernel, rfl⟩, by decide +kernel, by decide +kernel⟩
  · obtain ⟨⟨ha, hb⟩, rfl⟩ := h4
    cases h2
    exact ⟨[(0, 12, 15, 13), (0, 12, 19, 15)], 0, 12, 23, 25, [], by decide +kernel, ⟨ha, hb, by decide⟩, ⟨by decide +kernel, az_g 427 (by decide +kernel) (by decide +kernel)⟩, List.forall_mem_cons.mpr ⟨⟨by decide, 1, az_g 321 (by decide +kernel) (by decide +kernel), by decide⟩, List.forall_mem_cons.mpr ⟨⟨by decide, 2, az_g 322 (by decide +kernel) (by decide +kernel), by decide⟩, fun _ h => absurd h List.not_mem_nil⟩⟩, Or.inl ⟨by decide +kernel, rfl⟩, by decide +kernel, by decide +kernel⟩
theorem az_hk148 : ∀ pc n i nx : Nat, az_hnd 148 pc n = some (i, nx) → az_hok 148 pc n i nx := by
  intro pc n i nx h
  unfold az_hnd at h
  obtain ⟨q, h1, h2⟩ := Option.map_eq_some_iff.mp h
  have h3 := List.mem_of_find?_eq_some h1
  have h4 := List.find?_some h1
  simp only [Bool.and_eq_true, beq_iff_eq, decide_eq_true_eq] at h4
  rw [show az_xt 148 = [(0, 12, 2, 5, 17), (0, 12, 3, 5, 21)] by decide +kernel] at h3
  simp only [List.mem_cons, List.not_mem_nil, or_false] at h3
  rcases h3 with rfl | rfl
  · obtain ⟨⟨ha, hb⟩, rfl⟩ := h4
    cases h2
    exact ⟨[], 0, 12, 15, 15, [(0, 12, 19, 25)], by decide +kernel, ⟨ha, hb, by decide⟩, ⟨by decide +kernel, az_g 322 (by decide +kernel) (by decide +kernel)⟩, fun _ h => absurd h List.not_mem_nil, Or.inl ⟨by decide +kernel, rfl⟩, by decide +kernel, by decide +kernel⟩
  · obtain ⟨⟨ha, hb⟩, rfl⟩ := h4
    cases h2
    exact ⟨[(0, 12, 15, 15)], 0, 12, 19, 25, [], by decide +kernel, ⟨ha, hb, by decide⟩, ⟨by decide +kernel, az_g 427 (by decide +kernel) (by decide +kernel)⟩, List.forall_mem_cons.mpr ⟨⟨by decide, 2, az_g 322 (by decide +kernel) (by decide +kernel), by decide⟩, fun _ h => absurd h List.not_mem_nil⟩, Or.inl ⟨by decide +kernel, rfl⟩, by decide +kernel, by decide +kernel⟩
theorem az_hk149 : ∀ pc n i nx : Nat, az_hnd 149 pc n = some (i, nx) → az_hok 149 pc n i nx := by
  intro pc n i nx h
  unfold az_hnd at h
  obtain ⟨q, h1, h2⟩ := Option.map_eq_some_iff.mp h
  have h3 := List.mem_of_find?_eq_some h1
  have h4 := List.find?_some h1
  simp only [Bool.and_eq_true, beq_iff_eq, decide_eq_true_eq] at h4
  rw [show az_xt 149 = [(0, 19, 1, 5, 24), (0, 19, 2, 5, 28)] by decide +kernel] at h3
  simp only [List.mem_cons, List.not_mem_nil, or_false] at h3
  rcases h3 with rfl | rfl
  · obtain ⟨⟨ha, hb⟩, rfl⟩ := h4
    cases h2
    exact ⟨[], 0, 19, 22, 13, [(0, 19, 26, 15)], by decide +kernel, ⟨ha, hb, by decide⟩, ⟨by decide +kernel, az_g 321 (by decide +kernel) (by decide +kernel)⟩, fun _ h => absurd h List.not_mem_nil, Or.inl ⟨by decide +kernel, rfl⟩, by decide +kernel, by decide +kernel⟩
  · obtain ⟨⟨ha, hb⟩, rfl⟩ := h4
    cases h2
    exact ⟨[(0, 19, 22, 13)], 0, 19, 26, 15, [], by decide +kernel, ⟨ha, hb, by decide⟩, ⟨by decide +kernel, az_g 322 (by decide +kernel) (by decide +kernel)⟩, List.forall_mem_cons.mpr ⟨⟨by decide, 1, az_g 321 (by decide +kernel) (by decide +kernel), by decide⟩, fun _ h => absurd h List.not_mem_nil⟩, Or.inl ⟨by decide +kernel, rfl⟩, by decide +kernel, by decide +kernel⟩
theorem az_hk150 : ∀ pc n i nx : Nat, az_hnd 150 pc n = some (i, nx) → az_hok 150 pc n i nx := by
  intro pc n i nx h
  unfold az_hnd at h
  obtain ⟨q, h1, h2⟩ := Option.map_eq_some_iff.mp h
  have h3 := List.mem_of_find?_eq_some h1
  have h4 := List.find?_some h1
  simp only [Bool.and_eq_true, beq_iff_eq, decide_eq_true_eq] at h4
  rw [show az_xt 150 = [(0, 9, 2, 3, 13)] by decide +kernel] at h3
  simp only [List.mem_cons, List.not_mem_nil, or_false] at h3
  rcases h3 with rfl
  · obtain ⟨⟨ha, hb⟩, rfl⟩ := h4
    cases h2
    exact ⟨[], 0, 9, 12, 15, [], by decide +kernel, ⟨ha, hb, by decide⟩, ⟨by decide +kernel, az_g 322 (by decide +kernel) (by decide +kernel)⟩, fun _ h => absurd h List.not_mem_nil, Or.inr ⟨3, rfl, by decide +kernel, rfl⟩, by decide +kernel, by decide +kernel⟩
theorem az_hk151 : ∀ pc n i nx : Nat, az_hnd 151 pc n = some (i, nx) → az_hok 151 pc n i nx := by
  intro pc n i nx h
  unfold az_hnd at h
  obtain ⟨q, h1, h2⟩ := Option.map_eq_some_iff.mp h
  have h3 := List.mem_of_find?_eq_some h1
  have h4 := List.find?_some h1
  simp only [Bool.and_eq_true, beq_iff_eq, decide_eq_true_eq] at h4
  rw [show az_xt 151 = [(0, 9, 2, 3, 13)] by decide +kernel] at h3
  simp only [List.mem_cons, List.not_mem_nil, or_false] at h3
  rcases h3 with rfl
  · obtain ⟨⟨ha, hb⟩, rfl⟩ := h4
    cases h2
    exact ⟨[], 0, 9, 12, 15, [], by decide +kernel, ⟨ha, hb, by decide⟩, ⟨by decide +kernel, az_g 322 (by decide +kernel) (by decide +kernel)⟩, fun _ h => absurd h List.not_mem_nil, Or.inr ⟨3, rfl, by decide +kernel, rfl⟩, by decide +kernel, by decide +kernel⟩
theorem az_hk152 : ∀ pc n i nx : Nat, az_hnd 152 pc n = some (i, nx) → az_hok 152 pc n i nx := by
  intro pc n i nx h
  unfold az_hnd at h
  obtain ⟨q, h1, h2⟩ := Option.map_eq_some_iff.mp h
  have h3 := List.mem_of_find?_eq_some h1
  have h4 := List.find?_some h1
  simp only [Bool.and_eq_true, beq_iff_eq, decide_eq_true_eq] at h4
  rw [show az_xt 152 = [(0, 9, 2, 3, 13)] by decide +kernel] at h3
  simp only [List.mem_cons, List.not_mem_nil, or_false] at h3
  rcases h3 with rfl
  · obtain ⟨⟨ha, hb⟩, rfl⟩ := h4
    cases h2
    exact ⟨[], 0, 9, 12, 15, [], by decide +kernel, ⟨ha, hb, by decide⟩, ⟨by decide +kernel, az_g 322 (by decide +kernel) (by decide +kernel)⟩, fun _ h => absurd h List.not_mem_nil, Or.inr ⟨3, rfl, by decide +kernel, rfl⟩, by decide +kernel, by decide +kernel⟩
theorem az_hk153 : ∀ pc n i nx : Nat, az_hnd 153 pc n = some (i, nx) → az_hok 153 pc n i nx := by
  intro pc n i nx h
  unfold az_hnd at h
  obtain ⟨q, h1, h2⟩ := Option.map_eq_some_iff.mp h
  have h3 := List.mem_of_find?_eq_some h1
  have h4 := List.find?_some h1
  simp only [Bool.and_eq_true, beq_iff_eq, decide_eq_true_eq] at h4
  rw [show az_xt 153 = [(0, 10, 1, 4, 15), (0, 10, 2, 4, 19), (0, 10, 3, 4, 23)] by decide +kernel] at h3
  simp only [List.mem_cons, List.not_mem_nil, or_false] at h3
  rcases h3 with rfl | rfl | rfl
  · obtain ⟨⟨ha, hb⟩, rfl⟩ := h4
    cases h2
    exact ⟨[], 0, 10, 13, 13, [(0, 10, 17, 15), (0, 10, 21, 25)], by decide +kernel, ⟨ha, hb, by decide⟩, ⟨by decide +kernel, az_g 321 (by decide +kernel) (by decide +kernel)⟩, fun _ h => absurd h List.not_mem_nil, Or.inl ⟨by decide +kernel, rfl⟩, by decide +kernel, by decide +kernel⟩
  · obtain ⟨⟨ha, hb⟩, rfl⟩ := h4
    cases h2
    exact ⟨[(0, 10, 13, 13)], 0, 10, 17, 15, [(0, 10, 21, 25)], by decide +kernel, ⟨ha, hb, by decide⟩, ⟨by decide +kernel, az_g 322 (by decide +kernel) (by decide +kernel)⟩, List.forall_mem_cons.mpr ⟨⟨by decide, 1, az_g 321 (by decide +kernel) (by decide +kernel), by decide⟩, fun _ h => absurd h List.not_mem_nil⟩, Or.inl ⟨by decide +kernel, rfl⟩, by decide +kernel, by decide +kernel⟩
  · obtain ⟨⟨ha, hb⟩, rfl⟩ := h4
    cases h2
    exact ⟨[(0, 10, 13, 13), (0, 10, 17, 15)], 0, 10, 21, 25, [], by decide +kernel, ⟨ha, hb, by decide⟩, ⟨by decide +kernel, az_g 427 (by decide +kernel) (by decide +kernel)⟩, List.forall_mem_cons.mpr ⟨⟨by decide, 1, az_g 321 (by decide +kernel) (by decide +kernel), by decide⟩, List.forall_mem_cons.mpr ⟨⟨by decide, 2, az_g 322 (by decide +kernel) (by decide +kernel), by decide⟩, fun _ h => absurd h List.not_mem_nil⟩⟩, Or.inl ⟨by decide +kernel, rfl⟩, by decide +kernel, by decide +kernel⟩
theorem az_hk154 : ∀ pc n i nx : Nat, az_hnd 154 pc n = some (i, nx) → az_hok 154 pc n i nx := by
  intro pc n i nx h
  unfold az_hnd at h
  obtain ⟨q, h1, h2⟩ := Option.map_eq_some_iff.mp h
  have h3 := List.mem_of_find?_eq_some h1
  have h4 := List.find?_some h1
  simp only [Bool.and_eq_true, beq_iff_eq, decide_eq_true_eq] at h4
  rw [show az_xt 154 = [(0, 10, 1, 4, 15), (0, 10, 2, 4, 19)] by decide +kernel] at h3
  simp only [List.mem_cons, List.not_mem_nil, or_false] at h3
  rcases h3 with rfl | rfl
  · obtain ⟨⟨ha, hb⟩, rfl⟩ := h4
    cases h2
    exact ⟨[], 0, 10, 13, 13, [(0, 10, 17, 15)], by decide +kernel, ⟨ha, hb, by decide⟩, ⟨by decide +kernel, az_g 321 (by decide +kernel) (by decide +kernel)⟩, fun _ h => absurd h List.not_mem_nil, Or.inl ⟨by decide +kernel, rfl⟩, by decide +kernel, by decide +kernel⟩
  · obtain ⟨⟨ha, hb⟩, rfl⟩ := h4
    cases h2
    exact ⟨[(0, 10, 13, 13)], 0, 10, 17, 15, [], by decide +kernel, ⟨ha, hb, by decide⟩, ⟨by decide +kernel, az_g 322 (by decide +kernel) (by decide +kernel)⟩, List.forall_mem_cons.mpr ⟨⟨by decide, 1, az_g 321 (by decide +kernel) (by decide +kernel), by decide⟩, fun _ h => absurd h List.not_mem_nil⟩, Or.inl ⟨by decide +kernel, rfl⟩, by decide +kernel, by decide +kernel⟩
theorem az_hk155 : ∀ pc n i nx : Nat, az_hnd 155 pc n = some (i, nx) → az_hok 155 pc n i nx := by
  intro pc n i nx h
  unfold az_hnd at h
  obtain ⟨q, h1, h2⟩ := Option.map_eq_some_iff.mp h
  have h3 := List.mem_of_find?_eq_some h1
  have h4 := List.find?_some h1
  simp only [Bool.and_eq_true, beq_iff_eq, decide_eq_true_eq] at h4
  rw [show az_xt 155 = [(0, 10, 1, 4, 15), (0, 10, 2, 4, 19), (0, 10, 3, 4, 23)] by decide +kernel] at h3
  simp only [List.mem_cons, List.not_mem_nil, or_false] at h3
  rcases h3 with rfl | rfl | rfl
  · obtain ⟨⟨ha, hb⟩, rfl⟩ := h4
    cases h2
    exact ⟨[], 0, 10, 13, 13, [(0, 10, 17, 15), (0, 10, 21, 25)], by decide +kernel, ⟨ha, hb, by decide⟩, ⟨by decide +kernel, az_g 321 (by decide +kernel) (by decide +kernel)⟩, fun _ h => absurd h List.not_mem_nil, Or.inl ⟨by decide +kernel, rfl⟩, by decide +kernel, by decide +kernel⟩
  · obtain ⟨⟨ha, hb⟩, rfl⟩ := h4
    cases h2
    exact ⟨[(0, 10, 13, 13)], 0, 10, 17, 15, [(0, 10, 21, 25)], by decide +kernel, ⟨ha, hb, by decide⟩, ⟨by decide +kernel, az_g 322 (by decide +kernel) (by decide +kernel)⟩, List.forall_mem_cons.mpr ⟨⟨by decide, 1, az_g 321 (by decide +kernel) (by decide +kernel), by decide⟩, fun _ h => absurd h List.not_mem_nil⟩, Or.inl ⟨by decide +kernel, rfl⟩, by decide +kernel, by decide +kernel⟩
  · obtain ⟨⟨ha, hb⟩, rfl⟩ := h4
    cases h2
    exact ⟨[(0, 10, 13, 13), (0, 10, 17, 15)], 0, 10, 21, 25, [], by decide +kernel, ⟨ha, hb, by decide⟩, ⟨by decide +kernel, az_g 427 (by decide +kernel) (by decide +kernel)⟩, List.forall_mem_cons.mpr ⟨⟨by decide, 1, az_g 321 (by decide +kernel) (by decide +kernel), by decide⟩, List.forall_mem_cons.mpr ⟨⟨by decide, 2, az_g 322 (by decide +kernel) (by decide +kernel), by decide⟩, fun _ h => absurd h List.not_mem_nil⟩⟩, Or.inl ⟨by decide +kernel, rfl⟩, by decide +kernel, by decide +kernel⟩
theorem az_hk156 : ∀ pc n i nx : Nat, az_hnd 156 pc n = some (i, nx) → az_hok 156 pc n i nx := by
  intro pc n i nx h
  unfold az_hnd at h
  obtain ⟨q, h1, h2⟩ := Option.map_eq_some_iff.mp h
  have h3 := List.mem_of_find?_eq_some h1
  have h4 := List.find?_some h1
  simp only [Bool.and_eq_true, beq_iff_eq, decide_eq_true_eq] at h4
  rw [show az_xt 156 = [(0, 10, 1, 4, 15), (0, 10, 2, 4, 19), (0, 10, 3, 4, 23)] by decide +kernel] at h3
  simp only [List.mem_cons, List.not_mem_nil, or_false] at h3
  rcases h3 with rfl | rfl | rfl
  · obtain ⟨⟨ha, hb⟩, rfl⟩ := h4
    cases h2
    exact ⟨[], 0, 10, 13, 13, [(0, 10, 17, 15), (0, 10, 21, 25)], by decide +kernel, ⟨ha, hb, by decide⟩, ⟨by decide +kernel, az_g 321 (by decide +kernel) (by decide +kernel)⟩, fun _ h => absurd h List.not_mem_nil, Or.inl ⟨by decide +kernel, rfl⟩, by decide +kernel, by decide +kernel⟩
  · obtain ⟨⟨ha, hb⟩, rfl⟩ := h4
    cases h2
    exact ⟨[(0, 10, 13, 13)], 0, 10, 17, 15, [(0, 10, 21, 25)], by decide +kernel, ⟨ha, hb, by decide⟩, ⟨by decide +kernel, az_g 322 (by decide +kernel) (by decide +kernel)⟩, List.forall_mem_cons.mpr ⟨⟨by decide, 1, az_g 321 (by decide +kernel) (by decide +kernel), by decide⟩, fun _ h => absurd h List.not_mem_nil⟩, Or.inl ⟨by decide +kernel, rfl⟩, by decide +kernel, by decide +kernel⟩
  · obtain ⟨⟨ha, hb⟩, rfl⟩ := h4
    cases h2
    exact ⟨[(0, 10, 13, 13), (0, 10, 17, 15)], 0, 10, 21, 25, [], by decide +kernel, ⟨ha, hb, by decide⟩, ⟨by decide +kernel, az_g 427 (by decide +kernel) (by decide +kernel)⟩, List.forall_mem_cons.mpr ⟨⟨by decide, 1, az_g 321 (by decide +kernel) (by decide +kernel), by decide⟩, List.forall_mem_cons.mpr ⟨⟨by decide, 2, az_g 322 (by decide +kernel) (by decide +kernel), by decide⟩, fun _ h => absurd h List.not_mem_nil⟩⟩, Or.inl ⟨by decide +kernel, rfl⟩, by decide +kernel, by decide +kernel⟩
theorem az_hk157 : ∀ pc n i nx : Nat, az_hnd 157 pc n = some (i, nx) → az_hok 157 pc n i nx := by
  intro pc n i nx h
  unfold az_hnd at h
  obtain ⟨q, h1, h2⟩ := Option.map_eq_some_iff.mp h
  have h3 := List.mem_of_find?_eq_some h1
  have h4 := List.find?_some h1
  simp only [Bool.and_eq_true, beq_iff_eq, decide_eq_true_eq] at h4
  rw [show az_xt 157 = [(0, 10, 1, 4, 15), (0, 10, 2, 4, 19), (0, 10, 3, 4, 23)] by decide +kernel] at h3
  simp only [List.mem_cons, List.not_mem_nil, or_false] at h3
  rcases h3 with rfl | rfl | rfl
  · obtain ⟨⟨ha, hb⟩, rfl⟩ := h4
    cases h2
    exact ⟨[], 0, 10, 13, 13, [(0, 10, 17, 15), (0, 10, 21, 25)], by decide +kernel, ⟨ha, hb, by decide⟩, ⟨by decide +kernel, az_g 321 (by decide +kernel) (by decide +kernel)⟩, fun _ h => absurd h List.not_mem_nil, Or.inl ⟨by decide +kernel, rfl⟩, by decide +kernel, by decide +kernel⟩
  · obtain ⟨⟨ha, hb⟩, rfl⟩ := h4
    cases h2
    exact ⟨[(0, 10, 13, 13)], 0, 10, 17, 15, [(0, 10, 21, 25)], by decide +kernel, ⟨ha, hb, by decide⟩, ⟨by decide +kernel, az_g 322 (by decide +kernel) (by decide +kernel)⟩, List.forall_mem_cons.mpr ⟨⟨by decide, 1, az_g 321 (by decide +kernel) (by decide +kernel), by decide⟩, fun _ h => absurd h List.not_mem_nil⟩, Or.inl ⟨by decide +kernel, rfl⟩, by decide +kernel, by decide +kernel⟩
  · obtain ⟨⟨ha, hb⟩, rfl⟩ := h4
    cases h2
    exact ⟨[(0, 10, 13, 13), (0, 10, 17, 15)], 0, 10, 21, 25, [], by decide +kernel, ⟨ha, hb, by decide⟩, ⟨by decide +kernel, az_g 427 (by decide +kernel) (by decide +kernel)⟩, List.forall_mem_cons.mpr ⟨⟨by decide, 1, az_g 321 (by decide +kernel) (by decide +kernel), by decide⟩, List.forall_mem_cons.mpr ⟨⟨by decide, 2, az_g 322 (by decide +kernel) (by decide +kernel), by decide⟩, fun _ h => absurd h List.not_mem_nil⟩⟩, Or.inl ⟨by decide +kernel, rfl⟩, by decide +kernel, by decide +kernel⟩
theorem az_hk158 : ∀ pc n i nx : Nat, az_hnd 158 pc n = some (i, nx) → az_hok 158 pc n i nx := by
  intro pc n i nx h
  unfold az_hnd at h
  obtain ⟨q, h1, h2⟩ := Option.map_eq_some_iff.mp h
  have h3 := List.mem_of_find?_eq_some h1
  have h4 := List.find?_some h1
  simp only [Bool.and_eq_true, beq_iff_eq, decide_eq_true_eq] at h4
  rw [show az_xt 158 = [(0, 17, 1, 4, 22), (0, 17, 2, 4, 26), (0, 17, 3, 4, 30)] by decide +kernel] at h3
  simp only [List.mem_cons, List.not_mem_nil, or_false] at h3
  rcases h3 with rfl | rfl | rfl
  · obtain ⟨⟨ha, hb⟩, rfl⟩ := h4
    cases h2
    exact ⟨[], 0, 17, 20, 13, [(0, 17, 24, 15), (0, 17, 28, 25)], by decide +kernel, ⟨ha, hb, by decide⟩, ⟨by decide +kernel, az_g 321 (by decide +kernel) (by decide +kernel)⟩, fun _ h => absurd h List.not_mem_nil, Or.inl ⟨by decide +kernel, rfl⟩, by decide +kernel, by decide +kernel⟩
  · obtain ⟨⟨ha, hb⟩, rfl⟩ := h4
    cases h2
    exact ⟨[(0, 17, 20, 13)], 0, 17, 24, 15, [(0, 17, 28, 25)], by decide +kernel, ⟨ha, hb, by decide⟩, ⟨by decide +kernel, az_g 322 (by decide +kernel) (by decide +kernel)⟩, List.forall_mem_cons.mpr ⟨⟨by decide, 1, az_g 321 (by decide +kernel) (by decide +kernel), by decide⟩, fun _ h => absurd h List.not_mem_nil⟩, Or.inl ⟨by decide +kernel, rfl⟩, by decide +kernel, by decide +kernel⟩
  · obtain ⟨⟨ha, hb⟩, rfl⟩ := h4
    cases h2
    exact ⟨[(0, 17, 20, 13), (0, 17, 24, 15)], 0, 17, 28, 25, [], by decide +kernel, ⟨ha, hb, by decide⟩, ⟨by decide +kernel, az_g 427 (by decide +kernel) (by decide +kernel)⟩, List.forall_mem_cons.mpr ⟨⟨by decide, 1, az_g 321 (by decide +kernel) (by decide +kernel), by decide⟩, List.forall_mem_cons.mpr ⟨⟨by decide, 2, az_g 322 (by decide +kernel) (by decide +kernel), by decide⟩, fun _ h => absurd h List.not_mem_nil⟩⟩, Or.inl ⟨by decide +kernel, rfl⟩, by decide +kernel, by decide +kernel⟩
theorem az_hk159 : ∀ pc n i nx : Nat, az_hnd 159 pc n = some (i, nx) → az_hok 159 pc n i nx := by
  intro pc n i nx h
  unfold az_hnd at h
  obtain ⟨q, h1, h2⟩ := Option.map_eq_some_iff.mp h
  have h3 := List.mem_of_find?_eq_some h1
  have h4 := List.find?_some h1
  simp only [Bool.and_eq_true, beq_iff_eq, decide_eq_true_eq] at h4
  rw [show az_xt 159 = [(0, 16, 1, 3, 20)] by decide +kernel] at h3
  simp only [List.mem_cons, List.not_mem_nil, or_false] at h3
  rcases h3 with rfl
  · obtain ⟨⟨ha, hb⟩, rfl⟩ := h4
    cases h2
    exact ⟨[], 0, 16, 19, 13, [], by decide +kernel, ⟨ha, hb, by decide⟩, ⟨by decide +kernel, az_g 321 (by decide +kernel) (by decide +kernel)⟩, fun _ h => absurd h List.not_mem_nil, Or.inr ⟨3, rfl, by decide +kernel, rfl⟩, by decide +kernel, by decide +kernel⟩
theorem az_hk160 : ∀ pc n i nx : Nat, az_hnd 160 pc n = some (i, nx) → az_hok 160 pc n i nx := by
  intro pc n i nx h
  unfold az_hnd at h
  obtain ⟨q, h1, h2⟩ := Option.map_eq_some_iff.mp h
  have h3 := List.mem_of_find?_eq_some h1
  have h4 := List.find?_some h1
  simp only [Bool.and_eq_true, beq_iff_eq, decide_eq_true_eq] at h4
  rw [show az_xt 160 = [(0, 8, 3, 2, 12)] by decide +kernel] at h3
  simp only [List.mem_cons, List.not_mem_nil, or_false] at h3
  rcases h3 with rfl
  · obtain ⟨⟨ha, hb⟩, rfl⟩ := h4
    cases h2
    exact ⟨[], 0, 8, 11, 25, [], by decide +kernel, ⟨ha, hb, by decide⟩, ⟨by decide +kernel, az_g 427 (by decide +kernel) (by decide +kernel)⟩, fun _ h => absurd h List.not_mem_nil, Or.inr ⟨2, rfl, by decide +kernel, rfl⟩, by decide +kernel, by decide +kernel⟩
theorem az_hk161 : ∀ pc n i nx : Nat, az_hnd 161 pc n = some (i, nx) → az_hok 161 pc n i nx := by
  intro pc n i nx h
  unfold az_hnd at h
  obtain ⟨q, h1, h2⟩ := Option.map_eq_some_iff.mp h
  have h3 := List.mem_of_find?_eq_some h1
  have h4 := List.find?_some h1
  simp only [Bool.and_eq_true, beq_iff_eq, decide_eq_true_eq] at h4
  rw [show az_xt 161 = [(0, 10, 1, 4, 15), (0, 10, 2, 4, 19), (0, 10, 3, 4, 23)] by decide +kernel] at h3
  simp only [List.mem_cons, List.not_mem_nil, or_false] at h3
  rcases h3 with rfl | rfl | rfl
  · obtain ⟨⟨ha, hb⟩, rfl⟩ := h4
    cases h2
    exact ⟨[], 0, 10, 13, 13, [(0, 10, 17, 15), (0, 10, 21, 25)], by decide +kernel, ⟨ha, hb, by decide⟩, ⟨by decide +kernel, az_g 321 (by decide +kernel) (by decide +kernel)⟩, fun _ h => absurd h List.not_mem_nil, Or.inl ⟨by decide +kernel, rfl⟩, by decide +kernel, by decide +kernel⟩
  · obtain ⟨⟨ha, hb⟩, rfl⟩ := h4
    cases h2
    exact ⟨[(0, 10, 13, 13)], 0, 10, 17, 15, [(0, 10, 21, 25)], by decide +kernel, ⟨ha, hb, by decide⟩, ⟨by decide +kernel, az_g 322 (by decide +kernel) (by decide +kernel)⟩, List.forall_mem_cons.mpr ⟨⟨by decide, 1, az_g 321 (by decide +kernel) (by decide +kernel), by decide⟩, fun _ h => absurd h List.not_mem_nil⟩, Or.inl ⟨by decide +kernel, rfl⟩, by decide +kernel, by decide +kernel⟩
  · obtain ⟨⟨ha, hb⟩, rfl⟩ := h4
    cases h2
    exact ⟨[(0, 10, 13, 13), (0, 10, 17, 15)], 0, 10, 21, 25, [], by decide +kernel, ⟨ha, hb, by decide⟩, ⟨by decide +kernel, az_g 427 (by decide +kernel) (by decide +kernel)⟩, List.forall_mem_cons.mpr ⟨⟨by decide, 1, az_g 321 (by decide +kernel) (by decide +kernel), by decide⟩, List.forall_mem_cons.mpr ⟨⟨by decide, 2, az_g 322 (by decide +kernel) (by decide +kernel), by decide⟩, fun _ h => absurd h List.not_mem_nil⟩⟩, Or.inl ⟨by decide +kernel, rfl⟩, by decide +kernel, by decide +kernel⟩
theorem az_hk162 : ∀ pc n i nx : Nat, az_hnd 162 pc n = some (i, nx) → az_hok 162 pc n i nx := by
  intro pc n i nx h
  unfold az_hnd at h
  obtain ⟨q, h1, h2⟩ := Option.map_eq_some_iff.mp h
  have h3 := List.mem_of_find?_eq_some h1
  have h4 := List.find?_some h1
  simp only [Bool.and_eq_true, beq_iff_eq, decide_eq_true_eq] at h4
  rw [show az_xt 162 = [(0, 10, 1, 4, 15), (0, 10, 2, 4, 19)] by decide +kernel] at h3
  simp only [List.mem_cons, List.not_mem_nil, or_false] at h3
  rcases h3 with rfl | rfl
  · obtain ⟨⟨ha, hb⟩, rfl⟩ := h4
    cases h2
    exact ⟨[], 0, 10, 13, 13, [(0, 10, 17, 15)], by decide +kernel, ⟨ha, hb, by decide⟩, ⟨by decide +kernel, az_g 321 (by decide +kernel) (by decide +kernel)⟩, fun _ h => absurd h List.not_mem_nil, Or.inl ⟨by decide +kernel, rfl⟩, by decide +kernel, by decide +kernel⟩
  · obtain ⟨⟨ha, hb⟩, rfl⟩ := h4
    cases h2
    exact ⟨[(0, 10, 13, 13)], 0, 10, 17, 15, [], by decide +kernel, ⟨ha, hb, by decide⟩, ⟨by decide +kernel, az_g 322 (by decide +kernel) (by decide +kernel)⟩, List.forall_mem_cons.mpr ⟨⟨by decide, 1, az_g 321 (by decide +kernel) (by decide +kernel), by decide⟩, fun _ h => absurd h List.not_mem_nil⟩, Or.inl ⟨by decide +kernel, rfl⟩, by decide +kernel, by decide +kernel⟩
theorem az_hk163 : ∀ pc n i nx : Nat, az_hnd 163 pc n = some (i, nx) → az_hok 163 pc n i nx := by
  intro pc n i nx h
  unfold az_hnd at h
  obtain ⟨q, h1, h2⟩ := Option.map_eq_some_iff.mp h
  have h3 := List.mem_of_find?_eq_some h1
  have h4 := List.find?_some h1
  simp only [Bool.and_eq_true, beq_iff_eq, decide_eq_true_eq] at h4
  rw [show az_xt 163 = [(0, 10, 1, 4, 15), (0, 10, 2, 4, 19)] by decide +kernel] at h3
  simp only [List.mem_cons, List.not_mem_nil, or_false] at h3
  rcases h3 with rfl | rfl
  · obtain ⟨⟨ha, hb⟩, rfl⟩ := h4
    cases h2
    exact ⟨[], 0, 10, 13, 13, [(0, 10, 17, 15)], by decide +kernel, ⟨ha, hb, by decide⟩, ⟨by decide +kernel, az_g 321 (by decide +kernel) (by decide +kernel)⟩, fun _ h => absurd h List.not_mem_nil, Or.inl ⟨by decide +kernel, rfl⟩, by decide +kernel, by decide +kernel⟩
  · obtain ⟨⟨ha, hb⟩, rfl⟩ := h4
    cases h2
    exact ⟨[(0, 10, 13, 13)], 0, 10, 17, 15, [], by decide +kernel, ⟨ha, hb, by decide⟩, ⟨by decide +kernel, az_g 322 (by decide +kernel) (by decide +kernel)⟩, List.forall_mem_cons.mpr ⟨⟨by decide, 1, az_g 321 (by decide +kernel) (by decide +kernel), by decide⟩, fun _ h => absurd h List.not_mem_nil⟩, Or.inl ⟨by decide +kernel, rfl⟩, by decide +kernel, by decide +kernel⟩
theorem az_hk164 : ∀ pc n i nx : Nat, az_hnd 164 pc n = some (i, nx) → az_hok 164 pc n i nx := by
  intro pc n i nx h
  unfold az_hnd at h
  obtain ⟨q, h1, h2⟩ := Option.map_eq_some_iff.mp h
  have h3 := List.mem_of_find?_eq_some h1
  have h4 := List.find?_some h1
  simp only [Bool.and_eq_true, beq_iff_eq, decide_eq_true_eq] at h4
  rw [show az_xt 164 = [(0, 10, 1, 4, 15)] by decide +kernel] at h3
  simp only [List.mem_cons, List.not_mem_nil, or_false] at h3
  rcases h3 with rfl
  · obtain ⟨⟨ha, hb⟩, rfl⟩ := h4
    cases h2
    exact ⟨[], 0, 10, 13, 13, [], by decide +kernel, ⟨ha, hb, by decide⟩, ⟨by decide +kernel, az_g 321 (by decide +kernel) (by decide +kernel)⟩, fun _ h => absurd h List.not_mem_nil, Or.inl ⟨by decide +kernel, rfl⟩, by decide +kernel, by decide +kernel⟩
theorem az_hk165 : ∀ pc n i nx : Nat, az_hnd 165 pc n = some (i, nx) → az_hok 165 pc n i nx := by
  intro pc n i nx h
  unfold az_hnd at h
  obtain ⟨q, h1, h2⟩ := Option.map_eq_some_iff.mp h
  have h3 := List.mem_of_find?_eq_some h1
  have h4 := List.find?_some h1
  simp only [Bool.and_eq_true, beq_iff_eq, decide_eq_true_eq] at h4
  rw [show az_xt 165 = [(0, 10, 1, 4, 15), (0, 10, 2, 4, 19)] by decide +kernel] at h3
  simp only [List.mem_cons, List.not_mem_nil, or_false] at h3
  rcases h3 with rfl | rfl
  · obtain ⟨⟨ha, hb⟩, rfl⟩ := h4
    cases h2
    exact ⟨[], 0, 10, 13, 13, [(0, 10, 17, 15)], by decide +kernel, ⟨ha, hb, by decide⟩, ⟨by decide +kernel, az_g 321 (by decide +kernel) (by decide +kernel)⟩, fun _ h => absurd h List.not_mem_nil, Or.inl ⟨by decide +kernel, rfl⟩, by decide +kernel, by decide +kernel⟩
  · obtain ⟨⟨ha, hb⟩, rfl⟩ := h4
    cases h2
    exact ⟨[(0, 10, 13, 13)], 0, 10, 17, 15, [], by decide +kernel, ⟨ha, hb, by decide⟩, ⟨by decide +kernel, az_g 322 (by decide +kernel) (by decide +kernel)⟩, List.forall_mem_cons.mpr ⟨⟨by decide, 1, az_g 321 (by decide +kernel) (by decide +kernel), by decide⟩, fun _ h => absurd h List.not_mem_nil⟩, Or.inl ⟨by decide +kernel, rfl⟩, by decide +kernel, by decide +kernel⟩
theorem az_hk166 : ∀ pc n i nx : Nat, az_hnd 166 pc n = some (i, nx) → az_hok 166 pc n i nx := by
  intro pc n i nx h
  unfold az_hnd at h
  obtain ⟨q, h1, h2⟩ := Option.map_eq_some_iff.mp h
  have h3 := List.mem_of_find?_eq_some h1
  have h4 := List.find?_some h1
  simp only [Bool.and_eq_true, beq_iff_eq, decide_eq_true_eq] at h4
  rw [show az_xt 166 = [(0, 10, 1, 4, 15)] by decide +kernel] at h3
  simp only [List.mem_cons, List.not_mem_nil, or_false] at h3
  rcases h3 with rfl
  · obtain ⟨⟨ha, hb⟩, rfl⟩ := h4
    cases h2
    exact ⟨[], 0, 10, 13, 13, [], by decide +kernel, ⟨ha, hb, by decide⟩, ⟨by decide +kernel, az_g 321 (by decide +kernel) (by decide +kernel)⟩, fun _ h => absurd h List.not_mem_nil, Or.inl ⟨by decide +kernel, rfl⟩, by decide +kernel, by decide +kernel⟩
theorem az_hk167 : ∀ pc n i nx : Nat, az_hnd 167 pc n = some (i, nx) → az_hok 167 pc n i nx := by
  intro pc n i nx h
  unfold az_hnd at h
  obtain ⟨q, h1, h2⟩ := Option.map_eq_some_iff.mp h
  have h3 := List.mem_of_find?_eq_some h1
  have h4 := List.find?_some h1
  simp only [Bool.and_eq_true, beq_iff_eq, decide_eq_true_eq] at h4
  rw [show az_xt 167 = [(0, 10, 1, 4, 15), (0, 10, 2, 4, 19)] by decide +kernel] at h3
  simp only [List.mem_cons, List.not_mem_nil, or_false] at h3
  rcases h3 with rfl | rfl
  · obtain ⟨⟨ha, hb⟩, rfl⟩ := h4
    cases h2
    exact ⟨[], 0, 10, 13, 13, [(0, 10, 17, 15)], by decide +kernel, ⟨ha, hb, by decide⟩, ⟨by decide +kernel, az_g 321 (by decide +kernel) (by decide +kernel)⟩, fun _ h => absurd h List.not_mem_nil, Or.inl ⟨by decide +kernel, rfl⟩, by decide +kernel, by decide +kernel⟩
  · obtain ⟨⟨ha, hb⟩, rfl⟩ := h4
    cases h2
    exact ⟨[(0, 10, 13, 13)], 0, 10, 17, 15, [], by decide +kernel, ⟨ha, hb, by decide⟩, ⟨by decide +kernel, az_g 322 (by decide +kernel) (by decide +kernel)⟩, List.forall_mem_cons.mpr ⟨⟨by decide, 1, az_g 321 (by decide +kernel) (by decide +kernel), by decide⟩, fun _ h => absurd h List.not_mem_nil⟩, Or.inl ⟨by decide +kernel, rfl⟩, by decide +kernel, by decide +kernel⟩
theorem az_hk168 : ∀ pc n i nx : Nat, az_hnd 168 pc n = some (i, nx) → az_hok 168 pc n i nx := by
  intro pc n i nx h
  unfold az_hnd at h
  obtain ⟨q, h1, h2⟩ := Option.map_eq_some_iff.mp h
  have h3 := List.mem_of_find?_eq_some h1
  have h4 := List.find?_some h1
  simp only [Bool.and_eq_true, beq_iff_eq, decide_eq_true_eq] at h4
  rw [show az_xt 168 = [(0, 10, 1, 4, 15)] by decide +kernel] at h3
  simp only [List.mem_cons, List.not_mem_nil, or_false] at h3
  rcases h3 with rfl
  · obtain ⟨⟨ha, hb⟩, rfl⟩ := h4
    cases h2
    exact ⟨[], 0, 10, 13, 13, [], by decide +kernel, ⟨ha, hb, by decide⟩, ⟨by decide +kernel, az_g 321 (by decide +kernel) (by decide +kernel)⟩, fun _ h => absurd h List.not_mem_nil, Or.inl ⟨by decide +kernel, rfl⟩, by decide +kernel, by decide +kernel⟩
theorem az_hk169 : ∀ pc n i nx : Nat, az_hnd 169 pc n = some (i, nx) → az_hok 169 pc n i nx := by
  intro pc n i nx h
  unfold az_hnd at h
  obtain ⟨q, h1, h2⟩ := Option.map_eq_some_iff.mp h
  have h3 := List.mem_of_find?_eq_some h1
  have h4 := List.find?_some h1
  simp only [Bool.and_eq_true, beq_iff_eq, decide_eq_true_eq] at h4
  rw [show az_xt 169 = [(0, 9, 1, 3, 13)] by decide +kernel] at h3
  simp only [List.mem_cons, List.not_mem_nil, or_false] at h3
  rcases h3 with rfl
  · obtain ⟨⟨ha, hb⟩, rfl⟩ := h4
    cases h2
    exact ⟨[], 0, 9, 12, 13, [], by decide +kernel, ⟨ha, hb, by decide⟩, ⟨by decide +kernel, az_g 321 (by decide +kernel) (by decide +kernel)⟩, fun _ h => absurd h List.not_mem_nil, Or.inr ⟨3, rfl, by decide +kernel, rfl⟩, by decide +kernel, by decide +kernel⟩
theorem az_hk170 : ∀ pc n i nx : Nat, az_hnd 170 pc n = some (i, nx) → az_hok 170 pc n i nx := by
  intro pc n i nx h
  unfold az_hnd at h
  obtain ⟨q, h1, h2⟩ := Option.map_eq_some_iff.mp h
  have h3 := List.mem_of_find?_eq_some h1
  have h4 := List.find?_some h1
  simp only [Bool.and_eq_true, beq_iff_eq, decide_eq_true_eq] at h4
  rw [show az_xt 170 = [(0, 9, 1, 3, 13)] by decide +kernel] at h3
  simp only [List.mem_cons, List.not_mem_nil, or_false] at h3
  rcases h3 with rfl
  · obtain ⟨⟨ha, hb⟩, rfl⟩ := h4
    cases h2
    exact ⟨[], 0, 9, 12, 13, [], by decide +kernel, ⟨ha, hb, by decide⟩, ⟨by decide +kernel, az_g 321 (by decide +kernel) (by decide +kernel)⟩, fun _ h => absurd h List.not_mem_nil, Or.inr ⟨3, rfl, by decide +kernel, rfl⟩, by decide +kernel, by decide +kernel⟩
theorem az_hks {k : Nat} (hk : k < 172) : ∀ pc n i nx : Nat, az_hnd k pc n = some (i, nx) → az_hok k pc n i nx := by
  by_cases h : az_xt k = []
  · intro pc n i nx h1
    unfold az_hnd at h1
    rw [h] at h1
    cases h1
  · match k, hk, h with
    | 0, _, h => exact absurd rfl h
    | 1, _, h => exact absurd rfl h
    | 2, _, h => exact absurd rfl h
    | 3, _, h => exact absurd rfl h
    | 4, _, h => exact absurd rfl h
    | 5, _, h => exact absurd rfl h
    | 6, _, h => exact absurd rfl h
    | 7, _, h => exact absurd rfl h
    | 8, _, h => exact absurd rfl h
    | 9, _, h => exact absurd rfl h
    | 10, _, h => exact absurd rfl h
    | 11, _, h => exact absurd rfl h
    | 12, _, h => exact absurd rfl h
    | 13, _, h => exact absurd rfl h
    | 14, _, h => exact absurd rfl h
    | 15, _, h => exact absurd rfl h
    | 16, _, h => exact absurd rfl h
    | 17, _, h => exact absurd rfl h
    | 18, _, h => exact absurd rfl h
    | 19, _, h => exact absurd rfl h
    | 20, _, h => exact absurd rfl h
    | 21, _, h => exact absurd rfl h
    | 22, _, h => exact absurd rfl h
    | 23, _, h => exact absurd rfl h
    | 24, _, h => exact absurd rfl h
    | 25, _, h => exact absurd rfl h
    | 26, _, h => exact absurd rfl h
    | 27, _, h => exact absurd rfl h
    | 28, _, h => exact absurd rfl h
    | 29, _, h => exact absurd rfl h
    | 30, _, h => exact absurd rfl h
    | 31, _, h => exact absurd rfl h
    | 32, _, h => exact absurd rfl h
    | 33, _, h => exact absurd rfl h
    | 34, _, h => exact absurd rfl h
    | 35, _, h => exact absurd rfl h
    | 36, _, h => exact absurd rfl h
    | 37, _, h => exact absurd rfl h
    | 38, _, h => exact absurd rfl h
    | 39, _, h => exact absurd rfl h
    | 40, _, h => exact absurd rfl h
    | 41, _, h => exact absurd rfl h
    | 42, _, h => exact absurd rfl h
    | 43, _, h => exact absurd rfl h
    | 44, _, h => exact absurd rfl h
    | 45, _, h => exact absurd rfl h
    | 46, _, h => exact absurd rfl h
    | 47, _, h => exact absurd rfl h
    | 48, _, h => exact absurd rfl h
    | 49, _, h => exact absurd rfl h
    | 50, _, h => exact absurd rfl h
    | 51, _, h => exact absurd rfl h
    | 52, _, h => exact absurd rfl h
    | 53, _, h => exact absurd rfl h
    | 54, _, h => exact absurd rfl h
    | 55, _, h => exact absurd rfl h
    | 56, _, h => exact absurd rfl h
    | 57, _, h => exact absurd rfl h
    | 58, _, h => exact absurd rfl h
    | 59, _, h => exact absurd rfl h
    | 60, _, h => exact absurd rfl h
    | 61, _, h => exact absurd rfl h
    | 62, _, h => exact absurd rfl h
    | 63, _, h => exact absurd rfl h
    | 64, _, h => exact absurd rfl h
    | 65, _, h => exact absurd rfl h
    | 66, _, h => exact absurd rfl h
    | 67, _, h => exact absurd rfl h
    | 68, _, h => exact absurd rfl h
    | 69, _, h => exact absurd rfl h
    | 70, _, h => exact absurd rfl h
    | 71, _, h => exact absurd rfl h
    | 72, _, h => exact absurd rfl h
    | 73, _, h => exact absurd rfl h
    | 74, _, h => exact absurd rfl h
    | 75, _, h => exact absurd rfl h
    | 76, _, h => exact absurd rfl h
    | 77, _, h => exact absurd rfl h
    | 78, _, h => exact absurd rfl h
    | 79, _, h => exact absurd rfl h
    | 80, _, h => exact absurd rfl h
    | 81, _, h => exact absurd rfl h
    | 82, _, h => exact absurd rfl h
    | 83, _, h => exact absurd rfl h
    | 84, _, h => exact absurd rfl h
    | 85, _, h => exact absurd rfl h
    | 86, _, h => exact absurd rfl h
    | 87, _, h => exact absurd rfl h
    | 88, _, h => exact absurd rfl h
    | 89, _, h => exact absurd rfl h
    | 90, _, h => exact absurd rfl h
    | 91, _, h => exact absurd rfl h
    | 92, _, h => exact absurd rfl h
    | 93, _, h => exact absurd rfl h
    | 94, _, h => exact absurd rfl h
    | 95, _, h => exact absurd rfl h
    | 96, _, h => exact absurd rfl h
    | 97, _, h => exact absurd rfl h
    | 98, _, h => exact absurd rfl h
    | 99, _, h => exact absurd rfl h
    | 100, _, h => exact absurd rfl h
    | 101, _, h => exact absurd rfl h
    | 102, _, h => exact absurd rfl h
    | 103, _, h => exact absurd rfl h
    | 104, _, h => exact absurd rfl h
    | 105, _, h => exact absurd rfl h
    | 106, _, h => exact absurd rfl h
    | 107, _, h => exact absurd rfl h
    | 108, _, h => exact absurd rfl h
    | 109, _, h => exact absurd rfl h
    | 110, _, h => exact absurd rfl h
    | 111, _, h => exact absurd rfl h
    | 112, _, h => exact absurd rfl h
    | 113, _, h => exact absurd rfl h
    | 114, _, h => exact absurd rfl h
    | 115, _, h => exact absurd rfl h
    | 116, _, h => exact absurd rfl h
    | 117, _, h => exact absurd rfl h
    | 118, _, h => exact absurd rfl h
    | 119, _, h => exact absurd rfl h
    | 120, _, h => exact absurd rfl h
    | 121, _, h => exact absurd rfl h
    | 122, _, h => exact absurd rfl h
    | 123, _, h => exact absurd rfl h
    | 124, _, h => exact absurd rfl h
    | 125, _, h => exact absurd rfl h
    | 126, _, h => exact absurd rfl h
    | 127, _, h => exact absurd rfl h
    | 128, _, h => exact absurd rfl h
    | 129, _, h => exact absurd rfl h
    | 130, _, h => exact absurd rfl h
    | 131, _, h => exact absurd rfl h
    | 132, _, h => exact absurd rfl h
    | 133, _, h => exact absurd rfl h
    | 134, _, h => exact absurd rfl h
    | 135, _, h => exact absurd rfl h
    | 136, _, h => exact absurd rfl h
    | 137, _, h => exact absurd rfl h
    | 138, _, h => exact absurd rfl h
    | 139, _, h => exact absurd rfl h
    | 140, _, h => exact absurd rfl h
    | 141, _, h => exact absurd rfl h
    | 142, _, h => exact absurd rfl h
    | 143, _, h => exact absurd rfl h
    | 144, _, _ => exact az_hk144
    | 145, _, _ => exact az_hk145
    | 146, _, _ => exact az_hk146
    | 147, _, _ => exact az_hk147
    | 148, _, _ => exact az_hk148
    | 149, _, _ => exact az_hk149
    | 150, _, _ => exact az_hk150
    | 151, _, _ => exact az_hk151
    | 152, _, _ => exact az_hk152
    | 153, _, _ => exact az_hk153
    | 154, _, _ => exact az_hk154
    | 155, _, _ => exact az_hk155
    | 156, _, _ => exact az_hk156
    | 157, _, _ => exact az_hk157
    | 158, _, _ => exact az_hk158
    | 159, _, _ => exact az_hk159
    | 160, _, _ => exact az_hk160
    | 161, _, _ => exact az_hk161
    | 162, _, _ => exact az_hk162
    | 163, _, _ => exact az_hk163
    | 164, _, _ => exact az_hk164
    | 165, _, _ => exact az_hk165
    | 166, _, _ => exact az_hk166
    | 167, _, _ => exact az_hk167
    | 168, _, _ => exact az_hk168
    | 169, _, _ => exact az_hk169
    | 170, _, _ => exact az_hk170
    | 171, _, h => exact absurd rfl h
    | k + 172, h, _ => omega
theorem az_hnc {n n2 : Nat} (h : (n, n2) ∈ az_nc) : True := trivial
end
section
/-! ===== BEGIN a constructor that throws (launches without stack traces) ===== -/
section VXIA
variable {p : Program} {l : Launch} {e : Env} {R : Room} {s : State} {m : MethodId} {args : Array Value} {below : List Frame} {meth : Method} {c : Code} {T : State} {locs : List Loc} {cells slots : Nat}
theorem vx_callI (X : Stand p l e R s m args below meth c T locs cells slots) (hexec : p.tables.exec = Jvm.exec) {own : String} {index : Nat} {y : MethodName} {bytes : ByteArray} {maxL : Nat}
    (hown : s.vm.findClass own = some m.cls) (hy1 : y.name = "<init>") (hlink : (Cond.methodLink own index y).before args s = true) (hinst : (Cond.instanceMethod y).before args s = true)
    (hcode : (Cond.code y bytes maxL none).before args s = true) (hy : y.cls ≠ "java/lang/invoke/MethodHandle" ∧ y.cls ≠ "java/lang/invoke/VarHandle")
    {W9 : Nat} {Pre : Pt → Array Value → Prop} {Post : Pt → Array Value → Option Value → Pt → Prop} {PostX : Pt → Array Value → Addr → Pt → Prop} (hK : vx_Back l R p e below s args y 3 W9 Pre Post PostX)
    {g : JFrame} (hg : g.method = m) (hsize : g.locals.size = c.maxLocals) {a : Addr} {argsL rest : List Value} (hlen : ∀ sig, parseMethodDescriptor y.desc = some sig → argsL.length = sig.parameters.length)
    (hstack : g.stack = argsL.reverse ++ .ref a :: rest) (hW : 2 * g.monitorRoom + (rest.map fun v => v.category).sum ≤ W9) (hdg : decode c.code g.pc = .ok (.invokespecial index, 3))
    (hpre : ∀ vm₁, s.WarmedH vm₁ → Pre ⟨T.setVm vm₁, locs, cells, slots⟩ (Value.ref a :: argsL).toArray) :
    (∃ (v : Option Value) (vm₁ : Vm) (B : Pt), s.WarmedH vm₁ ∧ Stand p l e R s m args below meth c B.U B.locs B.cells B.slots ∧ Post ⟨T.setVm vm₁, locs, cells, slots⟩ (Value.ref a :: argsL).toArray v B ∧
      ∀ target, Steps p.tables e below (B.U.setTop { g with pc := g.pc + 3, stack := v.toList ++ rest }) target → Steps p.tables e below (T.setTop g) target) ∨
    (∃ (q : Addr) (vm₁ : Vm) (B : Pt), s.WarmedH vm₁ ∧ Stand p l e R s m args below meth c B.U B.locs B.cells B.slots ∧ PostX ⟨T.setVm vm₁, locs, cells, slots⟩ (Value.ref a :: argsL).toArray q B ∧
      Steps p.tables e below (T.setTop g) ((B.U.setTop { g with stack := rest }).pushFrame (.throwing q))) := by
  subst hg
  have hpl : e.platform.magicAccessors = ({} : Platform).magicAccessors := by rw [X.admits.platform]
  obtain ⟨mk, methM, cM, kP, vm₁, hnamed, hmethM, hcodeM, -, hlocalsM, -, hkP, -, hW₁, hstep₁⟩ := Steps.initColdArgs (e := e) X.here hexec X.warmed hpl hown hy1 hy hlink hinst hcode (f := g) rfl hlen hstack hdg
  have X₁ := X.noted hW₁
  rcases hK g.method meth c ⟨T.setVm vm₁, locs, cells, slots⟩ { g with stack := rest } (.invokespecial index) mk (Value.ref a :: argsL).toArray X₁ rfl hsize hdg hW (X₁.named hnamed) (hpre vm₁ X₁.warmed) with ⟨v, B, X', hpost, hsteps⟩ | ⟨q, B, X', hpost, hsteps⟩
  · exact Or.inl ⟨v, vm₁, B, X₁.warmed, X', hpost, fun target h => hstep₁ _ fun acts => by rw [doInvoke_state]; exact hsteps.trans h⟩
  · exact Or.inr ⟨q, vm₁, B, X₁.warmed, X', hpost, hstep₁ _ fun acts => by rw [doInvoke_state]; exact hsteps⟩
end VXIA
section VXIB
variable {p : Program} {l : Launch} {e : Env} {R : Room} {s : State} {m : MethodId} {args : Array Value} {below : List Frame} {meth : Method} {c : Code} {H : Heap} {locs : List Loc} {cells slots : Nat}
variable {y : MethodName} {bytes cc : ByteArray} {maxL nL mc ms n index : Nat} {ret : Option FieldType} {ws : List Cond} {rm : Room} {Pc : Array Value → State → Prop} {Qc : Array Value → State → Outcome → State → Prop} {XC : String → State → State → Prop} {free : Addr → Prop} {Ts : List Cond} {own C : String} {b : Addr} {As rest : List Value} {g : JFrame}
theorem vx_runI (S : CallFix p m c cc nL s args Ts own) (hM : vx_Met l y ws rm Pc Qc XC mc ms free) (cw : CallB R s args own index y bytes maxL none ws rm mc ms n ∧ y.name = "<init>" ∧ (Cond.instanceMethod y).before args s = true) (hp : PreS s H Pc (.ref b :: As))
    (hg : g.method = m) (hn : As.length = n) (hsize : g.locals.size = nL) (hstack : g.stack = As.reverse ++ .ref b :: rest) (hW : 2 * g.monitorRoom + (rest.map fun v => v.category).sum ≤ 8) (hdg : decode cc g.pc = .ok (.invokespecial index, 3)) (hf : cells + mc ≤ R.cells ∧ slots + ms ≤ R.slots) :
    vx_Run p l e R s m args below meth c H locs cells slots mc ms g rest (Qc (Value.ref b :: As).toArray) XC free := by
  have hK : vx_Back l R p e below s args y 3 8 (PreOf R mc ms Pc) (PostOf Qc mc ms free) (vx_Post XC mc ms free) := vx_callBack cw.1 hM hp.1
  obtain ⟨⟨-, -, -, -, -, -, hcode, -, hy, hlen, hl⟩, hy1, hin⟩ := cw
  obtain ⟨hx, hb, hml, ho, -⟩ := S
  have hPc := hp.2
  intro T hT X
  rcases vx_callI X hx (bytes := bytes) (maxL := maxL) ho hy1 hl hin hcode hy hK hg (hsize.trans hml.symm) (a := b) (argsL := As) (rest := rest) (fun sig h => hn.trans (hlen sig h)) hstack hW (by rw [hb]; exact hdg)
    (fun vm₁ hW₁ => ⟨hf.1, hf.2, hPc (T.setVm vm₁) hT hW₁⟩) with ⟨v, vm₁, ⟨U', l2, c2, s2⟩, hW₁, X', ⟨g', mk, t, L, e1, e2, hq, h1, hL, h2, h3⟩, st⟩ | ⟨q, vm₁, ⟨U', l2, c2, s2⟩, hW₁, X', ⟨g', mk, t, L, E, ce, e1, e2, hq, hce, hcv, hcl, h1, hL, h2, h3⟩, st⟩
  · dsimp only [Pt.U, Pt.locs, Pt.cells, Pt.slots] at X' e1 e2 h1 h2 h3 st
    subst h1; subst h2; subst h3
    exact Or.inl ⟨v, (T.setVm vm₁).calling g' mk (Value.ref b :: As).toArray, t, U', L, hT, X', hL, e1, e2, hq, st⟩
  · dsimp only [Pt.U, Pt.locs, Pt.cells, Pt.slots] at X' e1 e2 h1 h2 h3 st hcl
    subst h1; subst h2; subst h3
    exact Or.inr ⟨q, (T.setVm vm₁).calling g' mk (Value.ref b :: As).toArray, t, U', L, E, ce, hT, X', hL, e1, e2, hq, hce, hcv, vx_cls hW₁ hcl, st⟩
end VXIB
/-! ===== END ===== -/
/-! ===== BEGIN a private constructor of a nest mate that throws ===== -/
section VXIC
variable {p : Program} {l : Launch} {e : Env} {R : Room} {s : State} {m : MethodId} {args : Array Value} {below : List Frame} {meth : Method} {c : Code} {T : State} {locs : List Loc} {cells slots : Nat}
theorem vx_callIN (X : Stand p l e R s m args below meth c T locs cells slots) (hexec : p.tables.exec = Jvm.exec) {own : String} {index : Nat} {host : String} {y : MethodName} {bytes : ByteArray} {maxL : Nat}
    (hown : s.vm.findClass own = some m.cls) (hy1 : y.name = "<init>") (hlink : (Cond.methodLinkNest own index y host).before args s = true) (hinst : (Cond.instanceMethod y).before args s = true)
    (hcode : (Cond.code y bytes maxL none).before args s = true) (hy : y.cls ≠ "java/lang/invoke/MethodHandle" ∧ y.cls ≠ "java/lang/invoke/VarHandle")
    {W9 : Nat} {Pre : Pt → Array Value → Prop} {Post : Pt → Array Value → Option Value → Pt → Prop} {PostX : Pt → Array Value → Addr → Pt → Prop} (hK : vx_Back l R p e below s args y 3 W9 Pre Post PostX)
    {g : JFrame} (hg : g.method = m) (hsize : g.locals.size = c.maxLocals) {a : Addr} {argsL rest : List Value} (hlen : ∀ sig, parseMethodDescriptor y.desc = some sig → argsL.length = sig.parameters.length)
    (hstack : g.stack = argsL.reverse ++ .ref a :: rest) (hW : 2 * g.monitorRoom + (rest.map fun v => v.category).sum ≤ W9) (hdg : decode c.code g.pc = .ok (.invokespecial index, 3))
    (hpre : ∀ vm₁, s.WarmedH vm₁ → Pre ⟨T.setVm vm₁, locs, cells, slots⟩ (Value.ref a :: argsL).toArray) :
    (∃ (v : Option Value) (vm₁ : Vm) (B : Pt), s.WarmedH vm₁ ∧ Stand p l e R s m args below meth c B.U B.locs B.cells B.slots ∧ Post ⟨T.setVm vm₁, locs, cells, slots⟩ (Value.ref a :: argsL).toArray v B ∧
      ∀ target, Steps p.tables e below (B.U.setTop { g with pc := g.pc + 3, stack := v.toList ++ rest }) target → Steps p.tables e below (T.setTop g) target) ∨
    (∃ (q : Addr) (vm₁ : Vm) (B : Pt), s.WarmedH vm₁ ∧ Stand p l e R s m args below meth c B.U B.locs B.cells B.slots ∧ PostX ⟨T.setVm vm₁, locs, cells, slots⟩ (Value.ref a :: argsL).toArray q B ∧
      Steps p.tables e below (T.setTop g) ((B.U.setTop { g with stack := rest }).pushFrame (.throwing q))) := by
  subst hg
  have hpl : e.platform.magicAccessors = ({} : Platform).magicAccessors := by rw [X.admits.platform]
  obtain ⟨mk, methM, cM, kP, vm₁, hnamed, hmethM, hcodeM, -, hlocalsM, -, hkP, -, hW₁, hstep₁⟩ := Steps.initColdArgsNest (e := e) X.here hexec X.warmed hpl hown hy1 hy hlink hinst hcode (f := g) rfl hlen hstack hdg
  have X₁ := X.noted hW₁
  rcases hK g.method meth c ⟨T.setVm vm₁, locs, cells, slots⟩ { g with stack := rest } (.invokespecial index) mk (Value.ref a :: argsL).toArray X₁ rfl hsize hdg hW (X₁.named hnamed) (hpre vm₁ X₁.warmed) with ⟨v, B, X', hpost, hsteps⟩ | ⟨q, B, X', hpost, hsteps⟩
  · exact Or.inl ⟨v, vm₁, B, X₁.warmed, X', hpost, fun target h => hstep₁ _ fun acts => by rw [doInvoke_state]; exact hsteps.trans h⟩
  · exact Or.inr ⟨q, vm₁, B, X₁.warmed, X', hpost, hstep₁ _ fun acts => by rw [doInvoke_state]; exact hsteps⟩
end VXIC
section VXID
variable {p : Program} {l : Launch} {e : Env} {R : Room} {s : State} {m : MethodId} {args : Array Value} {below : List Frame} {meth : Method} {c : Code} {H : Heap} {locs : List Loc} {cells slots : Nat}
theorem vx_runIN {y : MethodName} {bytes cc : ByteArray} {maxL nL mc ms n index : Nat} {ws : List Cond} {rm : Room} {Pc : Array Value → State → Prop} {Qc : Array Value → State → Outcome → State → Prop} {XC : String → State → State → Prop} {free : Addr → Prop} {Ts : List Cond} {own host : String} {b : Addr} {As rest : List Value} {g : JFrame}
    (S : CallFix p m c cc nL s args Ts own) (hM : vx_Met l y ws rm Pc Qc XC mc ms free) (cw : va_CN R s args own index y host bytes maxL none ws rm mc ms n ∧ y.name = "<init>" ∧ (Cond.instanceMethod y).before args s = true) (hp : PreS s H Pc (.ref b :: As))
    (hg : g.method = m) (hn : As.length = n) (hsize : g.locals.size = nL) (hstack : g.stack = As.reverse ++ .ref b :: rest) (hW : 2 * g.monitorRoom + (rest.map fun v => v.category).sum ≤ 8) (hdg : decode cc g.pc = .ok (.invokespecial index, 3)) (hf : cells + mc ≤ R.cells ∧ slots + ms ≤ R.slots) :
    vx_Run p l e R s m args below meth c H locs cells slots mc ms g rest (Qc (Value.ref b :: As).toArray) XC free := by
  obtain ⟨⟨⟨hrc, hrs, hfr, hlo, hws, hcw⟩, hcode, hini, hy, hlen, hl⟩, hx1, hx2⟩ := cw
  have hK : vx_Back l R p e below s args y 3 8 (PreOf R mc ms Pc) (PostOf Qc mc ms free) (vx_Post XC mc ms free) := vx_back (bytes := bytes) (maxL := maxL) (ret := none) hM hp.1 hrc hrs hfr hlo hws hcw (fun a' U hW => word_at hW (Or.inl (by first | rfl | simp [Cond.onTables, Cond.keeps, Cond.steady])) hini)
  obtain ⟨hx, hb, hml, ho, -⟩ := S
  have hPc := hp.2
  intro T hT X
  rcases vx_callIN X hx (bytes := bytes) (maxL := maxL) ho hx1 hl hx2 hcode hy hK hg (hsize.trans hml.symm) (a := b) (argsL := As) (rest := rest) (fun sig h => hn.trans (hlen sig h)) hstack hW (by rw [hb]; exact hdg)
    (fun vm₁ hW₁ => ⟨hf.1, hf.2, hPc (T.setVm vm₁) hT hW₁⟩) with ⟨v, vm₁, ⟨U', l2, c2, s2⟩, hW₁, X', ⟨g', mk, t, L, e1, e2, hq, h1, hL, h2, h3⟩, st⟩ | ⟨q, vm₁, ⟨U', l2, c2, s2⟩, hW₁, X', ⟨g', mk, t, L, E, ce, e1, e2, hq, hce, hcv, hcl, h1, hL, h2, h3⟩, st⟩
  · dsimp only [Pt.U, Pt.locs, Pt.cells, Pt.slots] at X' e1 e2 h1 h2 h3 st
    subst h1; subst h2; subst h3
    exact Or.inl ⟨v, (T.setVm vm₁).calling g' mk (Value.ref b :: As).toArray, t, U', L, hT, X', hL, e1, e2, hq, st⟩
  · dsimp only [Pt.U, Pt.locs, Pt.cells, Pt.slots] at X' e1 e2 h1 h2 h3 st hcl
    subst h1; subst h2; subst h3
    exact Or.inr ⟨q, (T.setVm vm₁).calling g' mk (Value.ref b :: As).toArray, t, U', L, E, ce, hT, X', hL, e1, e2, hq, hce, hcv, vx_cls hW₁ hcl, st⟩
end VXID
/-! ===== END ===== -/
end
section
/-! what the start gives and every call keeps; a throw; a catch; a call -/
theorem az_AOs {args : Array Value} {s : State} {t : FieldType} (h : (Jvm.Cond.arrayOver (.array t)).before args s = true) :
    ∃ comp c k, s.vm.findClass (FieldType.array t).toString = some comp ∧ (s.vm.classes.findIdx? fun (x : Class) => match x.kind with | .array component _ => component == comp | _ => false) = some c ∧ s.vm.classes[c]? = some k ∧ k.kind = .array comp (.array t) ∧ s.vm.findClass ("[" ++ (FieldType.array t).toString) = some c := by
  simp only [Cond.before, Cond.holds, Cond.value, beq_iff_eq] at h
  cases hc : s.vm.findClass (FieldType.array t).toString with
  | none => simp [hc] at h
  | some comp =>
    simp only [hc, Option.bind_some, Option.bind_eq_some_iff, Option.map_eq_some_iff] at h
    obtain ⟨c, hi, k, hk, hb⟩ := h
    obtain ⟨hlt, hp, -⟩ := Array.findIdx?_eq_some_iff_getElem.mp hi
    have hkk : s.vm.classes[c] = k := (Array.getElem?_eq_some_iff.mp hk).2
    rw [hkk] at hp
    cases hkind : k.kind with
    | array component ty =>
      rw [hkind] at hb hp
      simp at hb hp
      exact ⟨comp, c, k, rfl, hi, hk, by rw [hkind, hp, hb.1], hb.2⟩
    | _ => rw [hkind] at hb; simp at hb
theorem az_AOm {t : FieldType} {u U : State} {A A' : Array Value} (hvm : u.vm.Alike U.vm) (h : (Jvm.Cond.arrayOver (.array t)).before A u = true) : (Jvm.Cond.arrayOver (.array t)).before A' U = true := by
  obtain ⟨comp, c, k, h1, h2, h3, h4, h5⟩ := az_AOs h
  obtain ⟨k', hk', he⟩ := hvm.2.2 _ _ h3
  have hi : (U.vm.classes.findIdx? fun (x : Class) => match x.kind with | .array component _ => component == comp | _ => false) = some c := by
    refine (va_idx_bare U.vm comp).symm.trans ?_
    first | rw [hvm.bare_eq] | rw [← hvm.bare_eq]
    exact (va_idx_bare u.vm comp).trans h2
  have hkind : k'.kind = .array comp (.array t) := by rw [he]; exact h4
  have f1 : U.vm.findClass (FieldType.array t).toString = some comp := by rw [hvm.findClass]; exact h1
  have f2 : U.vm.findClass ("[" ++ (FieldType.array t).toString) = some c := by rw [hvm.findClass]; exact h5
  unfold Cond.before Cond.holds
  simp only [Cond.value]
  rw [f1, Option.bind_some]
  refine (congrArg (fun o : Option Nat => (o.bind (fun c => (U.vm.classes[c]?).map fun (k : Class) => match k.kind with | .array _ ty => decide (ty = FieldType.array t) && decide (U.vm.findClass ("[" ++ (FieldType.array t).toString) = some c) | _ => false) == some true)) hi).trans ?_
  simp [hk', hkind, f2]
def az_sf (A : Nat → Prop) (U : State) : Prop :=
  (∀ w ∈ az_ng, va_Nw w U) ∧ (Jvm.Cond.arrayOver (.array .int)).before #[] U = true ∧ (∀ q ∈ az_str, ∃ sa, vk_R RX6 q.1 q.2 sa U) ∧ (∀ q ∈ az_nc, va_Nc (az_xn q.1) (az_xn q.2) U) ∧
  vx_Zq Bundle.tN "UNASSIGNED_STACK" Bundle.steD A U U.heap ∧ vx_Zq Bundle.tN "SUPPRESSED_SENTINEL" Bundle.listD A U U.heap
theorem az_sf.moved {A : Nat → Prop} {s U : State} (hW : s.WarmedH U.vm) (hh : ∀ a : Nat, a < s.heap.size → ¬ A a → U.heap[a]? = s.heap[a]?) (h : az_sf A s) : az_sf A U := by
  obtain ⟨h1, h2, h3, h4, h5, h6⟩ := h
  exact ⟨fun w hw => az_ngw w hw s U hW (h1 w hw), az_AOm hW.alike h2, fun q hq => by
    obtain ⟨sa, h⟩ := h3 q hq
    exact ⟨sa, vk_R.warm hW h⟩, fun q hq => va_Nc.moved hW.alike (h4 q hq), (vx_Zq.kept h5 hh).moved hW.alike, (vx_Zq.kept h6 hh).moved hW.alike⟩
theorem az_sf.same {A : Nat → Prop} {s U : State} (hv : s.vm = U.vm) (hh : U.heap = s.heap) (h : az_sf A s) : az_sf A U :=
  h.moved (by rw [← hv]; exact State.WarmedH.refl s) (fun a _ _ => by rw [hh])
theorem az_kept {D : va_G} {cl : List vw_C} {ws : va_W} {H H1 : Heap} (h : va_P D cl ws H) (hs : ∀ q : Nat, q < H.size → H1[q]? = H[q]?) : va_P D cl ws H1 := h.kept (fun k q hk => hs q.1 ((h k q hk).lt))
/-- what a method's end says of the cells -/
def az_en (D : va_G) (cy : Nat → ClassId) (A : Nat → Prop) (ad : Nat → Nat) (n : Nat) (ad' : Nat → Nat) (G : az_G) (t : State) : Prop :=
  az_ag ad n ad' ∧ az_wf G.1 ∧ va_P D az_cl (az_w cy ad' G) t.heap ∧ va_D A (az_w cy ad' G) ∧ n ≤ G.1.length ∧ G.1.length ≤ 300000
def az_Qc (D : va_G) (cy : Nat → ClassId) (A : Nat → Prop) (ad : Nat → Nat) (n : Nat) (o : az_O) : Array Value → State → Outcome → State → Prop := fun _ st oc t =>
  o.1 = 0 ∧ ∃ ad', oc = .returned (o.2.1.map (az_c ad')) ∧ (∀ v ∈ o.2.1, az_ok o.2.2.1.length v) ∧ az_en D cy A ad n ad' o.2.2 t ∧ va_F A st t
def az_Xc (D : va_G) (cy : Nat → ClassId) (A : Nat → Prop) (ad : Nat → Nat) (n : Nat) (o : az_O) : String → State → State → Prop := fun E st t =>
  (1 ≤ o.1 ∧ o.1 ≤ 3) ∧ E = az_xn o.1 ∧ ∃ ad', az_en D cy A ad n ad' o.2.2 t ∧ va_F A st t
def az_Pc (D : va_G) (cy : Nat → ClassId) (A : Nat → Prop) (ad : Nat → Nat) (as : List Value) (G : az_G) : Array Value → State → Prop := fun v U =>
  v = (as.map (az_c ad)).toArray ∧ va_P D az_cl (az_w cy ad G) U.heap ∧ va_D A (az_w cy ad G) ∧ va_K D az_cl (az_tl cy) U ∧ az_sf A U ∧ ∀ q : Nat, U.heap.size ≤ q → A q
def az_ws (m : Nat) : List Jvm.Cond := az_cw m :: az_gw
def az_rm (d mc ms : Nat) : Room := { frames := d + 8, cells := mc, slots := ms, locals := 60 * d + 200 }
theorem az_blind {D : va_G} {cy : Nat → ClassId} {A : Nat → Prop} {ad : Nat → Nat} {as : List Value} {G : az_G} : FrameBlind (az_Pc D cy A ad as G) := by
  intro a U g mk h
  obtain ⟨h1, h2, h3, h4, h5, h6⟩ := h
  exact ⟨h1, h2, h3, va_K.moved (u := U) (U := U.calling g mk a) (Vm.Alike.refl U.vm) h4, az_sf.same (s := U) (U := U.calling g mk a) rfl rfl h5, h6⟩
section
variable {p : Program} {l : Launch} {e : Env} {R : Room} {s : State} {m : MethodId} {args : Array Value} {below : List Frame} {meth : Method} {c : Code} {Q : State → Prop}
variable {xs : az_X} {k pc : Nat} {D : va_G} {cy : Nat → ClassId} {A : Nat → Prop} {ad0 : Nat → Nat} {n0 c0 s0 : Nat} {L : az_Ls} {st : List Value} {G : az_G} {q : az_Nx}
/-- where a call comes back -/
theorem az_callK {H : Heap} {locs : List Loc} {cells slots mc ms : Nat} {ls : Array Slot} {st0 rest : List Value} {Qa : State → Outcome → State → Prop} {XC : String → State → State → Prop} {A : Nat → Prop} {H0 : Heap}
    (hr : vx_Run p l e R s m args below meth c H locs cells slots mc ms (F0 m pc ls st0) rest Qa XC A) (hS : va_S A H0 H locs) (hQF : ∀ st oc t, Qa st oc t → va_F A st t) (hXF : ∀ z st t, XC z st t → va_F A st t)
    (kk : ∀ (v : Option Value) (st₀ t : State) (H1 : Heap) (locs1 : List Loc), t.heap = H1 → s.vm.Alike t.vm → Qa st₀ (.returned v) t → va_S A H0 H1 locs1 → W p l e R s m args below meth c H1 locs1 (cells + mc) (slots + ms) Q (F0 m (pc + 3) ls (v.toList ++ rest)))
    (kx : ∀ (z : String) (ce : Cell) (q9 : Addr) (st₀ t : State) (H1 : Heap) (locs1 : List Loc), t.heap = H1 → s.vm.Alike t.vm → XC z st₀ t → va_S A H0 H1 locs1 → H1[q9]? = some ce → ce.vm = .none → s.vm.findClass z = some ce.cls → vx_W p l e R s m args below meth c H1 locs1 (cells + mc) (slots + ms) Q (F0 m pc ls rest) q9) :
    W p l e R s m args below meth c H locs cells slots Q (F0 m pc ls st0) := by
  intro T hT X
  rcases hr T hT X with ⟨v, st₀, t, T', L, h0, X', hL, e1, e2, hQ, st⟩ | ⟨q, st₀, t, T', L, z, ce, h0, X', hL, e1, e2, hX, hce, hcv, hcl, st⟩
  · obtain ⟨k1, k2, k3⟩ := vx_keep h0 e1 hS (fun _ _ h => h) (fun _ h => h) hL (hQF _ _ _ hQ)
    obtain ⟨t2, a1, b1⟩ := kk v st₀ t T'.heap (locs ++ L) e1.symm (by rw [← e2]; exact X'.warmed.alike) hQ k3 T' rfl X'
    exact ⟨t2, st t2 a1, b1⟩
  · obtain ⟨k1, k2, k3⟩ := vx_keep h0 e1 hS (fun _ _ h => h) (fun _ h => h) hL (hXF _ _ _ hX)
    obtain ⟨t2, a1, b1⟩ := kx z ce q st₀ t T'.heap (locs ++ L) e1.symm (by rw [← e2]; exact X'.warmed.alike) hX k3 (by rw [e1]; exact hce) hcv hcl T' rfl X'
    exact ⟨t2, st.trans a1, b1⟩
/-- a throw -/
theorem az_throw {n mc ms : Nat} {o : az_O} {ad : Nat → Nat} {ls : Array Slot} {H : Heap} {locs : List Loc} {cells slots : Nat} (hlt : l.stackTraces = false) (hK : az_K p s m args meth c xs k D cy A ad0) (hsf : az_sf A s) (hlocks : meth.locks = false) (htab : c.exceptionTable.toList = tableOf (az_hh k)) (hL : L.length = az_ml k)
    (hR6 : 6 ≤ R.frames ∧ 100 ≤ R.locals) (h : az_thr k pc = some n) (hR : az_at D cy A s.heap ad0 n0 c0 s0 ad L ls [] G H locs cells slots) (ho : o = (n, none, (G.1, G.2.1, G.2.2.1, G.2.2.2.1 + 1, G.2.2.2.2 + 6))) (hB : o.2.2.2.2.2.1 ≤ c0 + R.cells ∧ o.2.2.2.2.2.2 ≤ s0 + R.slots)
    (hmc : mc + c0 = o.2.2.2.2.2.1) (hms : ms + s0 = o.2.2.2.2.2.2) :
    W p l e R s m args below meth c H locs cells slots (vx_MQ below (az_Qc D cy A ad0 n0 o) (az_Xc D cy A ad0 n0 o) args s mc ms A) (F0 m pc ls []) := by
  obtain ⟨hx, hb, hown, hml, hts, hV, hA, -, -, -⟩ := hK
  obtain ⟨⟨hLr, hst⟩, hwf, hP, hD, hS, hag, hn0, hn1, hn2, hn3⟩ := hR
  obtain ⟨hng, -, hstr, -, hU, hN⟩ := hsf
  obtain ⟨ik, is, ic, text, wd, hs6, hcl, hini, htx, hat, hot, ⟨hf1, hf2⟩, ⟨d0, d3⟩, hd, hh0, hn1', hn3'⟩ := az_sites h
  subst ho
  rw [hs6] at hown
  obtain ⟨sa, hsa⟩ := hstr _ htx
  have hB1 : G.2.2.2.1 + 1 ≤ c0 + R.cells := hB.1
  have hB2 : G.2.2.2.2 + 6 ≤ s0 + R.slots := hB.2
  have hmc : mc + c0 = G.2.2.2.1 + 1 := hmc
  have hms : ms + s0 = G.2.2.2.2 + 6 := hms
  have hat' : ∀ w ∈ vx_atS RX6 ic (az_xn n) az_nms, w.before args s = true := fun w hw => (hat w hw).elim (hts w) (fun h9 => va_Nw.use (az_ngo w h9) (hng w h9))
  have hsz : ls.size = c.maxLocals := by rw [hml, hLr.1, hL]
  have hout : ∀ (pc' : Nat), ∀ x ∈ c.exceptionTable.toList, covers x pc' = false := fun pc' x hx9 => by rw [htab, hh0] at hx9; cases hx9
  have hX : ∀ t : State, s.vm.Alike t.vm → H.size ≤ t.heap.size → (∀ q : Nat, q < H.size → t.heap[q]? = H[q]?) → az_Xc D cy A ad0 n0 (n, none, (G.1, G.2.1, G.2.2.1, G.2.2.2.1 + 1, G.2.2.2.2 + 6)) (az_xn n) s t := fun t _ h1 h2 =>
    ⟨⟨hn1', hn3'⟩, rfl, ad, ⟨hag, hwf, az_kept hP h2, hD, hn0, hn3⟩, Nat.le_trans hS.1 h1, fun q q1 q2 => by rw [h2 q (Nat.lt_of_lt_of_le q1 hS.1)]; exact hS.2.1 q q1 q2⟩
  cases wd with
  | false => exact vx_throwS (names := az_nms) (sa := sa) hx hb hlt hown hf1 hf2 (hts _ hcl) (hts _ hini) hsa hat' hot hU hN hS hsz d0 d3 hd.1 hd.2.1 hd.2.2 (hout _) (by show 2 + 3 < R.frames; omega) (by show 0 + (13 * (2 + 1) + 43) ≤ R.locals; omega) (by omega) (by omega) hlocks hX hS.2.2 (by omega) (by omega)
  | true => exact vx_throwSW (names := az_nms) (sa := sa) hx hb hlt hown hf1 hf2 (hts _ hcl) (hts _ hini) hsa hat' hot hU hN hS hsz d0 d3 hd.1 hd.2.1 hd.2.2 (hout _) (by show 2 + 3 < R.frames; omega) (by show 0 + (13 * (2 + 1) + 43) ≤ R.locals; omega) (by omega) (by omega) hlocks hX hS.2.2 (by omega) (by omega)
end
end
section
/-! SOUNDNESS: what the small machine runs, the machine runs -/
theorem az_stp_mono {xs : az_X} {k pc nx : Nat} {i : Instr} {L : az_Ls} {st : List Value} {G : az_G} {q : az_Nx} (hs : az_stp xs k i pc nx L st G = some q) : G.2.2.2.1 ≤ q.2.2.2.2.2.2.1 ∧ G.2.2.2.2 ≤ q.2.2.2.2.2.2.2 := by
  unfold az_stp at hs
  split at hs <;> (try unfold az_b2 at hs) <;> (try unfold az_dv at hs) <;> (try unfold az_ild at hs) <;> (try unfold az_ald at hs) <;> (try unfold az_ist at hs) <;> (try unfold az_ast at hs) <;> (try unfold az_inc at hs) <;> (try unfold az_if1 at hs) <;> (try unfold az_if2 at hs) <;> (try unfold az_tsw at hs) <;> (try unfold az_gf at hs) <;> (try unfold az_pf at hs) <;> (try unfold az_ial at hs) <;> (try unfold az_lal at hs) <;> (try unfold az_aal at hs) <;> (try unfold az_iast at hs) <;> (try unfold az_bast at hs) <;> (try unfold az_last at hs) <;> (try unfold az_len at hs) <;> (try unfold az_new at hs) <;> (try unfold az_nwa at hs) <;> (try unfold az_nwm at hs) <;> (try unfold az_mth at hs) <;> (try unfold az_oin at hs) <;> (try unfold az_br at hs) <;> (try (simp only [Option.map_eq_some_iff] at hs; obtain ⟨w9, -, hs⟩ := hs)) <;> (repeat' split at hs) <;> first | (cases hs; done) | (cases hs; exact ⟨Nat.le_refl _, Nat.le_refl _⟩) | (cases hs; exact ⟨Nat.le_add_right _ _, Nat.le_add_right _ _⟩) | (cases hs; exact ⟨Nat.le_trans (Nat.le_add_right _ _) (Nat.le_add_right _ _), Nat.le_trans (Nat.le_add_right _ _) (Nat.le_add_right _ _)⟩) | (subst hs; exact ⟨Nat.le_refl _, Nat.le_refl _⟩)
theorem az_end_mono {k pc : Nat} {i : Instr} {st : List Value} {G : az_G} {o : az_O} (h : az_end k i pc st G = some o) : G.2.2.2.1 ≤ o.2.2.2.2.2.1 ∧ G.2.2.2.2 ≤ o.2.2.2.2.2.2 := by
  unfold az_end at h
  split at h
  · split at h
    · split at h <;> cases h
      exact ⟨Nat.le_refl _, Nat.le_refl _⟩
    · cases h
  · split at h
    · split at h <;> cases h
      exact ⟨Nat.le_refl _, Nat.le_refl _⟩
    · cases h
  · split at h
    · obtain ⟨n, -, rfl⟩ := Option.map_eq_some_iff.mp h
      exact ⟨Nat.le_add_right _ _, Nat.le_add_right _ _⟩
    · cases h
  · cases h
theorem az_run_mono {xs : az_X} : ∀ (f d k pc : Nat) (L : az_Ls) (st : List Value) (G : az_G) (o : az_O), az_run xs f d k pc L st G = some o → G.2.2.2.1 ≤ o.2.2.2.2.2.1 ∧ G.2.2.2.2 ≤ o.2.2.2.2.2.2 := by
  intro f
  induction f with
  | zero => intro d k pc L st G o h; cases h
  | succ f ih =>
    intro d k pc L st G o h
    unfold az_run at h
    split at h
    · split at h
      · split at h
        · rename_i o9 h9
          cases h
          exact az_end_mono h9
        · split at h
          · split at h
            · cases h
            · split at h
              · cases h
              · rename_i o1 h1
                have k1 := ih _ _ _ _ _ _ _ h1
                split at h
                · have k2 := ih _ _ _ _ _ _ _ h
                  exact ⟨Nat.le_trans k1.1 k2.1, Nat.le_trans k1.2 k2.2⟩
                · split at h
                  · have k2 := ih _ _ _ _ _ _ _ h
                    exact ⟨Nat.le_trans k1.1 k2.1, Nat.le_trans k1.2 k2.2⟩
                  · split at h
                    · cases h
                      exact k1
                    · cases h
          · split at h
            · rename_i q hq
              have k1 := az_stp_mono hq
              have k2 := ih _ _ _ _ _ _ _ h
              exact ⟨Nat.le_trans k1.1 k2.1, Nat.le_trans k1.2 k2.2⟩
            · cases h
      · cases h
    · cases h
theorem az_cat_all {l : List Value} (h : az_cat l = l.length) : ∀ v ∈ l, v.category = 1 := by
  have h1 : ∀ v : Value, 1 ≤ v.category := fun v => by cases v <;> simp [Value.category]
  have h2 : ∀ l : List Value, l.length ≤ az_cat l := by
    intro l
    induction l with
    | nil => exact Nat.le_refl _
    | cons a r ih =>
      show r.length + 1 ≤ a.category + az_cat r
      have := h1 a
      omega
  induction l with
  | nil => intro v hv; cases hv
  | cons a r ih =>
    have h3 : a.category + az_cat r = r.length + 1 := h
    have h4 := h1 a
    have h5 := h2 r
    intro v hv
    rcases List.mem_cons.mp hv with e | e
    · rw [e]; omega
    · exact ih (by omega) v e
theorem az_sl1 : ∀ (vs : List Value), (∀ v ∈ vs, v.category = 1) → lg_sl vs = vs.map Slot.val
  | [], _ => rfl
  | a :: r, h => by
    have h1 := h a List.mem_cons_self
    have ih := az_sl1 r (fun v hv => h v (List.mem_cons_of_mem _ hv))
    unfold lg_sl at ih ⊢
    rw [List.flatMap_cons, ih, h1]
    rfl
theorem az_lay_Lr {ad : Nat → Nat} {n m : Nat} {as : List Value} (hc : ∀ v ∈ as, v.category = 1) (hok : ∀ v ∈ as, az_ok n v) (hl : as.length ≤ az_ml m) :
    az_Lr ad n (az_lay m as) ((lg_sl (as.map (az_c ad)) ++ List.replicate (az_ml m - (lg_sl (as.map (az_c ad))).length) Slot.unset).toArray) := by
  have hc' : ∀ v ∈ as.map (az_c ad), v.category = 1 := fun v hv => by
    obtain ⟨w, hw, rfl⟩ := List.mem_map.mp hv
    rw [az_cat1]
    exact hc w hw
  have hsl := az_sl1 _ hc'
  have hlen : (lg_sl (as.map (az_c ad))).length = as.length := by rw [hsl]; simp
  obtain ⟨h1, h2, -⟩ := lv_entry (as.map (az_c ad)) (n := az_ml m) (by rw [hlen]; exact hl)
  have hll : (az_lay m as).length = az_ml m := by simp [az_lay]; omega
  refine ⟨by rw [h1, hll], h2, fun i v hi => ?_⟩
  unfold az_lay at hi
  by_cases hlt : i < as.length
  · rw [List.getElem?_append_left (by simpa using hlt), List.getElem?_map] at hi
    obtain ⟨w, hw, he⟩ := Option.map_eq_some_iff.mp hi
    cases he
    have hm := List.mem_of_getElem? hw
    refine ⟨hc _ hm, hok _ hm, ?_⟩
    rw [List.getElem?_toArray, List.getElem?_append_left (by rw [hlen]; exact hlt), hsl, List.getElem?_map, List.getElem?_map, hw]
    rfl
  · rw [List.getElem?_append_right (by simpa using hlt)] at hi
    have := List.mem_of_getElem? hi
    rw [List.mem_replicate] at this
    cases this.2
theorem az_lay_len {m : Nat} {as : List Value} (hl : as.length ≤ az_ml m) : (az_lay m as).length = az_ml m := by simp [az_lay]; omega
theorem az_xh : ∀ k, k < 172 → az_xt k = [] → az_hh k = [] := by decide +kernel
theorem az_x3 : ∀ k, k < 171 → ¬ az_kd k = 3 → az_xt k = [] := by decide +kernel
/-- what is owed at a frame's ends -/
def az_ends (p : Program) (l : Launch) (e : Env) (R : Room) (s : State) (m : MethodId) (args : Array Value) (below : List Frame) (meth : Method) (c : Code) (Q : State → Prop) (D : va_G) (cy : Nat → ClassId) (A : Nat → Prop) (ad0 : Nat → Nat) (n0 c0 s0 k : Nat) (o : az_O) : Prop :=
  (∀ (pc : Nat) (ad : Nat → Nat) (L : az_Ls) (ls : Array Slot) (v : Int32) (H : Heap) (locs : List Loc) (cells slots : Nat), o.1 = 0 → o.2.1 = some (.int v) → decode (az_code k) pc = .ok (.ireturn, 1) → (az_rt k = 1 ∨ (az_rt k = 2 ∧ narrow .boolean (.int v) = .int v)) → az_at D cy A s.heap ad0 n0 c0 s0 ad L ls [.int v] o.2.2 H locs cells slots → W p l e R s m args below meth c H locs cells slots Q (F0 m pc ls [.int v])) ∧
  (∀ (pc : Nat) (ad : Nat → Nat) (L : az_Ls) (ls : Array Slot) (H : Heap) (locs : List Loc) (cells slots : Nat), o.1 = 0 → o.2.1 = none → decode (az_code k) pc = .ok (.return_, 1) → az_rt k = 0 → az_at D cy A s.heap ad0 n0 c0 s0 ad L ls [] o.2.2 H locs cells slots → W p l e R s m args below meth c H locs cells slots Q (F0 m pc ls [])) ∧
  (∀ (pc n : Nat) (ad : Nat → Nat) (L : az_Ls) (ls : Array Slot) (G : az_G) (H : Heap) (locs : List Loc) (cells slots : Nat), L.length = az_ml k → az_thr k pc = some n → o = (n, none, (G.1, G.2.1, G.2.2.1, G.2.2.2.1 + 1, G.2.2.2.2 + 6)) → az_at D cy A s.heap ad0 n0 c0 s0 ad L ls [] G H locs cells slots → W p l e R s m args below meth c H locs cells slots Q (F0 m pc ls [])) ∧
  (∀ (pc : Nat) (ad : Nat → Nat) (L : az_Ls) (ls : Array Slot) (rest : List Value) (ce : Cell) (q : Addr) (H : Heap) (locs : List Loc) (cells slots : Nat), (1 ≤ o.1 ∧ o.1 ≤ 3) → az_xt k = [] → k ≠ az_main → az_at D cy A s.heap ad0 n0 c0 s0 ad L ls [] o.2.2 H locs cells slots → H[q]? = some ce → ce.vm = .none → s.vm.findClass (az_xn o.1) = some ce.cls → vx_W p l e R s m args below meth c H locs cells slots Q (F0 m pc ls rest) q)
/-- what a run says of the machine -/
def az_say (xs : az_X) (l : Launch) (f : Nat) : Prop :=
  ∀ (d k pc : Nat) (L : az_Ls) (st : List Value) (G : az_G) (o : az_O), az_run xs f d k pc L st G = some o →
    ∀ (p : Program) (e : Env) (R : Room) (s : State) (m : MethodId) (args : Array Value) (below : List Frame) (meth : Method) (c : Code) (Q : State → Prop) (D : va_G) (cy : Nat → ClassId) (A : Nat → Prop) (ad0 : Nat → Nat) (n0 c0 s0 : Nat),
      (d + 8 ≤ R.frames ∧ 60 * d + 200 ≤ R.locals) → az_K p s m args meth c xs k D cy A ad0 → az_sf A s → meth.locks = false → (k ≠ az_main → c.exceptionTable.toList = tableOf (az_hh k)) → L.length = az_ml k → k < 172 → (o.2.2.2.2.2.1 ≤ c0 + R.cells ∧ o.2.2.2.2.2.2 ≤ s0 + R.slots) →
      az_ends p l e R s m args below meth c Q D cy A ad0 n0 c0 s0 k o → az_kk p l e R s m args below meth c Q D cy A ad0 n0 c0 s0 (pc, L, st, G)
/-- a method's contract out of a run of it -/
theorem az_met {xs : az_X} {l : Launch} {f d m : Nat} {as : List Value} {G : az_G} {o : az_O} (hlt : l.stackTraces = false) (ih : az_say xs l f) (hr : az_run xs f d m 0 (az_lay m as) [] G = some o) (hm : m < 171) (D : va_G) (cy : Nat → ClassId) (A : Nat → Prop) (ad : Nat → Nat)
    (hc : ∀ v ∈ as, v.category = 1) (hok : ∀ v ∈ as, az_ok G.1.length v) (hl : as.length ≤ az_ml m) (hwf : az_wf G.1) (hn : G.1.length ≤ 300000) :
    vx_Met l (az_y m) (az_ws m) (az_rm d (o.2.2.2.2.2.1 - G.2.2.2.1) (o.2.2.2.2.2.2 - G.2.2.2.2)) (az_Pc D cy A ad as G) (az_Qc D cy A ad G.1.length o) (az_Xc D cy A ad G.1.length o) (o.2.2.2.2.2.1 - G.2.2.2.1) (o.2.2.2.2.2.2 - G.2.2.2.2) A := by
  obtain ⟨-, -, hcls, ⟨-, -, hpl⟩, -, -, -, -, -, -, -⟩ := az_ms m hm
  have hmono := az_run_mono _ _ _ _ _ _ _ _ hr
  have body : ∀ (p : Program) (e : Env) (s : State) (mi : MethodId) (args : Array Value) (below : List Frame) (meth : Method) (c : Code) (s₁ : State), BodyLoose p l (az_y m) (headSpec (az_ws m) (az_rm d (o.2.2.2.2.2.1 - G.2.2.2.1) (o.2.2.2.2.2.2 - G.2.2.2.2))) (az_code m) (az_ml m) (az_rf (az_rt m)) e s mi args below meth c s₁ → c.maxLocals = az_ml m → c.exceptionTable.toList = tableOf (az_hh m) → az_Pc D cy A ad as G args s →
      W p l e (az_rm d (o.2.2.2.2.2.1 - G.2.2.2.1) (o.2.2.2.2.2.2 - G.2.2.2.2)) s mi args below meth c s.heap [] 0 0 (vx_MQ below (az_Qc D cy A ad G.1.length o) (az_Xc D cy A ad G.1.length o) args s (o.2.2.2.2.2.1 - G.2.2.2.1) (o.2.2.2.2.2.2 - G.2.2.2.2) A) (entryFrame mi args (az_ml m)) := by
    intro p e s mi args below meth c s₁ B hml htab hPc
    obtain ⟨rfl, hP, hD, hV, hsf, hA⟩ := hPc
    have hx := B.exec
    have hb := B.bytes
    have hts0 := atoms_spec (ws := az_ws m) B.pre
    have hts : ∀ w ∈ az_gw, w.before (as.map (az_c ad)).toArray s = true := fun w hw => hts0 w (List.mem_cons_of_mem _ hw)
    have hlocks := B.notSynchronized
    have hown : s.vm.findClass (az_R (az_own m)) = some mi.cls := by rw [← hcls]; exact findClass_of_methodNamed B.named
    have hK : az_K p s mi (as.map (az_c ad)).toArray meth c xs m D cy A ad := ⟨hx, hb, hown, hml, hts, hV, hA, fun h => (name_of_methodNamed B.named B.method).1.trans h, fun h => by rw [h] at hm; exact absurd hm (by decide), az_AOm (Vm.Alike.refl _) hsf.2.1⟩
    rw [lg_entry_eq]
    refine ih d m 0 (az_lay m as) [] G o hr p e (az_rm d (o.2.2.2.2.2.1 - G.2.2.2.1) (o.2.2.2.2.2.2 - G.2.2.2.2)) s mi _ below meth c _ D cy A ad G.1.length G.2.2.2.1 G.2.2.2.2 ⟨Nat.le_refl _, Nat.le_refl _⟩ hK hsf hlocks (fun _ => htab) (az_lay_len hl) (by omega) ⟨?_, ?_⟩ ?_ ad _ s.heap [] 0 0 ⟨⟨az_lay_Lr hc hok hl, fun _ h => by cases h⟩, hwf, hP, hD, va_S.rf, ⟨fun _ _ => rfl, rfl⟩, Nat.le_refl _, Nat.zero_add _, Nat.zero_add _, hn⟩
    · show o.2.2.2.2.2.1 ≤ G.2.2.2.1 + (o.2.2.2.2.2.1 - G.2.2.2.1)
      omega
    · show o.2.2.2.2.2.2 ≤ G.2.2.2.2 + (o.2.2.2.2.2.2 - G.2.2.2.2)
      omega
    · refine ⟨?_, ?_, ?_, ?_⟩
      · intro pc ad' L ls v H locs cells slots h0 hv hd hrt hR
        obtain ⟨⟨hLr, hst⟩, hwf', hP', hD', hS', hag, hn0, hn1, hn2, hn3⟩ := hR
        obtain rfl : cells = o.2.2.2.2.2.1 - G.2.2.2.1 := by omega
        obtain rfl : slots = o.2.2.2.2.2.2 - G.2.2.2.2 := by omega
        have hq : ∀ t : State, t.heap = H → s.WarmedH t.vm → az_Qc D cy A ad G.1.length o (as.map (az_c ad)).toArray s (.returned (some (.int v))) t := fun t ht hW => ⟨h0, ad', by rw [hv]; rfl, fun w hw => by rw [hv] at hw; cases hw; trivial, ⟨hag, hwf', by rw [ht]; exact hP', hD', hn0, hn3⟩, hS'.F ht⟩
        have hr := B.returns
        rcases hrt with h1 | ⟨h1, h2⟩
        · rw [h1] at hr
          exact vx_ret (W.iret hx hb hr hq hS'.2.2 hd hlocks)
        · rw [h1] at hr
          exact vx_ret (W.zret hx hb hr h2 hq hS'.2.2 hd hlocks)
      · intro pc ad' L ls H locs cells slots h0 hv hd hrt hR
        obtain ⟨⟨hLr, hst⟩, hwf', hP', hD', hS', hag, hn0, hn1, hn2, hn3⟩ := hR
        obtain rfl : cells = o.2.2.2.2.2.1 - G.2.2.2.1 := by omega
        obtain rfl : slots = o.2.2.2.2.2.2 - G.2.2.2.2 := by omega
        have hr := B.returns
        rw [hrt] at hr
        have hq : ∀ t : State, t.heap = H → s.WarmedH t.vm → az_Qc D cy A ad G.1.length o (as.map (az_c ad)).toArray s (.returned none) t := fun t ht hW => ⟨h0, ad', by rw [hv]; rfl, fun w hw => (by rw [hv] at hw; cases hw), ⟨hag, hwf', by rw [ht]; exact hP', hD', hn0, hn3⟩, hS'.F ht⟩
        exact vx_ret (W.vret hx hb hr hq hS'.2.2 hd hlocks)
      · intro pc n ad' L ls G' H locs cells slots hLl ht ho hR
        have ho1 : o.2.2.2.2.2.1 = G'.2.2.2.1 + 1 := by rw [ho]
        have ho2 : o.2.2.2.2.2.2 = G'.2.2.2.2 + 6 := by rw [ho]
        refine az_throw (L := L) (G := G') (n0 := G.1.length) (c0 := G.2.2.2.1) (s0 := G.2.2.2.2) (k := m) hlt hK hsf hlocks htab hLl ⟨?_, ?_⟩ ht hR ho ⟨?_, ?_⟩ (by omega) (by omega)
        · show 6 ≤ d + 8
          omega
        · show 100 ≤ 60 * d + 200
          omega
        · show o.2.2.2.2.2.1 ≤ G.2.2.2.1 + (o.2.2.2.2.2.1 - G.2.2.2.1)
          omega
        · show o.2.2.2.2.2.2 ≤ G.2.2.2.2 + (o.2.2.2.2.2.2 - G.2.2.2.2)
          omega
      · intro pc ad' L ls rest ce q H locs cells slots hE hxt hne hR hcell hv hcl
        obtain ⟨⟨hLr, hst⟩, hwf', hP', hD', hS', hag, hn0, hn1, hn2, hn3⟩ := hR
        refine vx_out (fun x hx9 => ?_) hlocks hcell hv hcl (fun t ht hW => ⟨hE, rfl, ad', ⟨hag, hwf', by rw [ht]; exact hP', hD', hn0, hn3⟩, hS'.F ht⟩) hS'.2.2 (by omega) (by omega)
        rw [htab, az_xh m (by omega) hxt] at hx9
        cases hx9
  by_cases h3 : az_kd m = 3
  · have hw : az_ws m = Jvm.Cond.codeWith (az_y m) (az_code m) (az_ml m) (az_rf (az_rt m)) (az_hh m) :: az_gw := by unfold az_ws az_cw; rw [if_pos h3]
    refine vx_ofWH hpl hw (fun p e s mi args below meth c s₁ B hml hPc => body p e s mi args below meth c s₁ B hml ?_ hPc)
    exact vx_table (x := az_y m) B (atoms_spec (ws := az_ws m) B.pre _ (by rw [hw]; exact List.mem_cons_self))
  · have hw : az_ws m = Jvm.Cond.code (az_y m) (az_code m) (az_ml m) (az_rf (az_rt m)) :: az_gw := by unfold az_ws az_cw; rw [if_neg h3]
    refine vx_ofW hpl hw (fun p e s mi args below meth c s₁ B hml hno hPc => body p e s mi args below meth c s₁ B hml ?_ hPc)
    have hh : az_hh m = [] := az_xh m (by omega) (az_x3 m hm h3)
    rw [hh]
    exact List.eq_nil_iff_forall_not_mem.mpr hno
end
section
/-! SOUNDNESS, the end: a call, and a whole run -/
theorem az_gwin (m : Nat) (hm : m < 171) : ∀ w ∈ az_ws m, w ∈ az_gw := fun w hw => (List.mem_cons.mp hw).elim (fun e => by rw [e]; exact (az_ms m hm).1) id
theorem az_rcv_of {S : List az_Shp} {m : Nat} {as : List Value} (h : az_rcv S m as = true) : ∃ b r sl N, as = .ref b :: r ∧ S[b]? = some (0, N, sl) ∧ N = az_own m := by
  unfold az_rcv at h
  split at h
  · rename_i b r
    split at h
    · rename_i ci sl hS
      exact ⟨b, r, sl, ci, rfl, hS, by simpa using h⟩
    · cases h
  · cases h
section
variable {p : Program} {l : Launch} {e : Env} {R : Room} {s : State} {m : MethodId} {args : Array Value} {below : List Frame} {meth : Method} {c : Code} {Q : State → Prop}
variable {xs : az_X} {k pc : Nat} {D : va_G} {cy : Nat → ClassId} {A : Nat → Prop} {ad0 : Nat → Nat} {n0 c0 s0 : Nat} {L : az_Ls} {st : List Value} {G : az_G} {q : az_Nx}
theorem az_call_run {f d mm x kd : Nat} {as rest : List Value} {o : az_O} {ad : Nat → Nat} {ls : Array Slot} {H : Heap} {locs : List Loc} {cells slots : Nat} {i : Instr} (hlt : l.stackTraces = false) (ih : az_say xs l f)
    (hi : (kd = 0 ∧ i = .invokevirtual x) ∨ (kd = 1 ∧ i = .invokestatic x) ∨ (kd = 2 ∧ i = .invokespecial x)) (hd : decode (az_code k) pc = .ok (i, 3)) (hcl : az_cl1 kd (az_own k) x st G.1 = some (mm, as, rest)) (hr : az_run xs f d mm 0 (az_lay mm as) [] G = some o)
    (hRm : d + 9 ≤ R.frames ∧ 60 * d + 260 ≤ R.locals) (hK : az_K p s m args meth c xs k D cy A ad0) (hsf : az_sf A s) (hL : L.length = az_ml k) (hR : az_at D cy A s.heap ad0 n0 c0 s0 ad L ls st G H locs cells slots) (hB : o.2.2.2.2.2.1 ≤ c0 + R.cells ∧ o.2.2.2.2.2.2 ≤ s0 + R.slots) :
    (∃ a, vx_Run p l e R s m args below meth c H locs cells slots (o.2.2.2.2.2.1 - G.2.2.2.1) (o.2.2.2.2.2.2 - G.2.2.2.2) (F0 m pc ls (st.map (az_c ad))) (rest.map (az_c ad)) (az_Qc D cy A ad G.1.length o a) (az_Xc D cy A ad G.1.length o) A) ∧ (∀ v ∈ rest, v ∈ st) := by
  obtain ⟨hx, hb, hown, hml, hts, hV, hA, -, -, -⟩ := hK
  obtain ⟨⟨hLr, hst⟩, hwf, hP, hD, hS, hag, hn0, hn1, hn2, hn3⟩ := id hR
  have hmono := az_run_mono _ _ _ _ _ _ _ _ hr
  unfold az_cl1 at hcl
  split at hcl
  · rename_i m9 t hlk
    split at hcl
    · rename_i hcond
      cases hcl
      obtain ⟨htl, hkd, hcat, hcat1, hrcv⟩ := hcond
      obtain ⟨hlink, htt, hm171, hmM, html, -⟩ := az_lo _ _ hlk
      obtain ⟨hcw, hini, hcls, ⟨hn1', hn2', hpl⟩, hstat, hinst, hsel, hin2, hml20, -, -⟩ := az_ms mm hm171
      have htake : (st.take t).length = t := by rw [List.length_take]; omega
      have hc1 : ∀ v ∈ (st.take t).reverse, v.category = 1 := fun v hv => az_cat_all (by rw [hcat1, htake]) v (List.mem_reverse.mp hv)
      have hok1 : ∀ v ∈ (st.take t).reverse, az_ok G.1.length v := fun v hv => hst v (List.mem_of_mem_take (List.mem_reverse.mp hv))
      have hlen : (st.take t).reverse.length = t := by rw [List.length_reverse]; exact htake
      have hM := az_met (xs := xs) hlt ih hr hm171 D cy A ad hc1 hok1 (by rw [hlen, htt]; exact html) hwf hn3
      have hsz : ls.size = az_ml k := by rw [hLr.1, hL]
      have hcells : cells + (o.2.2.2.2.2.1 - G.2.2.2.1) ≤ R.cells ∧ slots + (o.2.2.2.2.2.2 - G.2.2.2.2) ≤ R.slots := by omega
      have hWr : 2 * (F0 m pc ls (st.map (az_c ad))).monitorRoom + (((st.drop t).map (az_c ad)).map fun v => v.category).sum ≤ 8 := by
        rw [az_cats]
        show 0 + az_cat (st.drop t) ≤ 8
        omega
      have hfix : CallFix p m c (az_code k) (az_ml k) s args az_gw (az_R (az_own k)) := ⟨hx, hb, hml, hown, hts⟩
      have hfrR : (az_rm d (o.2.2.2.2.2.1 - G.2.2.2.1) (o.2.2.2.2.2.2 - G.2.2.2.2)).frames + 1 ≤ R.frames ∧ 8 + (az_ml mm + 11) + (az_rm d (o.2.2.2.2.2.1 - G.2.2.2.1) (o.2.2.2.2.2.2 - G.2.2.2.2)).locals ≤ R.locals := by
        refine ⟨?_, ?_⟩
        · show d + 8 + 1 ≤ R.frames
          omega
        · show 8 + (az_ml mm + 11) + (60 * d + 200) ≤ R.locals
          omega
      have hPre : ∀ U : State, U.heap = H → s.WarmedH U.vm → az_Pc D cy A ad (st.take t).reverse G (((st.take t).reverse).map (az_c ad)).toArray U := fun U hU hW =>
        ⟨rfl, by rw [hU]; exact hP, hD, va_K.moved hW.alike hV, hsf.moved hW (fun a h1 h2 => by rw [hU]; exact hS.2.1 a h1 h2), fun q hq => hA q (Nat.le_trans hS.1 (by rw [← hU]; exact hq))⟩
      have hstk : st.map (az_c ad) = (((st.take t).reverse).map (az_c ad)).reverse ++ (st.drop t).map (az_c ad) := by
        rw [List.map_reverse, List.reverse_reverse, ← List.map_append, List.take_append_drop]
      refine ⟨?_, fun v hv => List.mem_of_mem_drop hv⟩
      have gi : ∀ w ∈ az_ws mm, w ∈ az_gw := az_gwin mm hm171
      rcases hi with ⟨h0, rfl⟩ | ⟨h0, rfl⟩ | ⟨h0, rfl⟩
      · subst h0
        have hk0 : az_kd mm = 0 := hkd.elim id (fun h => absurd h.1 (by decide))
        obtain ⟨b, r, sl, N, has, hSb, hN⟩ := az_rcv_of (hrcv.elim (fun h => absurd h (by decide)) id)
        obtain ⟨hi1, hi2⟩ := hinst (Or.inl hk0)
        have hl1 : Jvm.Cond.methodLink (az_R (az_own k)) x (az_y mm) ∈ az_gw := hlink.elim id (fun h => absurd h.1 (by rw [hk0]; decide))
        have hw : az_ws mm = Jvm.Cond.code (az_y mm) (az_code mm) (az_ml mm) (az_rf (az_rt mm)) :: az_gw := by unfold az_ws az_cw; rw [if_neg (by rw [hk0]; decide)]
        have hGI : GoodIn az_gw (wsV (az_R (az_own k)) x (az_R (az_own mm)) (az_y mm) (az_ws mm)) := az_gi (fun w hw => by
          unfold wsV at hw
          rcases List.mem_append.mp hw with h | h
          · simp only [List.mem_cons, List.not_mem_nil, or_false] at h
            rcases h with rfl | rfl | rfl | rfl
            · exact hl1
            · exact hi1
            · exact hsel hk0
            · exact hini
          · exact gi w h)
        rw [has] at hM hstk hPre
        have hrl : r.length + 1 = t := by rw [← hlen, has]; rfl
        have hci8 : N < 8 := by
          have h9 := hP b _ (az_w_get hSb)
          obtain ⟨r9, h1, -⟩ := h9
          have := (List.getElem?_eq_some_iff.mp h1).1
          exact this
        have hrecv := va_recv (q := (az_R N, az_T N, az_N N)) hV hP (az_clg N hci8) (az_w_get (cy := cy) (ad := ad) hSb)
        refine ⟨_, vx_runV (C := az_R (az_own mm)) (b := ad b) (As := r.map (az_c ad)) (n := r.length) hfix hM (cwV r.length hts hGI hw rfl rfl ⟨hcls, hn1', hn2', ?_⟩ hfrR) ⟨az_blind, ?_, hPre⟩ rfl (by simp) hsz ?_ hWr hd hcells⟩
        · cases hsig : parseMethodDescriptor (az_y mm).desc with
          | none => rw [hsig] at hi2; cases hi2
          | some sg =>
            rw [hsig] at hi2
            have h8 : sg.parameters.length + 1 = az_tot mm := Option.some.inj hi2
            show some sg.parameters.length = some r.length
            rw [show sg.parameters.length = r.length by omega]
        · rw [hN] at hrecv
          exact hrecv
        · show st.map (az_c ad) = (r.map (az_c ad)).reverse ++ .ref (ad b) :: (st.drop t).map (az_c ad)
          rw [hstk]
          simp [az_c]
      · subst h0
        have hk13 : az_kd mm = 1 ∨ az_kd mm = 3 := hkd.elim Or.inl (fun h => Or.inr h.2)
        obtain ⟨hi1, hi2⟩ := hstat hk13
        have hl1 : Jvm.Cond.methodLink (az_R (az_own k)) x (az_y mm) ∈ az_gw := hlink.elim id (fun h => absurd h.1 (by rcases hk13 with h | h <;> rw [h] <;> decide))
        have hGI : GoodIn az_gw (va_wsS (az_R (az_own k)) x (az_y mm) (az_ws mm)) := az_gi (fun w hw => by
          unfold va_wsS at hw
          rcases List.mem_append.mp hw with h | h
          · simp only [List.mem_cons, List.not_mem_nil, or_false] at h
            rcases h with rfl | rfl | rfl
            · exact hl1
            · exact hi1
            · rw [hcls]; exact hini
          · exact gi w h)
        rcases hk13 with hk1 | hk3
        · have hw : az_ws mm = Jvm.Cond.code (az_y mm) (az_code mm) (az_ml mm) (az_rf (az_rt mm)) :: az_gw := by unfold az_ws az_cw; rw [if_neg (by rw [hk1]; decide)]
          exact ⟨_, vx_runS (As := ((st.take t).reverse).map (az_c ad)) (n := t) hfix hM (va_cwS t hts hGI hw rfl rfl ⟨hn1', hn2', by rw [hi2, htt]⟩ hfrR) ⟨az_blind, hPre⟩ rfl (by rw [List.length_map]; exact hlen) hsz hstk hWr hd hcells⟩
        · have hw : az_ws mm = Jvm.Cond.codeWith (az_y mm) (az_code mm) (az_ml mm) (az_rf (az_rt mm)) (az_hh mm) :: az_gw := by unfold az_ws az_cw; rw [if_pos hk3]
          exact ⟨_, vx_runSX (As := ((st.take t).reverse).map (az_c ad)) (n := t) hfix hM (vx_cwSW t hts hGI hw rfl rfl ⟨hn1', hn2', by rw [hi2, htt]⟩ hfrR) ⟨az_blind, hPre⟩ rfl (by rw [List.length_map]; exact hlen) hsz hstk hWr hd hcells⟩
      · subst h0
        have hk2 : az_kd mm = 2 := hkd.elim id (fun h => absurd h.1 (by decide))
        obtain ⟨b, r, sl, N, has, hSb, hN⟩ := az_rcv_of (hrcv.elim (fun h => absurd h (by decide)) id)
        obtain ⟨hi1, hi2⟩ := hinst (Or.inr hk2)
        obtain ⟨hnm, hrt⟩ := hin2 hk2
        have hrf : az_rf (az_rt mm) = none := by rw [hrt]; rfl
        have hw : az_ws mm = Jvm.Cond.code (az_y mm) (az_code mm) (az_ml mm) none :: az_gw := by unfold az_ws az_cw; rw [if_neg (by rw [hk2]; decide), hrf]
        rw [has] at hM hstk hPre
        have hrl : r.length + 1 = t := by rw [← hlen, has]; rfl
        have hGI : GoodIn az_gw (az_ws mm) := az_gi gi
        have hini' : (Jvm.Cond.initialized (az_y mm).cls).before args s = true := by rw [hcls]; exact hts _ hini
        have hsg : (az_y mm).cls ≠ "java/lang/invoke/MethodHandle" ∧ (az_y mm).cls ≠ "java/lang/invoke/VarHandle" ∧ (parseMethodDescriptor (az_y mm).desc).map (fun d => d.parameters.length) = some r.length := by
          refine ⟨hn1', hn2', ?_⟩
          cases hsig : parseMethodDescriptor (az_y mm).desc with
          | none => rw [hsig] at hi2; cases hi2
          | some sg =>
            rw [hsig] at hi2
            have h8 : sg.parameters.length + 1 = az_tot mm := Option.some.inj hi2
            show some sg.parameters.length = some r.length
            rw [show sg.parameters.length = r.length by omega]
        have hstk' : st.map (az_c ad) = (r.map (az_c ad)).reverse ++ .ref (ad b) :: (st.drop t).map (az_c ad) := by
          rw [hstk]
          simp [az_c]
        rcases hlink with hl1 | ⟨-, host, hl1⟩
        · exact ⟨_, vx_runI (b := ad b) (As := r.map (az_c ad)) (n := r.length) hfix hM (cwI r.length hts hGI hw rfl rfl hini' (hts _ hl1) (hts _ hi1) hnm hsg hfrR) ⟨az_blind, hPre⟩ rfl (by simp) hsz hstk' hWr hd hcells⟩
        · exact ⟨_, vx_runIN (b := ad b) (As := r.map (az_c ad)) (n := r.length) hfix hM ⟨va_cnB r.length hts hGI hw rfl rfl (hsf.1 _ hl1) hini' hsg hfrR, hnm, hts _ hi1⟩ ⟨az_blind, hPre⟩ rfl (by simp) hsz hstk' hWr hd hcells⟩
    · cases hcl
  · cases hcl
end
end
section
/-! SOUNDNESS: a whole run -/
theorem az_cal_of {k : Nat} {i : Instr} {st : List Value} {S : List az_Shp} {r : Nat × List Value × List Value} (h : az_cal k i st S = some r) :
    ∃ kd x, ((kd = 0 ∧ i = .invokevirtual x) ∨ (kd = 1 ∧ i = .invokestatic x) ∨ (kd = 2 ∧ i = .invokespecial x)) ∧ az_cl1 kd (az_own k) x st S = some r := by
  unfold az_cal at h
  split at h
  · exact ⟨0, _, Or.inl ⟨rfl, rfl⟩, h⟩
  · exact ⟨1, _, Or.inr (Or.inl ⟨rfl, rfl⟩), h⟩
  · exact ⟨2, _, Or.inr (Or.inr ⟨rfl, rfl⟩), h⟩
  · cases h
theorem az_QcF {D : va_G} {cy : Nat → ClassId} {A : Nat → Prop} {ad : Nat → Nat} {n : Nat} {o : az_O} {a : Array Value} {st t : State} {oc : Outcome} (h : az_Qc D cy A ad n o a st oc t) : va_F A st t := by
  obtain ⟨-, ad', -, -, -, h⟩ := h
  exact h
theorem az_XcF {D : va_G} {cy : Nat → ClassId} {A : Nat → Prop} {ad : Nat → Nat} {n : Nat} {o : az_O} {z : String} {st t : State} (h : az_Xc D cy A ad n o z st t) : va_F A st t := by
  obtain ⟨-, -, ad', -, h⟩ := h
  exact h
theorem az_snd {xs : az_X} {l : Launch} (hlt : l.stackTraces = false) : ∀ f : Nat, az_say xs l f := by
  intro f
  induction f with
  | zero => intro d k pc L st G o h; cases h
  | succ f ih =>
    intro d k pc L st G o h p e R s m args below meth c Q D cy A ad0 n0 c0 s0 hRm hK hsf hlocks htab hL hk hB hE ad ls H locs cells slots hR
    unfold az_run at h
    split at h
    · rename_i i len hd
      split at h
      · rename_i hil
        split at h
        · rename_i o9 h9
          cases h
          unfold az_end at h9
          split at h9
          · split at h9
            · split at h9
              · rename_i hrt
                cases h9
                obtain rfl : len = 1 := by simpa [az_il] using hil
                exact hE.1 pc ad L ls _ H locs cells slots rfl rfl hd hrt hR
              · cases h9
            · cases h9
          · split at h9
            · split at h9
              · rename_i hrt
                cases h9
                obtain rfl : len = 1 := by simpa [az_il] using hil
                exact hE.2.1 pc ad L ls H locs cells slots rfl rfl hd hrt hR
              · cases h9
            · cases h9
          · split at h9
            · obtain ⟨n, hn, rfl⟩ := Option.map_eq_some_iff.mp h9
              exact hE.2.2.1 pc n ad L ls G H locs cells slots hL hn rfl hR
            · cases h9
          · cases h9
        · split at h
          · rename_i mm as rest hcal
            split at h
            · cases h
            · rename_i d
              split at h
              · cases h
              · rename_i o1 h1
                obtain ⟨⟨hLr, hst⟩, hwf, hP, hD, hS, hag, hn0, hn1, hn2, hn3⟩ := id hR
                have hn1 : cells + c0 = G.2.2.2.1 := hn1
                have hn2 : slots + s0 = G.2.2.2.2 := hn2
                have hm1 := az_run_mono _ _ _ _ _ _ _ _ h1
                have hB1 : o1.2.2.2.2.2.1 ≤ o.2.2.2.2.2.1 ∧ o1.2.2.2.2.2.2 ≤ o.2.2.2.2.2.2 := by
                  split at h
                  · exact az_run_mono _ _ _ _ _ _ _ _ h
                  · split at h
                    · exact az_run_mono _ _ _ _ _ _ _ _ h
                    · split at h
                      · cases h
                        exact ⟨Nat.le_refl _, Nat.le_refl _⟩
                      · cases h
                have hcc : cells + (o1.2.2.2.2.2.1 - G.2.2.2.1) + c0 = o1.2.2.2.2.2.1 := by omega
                have hss : slots + (o1.2.2.2.2.2.2 - G.2.2.2.2) + s0 = o1.2.2.2.2.2.2 := by omega
                obtain ⟨kd, x, hi, hcl1⟩ := az_cal_of hcal
                obtain rfl : len = 3 := by
                  rcases hi with ⟨-, rfl⟩ | ⟨-, rfl⟩ | ⟨-, rfl⟩ <;> simpa [az_il] using hil
                obtain ⟨⟨a9, hrun⟩, hrest⟩ := az_call_run (p := p) (e := e) (R := R) (below := below) (meth := meth) (L := L) (c0 := c0) (s0 := s0) hlt ih hi hd hcl1 h1 ⟨by omega, by omega⟩ hK hsf hL hR ⟨by omega, by omega⟩
                have hrok : ∀ v ∈ rest, az_ok G.1.length v := fun v hv => hst v (hrest v hv)
                refine az_callK hrun hS (fun _ _ _ hq => az_QcF hq) (fun _ _ _ hq => az_XcF hq) (fun v st₀ t H1 locs1 ht hvm hQ hS1 => ?_) (fun z ce q9 st₀ t H1 locs1 ht hvm hX hS1 hce hcv hcl => ?_)
                · obtain ⟨h0, ad', hv, hvok, ⟨hag', hwf', hP', hD', hn', hn3'⟩, -⟩ := hQ
                  rw [if_pos h0] at h
                  cases hv
                  rw [ht] at hP'
                  have hres := ih _ _ _ _ _ _ _ h p e R s m args below meth c Q D cy A ad0 n0 c0 s0 hRm hK hsf hlocks htab hL hk hB hE ad' ls H1 locs1 (cells + (o1.2.2.2.2.2.1 - G.2.2.2.1)) (slots + (o1.2.2.2.2.2.2 - G.2.2.2.2))
                    ⟨⟨az_Lr_ad hn' hag'.1 hag'.2 hLr, fun w hw => ?_⟩, hwf', hP', hD', hS1, ⟨fun j hj => (hag'.1 j (Nat.lt_of_lt_of_le hj hn0)).trans (hag.1 j hj), hag'.2.trans hag.2⟩, Nat.le_trans hn0 hn', hcc, hss, hn3'⟩
                  · have e1 : (o1.2.1.map (az_c ad')).toList ++ rest.map (az_c ad) = (o1.2.1.toList ++ rest).map (az_c ad') := by
                      rw [List.map_append, az_map_ad hag'.1 hag'.2 hrok]
                      congr 1
                      cases o1.2.1 <;> rfl
                    rw [e1]
                    exact hres
                  · rcases List.mem_append.mp hw with q | q
                    · exact hvok w (Option.mem_toList.mp q)
                    · exact az_ok_mono hn' (hrok w q)
                · obtain ⟨hE13, rfl, ad', ⟨hag', hwf', hP', hD', hn', hn3'⟩, -⟩ := hX
                  rw [if_neg (by omega)] at h
                  rw [ht] at hP'
                  have hLr' := az_Lr_ad hn' hag'.1 hag'.2 hLr
                  have hag2 : az_ag ad0 n0 ad' := ⟨fun j hj => (hag'.1 j (Nat.lt_of_lt_of_le hj hn0)).trans (hag.1 j hj), hag'.2.trans hag.2⟩
                  split at h
                  · rename_i n nx hnd
                    obtain ⟨pre, a, b, hp, ct, suf, hsp, ⟨ha, hb2, hct⟩, ⟨ho8, hlk⟩, hpre, hdec, hcast, hnl⟩ := az_hks hk _ _ _ _ hnd
                    have hne : k ≠ az_main := fun q => by rw [q] at hnd; unfold az_hnd at hnd; rw [show az_xt az_main = [] by decide +kernel] at hnd; cases hnd
                    have hx := hK.1
                    have hb := hK.2.1
                    have hts := hK.2.2.2.2.1
                    have hown : s.vm.findClass RL = some m.cls := by
                      have h9 := hK.2.2.1
                      rw [ho8] at h9
                      exact h9
                    have hnext : ∀ ls' : Array Slot, az_Lr ad' o1.2.2.1.length (L.set n none) ls' → W p l e R s m args below meth c H1 locs1 (cells + (o1.2.2.2.2.2.1 - G.2.2.2.1)) (slots + (o1.2.2.2.2.2.2 - G.2.2.2.2)) Q (F0 m nx ls' []) := fun ls' hl' =>
                      ih _ _ _ _ _ _ _ h p e R s m args below meth c Q D cy A ad0 n0 c0 s0 hRm hK hsf hlocks htab (by rw [List.length_set]; exact hL) hk hB hE ad' ls' H1 locs1 (cells + (o1.2.2.2.2.2.1 - G.2.2.2.1)) (slots + (o1.2.2.2.2.2.2 - G.2.2.2.2))
                        ⟨⟨hl', fun w hw => by cases hw⟩, hwf', hP', hD', hS1, hag2, Nat.le_trans hn0 hn', hcc, hss, hn3'⟩
                    refine vx_catch (own := RL) (name := az_xn o1.1) hown (tableOf pre) ⟨a, b, hp, ct⟩ (tableOf suf) (by rw [htab hne, hsp]; simp [tableOf]) (fun z hz => ?_) (by simp [covers, ha, hb2]) hct (hts _ hlk) (va_Nw.use (az_ngo _ hcast) (hsf.1 _ hcast)) hce hcv hcl ?_
                    · obtain ⟨z9, hz1, rfl⟩ := List.mem_map.mp hz
                      obtain ⟨g1, n2, g2, g3⟩ := hpre z9 hz1
                      exact Or.inr ⟨g1, az_xn n2, hts _ g2, hsf.2.2.2.1 _ g3⟩
                    · rcases hdec with ⟨d2, rfl⟩ | ⟨j, hj, d2, rfl⟩
                      · exact lv_astore hx hb d2 (az_pr_has hLr') (by rw [hL]; exact hnl) rfl (fun ls' hl' => hnext ls' (az_Lr_unset hLr' hl'))
                      · exact lv_astore_n hx hb d2 hj (az_pr_has hLr') (by rw [hL]; exact hnl) rfl (fun ls' hl' => hnext ls' (az_Lr_unset hLr' hl'))
                  · split at h
                    · rename_i hcond
                      cases h
                      exact hE.2.2.2 pc ad' L ls _ ce q9 H1 locs1 _ _ hE13 hcond.1 hcond.2 ⟨⟨hLr', fun w hw => by cases hw⟩, hwf', hP', hD', hS1, hag2, Nat.le_trans hn0 hn', hcc, hss, hn3'⟩ hce hcv hcl
                    · cases h
          · split at h
            · rename_i q hq
              have hm2 := az_run_mono _ _ _ _ _ _ _ _ h
              have hm3 := az_stp_mono hq
              have hres := ih _ _ _ _ _ _ _ h p e R s m args below meth c Q D cy A ad0 n0 c0 s0 hRm hK hsf hlocks htab ((az_stp_len hq).trans hL) hk hB hE
              exact az_stp_ok ⟨by omega, by omega⟩ (fun cells slots h1 h2 => ⟨by omega, by omega⟩) hK hL hd hil hq ⟨by omega, by omega⟩ hres ad ls H locs cells slots hR
            · cases h
      · cases h
    · cases h
end
section
/-! THE CLAIM OUT OF ONE WALK OF THE LAW'S BODY. Your part is whole_start (and what it stands on); all else here is the same for every law, but numbers. -/
def R_law : String := "VoucherworksLaw"
def lw_P (b : Addr) (xs : List Int32) (args : Array Value) (s : State) : Prop := args = #[.ref b] ∧ s.IntsAt b xs ∧ xs.length ≤ 2560 ∧ (Jvm.Cond.and given_1 narrow_1).before args s = true
def lw_Q (_ : Array Value) (s : State) (o : Outcome) (t : State) : Prop := o = .returned (some (.int 1)) ∧ Framed s o t [] 601024 7293034
def lw_Z (below : List Frame) (a : Array Value) (s : State) : State → Prop := fun t => ∃ o, t.status = .running ∧ Ended t below o ∧ lw_Q a s o t
/-- the law's own end, with 1 on the stack, nothing written that was there before, its room as the claim has it -/
theorem lw_ret {p : Program} {l : Launch} {e : Env} {s : State} {m : MethodId} {below : List Frame} {meth : Method} {c : Code} {b : Nat} (hx : p.tables.exec = Jvm.exec) (hb : c.code = code) (hr : meth.sig.returnType = ret) (hlocks : meth.locks = false) {pc : Nat} {H : Heap} {ls : Array Slot} (hdg : decode code pc = .ok (.ireturn, 1)) : W p l e room_1 s m #[Value.ref b] below meth c H [] 601024 7293034 (lw_Z below #[Value.ref b] s) (F0 m pc ls [.int 1]) := by
  intro T hT X
  obtain ⟨fs, hret, hrun, hended, hW, hframe⟩ := X.leave (v := some (.int 1)) (hlocks := hlocks) (fun h => by rw [hr] at h; cases h)
  have hmeth' : T.vm.method? m = some meth := X.method'
  refine ⟨T.setFrames fs, ?_, .returned (some (.int 1)), hrun, hended, rfl, ⟨_, rfl⟩, hW, hframe⟩
  jvm_step X.here [X.here.top, hx, hb, hdg, hmeth', hr, ret, narrow_b1]
  (try refine ⟨rfl, ?_⟩); (try refine ⟨rfl, ?_⟩)
  first | (intro acts; rw [hret _ acts rfl rfl rfl]) | rw [hret _ _ rfl rfl rfl]
  exact Steps.refl _
/-- what holds at the law's entry: the machine, the code, the tables' words (any of lw_tbl by 'hts w (by decide +kernel)'), the script of L ints xs at the cell b, what the Statement gives of the start (any of its parts by flat_of_before) -/
def lw_At (p : Program) (s : State) (m : MethodId) (meth : Method) (c : Code) (b L : Nat) (xs : Nat → Int32) : Prop :=
  p.tables.exec = Jvm.exec ∧ c.code = code ∧ meth.sig.returnType = ret ∧ c.maxLocals = 7 ∧ s.vm.findClass R_law = some m.cls ∧ (∀ w ∈ lw_tbl, w.before #[Value.ref b] s = true) ∧ va_X b L xs s s.heap ∧ b < s.heap.size ∧ meth.locks = false ∧ (Jvm.Cond.and given_1 narrow_1).before #[Value.ref b] s = true
end
section
/-! from one run of the small machine to the law's walk -/
def az_G0 : az_G := ([], fun _ _ => 0, fun _ _ => 0, 0, 0)
def az_L0 : az_Ls := [some (.ref az_scr), none, none, none, none, none, none]
/-- what is left to show: the small machine runs the law to 1 on every script, in the room -/
def az_goal : Prop := ∀ (n : Nat) (ys : Nat → Int32), n ≤ 2560 → ∃ (f : Nat) (o : az_O), az_run (n, ys) f 30 az_main 0 az_L0 [] az_G0 = some o ∧ o.1 = 0 ∧ o.2.1 = some (.int 1) ∧ o.2.2.2.2.2.1 ≤ 601024 ∧ o.2.2.2.2.2.2 ≤ 7293034
theorem az_strn : ∀ q ∈ az_str, Jvm.Cond.exactly (.string RX6 q.1) "java/lang/String" ∈ flatC (Jvm.Cond.and given_1 narrow_1) := by decide +kernel
theorem az_ncn : ∀ q ∈ az_nc, Jvm.Cond.not (.castable (az_xn q.1) (az_xn q.2)) ∈ flatC (Jvm.Cond.and given_1 narrow_1) := by decide +kernel
theorem az_cls : ∀ z, z < 8 → (∀ w ∈ u_ws (az_R z) (az_T z) (az_N z), w ∈ lw_tbl) := fun z hz w hw => (List.mem_filter.mp (az_uin z hz w hw)).1
set_option maxHeartbeats 4000000 in
set_option maxRecDepth 100000 in
theorem az_begin {p : Program} {e : Env} {s : State} {m : MethodId} {below : List Frame} {meth : Method} {c : Code} (hgo : az_goal) (l : Launch) (hflags : l.flags = flags0) {b L : Nat} {xs : Nat → Int32} (hL : L ≤ 2560) (C0 : lw_At p s m meth c b L xs) : W p l e room_1 s m #[Value.ref b] below meth c s.heap [] 0 0 (lw_Z below #[Value.ref b] s) (entryFrame m ([Value.ref b] : List Value).toArray 7) := by
  obtain ⟨hx, hb, hr, hml, hown, hts, hX, hbl, hlocks, hgv⟩ := id C0
  obtain ⟨f, o, hrun, ho0, ho1, hoc, hos⟩ := hgo L xs hL
  have hlt : l.stackTraces = false := by unfold Launch.stackTraces; rw [hflags]; decide +kernel
  have hfl := flat_of_before _ hgv
  have htsg : ∀ w ∈ az_gw, w.before #[Value.ref b] s = true := fun w hw => hts w (List.mem_filter.mp hw).1
  have hkn : ∀ z : Nat, z < 8 → ∃ (cC : ClassId) (iS : Nat → Nat), u_Kn s (az_R z) (az_T z) (az_N z) cC iS := fun z hz => u_known hts (az_cls z hz) (htsg _ (az_ins z hz).1)
  obtain ⟨dC, dI, hD0⟩ : ∃ (dC : Nat → ClassId) (dI : Nat → Nat → Nat), ∀ z : Nat, z < 8 → u_Kn s (az_R z) (az_T z) (az_N z) (dC z) (dI z) := by
    have h1 : ∀ z : Nat, ∃ (q : ClassId × (Nat → Nat)), z < 8 → u_Kn s (az_R z) (az_T z) (az_N z) q.1 q.2 := fun z => by
      by_cases hz : z < 8
      · obtain ⟨cC, iS, h⟩ := hkn z hz
        exact ⟨(cC, iS), fun _ => h⟩
      · exact ⟨(0, fun _ => 0), fun h => absurd h hz⟩
    exact ⟨fun z => (h1 z).choose.1, fun z => (h1 z).choose.2, fun z hz => (h1 z).choose_spec hz⟩
  have hpr : ∀ ty : FieldType, (∀ C, ty ≠ .object C) → Jvm.Cond.arrayClass ty ∈ az_gw → ∃ c9 : ClassId, ArrOfT s c9 ty ∧ va_RA s c9 ty := fun ty hty hw => by
    obtain ⟨c9, k9, comp, h1, h2, h3⟩ := Cond.arrayClass_spec (htsg _ hw)
    refine ⟨c9, fun N z => ⟨(fun q hq => by cases hq), k9, h2, comp, h3⟩, ?_⟩
    cases ty <;> first | exact h1 | exact absurd rfl (hty _)
  obtain ⟨c1, a1, r1⟩ := hpr .int (fun C h => by cases h) az_ac_int
  obtain ⟨c2, a2, r2⟩ := hpr .boolean (fun C h => by cases h) az_ac_boolean
  obtain ⟨c3, a3, r3⟩ := hpr .long (fun C h => by cases h) az_ac_long
  have hover : (Jvm.Cond.arrayOver (.array .int)).before #[Value.ref b] s = true := hts _ (by decide +kernel)
  obtain ⟨comp4, c4, k4, -, -, h43, h44, h45⟩ := az_AOs hover
  obtain ⟨cy, hcy⟩ : ∃ g : Nat → ClassId, g = fun z => if z = 0 then c1 else if z = 1 then c2 else if z = 2 then c3 else c4 := ⟨_, rfl⟩
  have e0 : cy 0 = c1 := by rw [hcy]; rfl
  have e1 : cy 1 = c2 := by rw [hcy]; rfl
  have e2 : cy 2 = c3 := by rw [hcy]; rfl
  have e3 : cy 3 = c4 := by rw [hcy]; rfl
  have hV : va_K (dC, dI) az_cl (az_tl cy) s := by
    refine ⟨fun z q hq => ?_, fun z q hq => ?_⟩
    · have hz : z < 8 := (List.getElem?_eq_some_iff.mp hq).1
      rw [az_clg z hz] at hq
      cases hq
      exact hD0 z hz
    · unfold az_tl at hq
      rw [e0, e1, e2, e3] at hq
      match z, hq with
      | 0, hq => cases hq; exact ⟨a1, r1⟩
      | 1, hq => cases hq; exact ⟨a2, r2⟩
      | 2, hq => cases hq; exact ⟨a3, r3⟩
      | 3, hq => cases hq; exact ⟨fun N z => ⟨(fun q hq => by cases hq), k4, h43, comp4, h44⟩, h45⟩
      | z + 4, hq => simp at hq
  have hA : ∀ q : Nat, s.heap.size ≤ q → (fun q : Nat => s.heap.size ≤ q) q := fun _ h => h
  have hnA : ∀ a : Nat, a < s.heap.size → ¬ (fun q : Nat => s.heap.size ≤ q) a := fun a h => Nat.not_le.mpr h
  have hsf : az_sf (fun q : Nat => s.heap.size ≤ q) s := by
    refine ⟨fun w hw => va_Nw.of (az_ngo w hw) (hts w (az_ngt w hw)), az_AOm (Vm.Alike.refl _) hover, ?_, ?_, vx_Zqof (hts _ (by decide +kernel)) (hts _ (by decide +kernel)) (hfl _ (by decide +kernel)) hnA, vx_Zqof (hts _ (by decide +kernel)) (hts _ (by decide +kernel)) (hfl _ (by decide +kernel)) hnA⟩
    · intro q hq
      have h1 := hts _ (az_strt q hq)
      have h2 : (Jvm.Cond.exactly (.string RX6 q.1) "java/lang/String").before #[Value.ref b] s = true := hfl _ (az_strn q hq)
      obtain ⟨sa, -, -, -, h3, -⟩ := Cond.exactly_spec h2
      exact ⟨sa, vk_R.of h1 h3⟩
    · intro q hq
      exact va_Nc.of (hfl _ (az_ncn q hq))
  have hK : az_K p s m #[Value.ref b] meth c (L, xs) az_main (dC, dI) cy (fun q : Nat => s.heap.size ≤ q) (fun _ => b) := ⟨hx, hb, hown, hml, htsg, hV, hA, fun h => absurd h (by decide +kernel), fun _ => ⟨hX, hbl, Nat.not_le.mpr hbl⟩, hover⟩
  have hl := lv_entry ([.ref b]) (n := 7) (Nat.le_of_ble_eq_true rfl)
  rw [lg_entry_eq]
  generalize (lg_sl ([.ref b]) ++ List.replicate (7 - (lg_sl ([.ref b])).length) Slot.unset).toArray = ls at hl ⊢
  have hl : lv_has ls 7 [(0, .ref b)] := hl
  refine az_snd hlt f 30 az_main 0 az_L0 [] az_G0 o hrun p e room_1 s m #[Value.ref b] below meth c (lw_Z below #[Value.ref b] s) (dC, dI) cy (fun q : Nat => s.heap.size ≤ q) (fun _ => b) 0 0 0 ⟨by decide +kernel, by decide +kernel⟩ hK hsf hlocks (fun h => absurd rfl h) (by decide +kernel) (by decide +kernel) ⟨?_, ?_⟩ ⟨?_, ?_, ?_, ?_⟩ (fun _ => b) ls s.heap [] 0 0 ⟨⟨⟨hl.1, hl.2.1, ?_⟩, fun _ h => (by cases h)⟩, fun _ h => (by cases h), fun k q h => (by cases h), ⟨fun i j p q h => (by cases h), fun k q h => (by cases h)⟩, va_S.rf, ⟨fun _ _ => rfl, rfl⟩, Nat.le_refl _, rfl, rfl, by decide⟩
  · rw [Nat.zero_add]; exact hoc
  · rw [Nat.zero_add]; exact hos
  · intro pc ad L' ls' v H locs cells slots h0 hv hd hrt hR
    rw [ho1] at hv
    cases hv
    obtain ⟨-, -, -, -, hS, -, -, hn1, hn2, -⟩ := hR
    refine va_forget (fun q hq => hS.2.2 q hq) ?_
    refine W.widen (k := 601024) (n := 7293034) (by omega) (by omega) ?_
    exact lw_ret hx hb hr hlocks hd
  · intro pc ad L' ls' H locs cells slots h0 hv
    rw [ho1] at hv
    cases hv
  · intro pc n ad L' ls' G H locs cells slots _ _ ho
    rw [ho] at ho1
    cases ho1
  · intro pc ad L' ls' rest ce q H locs cells slots _ _ hne
    exact absurd rfl hne
  · intro i v hi
    match i, hi with
    | 0, hi => cases hi; exact ⟨rfl, Or.inr rfl, hl.2.2 (0, .ref b) List.mem_cons_self⟩
    | 1, hi => cases hi
    | 2, hi => cases hi
    | 3, hi => cases hi
    | 4, hi => cases hi
    | 5, hi => cases hi
    | 6, hi => cases hi
    | i + 7, hi => cases hi
end
section
/-! rows for running the small machine: one iff an instruction -/
def az_W (xs : az_X) (d k pc : Nat) (L : az_Ls) (st : List Value) (G : az_G) (K : az_O → Prop) : Prop := ∃ (f : Nat) (o : az_O), az_run xs f d k pc L st G = some o ∧ K o
def az_C (xs : az_X) (d m : Nat) (as : List Value) (G : az_G) (K : az_O → Prop) : Prop := match d with
  | 0 => False
  | d + 1 => az_W xs d m 0 (az_lay m as) [] G K
theorem az_run_up {xs : az_X} : ∀ (f d k pc : Nat) (L : az_Ls) (st : List Value) (G : az_G) (o : az_O), az_run xs f d k pc L st G = some o → az_run xs (f + 1) d k pc L st G = some o := by
  intro f
  induction f with
  | zero => intro d k pc L st G o h; cases h
  | succ f ih =>
    intro d k pc L st G o h
    rw [az_run] at h ⊢
    split at h
    · rename_i i len hd
      split at h
      · rename_i hil
        rw [if_pos hil]
        split at h
        · rename_i o9 h9
          exact h
        · rename_i h9
          split at h
          · rename_i mm as rest hc
            split at h
            · cases h
            · rename_i d
              split at h
              · cases h
              · rename_i o1 h1
                have k1 := ih _ _ _ _ _ _ _ h1
                (try dsimp only)
                rw [k1]
                dsimp only
                split at h
                · rename_i h0
                  rw [if_pos h0]
                  exact ih _ _ _ _ _ _ _ h
                · rename_i h0
                  rw [if_neg h0]
                  split at h
                  · exact ih _ _ _ _ _ _ _ h
                  · exact h
          · split at h
            · rename_i q hq
              (try dsimp only)
              exact ih _ _ _ _ _ _ _ h
            · cases h
      · cases h
    · cases h
theorem az_run_le {xs : az_X} {f g d k pc : Nat} {L : az_Ls} {st : List Value} {G : az_G} {o : az_O} (hfg : f ≤ g) (h : az_run xs f d k pc L st G = some o) : az_run xs g d k pc L st G = some o := by
  induction hfg with
  | refl => exact h
  | step _ ih => exact az_run_up _ _ _ _ _ _ _ _ ih
theorem az_W_of {xs : az_X} {d k pc : Nat} {L : az_Ls} {st : List Value} {G : az_G} {K : az_O → Prop} {g : Nat → Option az_O} (h : ∀ f, az_run xs (f + 1) d k pc L st G = g f) : az_W xs d k pc L st G K ↔ ∃ (f : Nat) (o : az_O), g f = some o ∧ K o := by
  constructor
  · rintro ⟨f, o, h1, h2⟩
    cases f with
    | zero => cases h1
    | succ f => exact ⟨f, o, (h f).symm.trans h1, h2⟩
  · rintro ⟨f, o, h1, h2⟩
    exact ⟨f + 1, o, (h f).trans h1, h2⟩
theorem az_run_s {xs : az_X} {f d k pc : Nat} {L : az_Ls} {st : List Value} {G : az_G} {i : Instr} {len : Nat} (hd : decode (az_code k) pc = .ok (i, len)) (hil : az_il i len = true) (he : az_end k i pc st G = none) (hc : az_cal k i st G.1 = none) :
    az_run xs (f + 1) d k pc L st G = (match az_stp xs k i pc (pc + len) L st G with | some q => az_run xs f d k q.1 q.2.1 q.2.2.1 q.2.2.2 | none => none) := by
  rw [az_run, hd]
  dsimp only
  rw [if_pos hil, he]
  dsimp only
  rw [hc]
  rfl
theorem az_W_s {xs : az_X} {d k pc pc' : Nat} {L L' : az_Ls} {st st' : List Value} {G G' : az_G} {K : az_O → Prop} {i : Instr} {len : Nat} (hd : decode (az_code k) pc = .ok (i, len)) (hil : az_il i len = true) (he : az_end k i pc st G = none) (hc : az_cal k i st G.1 = none) (hs : az_stp xs k i pc (pc + len) L st G = some (pc', L', st', G')) :
    az_W xs d k pc L st G K ↔ az_W xs d k pc' L' st' G' K :=
  az_W_of (g := fun f => az_run xs f d k pc' L' st' G') fun f => by rw [az_run_s hd hil he hc, hs]
theorem az_W_c {xs : az_X} {d k pc pc' : Nat} {L L' : az_Ls} {st st' : List Value} {G G' : az_G} {K : az_O → Prop} {i : Instr} {len : Nat} {c : Prop} (hd : decode (az_code k) pc = .ok (i, len)) (hil : az_il i len = true) (he : az_end k i pc st G = none) (hc : az_cal k i st G.1 = none) (hs : c → az_stp xs k i pc (pc + len) L st G = some (pc', L', st', G')) (hn : ¬ c → az_stp xs k i pc (pc + len) L st G = none) :
    az_W xs d k pc L st G K ↔ c ∧ az_W xs d k pc' L' st' G' K := by
  by_cases h : c
  · rw [az_W_s hd hil he hc (hs h)]
    exact ⟨fun w => ⟨h, w⟩, fun w => w.2⟩
  · constructor
    · rintro ⟨f, o, h1, -⟩
      cases f with
      | zero => cases h1
      | succ f => rw [az_run_s hd hil he hc, hn h] at h1; cases h1
    · exact fun w => absurd w.1 h
theorem az_W_e {xs : az_X} {d k pc : Nat} {L : az_Ls} {st : List Value} {G : az_G} {K : az_O → Prop} {i : Instr} {len : Nat} {o : az_O} (hd : decode (az_code k) pc = .ok (i, len)) (hil : az_il i len = true) (he : az_end k i pc st G = some o) : az_W xs d k pc L st G K ↔ K o := by
  rw [az_W_of (g := fun _ => some o) fun f => by rw [az_run, hd]; dsimp only; rw [if_pos hil, he]]
  constructor
  · rintro ⟨f, o', h1, h2⟩
    cases h1
    exact h2
  · exact fun h => ⟨0, o, rfl, h⟩
/-- behind a throw of a callee -/
def az_thn (xs : az_X) (d k pc : Nat) (L : az_Ls) (K : az_O → Prop) (o : az_O) : Prop := match az_hnd k pc o.1 with
  | some (n, nx) => az_W xs d k nx (L.set n none) [] o.2.2 K
  | none => (az_xt k = [] ∧ k ≠ az_main) ∧ K (o.1, none, o.2.2)
def az_bk (xs : az_X) (d k pc nx : Nat) (L : az_Ls) (rest : List Value) (K : az_O → Prop) : az_O → Prop := fun o => if o.1 = 0 then az_W xs d k nx L (o.2.1.toList ++ rest) o.2.2 K else az_thn xs d k pc L K o
theorem az_W_k {xs : az_X} {d k pc : Nat} {L : az_Ls} {st rest as : List Value} {G : az_G} {K : az_O → Prop} {i : Instr} {m : Nat} (hd : decode (az_code k) pc = .ok (i, 3)) (hil : az_il i 3 = true) (he : az_end k i pc st G = none) (hc : az_cal k i st G.1 = some (m, as, rest)) :
    az_W xs d k pc L st G K ↔ az_C xs d m as G (az_bk xs d k pc (pc + 3) L rest K) := by
  rw [az_W_of (g := fun f => match d with
    | 0 => none
    | d + 1 => (match az_run xs f d m 0 (az_lay m as) [] G with
      | none => none
      | some o => if o.1 = 0 then az_run xs f (d + 1) k (pc + 3) L (o.2.1.toList ++ rest) o.2.2 else (match az_hnd k pc o.1 with
        | some (n, nx) => az_run xs f (d + 1) k nx (L.set n none) [] o.2.2
        | none => if az_xt k = [] ∧ k ≠ az_main then some (o.1, none, o.2.2) else none))) fun f => by rw [az_run, hd]; dsimp only; rw [if_pos hil, he]; dsimp only; rw [hc]; cases d <;> rfl]
  cases d with
  | zero => exact ⟨fun ⟨f, o, h1, _⟩ => (by cases h1), fun h => False.elim h⟩
  | succ d =>
    dsimp only
    constructor
    · rintro ⟨f, o, h1, h2⟩
      split at h1
      · cases h1
      · rename_i o1 hr
        refine ⟨f, o1, hr, ?_⟩
        unfold az_bk
        split at h1
        · rename_i h0
          rw [if_pos h0]
          exact ⟨f, o, h1, h2⟩
        · rename_i h0
          rw [if_neg h0]
          unfold az_thn
          split at h1
          · rename_i n nx hh
            exact ⟨f, o, h1, h2⟩
          · rename_i hh
            split at h1
            · rename_i hcond
              cases h1
              exact ⟨hcond, h2⟩
            · cases h1
    · rintro ⟨f, o1, hr, h2⟩
      unfold az_bk at h2
      split at h2
      · rename_i h0
        obtain ⟨f2, o, h3, h4⟩ := h2
        refine ⟨f + f2, o, ?_, h4⟩
        rw [az_run_le (Nat.le_add_right f f2) hr]
        dsimp only
        rw [if_pos h0]
        exact az_run_le (Nat.le_add_left f2 f) h3
      · rename_i h0
        unfold az_thn at h2
        split at h2
        · rename_i n nx hh
          obtain ⟨f2, o, h3, h4⟩ := h2
          refine ⟨f + f2, o, ?_, h4⟩
          rw [az_run_le (Nat.le_add_right f f2) hr]
          dsimp only
          rw [if_neg h0, hh]
          exact az_run_le (Nat.le_add_left f2 f) h3
        · rename_i hh
          refine ⟨f, _, ?_, h2.2⟩
          rw [hr]
          dsimp only
          rw [if_neg h0, hh]
          dsimp only
          rw [if_pos h2.1]
abbrev T_ic (k pc nx : Nat) (v : Int32) : Prop := ∀ {xs : az_X} {d : Nat} {L : az_Ls} {st : List Value} {G : az_G} {K : az_O → Prop}, az_W xs d k pc L st G K ↔ az_W xs d k nx L (.int v :: st) G K
theorem w_ic1 {k pc : Nat} {n : Int} {v : Int32} (hd : decode (az_code k) pc = .ok (.iconst n, 1)) (hv : Int32.ofInt n = v) : T_ic k pc (pc + 1) v := by
  intros
  subst hv
  exact az_W_s hd rfl rfl rfl rfl
theorem w_ic2 {k pc : Nat} {n : Int} {v : Int32} (hd : decode (az_code k) pc = .ok (.bipush n, 2)) (hv : (Int8.ofInt n).toInt32 = v) : T_ic k pc (pc + 2) v := by
  intros
  subst hv
  exact az_W_s hd rfl rfl rfl rfl
theorem w_ic3 {k pc : Nat} {n : Int} {v : Int32} (hd : decode (az_code k) pc = .ok (.sipush n, 3)) (hv : (Int16.ofInt n).toInt32 = v) : T_ic k pc (pc + 3) v := by
  intros
  subst hv
  exact az_W_s hd rfl rfl rfl rfl
theorem w_ic4 {k pc x : Nat} {v : Int32} (hd : decode (az_code k) pc = .ok (.ldc x, 2)) (hv : az_kc (az_own k) x = some v) : T_ic k pc (pc + 2) v := by
  intros
  exact az_W_s hd rfl rfl rfl (by show (az_kc (az_own k) x).map _ = _; rw [hv]; rfl)
theorem w_ic5 {k pc x : Nat} {v : Int32} (hd : decode (az_code k) pc = .ok (.ldc_w x, 3)) (hv : az_kc (az_own k) x = some v) : T_ic k pc (pc + 3) v := by
  intros
  exact az_W_s hd rfl rfl rfl (by show (az_kc (az_own k) x).map _ = _; rw [hv]; rfl)
abbrev T_lc (k pc nx : Nat) (v : Int64) : Prop := ∀ {xs : az_X} {d : Nat} {L : az_Ls} {st : List Value} {G : az_G} {K : az_O → Prop}, az_W xs d k pc L st G K ↔ az_W xs d k nx L (.long v :: st) G K
theorem w_lc {k pc : Nat} {n : Fin 2} {v : Int64} (hd : decode (az_code k) pc = .ok (.lconst n, 1)) (hv : Int64.ofNat (n : Nat) = v) : T_lc k pc (pc + 1) v := by
  intros
  subst hv
  exact az_W_s hd rfl rfl rfl rfl
abbrev T_il0 (k pc nx : Nat) : Prop := ∀ {xs : az_X} {d : Nat} {x : Int32} {L : az_Ls} {st : List Value} {G : az_G} {K : az_O → Prop}, az_W xs d k pc (some (.int x) :: L) st G K ↔ az_W xs d k nx (some (.int x) :: L) (.int x :: st) G K
theorem w_il0 {k pc : Nat} (hd : decode (az_code k) pc = .ok (.iload 0, 2)) : T_il0 k pc (pc + 2) := by
  intros
  exact az_W_s hd rfl rfl rfl rfl
theorem w_iln0 {k pc : Nat} (hd : decode (az_code k) pc = .ok (.iload_n 0, 1)) : T_il0 k pc (pc + 1) := by
  intros
  exact az_W_s hd rfl rfl rfl rfl
abbrev T_al0 (k pc nx : Nat) : Prop := ∀ {xs : az_X} {d : Nat} {x : Nat} {L : az_Ls} {st : List Value} {G : az_G} {K : az_O → Prop}, az_W xs d k pc (some (.ref x) :: L) st G K ↔ az_W xs d k nx (some (.ref x) :: L) (.ref x :: st) G K
theorem w_al0 {k pc : Nat} (hd : decode (az_code k) pc = .ok (.aload 0, 2)) : T_al0 k pc (pc + 2) := by
  intros
  exact az_W_s hd rfl rfl rfl rfl
theorem w_aln0 {k pc : Nat} (hd : decode (az_code k) pc = .ok (.aload_n 0, 1)) : T_al0 k pc (pc + 1) := by
  intros
  exact az_W_s hd rfl rfl rfl rfl
abbrev T_is0 (k pc nx : Nat) : Prop := ∀ {xs : az_X} {d : Nat} {b9 : Option Value} {x : Int32} {L : az_Ls} {st : List Value} {G : az_G} {K : az_O → Prop}, az_W xs d k pc (b9 :: L) (.int x :: st) G K ↔ az_W xs d k nx (some (.int x) :: L) st G K
theorem w_is0 {k pc : Nat} (hd : decode (az_code k) pc = .ok (.istore 0, 2)) : T_is0 k pc (pc + 2) := by
  intro xs d  b9 x L st G K
  exact az_W_s hd rfl rfl rfl (if_pos (e := none) (show 0 < (b9 :: L).length by simp))
theorem w_isn0 {k pc : Nat} (hd : decode (az_code k) pc = .ok (.istore_n 0, 1)) : T_is0 k pc (pc + 1) := by
  intro xs d  b9 x L st G K
  exact az_W_s hd rfl rfl rfl (if_pos (e := none) (show 0 < (b9 :: L).length by simp))
abbrev T_as0 (k pc nx : Nat) : Prop := ∀ {xs : az_X} {d : Nat} {b9 : Option Value} {x : Nat} {L : az_Ls} {st : List Value} {G : az_G} {K : az_O → Prop}, az_W xs d k pc (b9 :: L) (.ref x :: st) G K ↔ az_W xs d k nx (some (.ref x) :: L) st G K
theorem w_as0 {k pc : Nat} (hd : decode (az_code k) pc = .ok (.astore 0, 2)) : T_as0 k pc (pc + 2) := by
  intro xs d  b9 x L st G K
  exact az_W_s hd rfl rfl rfl (if_pos (e := none) (show 0 < (b9 :: L).length by simp))
theorem w_asn0 {k pc : Nat} (hd : decode (az_code k) pc = .ok (.astore_n 0, 1)) : T_as0 k pc (pc + 1) := by
  intro xs d  b9 x L st G K
  exact az_W_s hd rfl rfl rfl (if_pos (e := none) (show 0 < (b9 :: L).length by simp))
abbrev T_inc0 (k pc nx : Nat) (v : Int32) : Prop := ∀ {xs : az_X} {d : Nat} {x : Int32} {L : az_Ls} {st : List Value} {G : az_G} {K : az_O → Prop}, az_W xs d k pc (some (.int x) :: L) st G K ↔ az_W xs d k nx (some (.int (x + v)) :: L) st G K
theorem w_inc0 {k pc : Nat} {c : Int} {v : Int32} (hd : decode (az_code k) pc = .ok (.iinc 0 c, 3)) (hv : Int32.ofInt c = v) : T_inc0 k pc (pc + 3) v := by
  intros
  subst hv
  exact az_W_s hd rfl rfl rfl rfl
abbrev T_il1 (k pc nx : Nat) : Prop := ∀ {xs : az_X} {d : Nat} {a0 : Option Value} {x : Int32} {L : az_Ls} {st : List Value} {G : az_G} {K : az_O → Prop}, az_W xs d k pc (a0 :: some (.int x) :: L) st G K ↔ az_W xs d k nx (a0 :: some (.int x) :: L) (.int x :: st) G K
theorem w_il1 {k pc : Nat} (hd : decode (az_code k) pc = .ok (.iload 1, 2)) : T_il1 k pc (pc + 2) := by
  intros
  exact az_W_s hd rfl rfl rfl rfl
theorem w_iln1 {k pc : Nat} (hd : decode (az_code k) pc = .ok (.iload_n 1, 1)) : T_il1 k pc (pc + 1) := by
  intros
  exact az_W_s hd rfl rfl rfl rfl
abbrev T_al1 (k pc nx : Nat) : Prop := ∀ {xs : az_X} {d : Nat} {a0 : Option Value} {x : Nat} {L : az_Ls} {st : List Value} {G : az_G} {K : az_O → Prop}, az_W xs d k pc (a0 :: some (.ref x) :: L) st G K ↔ az_W xs d k nx (a0 :: some (.ref x) :: L) (.ref x :: st) G K
theorem w_al1 {k pc : Nat} (hd : decode (az_code k) pc = .ok (.aload 1, 2)) : T_al1 k pc (pc + 2) := by
  intros
  exact az_W_s hd rfl rfl rfl rfl
theorem w_aln1 {k pc : Nat} (hd : decode (az_code k) pc = .ok (.aload_n 1, 1)) : T_al1 k pc (pc + 1) := by
  intros
  exact az_W_s hd rfl rfl rfl rfl
abbrev T_is1 (k pc nx : Nat) : Prop := ∀ {xs : az_X} {d : Nat} {a0 : Option Value} {b9 : Option Value} {x : Int32} {L : az_Ls} {st : List Value} {G : az_G} {K : az_O → Prop}, az_W xs d k pc (a0 :: b9 :: L) (.int x :: st) G K ↔ az_W xs d k nx (a0 :: some (.int x) :: L) st G K
theorem w_is1 {k pc : Nat} (hd : decode (az_code k) pc = .ok (.istore 1, 2)) : T_is1 k pc (pc + 2) := by
  intro xs d a0 b9 x L st G K
  exact az_W_s hd rfl rfl rfl (if_pos (e := none) (show 1 < (a0 :: b9 :: L).length by simp))
theorem w_isn1 {k pc : Nat} (hd : decode (az_code k) pc = .ok (.istore_n 1, 1)) : T_is1 k pc (pc + 1) := by
  intro xs d a0 b9 x L st G K
  exact az_W_s hd rfl rfl rfl (if_pos (e := none) (show 1 < (a0 :: b9 :: L).length by simp))
abbrev T_as1 (k pc nx : Nat) : Prop := ∀ {xs : az_X} {d : Nat} {a0 : Option Value} {b9 : Option Value} {x : Nat} {L : az_Ls} {st : List Value} {G : az_G} {K : az_O → Prop}, az_W xs d k pc (a0 :: b9 :: L) (.ref x :: st) G K ↔ az_W xs d k nx (a0 :: some (.ref x) :: L) st G K
theorem w_as1 {k pc : Nat} (hd : decode (az_code k) pc = .ok (.astore 1, 2)) : T_as1 k pc (pc + 2) := by
  intro xs d a0 b9 x L st G K
  exact az_W_s hd rfl rfl rfl (if_pos (e := none) (show 1 < (a0 :: b9 :: L).length by simp))
theorem w_asn1 {k pc : Nat} (hd : decode (az_code k) pc = .ok (.astore_n 1, 1)) : T_as1 k pc (pc + 1) := by
  intro xs d a0 b9 x L st G K
  exact az_W_s hd rfl rfl rfl (if_pos (e := none) (show 1 < (a0 :: b9 :: L).length by simp))
abbrev T_inc1 (k pc nx : Nat) (v : Int32) : Prop := ∀ {xs : az_X} {d : Nat} {a0 : Option Value} {x : Int32} {L : az_Ls} {st : List Value} {G : az_G} {K : az_O → Prop}, az_W xs d k pc (a0 :: some (.int x) :: L) st G K ↔ az_W xs d k nx (a0 :: some (.int (x + v)) :: L) st G K
theorem w_inc1 {k pc : Nat} {c : Int} {v : Int32} (hd : decode (az_code k) pc = .ok (.iinc 1 c, 3)) (hv : Int32.ofInt c = v) : T_inc1 k pc (pc + 3) v := by
  intros
  subst hv
  exact az_W_s hd rfl rfl rfl rfl
abbrev T_il2 (k pc nx : Nat) : Prop := ∀ {xs : az_X} {d : Nat} {a0 : Option Value} {a1 : Option Value} {x : Int32} {L : az_Ls} {st : List Value} {G : az_G} {K : az_O → Prop}, az_W xs d k pc (a0 :: a1 :: some (.int x) :: L) st G K ↔ az_W xs d k nx (a0 :: a1 :: some (.int x) :: L) (.int x :: st) G K
theorem w_il2 {k pc : Nat} (hd : decode (az_code k) pc = .ok (.iload 2, 2)) : T_il2 k pc (pc + 2) := by
  intros
  exact az_W_s hd rfl rfl rfl rfl
theorem w_iln2 {k pc : Nat} (hd : decode (az_code k) pc = .ok (.iload_n 2, 1)) : T_il2 k pc (pc + 1) := by
  intros
  exact az_W_s hd rfl rfl rfl rfl
abbrev T_al2 (k pc nx : Nat) : Prop := ∀ {xs : az_X} {d : Nat} {a0 : Option Value} {a1 : Option Value} {x : Nat} {L : az_Ls} {st : List Value} {G : az_G} {K : az_O → Prop}, az_W xs d k pc (a0 :: a1 :: some (.ref x) :: L) st G K ↔ az_W xs d k nx (a0 :: a1 :: some (.ref x) :: L) (.ref x :: st) G K
theorem w_al2 {k pc : Nat} (hd : decode (az_code k) pc = .ok (.aload 2, 2)) : T_al2 k pc (pc + 2) := by
  intros
  exact az_W_s hd rfl rfl rfl rfl
theorem w_aln2 {k pc : Nat} (hd : decode (az_code k) pc = .ok (.aload_n 2, 1)) : T_al2 k pc (pc + 1) := by
  intros
  exact az_W_s hd rfl rfl rfl rfl
abbrev T_is2 (k pc nx : Nat) : Prop := ∀ {xs : az_X} {d : Nat} {a0 : Option Value} {a1 : Option Value} {b9 : Option Value} {x : Int32} {L : az_Ls} {st : List Value} {G : az_G} {K : az_O → Prop}, az_W xs d k pc (a0 :: a1 :: b9 :: L) (.int x :: st) G K ↔ az_W xs d k nx (a0 :: a1 :: some (.int x) :: L) st G K
theorem w_is2 {k pc : Nat} (hd : decode (az_code k) pc = .ok (.istore 2, 2)) : T_is2 k pc (pc + 2) := by
  intro xs d a0 a1 b9 x L st G K
  exact az_W_s hd rfl rfl rfl (if_pos (e := none) (show 2 < (a0 :: a1 :: b9 :: L).length by simp))
theorem w_isn2 {k pc : Nat} (hd : decode (az_code k) pc = .ok (.istore_n 2, 1)) : T_is2 k pc (pc + 1) := by
  intro xs d a0 a1 b9 x L st G K
  exact az_W_s hd rfl rfl rfl (if_pos (e := none) (show 2 < (a0 :: a1 :: b9 :: L).length by simp))
abbrev T_as2 (k pc nx : Nat) : Prop := ∀ {xs : az_X} {d : Nat} {a0 : Option Value} {a1 : Option Value} {b9 : Option Value} {x : Nat} {L : az_Ls} {st : List Value} {G : az_G} {K : az_O → Prop}, az_W xs d k pc (a0 :: a1 :: b9 :: L) (.ref x :: st) G K ↔ az_W xs d k nx (a0 :: a1 :: some (.ref x) :: L) st G K
theorem w_as2 {k pc : Nat} (hd : decode (az_code k) pc = .ok (.astore 2, 2)) : T_as2 k pc (pc + 2) := by
  intro xs d a0 a1 b9 x L st G K
  exact az_W_s hd rfl rfl rfl (if_pos (e := none) (show 2 < (a0 :: a1 :: b9 :: L).length by simp))
theorem w_asn2 {k pc : Nat} (hd : decode (az_code k) pc = .ok (.astore_n 2, 1)) : T_as2 k pc (pc + 1) := by
  intro xs d a0 a1 b9 x L st G K
  exact az_W_s hd rfl rfl rfl (if_pos (e := none) (show 2 < (a0 :: a1 :: b9 :: L).length by simp))
abbrev T_inc2 (k pc nx : Nat) (v : Int32) : Prop := ∀ {xs : az_X} {d : Nat} {a0 : Option Value} {a1 : Option Value} {x : Int32} {L : az_Ls} {st : List Value} {G : az_G} {K : az_O → Prop}, az_W xs d k pc (a0 :: a1 :: some (.int x) :: L) st G K ↔ az_W xs d k nx (a0 :: a1 :: some (.int (x + v)) :: L) st G K
theorem w_inc2 {k pc : Nat} {c : Int} {v : Int32} (hd : decode (az_code k) pc = .ok (.iinc 2 c, 3)) (hv : Int32.ofInt c = v) : T_inc2 k pc (pc + 3) v := by
  intros
  subst hv
  exact az_W_s hd rfl rfl rfl rfl
abbrev T_il3 (k pc nx : Nat) : Prop := ∀ {xs : az_X} {d : Nat} {a0 : Option Value} {a1 : Option Value} {a2 : Option Value} {x : Int32} {L : az_Ls} {st : List Value} {G : az_G} {K : az_O → Prop}, az_W xs d k pc (a0 :: a1 :: a2 :: some (.int x) :: L) st G K ↔ az_W xs d k nx (a0 :: a1 :: a2 :: some (.int x) :: L) (.int x :: st) G K
theorem w_il3 {k pc : Nat} (hd : decode (az_code k) pc = .ok (.iload 3, 2)) : T_il3 k pc (pc + 2) := by
  intros
  exact az_W_s hd rfl rfl rfl rfl
theorem w_iln3 {k pc : Nat} (hd : decode (az_code k) pc = .ok (.iload_n 3, 1)) : T_il3 k pc (pc + 1) := by
  intros
  exact az_W_s hd rfl rfl rfl rfl
abbrev T_al3 (k pc nx : Nat) : Prop := ∀ {xs : az_X} {d : Nat} {a0 : Option Value} {a1 : Option Value} {a2 : Option Value} {x : Nat} {L : az_Ls} {st : List Value} {G : az_G} {K : az_O → Prop}, az_W xs d k pc (a0 :: a1 :: a2 :: some (.ref x) :: L) st G K ↔ az_W xs d k nx (a0 :: a1 :: a2 :: some (.ref x) :: L) (.ref x :: st) G K
theorem w_al3 {k pc : Nat} (hd : decode (az_code k) pc = .ok (.aload 3, 2)) : T_al3 k pc (pc + 2) := by
  intros
  exact az_W_s hd rfl rfl rfl rfl
theorem w_aln3 {k pc : Nat} (hd : decode (az_code k) pc = .ok (.aload_n 3, 1)) : T_al3 k pc (pc + 1) := by
  intros
  exact az_W_s hd rfl rfl rfl rfl
abbrev T_is3 (k pc nx : Nat) : Prop := ∀ {xs : az_X} {d : Nat} {a0 : Option Value} {a1 : Option Value} {a2 : Option Value} {b9 : Option Value} {x : Int32} {L : az_Ls} {st : List Value} {G : az_G} {K : az_O → Prop}, az_W xs d k pc (a0 :: a1 :: a2 :: b9 :: L) (.int x :: st) G K ↔ az_W xs d k nx (a0 :: a1 :: a2 :: some (.int x) :: L) st G K
theorem w_is3 {k pc : Nat} (hd : decode (az_code k) pc = .ok (.istore 3, 2)) : T_is3 k pc (pc + 2) := by
  intro xs d a0 a1 a2 b9 x L st G K
  exact az_W_s hd rfl rfl rfl (if_pos (e := none) (show 3 < (a0 :: a1 :: a2 :: b9 :: L).length by simp))
theorem w_isn3 {k pc : Nat} (hd : decode (az_code k) pc = .ok (.istore_n 3, 1)) : T_is3 k pc (pc + 1) := by
  intro xs d a0 a1 a2 b9 x L st G K
  exact az_W_s hd rfl rfl rfl (if_pos (e := none) (show 3 < (a0 :: a1 :: a2 :: b9 :: L).length by simp))
abbrev T_as3 (k pc nx : Nat) : Prop := ∀ {xs : az_X} {d : Nat} {a0 : Option Value} {a1 : Option Value} {a2 : Option Value} {b9 : Option Value} {x : Nat} {L : az_Ls} {st : List Value} {G : az_G} {K : az_O → Prop}, az_W xs d k pc (a0 :: a1 :: a2 :: b9 :: L) (.ref x :: st) G K ↔ az_W xs d k nx (a0 :: a1 :: a2 :: some (.ref x) :: L) st G K
theorem w_as3 {k pc : Nat} (hd : decode (az_code k) pc = .ok (.astore 3, 2)) : T_as3 k pc (pc + 2) := by
  intro xs d a0 a1 a2 b9 x L st G K
  exact az_W_s hd rfl rfl rfl (if_pos (e := none) (show 3 < (a0 :: a1 :: a2 :: b9 :: L).length by simp))
theorem w_asn3 {k pc : Nat} (hd : decode (az_code k) pc = .ok (.astore_n 3, 1)) : T_as3 k pc (pc + 1) := by
  intro xs d a0 a1 a2 b9 x L st G K
  exact az_W_s hd rfl rfl rfl (if_pos (e := none) (show 3 < (a0 :: a1 :: a2 :: b9 :: L).length by simp))
abbrev T_inc3 (k pc nx : Nat) (v : Int32) : Prop := ∀ {xs : az_X} {d : Nat} {a0 : Option Value} {a1 : Option Value} {a2 : Option Value} {x : Int32} {L : az_Ls} {st : List Value} {G : az_G} {K : az_O → Prop}, az_W xs d k pc (a0 :: a1 :: a2 :: some (.int x) :: L) st G K ↔ az_W xs d k nx (a0 :: a1 :: a2 :: some (.int (x + v)) :: L) st G K
theorem w_inc3 {k pc : Nat} {c : Int} {v : Int32} (hd : decode (az_code k) pc = .ok (.iinc 3 c, 3)) (hv : Int32.ofInt c = v) : T_inc3 k pc (pc + 3) v := by
  intros
  subst hv
  exact az_W_s hd rfl rfl rfl rfl
abbrev T_il4 (k pc nx : Nat) : Prop := ∀ {xs : az_X} {d : Nat} {a0 : Option Value} {a1 : Option Value} {a2 : Option Value} {a3 : Option Value} {x : Int32} {L : az_Ls} {st : List Value} {G : az_G} {K : az_O → Prop}, az_W xs d k pc (a0 :: a1 :: a2 :: a3 :: some (.int x) :: L) st G K ↔ az_W xs d k nx (a0 :: a1 :: a2 :: a3 :: some (.int x) :: L) (.int x :: st) G K
theorem w_il4 {k pc : Nat} (hd : decode (az_code k) pc = .ok (.iload 4, 2)) : T_il4 k pc (pc + 2) := by
  intros
  exact az_W_s hd rfl rfl rfl rfl
abbrev T_al4 (k pc nx : Nat) : Prop := ∀ {xs : az_X} {d : Nat} {a0 : Option Value} {a1 : Option Value} {a2 : Option Value} {a3 : Option Value} {x : Nat} {L : az_Ls} {st : List Value} {G : az_G} {K : az_O → Prop}, az_W xs d k pc (a0 :: a1 :: a2 :: a3 :: some (.ref x) :: L) st G K ↔ az_W xs d k nx (a0 :: a1 :: a2 :: a3 :: some (.ref x) :: L) (.ref x :: st) G K
theorem w_al4 {k pc : Nat} (hd : decode (az_code k) pc = .ok (.aload 4, 2)) : T_al4 k pc (pc + 2) := by
  intros
  exact az_W_s hd rfl rfl rfl rfl
abbrev T_is4 (k pc nx : Nat) : Prop := ∀ {xs : az_X} {d : Nat} {a0 : Option Value} {a1 : Option Value} {a2 : Option Value} {a3 : Option Value} {b9 : Option Value} {x : Int32} {L : az_Ls} {st : List Value} {G : az_G} {K : az_O → Prop}, az_W xs d k pc (a0 :: a1 :: a2 :: a3 :: b9 :: L) (.int x :: st) G K ↔ az_W xs d k nx (a0 :: a1 :: a2 :: a3 :: some (.int x) :: L) st G K
theorem w_is4 {k pc : Nat} (hd : decode (az_code k) pc = .ok (.istore 4, 2)) : T_is4 k pc (pc + 2) := by
  intro xs d a0 a1 a2 a3 b9 x L st G K
  exact az_W_s hd rfl rfl rfl (if_pos (e := none) (show 4 < (a0 :: a1 :: a2 :: a3 :: b9 :: L).length by simp))
abbrev T_as4 (k pc nx : Nat) : Prop := ∀ {xs : az_X} {d : Nat} {a0 : Option Value} {a1 : Option Value} {a2 : Option Value} {a3 : Option Value} {b9 : Option Value} {x : Nat} {L : az_Ls} {st : List Value} {G : az_G} {K : az_O → Prop}, az_W xs d k pc (a0 :: a1 :: a2 :: a3 :: b9 :: L) (.ref x :: st) G K ↔ az_W xs d k nx (a0 :: a1 :: a2 :: a3 :: some (.ref x) :: L) st G K
theorem w_as4 {k pc : Nat} (hd : decode (az_code k) pc = .ok (.astore 4, 2)) : T_as4 k pc (pc + 2) := by
  intro xs d a0 a1 a2 a3 b9 x L st G K
  exact az_W_s hd rfl rfl rfl (if_pos (e := none) (show 4 < (a0 :: a1 :: a2 :: a3 :: b9 :: L).length by simp))
abbrev T_inc4 (k pc nx : Nat) (v : Int32) : Prop := ∀ {xs : az_X} {d : Nat} {a0 : Option Value} {a1 : Option Value} {a2 : Option Value} {a3 : Option Value} {x : Int32} {L : az_Ls} {st : List Value} {G : az_G} {K : az_O → Prop}, az_W xs d k pc (a0 :: a1 :: a2 :: a3 :: some (.int x) :: L) st G K ↔ az_W xs d k nx (a0 :: a1 :: a2 :: a3 :: some (.int (x + v)) :: L) st G K
theorem w_inc4 {k pc : Nat} {c : Int} {v : Int32} (hd : decode (az_code k) pc = .ok (.iinc 4 c, 3)) (hv : Int32.ofInt c = v) : T_inc4 k pc (pc + 3) v := by
  intros
  subst hv
  exact az_W_s hd rfl rfl rfl rfl
abbrev T_il5 (k pc nx : Nat) : Prop := ∀ {xs : az_X} {d : Nat} {a0 : Option Value} {a1 : Option Value} {a2 : Option Value} {a3 : Option Value} {a4 : Option Value} {x : Int32} {L : az_Ls} {st : List Value} {G : az_G} {K : az_O → Prop}, az_W xs d k pc (a0 :: a1 :: a2 :: a3 :: a4 :: some (.int x) :: L) st G K ↔ az_W xs d k nx (a0 :: a1 :: a2 :: a3 :: a4 :: some (.int x) :: L) (.int x :: st) G K
theorem w_il5 {k pc : Nat} (hd : decode (az_code k) pc = .ok (.iload 5, 2)) : T_il5 k pc (pc + 2) := by
  intros
  exact az_W_s hd rfl rfl rfl rfl
abbrev T_al5 (k pc nx : Nat) : Prop := ∀ {xs : az_X} {d : Nat} {a0 : Option Value} {a1 : Option Value} {a2 : Option Value} {a3 : Option Value} {a4 : Option Value} {x : Nat} {L : az_Ls} {st : List Value} {G : az_G} {K : az_O → Prop}, az_W xs d k pc (a0 :: a1 :: a2 :: a3 :: a4 :: some (.ref x) :: L) st G K ↔ az_W xs d k nx (a0 :: a1 :: a2 :: a3 :: a4 :: some (.ref x) :: L) (.ref x :: st) G K
theorem w_al5 {k pc : Nat} (hd : decode (az_code k) pc = .ok (.aload 5, 2)) : T_al5 k pc (pc + 2) := by
  intros
  exact az_W_s hd rfl rfl rfl rfl
abbrev T_is5 (k pc nx : Nat) : Prop := ∀ {xs : az_X} {d : Nat} {a0 : Option Value} {a1 : Option Value} {a2 : Option Value} {a3 : Option Value} {a4 : Option Value} {b9 : Option Value} {x : Int32} {L : az_Ls} {st : List Value} {G : az_G} {K : az_O → Prop}, az_W xs d k pc (a0 :: a1 :: a2 :: a3 :: a4 :: b9 :: L) (.int x :: st) G K ↔ az_W xs d k nx (a0 :: a1 :: a2 :: a3 :: a4 :: some (.int x) :: L) st G K
theorem w_is5 {k pc : Nat} (hd : decode (az_code k) pc = .ok (.istore 5, 2)) : T_is5 k pc (pc + 2) := by
  intro xs d a0 a1 a2 a3 a4 b9 x L st G K
  exact az_W_s hd rfl rfl rfl (if_pos (e := none) (show 5 < (a0 :: a1 :: a2 :: a3 :: a4 :: b9 :: L).length by simp))
abbrev T_as5 (k pc nx : Nat) : Prop := ∀ {xs : az_X} {d : Nat} {a0 : Option Value} {a1 : Option Value} {a2 : Option Value} {a3 : Option Value} {a4 : Option Value} {b9 : Option Value} {x : Nat} {L : az_Ls} {st : List Value} {G : az_G} {K : az_O → Prop}, az_W xs d k pc (a0 :: a1 :: a2 :: a3 :: a4 :: b9 :: L) (.ref x :: st) G K ↔ az_W xs d k nx (a0 :: a1 :: a2 :: a3 :: a4 :: some (.ref x) :: L) st G K
theorem w_as5 {k pc : Nat} (hd : decode (az_code k) pc = .ok (.astore 5, 2)) : T_as5 k pc (pc + 2) := by
  intro xs d a0 a1 a2 a3 a4 b9 x L st G K
  exact az_W_s hd rfl rfl rfl (if_pos (e := none) (show 5 < (a0 :: a1 :: a2 :: a3 :: a4 :: b9 :: L).length by simp))
abbrev T_inc5 (k pc nx : Nat) (v : Int32) : Prop := ∀ {xs : az_X} {d : Nat} {a0 : Option Value} {a1 : Option Value} {a2 : Option Value} {a3 : Option Value} {a4 : Option Value} {x : Int32} {L : az_Ls} {st : List Value} {G : az_G} {K : az_O → Prop}, az_W xs d k pc (a0 :: a1 :: a2 :: a3 :: a4 :: some (.int x) :: L) st G K ↔ az_W xs d k nx (a0 :: a1 :: a2 :: a3 :: a4 :: some (.int (x + v)) :: L) st G K
theorem w_inc5 {k pc : Nat} {c : Int} {v : Int32} (hd : decode (az_code k) pc = .ok (.iinc 5 c, 3)) (hv : Int32.ofInt c = v) : T_inc5 k pc (pc + 3) v := by
  intros
  subst hv
  exact az_W_s hd rfl rfl rfl rfl
abbrev T_il6 (k pc nx : Nat) : Prop := ∀ {xs : az_X} {d : Nat} {a0 : Option Value} {a1 : Option Value} {a2 : Option Value} {a3 : Option Value} {a4 : Option Value} {a5 : Option Value} {x : Int32} {L : az_Ls} {st : List Value} {G : az_G} {K : az_O → Prop}, az_W xs d k pc (a0 :: a1 :: a2 :: a3 :: a4 :: a5 :: some (.int x) :: L) st G K ↔ az_W xs d k nx (a0 :: a1 :: a2 :: a3 :: a4 :: a5 :: some (.int x) :: L) (.int x :: st) G K
theorem w_il6 {k pc : Nat} (hd : decode (az_code k) pc = .ok (.iload 6, 2)) : T_il6 k pc (pc + 2) := by
  intros
  exact az_W_s hd rfl rfl rfl rfl
abbrev T_al6 (k pc nx : Nat) : Prop := ∀ {xs : az_X} {d : Nat} {a0 : Option Value} {a1 : Option Value} {a2 : Option Value} {a3 : Option Value} {a4 : Option Value} {a5 : Option Value} {x : Nat} {L : az_Ls} {st : List Value} {G : az_G} {K : az_O → Prop}, az_W xs d k pc (a0 :: a1 :: a2 :: a3 :: a4 :: a5 :: some (.ref x) :: L) st G K ↔ az_W xs d k nx (a0 :: a1 :: a2 :: a3 :: a4 :: a5 :: some (.ref x) :: L) (.ref x :: st) G K
theorem w_al6 {k pc : Nat} (hd : decode (az_code k) pc = .ok (.aload 6, 2)) : T_al6 k pc (pc + 2) := by
  intros
  exact az_W_s hd rfl rfl rfl rfl
abbrev T_is6 (k pc nx : Nat) : Prop := ∀ {xs : az_X} {d : Nat} {a0 : Option Value} {a1 : Option Value} {a2 : Option Value} {a3 : Option Value} {a4 : Option Value} {a5 : Option Value} {b9 : Option Value} {x : Int32} {L : az_Ls} {st : List Value} {G : az_G} {K : az_O → Prop}, az_W xs d k pc (a0 :: a1 :: a2 :: a3 :: a4 :: a5 :: b9 :: L) (.int x :: st) G K ↔ az_W xs d k nx (a0 :: a1 :: a2 :: a3 :: a4 :: a5 :: some (.int x) :: L) st G K
theorem w_is6 {k pc : Nat} (hd : decode (az_code k) pc = .ok (.istore 6, 2)) : T_is6 k pc (pc + 2) := by
  intro xs d a0 a1 a2 a3 a4 a5 b9 x L st G K
  exact az_W_s hd rfl rfl rfl (if_pos (e := none) (show 6 < (a0 :: a1 :: a2 :: a3 :: a4 :: a5 :: b9 :: L).length by simp))
abbrev T_as6 (k pc nx : Nat) : Prop := ∀ {xs : az_X} {d : Nat} {a0 : Option Value} {a1 : Option Value} {a2 : Option Value} {a3 : Option Value} {a4 : Option Value} {a5 : Option Value} {b9 : Option Value} {x : Nat} {L : az_Ls} {st : List Value} {G : az_G} {K : az_O → Prop}, az_W xs d k pc (a0 :: a1 :: a2 :: a3 :: a4 :: a5 :: b9 :: L) (.ref x :: st) G K ↔ az_W xs d k nx (a0 :: a1 :: a2 :: a3 :: a4 :: a5 :: some (.ref x) :: L) st G K
theorem w_as6 {k pc : Nat} (hd : decode (az_code k) pc = .ok (.astore 6, 2)) : T_as6 k pc (pc + 2) := by
  intro xs d a0 a1 a2 a3 a4 a5 b9 x L st G K
  exact az_W_s hd rfl rfl rfl (if_pos (e := none) (show 6 < (a0 :: a1 :: a2 :: a3 :: a4 :: a5 :: b9 :: L).length by simp))
abbrev T_inc6 (k pc nx : Nat) (v : Int32) : Prop := ∀ {xs : az_X} {d : Nat} {a0 : Option Value} {a1 : Option Value} {a2 : Option Value} {a3 : Option Value} {a4 : Option Value} {a5 : Option Value} {x : Int32} {L : az_Ls} {st : List Value} {G : az_G} {K : az_O → Prop}, az_W xs d k pc (a0 :: a1 :: a2 :: a3 :: a4 :: a5 :: some (.int x) :: L) st G K ↔ az_W xs d k nx (a0 :: a1 :: a2 :: a3 :: a4 :: a5 :: some (.int (x + v)) :: L) st G K
theorem w_inc6 {k pc : Nat} {c : Int} {v : Int32} (hd : decode (az_code k) pc = .ok (.iinc 6 c, 3)) (hv : Int32.ofInt c = v) : T_inc6 k pc (pc + 3) v := by
  intros
  subst hv
  exact az_W_s hd rfl rfl rfl rfl
abbrev T_il7 (k pc nx : Nat) : Prop := ∀ {xs : az_X} {d : Nat} {a0 : Option Value} {a1 : Option Value} {a2 : Option Value} {a3 : Option Value} {a4 : Option Value} {a5 : Option Value} {a6 : Option Value} {x : Int32} {L : az_Ls} {st : List Value} {G : az_G} {K : az_O → Prop}, az_W xs d k pc (a0 :: a1 :: a2 :: a3 :: a4 :: a5 :: a6 :: some (.int x) :: L) st G K ↔ az_W xs d k nx (a0 :: a1 :: a2 :: a3 :: a4 :: a5 :: a6 :: some (.int x) :: L) (.int x :: st) G K
theorem w_il7 {k pc : Nat} (hd : decode (az_code k) pc = .ok (.iload 7, 2)) : T_il7 k pc (pc + 2) := by
  intros
  exact az_W_s hd rfl rfl rfl rfl
abbrev T_al7 (k pc nx : Nat) : Prop := ∀ {xs : az_X} {d : Nat} {a0 : Option Value} {a1 : Option Value} {a2 : Option Value} {a3 : Option Value} {a4 : Option Value} {a5 : Option Value} {a6 : Option Value} {x : Nat} {L : az_Ls} {st : List Value} {G : az_G} {K : az_O → Prop}, az_W xs d k pc (a0 :: a1 :: a2 :: a3 :: a4 :: a5 :: a6 :: some (.ref x) :: L) st G K ↔ az_W xs d k nx (a0 :: a1 :: a2 :: a3 :: a4 :: a5 :: a6 :: some (.ref x) :: L) (.ref x :: st) G K
theorem w_al7 {k pc : Nat} (hd : decode (az_code k) pc = .ok (.aload 7, 2)) : T_al7 k pc (pc + 2) := by
  intros
  exact az_W_s hd rfl rfl rfl rfl
abbrev T_is7 (k pc nx : Nat) : Prop := ∀ {xs : az_X} {d : Nat} {a0 : Option Value} {a1 : Option Value} {a2 : Option Value} {a3 : Option Value} {a4 : Option Value} {a5 : Option Value} {a6 : Option Value} {b9 : Option Value} {x : Int32} {L : az_Ls} {st : List Value} {G : az_G} {K : az_O → Prop}, az_W xs d k pc (a0 :: a1 :: a2 :: a3 :: a4 :: a5 :: a6 :: b9 :: L) (.int x :: st) G K ↔ az_W xs d k nx (a0 :: a1 :: a2 :: a3 :: a4 :: a5 :: a6 :: some (.int x) :: L) st G K
theorem w_is7 {k pc : Nat} (hd : decode (az_code k) pc = .ok (.istore 7, 2)) : T_is7 k pc (pc + 2) := by
  intro xs d a0 a1 a2 a3 a4 a5 a6 b9 x L st G K
  exact az_W_s hd rfl rfl rfl (if_pos (e := none) (show 7 < (a0 :: a1 :: a2 :: a3 :: a4 :: a5 :: a6 :: b9 :: L).length by simp))
abbrev T_as7 (k pc nx : Nat) : Prop := ∀ {xs : az_X} {d : Nat} {a0 : Option Value} {a1 : Option Value} {a2 : Option Value} {a3 : Option Value} {a4 : Option Value} {a5 : Option Value} {a6 : Option Value} {b9 : Option Value} {x : Nat} {L : az_Ls} {st : List Value} {G : az_G} {K : az_O → Prop}, az_W xs d k pc (a0 :: a1 :: a2 :: a3 :: a4 :: a5 :: a6 :: b9 :: L) (.ref x :: st) G K ↔ az_W xs d k nx (a0 :: a1 :: a2 :: a3 :: a4 :: a5 :: a6 :: some (.ref x) :: L) st G K
theorem w_as7 {k pc : Nat} (hd : decode (az_code k) pc = .ok (.astore 7, 2)) : T_as7 k pc (pc + 2) := by
  intro xs d a0 a1 a2 a3 a4 a5 a6 b9 x L st G K
  exact az_W_s hd rfl rfl rfl (if_pos (e := none) (show 7 < (a0 :: a1 :: a2 :: a3 :: a4 :: a5 :: a6 :: b9 :: L).length by simp))
abbrev T_inc7 (k pc nx : Nat) (v : Int32) : Prop := ∀ {xs : az_X} {d : Nat} {a0 : Option Value} {a1 : Option Value} {a2 : Option Value} {a3 : Option Value} {a4 : Option Value} {a5 : Option Value} {a6 : Option Value} {x : Int32} {L : az_Ls} {st : List Value} {G : az_G} {K : az_O → Prop}, az_W xs d k pc (a0 :: a1 :: a2 :: a3 :: a4 :: a5 :: a6 :: some (.int x) :: L) st G K ↔ az_W xs d k nx (a0 :: a1 :: a2 :: a3 :: a4 :: a5 :: a6 :: some (.int (x + v)) :: L) st G K
theorem w_inc7 {k pc : Nat} {c : Int} {v : Int32} (hd : decode (az_code k) pc = .ok (.iinc 7 c, 3)) (hv : Int32.ofInt c = v) : T_inc7 k pc (pc + 3) v := by
  intros
  subst hv
  exact az_W_s hd rfl rfl rfl rfl
abbrev T_il8 (k pc nx : Nat) : Prop := ∀ {xs : az_X} {d : Nat} {a0 : Option Value} {a1 : Option Value} {a2 : Option Value} {a3 : Option Value} {a4 : Option Value} {a5 : Option Value} {a6 : Option Value} {a7 : Option Value} {x : Int32} {L : az_Ls} {st : List Value} {G : az_G} {K : az_O → Prop}, az_W xs d k pc (a0 :: a1 :: a2 :: a3 :: a4 :: a5 :: a6 :: a7 :: some (.int x) :: L) st G K ↔ az_W xs d k nx (a0 :: a1 :: a2 :: a3 :: a4 :: a5 :: a6 :: a7 :: some (.int x) :: L) (.int x :: st) G K
theorem w_il8 {k pc : Nat} (hd : decode (az_code k) pc = .ok (.iload 8, 2)) : T_il8 k pc (pc + 2) := by
  intros
  exact az_W_s hd rfl rfl rfl rfl
abbrev T_al8 (k pc nx : Nat) : Prop := ∀ {xs : az_X} {d : Nat} {a0 : Option Value} {a1 : Option Value} {a2 : Option Value} {a3 : Option Value} {a4 : Option Value} {a5 : Option Value} {a6 : Option Value} {a7 : Option Value} {x : Nat} {L : az_Ls} {st : List Value} {G : az_G} {K : az_O → Prop}, az_W xs d k pc (a0 :: a1 :: a2 :: a3 :: a4 :: a5 :: a6 :: a7 :: some (.ref x) :: L) st G K ↔ az_W xs d k nx (a0 :: a1 :: a2 :: a3 :: a4 :: a5 :: a6 :: a7 :: some (.ref x) :: L) (.ref x :: st) G K
theorem w_al8 {k pc : Nat} (hd : decode (az_code k) pc = .ok (.aload 8, 2)) : T_al8 k pc (pc + 2) := by
  intros
  exact az_W_s hd rfl rfl rfl rfl
abbrev T_is8 (k pc nx : Nat) : Prop := ∀ {xs : az_X} {d : Nat} {a0 : Option Value} {a1 : Option Value} {a2 : Option Value} {a3 : Option Value} {a4 : Option Value} {a5 : Option Value} {a6 : Option Value} {a7 : Option Value} {b9 : Option Value} {x : Int32} {L : az_Ls} {st : List Value} {G : az_G} {K : az_O → Prop}, az_W xs d k pc (a0 :: a1 :: a2 :: a3 :: a4 :: a5 :: a6 :: a7 :: b9 :: L) (.int x :: st) G K ↔ az_W xs d k nx (a0 :: a1 :: a2 :: a3 :: a4 :: a5 :: a6 :: a7 :: some (.int x) :: L) st G K
theorem w_is8 {k pc : Nat} (hd : decode (az_code k) pc = .ok (.istore 8, 2)) : T_is8 k pc (pc + 2) := by
  intro xs d a0 a1 a2 a3 a4 a5 a6 a7 b9 x L st G K
  exact az_W_s hd rfl rfl rfl (if_pos (e := none) (show 8 < (a0 :: a1 :: a2 :: a3 :: a4 :: a5 :: a6 :: a7 :: b9 :: L).length by simp))
abbrev T_as8 (k pc nx : Nat) : Prop := ∀ {xs : az_X} {d : Nat} {a0 : Option Value} {a1 : Option Value} {a2 : Option Value} {a3 : Option Value} {a4 : Option Value} {a5 : Option Value} {a6 : Option Value} {a7 : Option Value} {b9 : Option Value} {x : Nat} {L : az_Ls} {st : List Value} {G : az_G} {K : az_O → Prop}, az_W xs d k pc (a0 :: a1 :: a2 :: a3 :: a4 :: a5 :: a6 :: a7 :: b9 :: L) (.ref x :: st) G K ↔ az_W xs d k nx (a0 :: a1 :: a2 :: a3 :: a4 :: a5 :: a6 :: a7 :: some (.ref x) :: L) st G K
theorem w_as8 {k pc : Nat} (hd : decode (az_code k) pc = .ok (.astore 8, 2)) : T_as8 k pc (pc + 2) := by
  intro xs d a0 a1 a2 a3 a4 a5 a6 a7 b9 x L st G K
  exact az_W_s hd rfl rfl rfl (if_pos (e := none) (show 8 < (a0 :: a1 :: a2 :: a3 :: a4 :: a5 :: a6 :: a7 :: b9 :: L).length by simp))
abbrev T_inc8 (k pc nx : Nat) (v : Int32) : Prop := ∀ {xs : az_X} {d : Nat} {a0 : Option Value} {a1 : Option Value} {a2 : Option Value} {a3 : Option Value} {a4 : Option Value} {a5 : Option Value} {a6 : Option Value} {a7 : Option Value} {x : Int32} {L : az_Ls} {st : List Value} {G : az_G} {K : az_O → Prop}, az_W xs d k pc (a0 :: a1 :: a2 :: a3 :: a4 :: a5 :: a6 :: a7 :: some (.int x) :: L) st G K ↔ az_W xs d k nx (a0 :: a1 :: a2 :: a3 :: a4 :: a5 :: a6 :: a7 :: some (.int (x + v)) :: L) st G K
theorem w_inc8 {k pc : Nat} {c : Int} {v : Int32} (hd : decode (az_code k) pc = .ok (.iinc 8 c, 3)) (hv : Int32.ofInt c = v) : T_inc8 k pc (pc + 3) v := by
  intros
  subst hv
  exact az_W_s hd rfl rfl rfl rfl
abbrev T_iadd (k pc nx : Nat) : Prop := ∀ {xs : az_X} {d : Nat} {x y : Int32} {L : az_Ls} {st : List Value} {G : az_G} {K : az_O → Prop}, az_W xs d k pc L (.int y :: .int x :: st) G K ↔ az_W xs d k nx L (.int (x + y) :: st) G K
theorem w_iadd {k pc : Nat} (hd : decode (az_code k) pc = .ok (.iadd, 1)) : T_iadd k pc (pc + 1) := by
  intros
  exact az_W_s hd rfl rfl rfl rfl
abbrev T_isub (k pc nx : Nat) : Prop := ∀ {xs : az_X} {d : Nat} {x y : Int32} {L : az_Ls} {st : List Value} {G : az_G} {K : az_O → Prop}, az_W xs d k pc L (.int y :: .int x :: st) G K ↔ az_W xs d k nx L (.int (x - y) :: st) G K
theorem w_isub {k pc : Nat} (hd : decode (az_code k) pc = .ok (.isub, 1)) : T_isub k pc (pc + 1) := by
  intros
  exact az_W_s hd rfl rfl rfl rfl
abbrev T_imul (k pc nx : Nat) : Prop := ∀ {xs : az_X} {d : Nat} {x y : Int32} {L : az_Ls} {st : List Value} {G : az_G} {K : az_O → Prop}, az_W xs d k pc L (.int y :: .int x :: st) G K ↔ az_W xs d k nx L (.int (x * y) :: st) G K
theorem w_imul {k pc : Nat} (hd : decode (az_code k) pc = .ok (.imul, 1)) : T_imul k pc (pc + 1) := by
  intros
  exact az_W_s hd rfl rfl rfl rfl
abbrev T_iand (k pc nx : Nat) : Prop := ∀ {xs : az_X} {d : Nat} {x y : Int32} {L : az_Ls} {st : List Value} {G : az_G} {K : az_O → Prop}, az_W xs d k pc L (.int y :: .int x :: st) G K ↔ az_W xs d k nx L (.int (x &&& y) :: st) G K
theorem w_iand {k pc : Nat} (hd : decode (az_code k) pc = .ok (.iand, 1)) : T_iand k pc (pc + 1) := by
  intros
  exact az_W_s hd rfl rfl rfl rfl
abbrev T_ior (k pc nx : Nat) : Prop := ∀ {xs : az_X} {d : Nat} {x y : Int32} {L : az_Ls} {st : List Value} {G : az_G} {K : az_O → Prop}, az_W xs d k pc L (.int y :: .int x :: st) G K ↔ az_W xs d k nx L (.int (x ||| y) :: st) G K
theorem w_ior {k pc : Nat} (hd : decode (az_code k) pc = .ok (.ior, 1)) : T_ior k pc (pc + 1) := by
  intros
  exact az_W_s hd rfl rfl rfl rfl
abbrev T_ixor (k pc nx : Nat) : Prop := ∀ {xs : az_X} {d : Nat} {x y : Int32} {L : az_Ls} {st : List Value} {G : az_G} {K : az_O → Prop}, az_W xs d k pc L (.int y :: .int x :: st) G K ↔ az_W xs d k nx L (.int (x ^^^ y) :: st) G K
theorem w_ixor {k pc : Nat} (hd : decode (az_code k) pc = .ok (.ixor, 1)) : T_ixor k pc (pc + 1) := by
  intros
  exact az_W_s hd rfl rfl rfl rfl
abbrev T_ishl (k pc nx : Nat) : Prop := ∀ {xs : az_X} {d : Nat} {x y : Int32} {L : az_Ls} {st : List Value} {G : az_G} {K : az_O → Prop}, az_W xs d k pc L (.int y :: .int x :: st) G K ↔ az_W xs d k nx L (.int (x <<< (y &&& 31)) :: st) G K
theorem w_ishl {k pc : Nat} (hd : decode (az_code k) pc = .ok (.ishl, 1)) : T_ishl k pc (pc + 1) := by
  intros
  exact az_W_s hd rfl rfl rfl rfl
abbrev T_ishr (k pc nx : Nat) : Prop := ∀ {xs : az_X} {d : Nat} {x y : Int32} {L : az_Ls} {st : List Value} {G : az_G} {K : az_O → Prop}, az_W xs d k pc L (.int y :: .int x :: st) G K ↔ az_W xs d k nx L (.int (x >>> (y &&& 31)) :: st) G K
theorem w_ishr {k pc : Nat} (hd : decode (az_code k) pc = .ok (.ishr, 1)) : T_ishr k pc (pc + 1) := by
  intros
  exact az_W_s hd rfl rfl rfl rfl
abbrev T_iushr (k pc nx : Nat) : Prop := ∀ {xs : az_X} {d : Nat} {x y : Int32} {L : az_Ls} {st : List Value} {G : az_G} {K : az_O → Prop}, az_W xs d k pc L (.int y :: .int x :: st) G K ↔ az_W xs d k nx L (.int ((x.toUInt32 >>> (y.toUInt32 &&& Int32.toUInt32 31)).toInt32) :: st) G K
theorem w_iushr {k pc : Nat} (hd : decode (az_code k) pc = .ok (.iushr, 1)) : T_iushr k pc (pc + 1) := by
  intros
  exact az_W_s hd rfl rfl rfl rfl
abbrev T_idiv (k pc nx : Nat) : Prop := ∀ {xs : az_X} {d : Nat} {x y : Int32} {L : az_Ls} {st : List Value} {G : az_G} {K : az_O → Prop}, az_W xs d k pc L (.int y :: .int x :: st) G K ↔ ¬ y = 0 ∧ az_W xs d k nx L (.int (x / y) :: st) G K
theorem w_idiv {k pc : Nat} (hd : decode (az_code k) pc = .ok (.idiv, 1)) : T_idiv k pc (pc + 1) := by
  intros
  exact az_W_c hd rfl rfl rfl (fun h => if_neg h) (fun h => if_pos (Classical.not_not.mp h))
abbrev T_irem (k pc nx : Nat) : Prop := ∀ {xs : az_X} {d : Nat} {x y : Int32} {L : az_Ls} {st : List Value} {G : az_G} {K : az_O → Prop}, az_W xs d k pc L (.int y :: .int x :: st) G K ↔ ¬ y = 0 ∧ az_W xs d k nx L (.int (x - x / y * y) :: st) G K
theorem w_irem {k pc : Nat} (hd : decode (az_code k) pc = .ok (.irem, 1)) : T_irem k pc (pc + 1) := by
  intros
  exact az_W_c hd rfl rfl rfl (fun h => if_neg h) (fun h => if_pos (Classical.not_not.mp h))
abbrev T_ineg (k pc nx : Nat) : Prop := ∀ {xs : az_X} {d : Nat} {x : Int32} {L : az_Ls} {st : List Value} {G : az_G} {K : az_O → Prop}, az_W xs d k pc L (.int x :: st) G K ↔ az_W xs d k nx L (.int (-x) :: st) G K
theorem w_ineg {k pc : Nat} (hd : decode (az_code k) pc = .ok (.ineg, 1)) : T_ineg k pc (pc + 1) := by
  intros
  exact az_W_s hd rfl rfl rfl rfl
abbrev T_i2l (k pc nx : Nat) : Prop := ∀ {xs : az_X} {d : Nat} {x : Int32} {L : az_Ls} {st : List Value} {G : az_G} {K : az_O → Prop}, az_W xs d k pc L (.int x :: st) G K ↔ az_W xs d k nx L (.long x.toInt64 :: st) G K
theorem w_i2l {k pc : Nat} (hd : decode (az_code k) pc = .ok (.i2l, 1)) : T_i2l k pc (pc + 1) := by
  intros
  exact az_W_s hd rfl rfl rfl rfl
abbrev T_lcmp (k pc nx : Nat) : Prop := ∀ {xs : az_X} {d : Nat} {x y : Int64} {L : az_Ls} {st : List Value} {G : az_G} {K : az_O → Prop}, az_W xs d k pc L (.long y :: .long x :: st) G K ↔ az_W xs d k nx L (.int (lg_cmp x y) :: st) G K
theorem w_lcmp {k pc : Nat} (hd : decode (az_code k) pc = .ok (.lcmp, 1)) : T_lcmp k pc (pc + 1) := by
  intros
  exact az_W_s hd rfl rfl rfl rfl
theorem az_br_iff {xs : az_X} {d k pc tgt : Nat} {i : Instr} {len : Nat} {b : Bool} {off : Int} {L : az_Ls} {st r : List Value} {G : az_G} {K : az_O → Prop} {c : Prop} [Decidable c] (hd : decode (az_code k) pc = .ok (i, len)) (hil : az_il i len = true) (he : az_end k i pc st G = none) (hc : az_cal k i st G.1 = none)
    (hs : az_stp xs k i pc (pc + len) L st G = az_br b off pc (pc + len) L r G) (ht : (pc : Int) + off = (tgt : Int)) (hb : b = decide c) : az_W xs d k pc L st G K ↔ if c then az_W xs d k tgt L r G K else az_W xs d k (pc + len) L r G K := by
  have h0 : 0 ≤ (pc : Int) + off := by rw [ht]; exact Int.natCast_nonneg _
  have ht' : ((pc : Int) + off).toNat = tgt := by rw [ht]; rfl
  unfold az_br at hs
  rw [if_pos h0, ht'] at hs
  by_cases h : c
  · rw [if_pos h]
    rw [if_pos (by rw [hb]; exact decide_eq_true h)] at hs
    exact az_W_s hd hil he hc hs
  · rw [if_neg h]
    rw [if_neg (by rw [hb]; simp [h])] at hs
    exact az_W_s hd hil he hc hs
abbrev T_if_eq (k pc nx tgt : Nat) : Prop := ∀ {xs : az_X} {d : Nat} {x : Int32} {L : az_Ls} {st : List Value} {G : az_G} {K : az_O → Prop}, az_W xs d k pc L (.int x :: st) G K ↔ if x = 0 then az_W xs d k tgt L st G K else az_W xs d k nx L st G K
theorem w_if_eq {k pc tgt : Nat} {off : Int} (hd : decode (az_code k) pc = .ok (.ifCond .eq off, 3)) (ht : (pc : Int) + off = (tgt : Int)) : T_if_eq k pc (pc + 3) tgt := by
  intros
  exact az_br_iff hd rfl rfl rfl rfl ht rfl
abbrev T_ic_eq (k pc nx tgt : Nat) : Prop := ∀ {xs : az_X} {d : Nat} {x y : Int32} {L : az_Ls} {st : List Value} {G : az_G} {K : az_O → Prop}, az_W xs d k pc L (.int y :: .int x :: st) G K ↔ if x = y then az_W xs d k tgt L st G K else az_W xs d k nx L st G K
theorem w_ic_eq {k pc tgt : Nat} {off : Int} (hd : decode (az_code k) pc = .ok (.if_icmp .eq off, 3)) (ht : (pc : Int) + off = (tgt : Int)) : T_ic_eq k pc (pc + 3) tgt := by
  intros
  exact az_br_iff hd rfl rfl rfl rfl ht rfl
abbrev T_if_ne (k pc nx tgt : Nat) : Prop := ∀ {xs : az_X} {d : Nat} {x : Int32} {L : az_Ls} {st : List Value} {G : az_G} {K : az_O → Prop}, az_W xs d k pc L (.int x :: st) G K ↔ if ¬ x = 0 then az_W xs d k tgt L st G K else az_W xs d k nx L st G K
theorem w_if_ne {k pc tgt : Nat} {off : Int} (hd : decode (az_code k) pc = .ok (.ifCond .ne off, 3)) (ht : (pc : Int) + off = (tgt : Int)) : T_if_ne k pc (pc + 3) tgt := by
  intros
  exact az_br_iff hd rfl rfl rfl rfl ht rfl
abbrev T_ic_ne (k pc nx tgt : Nat) : Prop := ∀ {xs : az_X} {d : Nat} {x y : Int32} {L : az_Ls} {st : List Value} {G : az_G} {K : az_O → Prop}, az_W xs d k pc L (.int y :: .int x :: st) G K ↔ if ¬ x = y then az_W xs d k tgt L st G K else az_W xs d k nx L st G K
theorem w_ic_ne {k pc tgt : Nat} {off : Int} (hd : decode (az_code k) pc = .ok (.if_icmp .ne off, 3)) (ht : (pc : Int) + off = (tgt : Int)) : T_ic_ne k pc (pc + 3) tgt := by
  intros
  exact az_br_iff hd rfl rfl rfl rfl ht rfl
abbrev T_if_lt (k pc nx tgt : Nat) : Prop := ∀ {xs : az_X} {d : Nat} {x : Int32} {L : az_Ls} {st : List Value} {G : az_G} {K : az_O → Prop}, az_W xs d k pc L (.int x :: st) G K ↔ if x < 0 then az_W xs d k tgt L st G K else az_W xs d k nx L st G K
theorem w_if_lt {k pc tgt : Nat} {off : Int} (hd : decode (az_code k) pc = .ok (.ifCond .lt off, 3)) (ht : (pc : Int) + off = (tgt : Int)) : T_if_lt k pc (pc + 3) tgt := by
  intros
  exact az_br_iff hd rfl rfl rfl rfl ht rfl
abbrev T_ic_lt (k pc nx tgt : Nat) : Prop := ∀ {xs : az_X} {d : Nat} {x y : Int32} {L : az_Ls} {st : List Value} {G : az_G} {K : az_O → Prop}, az_W xs d k pc L (.int y :: .int x :: st) G K ↔ if x < y then az_W xs d k tgt L st G K else az_W xs d k nx L st G K
theorem w_ic_lt {k pc tgt : Nat} {off : Int} (hd : decode (az_code k) pc = .ok (.if_icmp .lt off, 3)) (ht : (pc : Int) + off = (tgt : Int)) : T_ic_lt k pc (pc + 3) tgt := by
  intros
  exact az_br_iff hd rfl rfl rfl rfl ht rfl
abbrev T_if_ge (k pc nx tgt : Nat) : Prop := ∀ {xs : az_X} {d : Nat} {x : Int32} {L : az_Ls} {st : List Value} {G : az_G} {K : az_O → Prop}, az_W xs d k pc L (.int x :: st) G K ↔ if 0 ≤ x then az_W xs d k tgt L st G K else az_W xs d k nx L st G K
theorem w_if_ge {k pc tgt : Nat} {off : Int} (hd : decode (az_code k) pc = .ok (.ifCond .ge off, 3)) (ht : (pc : Int) + off = (tgt : Int)) : T_if_ge k pc (pc + 3) tgt := by
  intros
  exact az_br_iff hd rfl rfl rfl rfl ht rfl
abbrev T_ic_ge (k pc nx tgt : Nat) : Prop := ∀ {xs : az_X} {d : Nat} {x y : Int32} {L : az_Ls} {st : List Value} {G : az_G} {K : az_O → Prop}, az_W xs d k pc L (.int y :: .int x :: st) G K ↔ if y ≤ x then az_W xs d k tgt L st G K else az_W xs d k nx L st G K
theorem w_ic_ge {k pc tgt : Nat} {off : Int} (hd : decode (az_code k) pc = .ok (.if_icmp .ge off, 3)) (ht : (pc : Int) + off = (tgt : Int)) : T_ic_ge k pc (pc + 3) tgt := by
  intros
  exact az_br_iff hd rfl rfl rfl rfl ht rfl
abbrev T_if_gt (k pc nx tgt : Nat) : Prop := ∀ {xs : az_X} {d : Nat} {x : Int32} {L : az_Ls} {st : List Value} {G : az_G} {K : az_O → Prop}, az_W xs d k pc L (.int x :: st) G K ↔ if 0 < x then az_W xs d k tgt L st G K else az_W xs d k nx L st G K
theorem w_if_gt {k pc tgt : Nat} {off : Int} (hd : decode (az_code k) pc = .ok (.ifCond .gt off, 3)) (ht : (pc : Int) + off = (tgt : Int)) : T_if_gt k pc (pc + 3) tgt := by
  intros
  exact az_br_iff hd rfl rfl rfl rfl ht rfl
abbrev T_ic_gt (k pc nx tgt : Nat) : Prop := ∀ {xs : az_X} {d : Nat} {x y : Int32} {L : az_Ls} {st : List Value} {G : az_G} {K : az_O → Prop}, az_W xs d k pc L (.int y :: .int x :: st) G K ↔ if y < x then az_W xs d k tgt L st G K else az_W xs d k nx L st G K
theorem w_ic_gt {k pc tgt : Nat} {off : Int} (hd : decode (az_code k) pc = .ok (.if_icmp .gt off, 3)) (ht : (pc : Int) + off = (tgt : Int)) : T_ic_gt k pc (pc + 3) tgt := by
  intros
  exact az_br_iff hd rfl rfl rfl rfl ht rfl
abbrev T_if_le (k pc nx tgt : Nat) : Prop := ∀ {xs : az_X} {d : Nat} {x : Int32} {L : az_Ls} {st : List Value} {G : az_G} {K : az_O → Prop}, az_W xs d k pc L (.int x :: st) G K ↔ if x ≤ 0 then az_W xs d k tgt L st G K else az_W xs d k nx L st G K
theorem w_if_le {k pc tgt : Nat} {off : Int} (hd : decode (az_code k) pc = .ok (.ifCond .le off, 3)) (ht : (pc : Int) + off = (tgt : Int)) : T_if_le k pc (pc + 3) tgt := by
  intros
  exact az_br_iff hd rfl rfl rfl rfl ht rfl
abbrev T_ic_le (k pc nx tgt : Nat) : Prop := ∀ {xs : az_X} {d : Nat} {x y : Int32} {L : az_Ls} {st : List Value} {G : az_G} {K : az_O → Prop}, az_W xs d k pc L (.int y :: .int x :: st) G K ↔ if x ≤ y then az_W xs d k tgt L st G K else az_W xs d k nx L st G K
theorem w_ic_le {k pc tgt : Nat} {off : Int} (hd : decode (az_code k) pc = .ok (.if_icmp .le off, 3)) (ht : (pc : Int) + off = (tgt : Int)) : T_ic_le k pc (pc + 3) tgt := by
  intros
  exact az_br_iff hd rfl rfl rfl rfl ht rfl
abbrev T_goto (k pc tgt : Nat) : Prop := ∀ {xs : az_X} {d : Nat} {L : az_Ls} {st : List Value} {G : az_G} {K : az_O → Prop}, az_W xs d k pc L st G K ↔ az_W xs d k tgt L st G K
theorem w_goto {k pc tgt : Nat} {off : Int} (hd : decode (az_code k) pc = .ok (.goto off, 3)) (ht : (pc : Int) + off = (tgt : Int)) : T_goto k pc tgt := by
  intros
  exact (az_br_iff (c := True) hd rfl rfl rfl rfl ht rfl).trans (by rw [if_pos trivial])
def az_tsf (ts : List Nat) (dt : Nat) (x : Int32) : Nat := if x.toInt < 0 ∨ (ts.length : Int) ≤ x.toInt then dt else ts.getD x.toInt.toNat dt
abbrev T_tsw (k pc : Nat) (ts : List Nat) (dt : Nat) : Prop := ∀ {xs : az_X} {d : Nat} {x : Int32} {L : az_Ls} {st : List Value} {G : az_G} {K : az_O → Prop}, az_W xs d k pc L (.int x :: st) G K ↔ az_W xs d k (az_tsf ts dt x) L st G K
def az_tok (pc : Nat) (offs : Array Int) (ts : List Nat) : Bool := decide (offs.size = ts.length) && (List.range ts.length).all fun j => decide (offs[j]? = some ((ts.getD j 0 : Nat) - (pc : Int)))
theorem w_tsw {k pc len dt : Nat} {dd hi : Int} {offs : Array Int} {ts : List Nat} (hd : decode (az_code k) pc = .ok (.tableswitch dd 0 hi offs, len)) (h1 : (pc : Int) + dd = (dt : Int)) (h2 : hi + 1 = (ts.length : Int)) (h3 : az_tok pc offs ts = true) : T_tsw k pc ts dt := by
  intro xs d x L st G K
  unfold az_tok at h3
  simp only [Bool.and_eq_true, decide_eq_true_eq, List.all_eq_true, List.mem_range] at h3
  obtain ⟨hsz, hall⟩ := h3
  have hs : az_stp xs k (.tableswitch dd 0 hi offs) pc (pc + len) L (.int x :: st) G = some (az_tsf ts dt x, L, st, G) := by
    show az_tsw dd 0 hi offs pc L (.int x :: st) G = _
    unfold az_tsw az_tsf
    by_cases hx : x.toInt < 0 ∨ hi < x.toInt
    · have hx' : x.toInt < 0 ∨ (ts.length : Int) ≤ x.toInt := by omega
      dsimp only
      rw [if_pos hx, if_pos hx']
      unfold az_br
      rw [if_pos (by rw [h1]; exact Int.natCast_nonneg _), h1]
      rfl
    · have hx' : ¬ (x.toInt < 0 ∨ (ts.length : Int) ≤ x.toInt) := by omega
      dsimp only
      rw [if_neg hx, if_neg hx']
      have hj : (x.toInt - 0).toNat < ts.length := by omega
      rw [hall _ hj]
      dsimp only
      unfold az_br
      have e1 : (pc : Int) + ((ts.getD (x.toInt - 0).toNat 0 : Nat) - (pc : Int)) = (ts.getD (x.toInt - 0).toNat 0 : Nat) := by omega
      rw [e1, if_pos (Int.natCast_nonneg _)]
      have e2 : ts.getD (x.toInt - 0).toNat 0 = ts.getD x.toInt.toNat dt := by
        rw [show x.toInt - 0 = x.toInt by omega]
        have hj' : x.toInt.toNat < ts.length := by omega
        rw [List.getD, List.getD, List.getElem?_eq_getElem hj']
        rfl
      rw [e2]
      rfl
  exact az_W_s hd rfl rfl rfl hs
abbrev T_dup (k pc nx : Nat) : Prop := ∀ {xs : az_X} {d : Nat} {v : Value} {L : az_Ls} {st : List Value} {G : az_G} {K : az_O → Prop}, az_W xs d k pc L (v :: st) G K ↔ v.category = 1 ∧ az_W xs d k nx L (v :: v :: st) G K
theorem w_dup {k pc : Nat} (hd : decode (az_code k) pc = .ok (.dup, 1)) : T_dup k pc (pc + 1) := by
  intros
  exact az_W_c hd rfl rfl rfl (fun h => if_pos h) (fun h => if_neg h)
abbrev T_dup2 (k pc nx : Nat) : Prop := ∀ {xs : az_X} {d : Nat} {v w : Value} {L : az_Ls} {st : List Value} {G : az_G} {K : az_O → Prop}, az_W xs d k pc L (v :: w :: st) G K ↔ (v.category = 1 ∧ w.category = 1) ∧ az_W xs d k nx L (v :: w :: v :: w :: st) G K
theorem w_dup2 {k pc : Nat} (hd : decode (az_code k) pc = .ok (.dup2, 1)) : T_dup2 k pc (pc + 1) := by
  intros
  exact az_W_c hd rfl rfl rfl (fun h => if_pos h) (fun h => if_neg h)
abbrev T_gf (k pc nx ci j : Nat) : Prop := ∀ {xs : az_X} {d : Nat} {a : Nat} {L : az_Ls} {st : List Value} {S : List az_Shp} {I : Nat → Nat → Int32} {Z : (Nat → Nat → Int64) × Nat × Nat} {K : az_O → Prop}, az_W xs d k pc L (.ref a :: st) (S, I, Z) K ↔ ∃ v, az_gfl S I a ci j = some v ∧ az_W xs d k nx L (v :: st) (S, I, Z) K
theorem w_gf {k pc x ci j : Nat} (hd : decode (az_code k) pc = .ok (.getfield x, 3)) (hl : az_lk (az_own k) x = some (0, ci, j)) : T_gf k pc (pc + 3) ci j := by
  intro xs d a L st S I Z K
  cases hv : az_gfl S I a ci j with
  | none =>
    constructor
    · rintro ⟨f, o, h1, -⟩
      cases f with
      | zero => cases h1
      | succ f =>
        rw [az_run_s hd rfl rfl rfl] at h1
        have hs : az_stp xs k (.getfield x) pc (pc + 3) L (.ref a :: st) (S, I, Z) = none := by
          show az_gf k x (pc + 3) L (.ref a :: st) (S, I, Z) = none
          unfold az_gf
          rw [hl]
          show (match az_gfl S I a ci j with | some v => some (pc + 3, L, v :: st, (S, I, Z)) | none => none) = none
          rw [hv]
        rw [hs] at h1
        cases h1
    · rintro ⟨v, h, -⟩
      cases h
  | some v =>
    have hs : az_stp xs k (.getfield x) pc (pc + 3) L (.ref a :: st) (S, I, Z) = some (pc + 3, L, v :: st, (S, I, Z)) := by
      show az_gf k x (pc + 3) L (.ref a :: st) (S, I, Z) = _
      unfold az_gf
      rw [hl]
      show (match az_gfl S I a ci j with | some v => some (pc + 3, L, v :: st, (S, I, Z)) | none => none) = _
      rw [hv]
    rw [az_W_s hd rfl rfl rfl hs]
    constructor
    · exact fun h => ⟨v, rfl, h⟩
    · rintro ⟨w, h, hw⟩
      cases h
      exact hw
abbrev T_pf (k pc nx ci j : Nat) : Prop := ∀ {xs : az_X} {d : Nat} {v : Int32} {a : Nat} {L : az_Ls} {st : List Value} {S : List az_Shp} {I : Nat → Nat → Int32} {Z : (Nat → Nat → Int64) × Nat × Nat} {K : az_O → Prop}, az_W xs d k pc L (.int v :: .ref a :: st) (S, I, Z) K ↔ az_pfi S k a ci j = true ∧ az_W xs d k nx L st (S, az_up I a j v, Z) K
theorem w_pf {k pc x ci j : Nat} (hd : decode (az_code k) pc = .ok (.putfield x, 3)) (hl : az_lk (az_own k) x = some (0, ci, j)) : T_pf k pc (pc + 3) ci j := by
  intro xs d v a L st S I Z K
  have hs : az_stp xs k (.putfield x) pc (pc + 3) L (.int v :: .ref a :: st) (S, I, Z) = if az_pfi S k a ci j = true then some (pc + 3, L, st, (S, az_up I a j v, Z)) else none := by
    show az_pf k x (pc + 3) L (.int v :: .ref a :: st) (S, I, Z) = _
    unfold az_pf
    rw [hl]
    rfl
  exact az_W_c hd rfl rfl rfl (fun h => hs.trans (if_pos h)) (fun h => hs.trans (if_neg h))
abbrev T_pr (k pc nx ci j : Nat) : Prop := ∀ {xs : az_X} {d : Nat} {v : Nat} {a : Nat} {L : az_Ls} {st : List Value} {S : List az_Shp} {I : Nat → Nat → Int32} {Z : (Nat → Nat → Int64) × Nat × Nat} {K : az_O → Prop}, az_W xs d k pc L (.ref v :: .ref a :: st) (S, I, Z) K ↔ ∃ S2, az_pfr S k a ci j v = some S2 ∧ az_W xs d k nx L st (S2, I, Z) K
theorem w_pr {k pc x ci j : Nat} (hd : decode (az_code k) pc = .ok (.putfield x, 3)) (hl : az_lk (az_own k) x = some (0, ci, j)) : T_pr k pc (pc + 3) ci j := by
  intro xs d v a L st S I Z K
  cases hv : az_pfr S k a ci j v with
  | none =>
    constructor
    · rintro ⟨f, o, h1, -⟩
      cases f with
      | zero => cases h1
      | succ f =>
        rw [az_run_s hd rfl rfl rfl] at h1
        have hs : az_stp xs k (.putfield x) pc (pc + 3) L (.ref v :: .ref a :: st) (S, I, Z) = none := by
          show az_pf k x (pc + 3) L (.ref v :: .ref a :: st) (S, I, Z) = none
          unfold az_pf
          rw [hl]
          show (match az_pfr S k a ci j v with | some S2 => some (pc + 3, L, st, (S2, I, Z)) | none => none) = none
          rw [hv]
        rw [hs] at h1
        cases h1
    · rintro ⟨v, h, -⟩
      cases h
  | some S2 =>
    have hs : az_stp xs k (.putfield x) pc (pc + 3) L (.ref v :: .ref a :: st) (S, I, Z) = some (pc + 3, L, st, (S2, I, Z)) := by
      show az_pf k x (pc + 3) L (.ref v :: .ref a :: st) (S, I, Z) = _
      unfold az_pf
      rw [hl]
      show (match az_pfr S k a ci j v with | some S2 => some (pc + 3, L, st, (S2, I, Z)) | none => none) = _
      rw [hv]
    rw [az_W_s hd rfl rfl rfl hs]
    constructor
    · exact fun h => ⟨S2, rfl, h⟩
    · rintro ⟨w, h, hw⟩
      cases h
      exact hw
abbrev T_ia (k pc nx : Nat) : Prop := ∀ {xs : az_X} {d : Nat} {i : Int32} {a : Nat} {L : az_Ls} {st : List Value} {S : List az_Shp} {I : Nat → Nat → Int32} {Z : (Nat → Nat → Int64) × Nat × Nat} {K : az_O → Prop}, az_W xs d k pc L (.int i :: .ref a :: st) (S, I, Z) K ↔ az_isA S 1 a i = true ∧ az_W xs d k nx L (.int (I a i.toNatClampNeg) :: st) (S, I, Z) K
theorem w_ia {k pc : Nat} (hd : decode (az_code k) pc = .ok (.iaload, 1)) (hk : ¬ k = az_main) : T_ia k pc (pc + 1) := by
  intro xs d i a L st S I Z K
  have hs : az_stp xs k .iaload pc (pc + 1) L (.int i :: .ref a :: st) (S, I, Z) = if az_isA S 1 a i = true then some (pc + 1, L, .int (I a i.toNatClampNeg) :: st, (S, I, Z)) else none := by
    show az_ial xs 1 k (pc + 1) L (.int i :: .ref a :: st) (S, I, Z) = _
    unfold az_ial
    dsimp only
    rw [if_neg hk]
  exact az_W_c hd rfl rfl rfl (fun h => hs.trans (if_pos h)) (fun h => hs.trans (if_neg h))
abbrev T_ba (k pc nx : Nat) : Prop := ∀ {xs : az_X} {d : Nat} {i : Int32} {a : Nat} {L : az_Ls} {st : List Value} {S : List az_Shp} {I : Nat → Nat → Int32} {Z : (Nat → Nat → Int64) × Nat × Nat} {K : az_O → Prop}, az_W xs d k pc L (.int i :: .ref a :: st) (S, I, Z) K ↔ az_isA S 2 a i = true ∧ az_W xs d k nx L (.int (I a i.toNatClampNeg) :: st) (S, I, Z) K
theorem w_ba {k pc : Nat} (hd : decode (az_code k) pc = .ok (.baload, 1)) (hk : ¬ k = az_main) : T_ba k pc (pc + 1) := by
  intro xs d i a L st S I Z K
  have hs : az_stp xs k .baload pc (pc + 1) L (.int i :: .ref a :: st) (S, I, Z) = if az_isA S 2 a i = true then some (pc + 1, L, .int (I a i.toNatClampNeg) :: st, (S, I, Z)) else none := by
    show az_ial xs 2 k (pc + 1) L (.int i :: .ref a :: st) (S, I, Z) = _
    unfold az_ial
    dsimp only
    rw [if_neg hk]
  exact az_W_c hd rfl rfl rfl (fun h => hs.trans (if_pos h)) (fun h => hs.trans (if_neg h))
abbrev T_sld (k pc nx : Nat) : Prop := ∀ {xs : az_X} {d : Nat} {i : Int32} {L : az_Ls} {st : List Value} {G : az_G} {K : az_O → Prop}, az_W xs d k pc L (.int i :: .ref az_scr :: st) G K ↔ az_in i xs.1 = true ∧ az_W xs d k nx L (.int (xs.2 i.toNatClampNeg) :: st) G K
theorem w_sld {k pc : Nat} (hd : decode (az_code k) pc = .ok (.iaload, 1)) (hk : k = az_main) : T_sld k pc (pc + 1) := by
  intro xs d i L st G K
  have hs : az_stp xs k .iaload pc (pc + 1) L (.int i :: .ref az_scr :: st) G = if az_scr = az_scr ∧ az_in i xs.1 = true ∧ 1 = 1 then some (pc + 1, L, .int (xs.2 i.toNatClampNeg) :: st, G) else none := by
    show az_ial xs 1 k (pc + 1) L (.int i :: .ref az_scr :: st) G = _
    unfold az_ial
    dsimp only
    rw [if_pos hk]
  exact az_W_c hd rfl rfl rfl (fun h => hs.trans (if_pos ⟨rfl, h, rfl⟩)) (fun h => hs.trans (if_neg (fun q => h q.2.1)))
abbrev T_slen (k pc nx : Nat) : Prop := ∀ {xs : az_X} {d : Nat} {L : az_Ls} {st : List Value} {G : az_G} {K : az_O → Prop}, az_W xs d k pc L (.ref az_scr :: st) G K ↔ az_W xs d k nx L (.int (Int32.ofNat xs.1) :: st) G K
theorem w_slen {k pc : Nat} (hd : decode (az_code k) pc = .ok (.arraylength, 1)) (hk : k = az_main) : T_slen k pc (pc + 1) := by
  intro xs d L st G K
  have hs : az_stp xs k .arraylength pc (pc + 1) L (.ref az_scr :: st) G = some (pc + 1, L, .int (Int32.ofNat xs.1) :: st, G) := by
    show az_len xs k (pc + 1) L (.ref az_scr :: st) G = _
    unfold az_len
    dsimp only
    rw [if_pos hk, if_pos rfl]
  exact az_W_s hd rfl rfl rfl hs
def az_aln (S : List az_Shp) (a : Nat) : Option Nat := match S[a]? with
  | some (1, n, _) => some n
  | _ => none
abbrev T_len (k pc nx : Nat) : Prop := ∀ {xs : az_X} {d : Nat} {a : Nat} {L : az_Ls} {st : List Value} {S : List az_Shp} {I : Nat → Nat → Int32} {Z : (Nat → Nat → Int64) × Nat × Nat} {K : az_O → Prop}, az_W xs d k pc L (.ref a :: st) (S, I, Z) K ↔ ∃ n, az_aln S a = some n ∧ az_W xs d k nx L (.int (Int32.ofNat n) :: st) (S, I, Z) K
theorem w_len {k pc : Nat} (hd : decode (az_code k) pc = .ok (.arraylength, 1)) (hk : ¬ k = az_main) : T_len k pc (pc + 1) := by
  intro xs d a L st S I Z K
  have hs : az_stp xs k .arraylength pc (pc + 1) L (.ref a :: st) (S, I, Z) = (az_aln S a).map fun n => (pc + 1, L, .int (Int32.ofNat n) :: st, (S, I, Z)) := by
    show az_len xs k (pc + 1) L (.ref a :: st) (S, I, Z) = _
    unfold az_len az_aln
    dsimp only
    rw [if_neg hk]
    cases S[a]? with
    | none => rfl
    | some sh =>
      obtain ⟨kd, n, sl⟩ := sh
      match kd with
      | 0 => rfl
      | 1 => rfl
      | kd + 2 => rfl
  cases hv : az_aln S a with
  | none =>
    rw [hv] at hs
    constructor
    · rintro ⟨f, o, h1, -⟩
      cases f with
      | zero => cases h1
      | succ f => rw [az_run_s hd rfl rfl rfl, hs] at h1; cases h1
    · rintro ⟨v, h, -⟩
      cases h
  | some v =>
    rw [hv] at hs
    rw [az_W_s hd rfl rfl rfl hs]
    constructor
    · exact fun h => ⟨v, rfl, h⟩
    · rintro ⟨w, h, hw⟩
      cases h
      exact hw
def az_row (S : List az_Shp) (a : Nat) (i : Int32) : Option Nat := match S[a]? with
  | some (4, n, sl) => if az_in i n = true then (match sl[i.toNatClampNeg]? with
    | some (some (some q)) => some q
    | _ => none) else none
  | _ => none
abbrev T_aa (k pc nx : Nat) : Prop := ∀ {xs : az_X} {d : Nat} {i : Int32} {a : Nat} {L : az_Ls} {st : List Value} {S : List az_Shp} {I : Nat → Nat → Int32} {Z : (Nat → Nat → Int64) × Nat × Nat} {K : az_O → Prop}, az_W xs d k pc L (.int i :: .ref a :: st) (S, I, Z) K ↔ ∃ q, az_row S a i = some q ∧ az_W xs d k nx L (.ref q :: st) (S, I, Z) K
theorem w_aa {k pc : Nat} (hd : decode (az_code k) pc = .ok (.aaload, 1)) : T_aa k pc (pc + 1) := by
  intro xs d i a L st S I Z K
  have hs : az_stp xs k .aaload pc (pc + 1) L (.int i :: .ref a :: st) (S, I, Z) = (az_row S a i).map fun q => (pc + 1, L, .ref q :: st, (S, I, Z)) := by
    show az_aal (pc + 1) L (.int i :: .ref a :: st) (S, I, Z) = _
    unfold az_aal az_row
    dsimp only
    cases S[a]? with
    | none => rfl
    | some sh =>
      obtain ⟨kd, n, sl⟩ := sh
      match kd with
      | 0 => rfl
      | 1 => rfl
      | 2 => rfl
      | 3 => rfl
      | 4 =>
        show (if az_in i n = true then _ else _) = Option.map _ (if az_in i n = true then _ else _)
        by_cases h : az_in i n = true
        · rw [if_pos h, if_pos h]
          cases sl[i.toNatClampNeg]? with
          | none => rfl
          | some o =>
            cases o with
            | none => rfl
            | some r => cases r <;> rfl
        · rw [if_neg h, if_neg h]
          rfl
      | kd + 5 => rfl
  cases hv : az_row S a i with
  | none =>
    rw [hv] at hs
    constructor
    · rintro ⟨f, o, h1, -⟩
      cases f with
      | zero => cases h1
      | succ f => rw [az_run_s hd rfl rfl rfl, hs] at h1; cases h1
    · rintro ⟨v, h, -⟩
      cases h
  | some v =>
    rw [hv] at hs
    rw [az_W_s hd rfl rfl rfl hs]
    constructor
    · exact fun h => ⟨v, rfl, h⟩
    · rintro ⟨w, h, hw⟩
      cases h
      exact hw
abbrev T_iast (k pc nx : Nat) : Prop := ∀ {xs : az_X} {d : Nat} {x i : Int32} {a : Nat} {L : az_Ls} {st : List Value} {S : List az_Shp} {I : Nat → Nat → Int32} {Z : (Nat → Nat → Int64) × Nat × Nat} {K : az_O → Prop}, az_W xs d k pc L (.int x :: .int i :: .ref a :: st) (S, I, Z) K ↔ az_isA S 1 a i = true ∧ az_W xs d k nx L st (S, az_up I a i.toNatClampNeg x, Z) K
theorem w_iast {k pc : Nat} (hd : decode (az_code k) pc = .ok (.iastore, 1)) : T_iast k pc (pc + 1) := by
  intros
  exact az_W_c hd rfl rfl rfl (fun h => if_pos h) (fun h => if_neg h)
abbrev T_bast (k pc nx : Nat) : Prop := ∀ {xs : az_X} {d : Nat} {x i : Int32} {a : Nat} {L : az_Ls} {st : List Value} {S : List az_Shp} {I : Nat → Nat → Int32} {Z : (Nat → Nat → Int64) × Nat × Nat} {K : az_O → Prop}, az_W xs d k pc L (.int x :: .int i :: .ref a :: st) (S, I, Z) K ↔ az_isA S 2 a i = true ∧ az_W xs d k nx L st (S, az_up I a i.toNatClampNeg (vp_nar .boolean x), Z) K
theorem w_bast {k pc : Nat} (hd : decode (az_code k) pc = .ok (.bastore, 1)) : T_bast k pc (pc + 1) := by
  intros
  exact az_W_c hd rfl rfl rfl (fun h => if_pos h) (fun h => if_neg h)
abbrev T_la (k pc nx : Nat) : Prop := ∀ {xs : az_X} {d : Nat} {i : Int32} {a : Nat} {L : az_Ls} {st : List Value} {S : List az_Shp} {I : Nat → Nat → Int32} {J : Nat → Nat → Int64} {Z : Nat × Nat} {K : az_O → Prop}, az_W xs d k pc L (.int i :: .ref a :: st) (S, I, J, Z) K ↔ az_isA S 3 a i = true ∧ az_W xs d k nx L (.long (J a i.toNatClampNeg) :: st) (S, I, J, Z) K
theorem w_la {k pc : Nat} (hd : decode (az_code k) pc = .ok (.laload, 1)) : T_la k pc (pc + 1) := by
  intros
  exact az_W_c hd rfl rfl rfl (fun h => if_pos h) (fun h => if_neg h)
abbrev T_last (k pc nx : Nat) : Prop := ∀ {xs : az_X} {d : Nat} {x : Int64} {i : Int32} {a : Nat} {L : az_Ls} {st : List Value} {S : List az_Shp} {I : Nat → Nat → Int32} {J : Nat → Nat → Int64} {Z : Nat × Nat} {K : az_O → Prop}, az_W xs d k pc L (.long x :: .int i :: .ref a :: st) (S, I, J, Z) K ↔ az_isA S 3 a i = true ∧ az_W xs d k nx L st (S, I, az_upJ J a i.toNatClampNeg x, Z) K
theorem w_last {k pc : Nat} (hd : decode (az_code k) pc = .ok (.lastore, 1)) : T_last k pc (pc + 1) := by
  intros
  exact az_W_c hd rfl rfl rfl (fun h => if_pos h) (fun h => if_neg h)
abbrev T_new (k pc nx ci : Nat) : Prop := ∀ {xs : az_X} {d : Nat} {L : az_Ls} {st : List Value} {S : List az_Shp} {I : Nat → Nat → Int32} {J : Nat → Nat → Int64} {c z : Nat} {K : az_O → Prop}, az_W xs d k pc L st (S, I, J, c, z) K ↔ S.length < 100000 ∧ az_W xs d k nx L (.ref S.length :: st) (S ++ [(0, ci, az_df ci)], az_clr I S.length, J, c + 1, z + az_N ci) K
theorem w_new {k pc x ci N : Nat} (hd : decode (az_code k) pc = .ok (.new x, 3)) (hl : az_lk (az_own k) x = some (5, ci, N)) (ht : az_thr k pc = none) : T_new k pc (pc + 3) ci := by
  intro xs d L st S I J c z K
  have he : az_end k (.new x) pc st (S, I, J, c, z) = none := by
    unfold az_end
    dsimp only
    split
    · rw [ht]; rfl
    · rfl
  have hs : az_stp xs k (.new x) pc (pc + 3) L st (S, I, J, c, z) = if S.length < 100000 then some (pc + 3, L, .ref S.length :: st, (S ++ [(0, ci, az_df ci)], az_clr I S.length, J, c + 1, z + az_N ci)) else none := by
    show az_new k x (pc + 3) L st (S, I, J, c, z) = _
    unfold az_new
    rw [hl]
    rfl
  exact az_W_c hd rfl he rfl (fun h => hs.trans (if_pos h)) (fun h => hs.trans (if_neg h))
abbrev T_nai (k pc nx : Nat) : Prop := ∀ {xs : az_X} {d : Nat} {n : Int32} {L : az_Ls} {st : List Value} {S : List az_Shp} {I : Nat → Nat → Int32} {J : Nat → Nat → Int64} {c z : Nat} {K : az_O → Prop}, az_W xs d k pc L (.int n :: st) (S, I, J, c, z) K ↔ (¬ n < 0 ∧ n.toNatClampNeg ≤ 100000 ∧ S.length < 100000) ∧ az_W xs d k nx L (.ref S.length :: st) (S ++ [(1, n.toNatClampNeg, [])], az_clr I S.length, az_clrJ J S.length, c + 1, z + n.toNatClampNeg) K
theorem w_nai {k pc : Nat} (hd : decode (az_code k) pc = .ok (.newarray .int, 2)) : T_nai k pc (pc + 2) := by
  intros
  exact az_W_c hd rfl rfl rfl (fun h => if_pos h) (fun h => if_neg h)
abbrev T_naz (k pc nx : Nat) : Prop := ∀ {xs : az_X} {d : Nat} {n : Int32} {L : az_Ls} {st : List Value} {S : List az_Shp} {I : Nat → Nat → Int32} {J : Nat → Nat → Int64} {c z : Nat} {K : az_O → Prop}, az_W xs d k pc L (.int n :: st) (S, I, J, c, z) K ↔ (¬ n < 0 ∧ n.toNatClampNeg ≤ 100000 ∧ S.length < 100000) ∧ az_W xs d k nx L (.ref S.length :: st) (S ++ [(2, n.toNatClampNeg, [])], az_clr I S.length, az_clrJ J S.length, c + 1, z + n.toNatClampNeg) K
theorem w_naz {k pc : Nat} (hd : decode (az_code k) pc = .ok (.newarray .boolean, 2)) : T_naz k pc (pc + 2) := by
  intros
  exact az_W_c hd rfl rfl rfl (fun h => if_pos h) (fun h => if_neg h)
abbrev T_naj (k pc nx : Nat) : Prop := ∀ {xs : az_X} {d : Nat} {n : Int32} {L : az_Ls} {st : List Value} {S : List az_Shp} {I : Nat → Nat → Int32} {J : Nat → Nat → Int64} {c z : Nat} {K : az_O → Prop}, az_W xs d k pc L (.int n :: st) (S, I, J, c, z) K ↔ (¬ n < 0 ∧ n.toNatClampNeg ≤ 100000 ∧ S.length < 100000) ∧ az_W xs d k nx L (.ref S.length :: st) (S ++ [(3, n.toNatClampNeg, [])], az_clr I S.length, az_clrJ J S.length, c + 1, z + n.toNatClampNeg) K
theorem w_naj {k pc : Nat} (hd : decode (az_code k) pc = .ok (.newarray .long, 2)) : T_naj k pc (pc + 2) := by
  intros
  exact az_W_c hd rfl rfl rfl (fun h => if_pos h) (fun h => if_neg h)
abbrev T_nwm (k pc nx : Nat) : Prop := ∀ {xs : az_X} {d : Nat} {n m : Int32} {L : az_Ls} {st : List Value} {S : List az_Shp} {I : Nat → Nat → Int32} {J : Nat → Nat → Int64} {c z : Nat} {K : az_O → Prop}, az_W xs d k pc L (.int m :: .int n :: st) (S, I, J, c, z) K ↔ (¬ n < 0 ∧ ¬ m < 0 ∧ n.toNatClampNeg ≤ 1000 ∧ m.toNatClampNeg ≤ 1000 ∧ S.length < 100000) ∧ az_W xs d k nx L (.ref S.length :: st) ((S ++ [(4, n.toNatClampNeg, (List.range n.toNatClampNeg).map fun j => some (some (S.length + 1 + j)))]) ++ List.replicate n.toNatClampNeg (1, m.toNatClampNeg, []), az_clr I S.length, J, c + 1 + n.toNatClampNeg, z + n.toNatClampNeg + n.toNatClampNeg * m.toNatClampNeg) K
theorem w_nwm {k pc x a b : Nat} (hd : decode (az_code k) pc = .ok (.multianewarray x 2, 4)) (hl : az_lk (az_own k) x = some (7, a, b)) : T_nwm k pc (pc + 4) := by
  intro xs d n m L st S I J c z K
  refine az_W_c hd rfl rfl rfl (fun h => ?_) (fun h => ?_)
  · show az_nwm k x (pc + 4) L (.int m :: .int n :: st) (S, I, J, c, z) = _
    unfold az_nwm
    rw [hl]
    exact if_pos h
  · show az_nwm k x (pc + 4) L (.int m :: .int n :: st) (S, I, J, c, z) = _
    unfold az_nwm
    rw [hl]
    exact if_neg h
abbrev T_max (k pc nx : Nat) : Prop := ∀ {xs : az_X} {d : Nat} {x y : Int32} {L : az_Ls} {st : List Value} {G : az_G} {K : az_O → Prop}, az_W xs d k pc L (.int y :: .int x :: st) G K ↔ az_cat st ≤ 8 ∧ az_W xs d k nx L (.int (if x < y then y else x) :: st) G K
theorem w_max {k pc x a b : Nat} (hd : decode (az_code k) pc = .ok (.invokestatic x, 3)) (hl : az_lk (az_own k) x = some (2, a, b)) : T_max k pc (pc + 3) := by
  intro xs d u v L st G K
  have hc : az_cal k (.invokestatic x) (.int v :: .int u :: st) G.1 = none := by
    show az_cl1 1 (az_own k) x _ _ = none
    unfold az_cl1
    rw [hl]
    rfl
  refine az_W_c hd rfl rfl hc (fun h => ?_) (fun h => ?_)
  · show az_mth k x (pc + 3) L (.int v :: .int u :: st) G = _
    unfold az_mth
    rw [hl]
    exact if_pos h
  · show az_mth k x (pc + 3) L (.int v :: .int u :: st) G = _
    unfold az_mth
    rw [hl]
    exact if_neg h
abbrev T_min (k pc nx : Nat) : Prop := ∀ {xs : az_X} {d : Nat} {x y : Int32} {L : az_Ls} {st : List Value} {G : az_G} {K : az_O → Prop}, az_W xs d k pc L (.int y :: .int x :: st) G K ↔ az_cat st ≤ 8 ∧ az_W xs d k nx L (.int (if y < x then y else x) :: st) G K
theorem w_min {k pc x a b : Nat} (hd : decode (az_code k) pc = .ok (.invokestatic x, 3)) (hl : az_lk (az_own k) x = some (3, a, b)) : T_min k pc (pc + 3) := by
  intro xs d u v L st G K
  have hc : az_cal k (.invokestatic x) (.int v :: .int u :: st) G.1 = none := by
    show az_cl1 1 (az_own k) x _ _ = none
    unfold az_cl1
    rw [hl]
    rfl
  refine az_W_c hd rfl rfl hc (fun h => ?_) (fun h => ?_)
  · show az_mth k x (pc + 3) L (.int v :: .int u :: st) G = _
    unfold az_mth
    rw [hl]
    exact if_pos h
  · show az_mth k x (pc + 3) L (.int v :: .int u :: st) G = _
    unfold az_mth
    rw [hl]
    exact if_neg h
abbrev T_oin (k pc nx : Nat) : Prop := ∀ {xs : az_X} {d : Nat} {a : Nat} {L : az_Ls} {st : List Value} {G : az_G} {K : az_O → Prop}, az_W xs d k pc L (.ref a :: st) G K ↔ az_cat st ≤ 8 ∧ az_W xs d k nx L st G K
theorem w_oin {k pc x a b : Nat} (hd : decode (az_code k) pc = .ok (.invokespecial x, 3)) (hl : az_lk (az_own k) x = some (4, a, b)) : T_oin k pc (pc + 3) := by
  intro xs d u L st G K
  have hc : az_cal k (.invokespecial x) (.ref u :: st) G.1 = none := by
    show az_cl1 2 (az_own k) x _ _ = none
    unfold az_cl1
    rw [hl]
    rfl
  refine az_W_c hd rfl rfl hc (fun h => ?_) (fun h => ?_)
  · show az_oin k x (pc + 3) L (.ref u :: st) G = _
    unfold az_oin
    rw [hl]
    exact if_pos h
  · show az_oin k x (pc + 3) L (.ref u :: st) G = _
    unfold az_oin
    rw [hl]
    exact if_neg h
def az_bo (v : Int32) : Prop := narrow .boolean (.int v) = .int v
abbrev T_ir (k pc : Nat) : Prop := ∀ {xs : az_X} {d : Nat} {v : Int32} {L : az_Ls} {G : az_G} {K : az_O → Prop}, az_W xs d k pc L [.int v] G K ↔ K (0, some (.int v), G)
theorem w_ir {k pc : Nat} (hd : decode (az_code k) pc = .ok (.ireturn, 1)) (hr : az_rt k = 1) : T_ir k pc := by
  intros
  exact az_W_e hd rfl (if_pos (Or.inl hr))
abbrev T_zr (k pc : Nat) : Prop := ∀ {xs : az_X} {d : Nat} {v : Int32} {L : az_Ls} {G : az_G} {K : az_O → Prop}, az_bo v → (az_W xs d k pc L [.int v] G K ↔ K (0, some (.int v), G))
theorem w_zr {k pc : Nat} (hd : decode (az_code k) pc = .ok (.ireturn, 1)) (hr : az_rt k = 2) : T_zr k pc := by
  intro xs d v L G K h
  exact az_W_e hd rfl (if_pos (Or.inr ⟨hr, h⟩))
abbrev T_rt (k pc : Nat) : Prop := ∀ {xs : az_X} {d : Nat} {L : az_Ls} {G : az_G} {K : az_O → Prop}, az_W xs d k pc L [] G K ↔ K (0, none, G)
theorem w_rt {k pc : Nat} (hd : decode (az_code k) pc = .ok (.return_, 1)) (hr : az_rt k = 0) : T_rt k pc := by
  intros
  exact az_W_e hd rfl (if_pos hr)
abbrev T_th (k pc n : Nat) : Prop := ∀ {xs : az_X} {d : Nat} {L : az_Ls} {S : List az_Shp} {I : Nat → Nat → Int32} {J : Nat → Nat → Int64} {c z : Nat} {K : az_O → Prop}, az_W xs d k pc L [] (S, I, J, c, z) K ↔ K (n, none, (S, I, J, c + 1, z + 6))
theorem w_th {k pc n x : Nat} (hd : decode (az_code k) pc = .ok (.new x, 3)) (ht : az_thr k pc = some n) : T_th k pc n := by
  intros
  refine az_W_e hd rfl ?_
  show (az_thr k pc).map _ = _
  rw [ht]
  rfl
/-- a call's own conditions -/
def az_cc (m : Nat) (S : List az_Shp) (as rest : List Value) : Prop := az_cat rest ≤ 8 ∧ az_cat as.reverse = as.length ∧ (az_kd m = 1 ∨ az_kd m = 3 ∨ az_rcv S m as = true)
theorem az_cal_eq {k x m t kd : Nat} {S : List az_Shp} {as rest : List Value} (hl : az_lk (az_own k) x = some (1, m, t)) (ht : as.length = t) (hk : az_kd m = kd ∨ (kd = 1 ∧ az_kd m = 3)) :
    az_cl1 kd (az_own k) x (as.reverse ++ rest) S = if az_cat rest ≤ 8 ∧ az_cat as.reverse = t ∧ (kd = 1 ∨ az_rcv S m as = true) then some (m, as, rest) else none := by
  unfold az_cl1
  rw [hl]
  show (if t ≤ (as.reverse ++ rest).length ∧ (az_kd m = kd ∨ (kd = 1 ∧ az_kd m = 3)) ∧ az_cat ((as.reverse ++ rest).drop t) ≤ 8 ∧ az_cat ((as.reverse ++ rest).take t) = t ∧ (kd = 1 ∨ az_rcv S m ((as.reverse ++ rest).take t).reverse = true) then some (m, ((as.reverse ++ rest).take t).reverse, (as.reverse ++ rest).drop t) else none) = _
  have h1 : (as.reverse ++ rest).take t = as.reverse := by rw [← ht, ← List.length_reverse, List.take_left]
  have h2 : (as.reverse ++ rest).drop t = rest := by rw [← ht, ← List.length_reverse, List.drop_left]
  rw [h1, h2, List.reverse_reverse]
  have h3 : t ≤ (as.reverse ++ rest).length := by rw [List.length_append, List.length_reverse]; omega
  by_cases h : az_cat rest ≤ 8 ∧ az_cat as.reverse = t ∧ (kd = 1 ∨ az_rcv S m as = true)
  · rw [if_pos h, if_pos ⟨h3, hk, h⟩]
  · rw [if_neg h, if_neg (fun q => h q.2.2)]
theorem az_W_call {xs : az_X} {d k pc x m t : Nat} {L : az_Ls} {as rest : List Value} {G : az_G} {K : az_O → Prop} {i : Instr} (hd : decode (az_code k) pc = .ok (i, 3)) (hl : az_lk (az_own k) x = some (1, m, t)) (ht : as.length = t)
    (hk : (i = .invokevirtual x ∧ az_kd m = 0) ∨ (i = .invokestatic x ∧ (az_kd m = 1 ∨ az_kd m = 3)) ∨ (i = .invokespecial x ∧ az_kd m = 2)) (hcc : az_cc m G.1 as rest) :
    az_W xs d k pc L (as.reverse ++ rest) G K ↔ az_C xs d m as G (az_bk xs d k pc (pc + 3) L rest K) := by
  obtain ⟨c1, c2, c3⟩ := hcc
  rw [ht] at c2
  rcases hk with ⟨rfl, hk⟩ | ⟨rfl, hk⟩ | ⟨rfl, hk⟩
  · refine az_W_k hd rfl rfl ?_
    show az_cl1 0 (az_own k) x _ _ = _
    have h9 : az_rcv G.1 m as = true := c3.elim (fun h => absurd (hk.symm.trans h) (by decide)) (fun h => h.elim (fun h => absurd (hk.symm.trans h) (by decide)) id)
    rw [az_cal_eq hl ht (Or.inl hk), if_pos ⟨c1, c2, Or.inr h9⟩]
  · refine az_W_k hd rfl rfl ?_
    show az_cl1 1 (az_own k) x _ _ = _
    rw [az_cal_eq hl ht (hk.elim Or.inl fun h => Or.inr ⟨rfl, h⟩), if_pos ⟨c1, c2, Or.inl rfl⟩]
  · refine az_W_k hd rfl rfl ?_
    show az_cl1 2 (az_own k) x _ _ = _
    have h9 : az_rcv G.1 m as = true := c3.elim (fun h => absurd (hk.symm.trans h) (by decide)) (fun h => h.elim (fun h => absurd (hk.symm.trans h) (by decide)) id)
    rw [az_cal_eq hl ht (Or.inl hk), if_pos ⟨c1, c2, Or.inr h9⟩]
abbrev T_ca0 (k pc nx m : Nat) : Prop := ∀ {xs : az_X} {d : Nat} {L : az_Ls} {st : List Value} {G : az_G} {K : az_O → Prop}, az_cc m G.1 [] st → (az_W xs d k pc L (st) G K ↔ az_C xs d m [] G (az_bk xs d k pc nx L st K))
theorem w_ca0 {k pc x m : Nat} {i : Instr} (hd : decode (az_code k) pc = .ok (i, 3)) (hl : az_lk (az_own k) x = some (1, m, 0)) (hk : (i = .invokevirtual x ∧ az_kd m = 0) ∨ (i = .invokestatic x ∧ (az_kd m = 1 ∨ az_kd m = 3)) ∨ (i = .invokespecial x ∧ az_kd m = 2)) : T_ca0 k pc (pc + 3) m := by
  intro xs d  L st G K h
  exact az_W_call (as := []) hd hl rfl hk h
abbrev T_ca1 (k pc nx m : Nat) : Prop := ∀ {xs : az_X} {d : Nat} {b0 : Value} {L : az_Ls} {st : List Value} {G : az_G} {K : az_O → Prop}, az_cc m G.1 [b0] st → (az_W xs d k pc L (b0 :: st) G K ↔ az_C xs d m [b0] G (az_bk xs d k pc nx L st K))
theorem w_ca1 {k pc x m : Nat} {i : Instr} (hd : decode (az_code k) pc = .ok (i, 3)) (hl : az_lk (az_own k) x = some (1, m, 1)) (hk : (i = .invokevirtual x ∧ az_kd m = 0) ∨ (i = .invokestatic x ∧ (az_kd m = 1 ∨ az_kd m = 3)) ∨ (i = .invokespecial x ∧ az_kd m = 2)) : T_ca1 k pc (pc + 3) m := by
  intro xs d b0 L st G K h
  exact az_W_call (as := [b0]) hd hl rfl hk h
abbrev T_ca2 (k pc nx m : Nat) : Prop := ∀ {xs : az_X} {d : Nat} {b0 : Value} {b1 : Value} {L : az_Ls} {st : List Value} {G : az_G} {K : az_O → Prop}, az_cc m G.1 [b0, b1] st → (az_W xs d k pc L (b1 :: b0 :: st) G K ↔ az_C xs d m [b0, b1] G (az_bk xs d k pc nx L st K))
theorem w_ca2 {k pc x m : Nat} {i : Instr} (hd : decode (az_code k) pc = .ok (i, 3)) (hl : az_lk (az_own k) x = some (1, m, 2)) (hk : (i = .invokevirtual x ∧ az_kd m = 0) ∨ (i = .invokestatic x ∧ (az_kd m = 1 ∨ az_kd m = 3)) ∨ (i = .invokespecial x ∧ az_kd m = 2)) : T_ca2 k pc (pc + 3) m := by
  intro xs d b0 b1 L st G K h
  exact az_W_call (as := [b0, b1]) hd hl rfl hk h
abbrev T_ca3 (k pc nx m : Nat) : Prop := ∀ {xs : az_X} {d : Nat} {b0 : Value} {b1 : Value} {b2 : Value} {L : az_Ls} {st : List Value} {G : az_G} {K : az_O → Prop}, az_cc m G.1 [b0, b1, b2] st → (az_W xs d k pc L (b2 :: b1 :: b0 :: st) G K ↔ az_C xs d m [b0, b1, b2] G (az_bk xs d k pc nx L st K))
theorem w_ca3 {k pc x m : Nat} {i : Instr} (hd : decode (az_code k) pc = .ok (i, 3)) (hl : az_lk (az_own k) x = some (1, m, 3)) (hk : (i = .invokevirtual x ∧ az_kd m = 0) ∨ (i = .invokestatic x ∧ (az_kd m = 1 ∨ az_kd m = 3)) ∨ (i = .invokespecial x ∧ az_kd m = 2)) : T_ca3 k pc (pc + 3) m := by
  intro xs d b0 b1 b2 L st G K h
  exact az_W_call (as := [b0, b1, b2]) hd hl rfl hk h
abbrev T_ca4 (k pc nx m : Nat) : Prop := ∀ {xs : az_X} {d : Nat} {b0 : Value} {b1 : Value} {b2 : Value} {b3 : Value} {L : az_Ls} {st : List Value} {G : az_G} {K : az_O → Prop}, az_cc m G.1 [b0, b1, b2, b3] st → (az_W xs d k pc L (b3 :: b2 :: b1 :: b0 :: st) G K ↔ az_C xs d m [b0, b1, b2, b3] G (az_bk xs d k pc nx L st K))
theorem w_ca4 {k pc x m : Nat} {i : Instr} (hd : decode (az_code k) pc = .ok (i, 3)) (hl : az_lk (az_own k) x = some (1, m, 4)) (hk : (i = .invokevirtual x ∧ az_kd m = 0) ∨ (i = .invokestatic x ∧ (az_kd m = 1 ∨ az_kd m = 3)) ∨ (i = .invokespecial x ∧ az_kd m = 2)) : T_ca4 k pc (pc + 3) m := by
  intro xs d b0 b1 b2 b3 L st G K h
  exact az_W_call (as := [b0, b1, b2, b3]) hd hl rfl hk h
abbrev T_ca5 (k pc nx m : Nat) : Prop := ∀ {xs : az_X} {d : Nat} {b0 : Value} {b1 : Value} {b2 : Value} {b3 : Value} {b4 : Value} {L : az_Ls} {st : List Value} {G : az_G} {K : az_O → Prop}, az_cc m G.1 [b0, b1, b2, b3, b4] st → (az_W xs d k pc L (b4 :: b3 :: b2 :: b1 :: b0 :: st) G K ↔ az_C xs d m [b0, b1, b2, b3, b4] G (az_bk xs d k pc nx L st K))
theorem w_ca5 {k pc x m : Nat} {i : Instr} (hd : decode (az_code k) pc = .ok (i, 3)) (hl : az_lk (az_own k) x = some (1, m, 5)) (hk : (i = .invokevirtual x ∧ az_kd m = 0) ∨ (i = .invokestatic x ∧ (az_kd m = 1 ∨ az_kd m = 3)) ∨ (i = .invokespecial x ∧ az_kd m = 2)) : T_ca5 k pc (pc + 3) m := by
  intro xs d b0 b1 b2 b3 b4 L st G K h
  exact az_W_call (as := [b0, b1, b2, b3, b4]) hd hl rfl hk h
abbrev T_ca6 (k pc nx m : Nat) : Prop := ∀ {xs : az_X} {d : Nat} {b0 : Value} {b1 : Value} {b2 : Value} {b3 : Value} {b4 : Value} {b5 : Value} {L : az_Ls} {st : List Value} {G : az_G} {K : az_O → Prop}, az_cc m G.1 [b0, b1, b2, b3, b4, b5] st → (az_W xs d k pc L (b5 :: b4 :: b3 :: b2 :: b1 :: b0 :: st) G K ↔ az_C xs d m [b0, b1, b2, b3, b4, b5] G (az_bk xs d k pc nx L st K))
theorem w_ca6 {k pc x m : Nat} {i : Instr} (hd : decode (az_code k) pc = .ok (i, 3)) (hl : az_lk (az_own k) x = some (1, m, 6)) (hk : (i = .invokevirtual x ∧ az_kd m = 0) ∨ (i = .invokestatic x ∧ (az_kd m = 1 ∨ az_kd m = 3)) ∨ (i = .invokespecial x ∧ az_kd m = 2)) : T_ca6 k pc (pc + 3) m := by
  intro xs d b0 b1 b2 b3 b4 b5 L st G K h
  exact az_W_call (as := [b0, b1, b2, b3, b4, b5]) hd hl rfl hk h
abbrev T_ca7 (k pc nx m : Nat) : Prop := ∀ {xs : az_X} {d : Nat} {b0 : Value} {b1 : Value} {b2 : Value} {b3 : Value} {b4 : Value} {b5 : Value} {b6 : Value} {L : az_Ls} {st : List Value} {G : az_G} {K : az_O → Prop}, az_cc m G.1 [b0, b1, b2, b3, b4, b5, b6] st → (az_W xs d k pc L (b6 :: b5 :: b4 :: b3 :: b2 :: b1 :: b0 :: st) G K ↔ az_C xs d m [b0, b1, b2, b3, b4, b5, b6] G (az_bk xs d k pc nx L st K))
theorem w_ca7 {k pc x m : Nat} {i : Instr} (hd : decode (az_code k) pc = .ok (i, 3)) (hl : az_lk (az_own k) x = some (1, m, 7)) (hk : (i = .invokevirtual x ∧ az_kd m = 0) ∨ (i = .invokestatic x ∧ (az_kd m = 1 ∨ az_kd m = 3)) ∨ (i = .invokespecial x ∧ az_kd m = 2)) : T_ca7 k pc (pc + 3) m := by
  intro xs d b0 b1 b2 b3 b4 b5 b6 L st G K h
  exact az_W_call (as := [b0, b1, b2, b3, b4, b5, b6]) hd hl rfl hk h
end
