section
-- ===== PART A: goes FIRST, ahead of the names: the tables' words, and 'selects' of the private methods out of them =====
/-- a private method of a class that the tables say can be made, by its rows of tables_1 -/
def lw_okq (q : MethodName × Nat) : Prop := (q.1.cls ≠ "java/lang/invoke/MethodHandle" ∧ q.1.cls ≠ "java/lang/invoke/VarHandle") ∧ Cond.instantiable q.1.cls q.2 ∈ tables_1 ∧ Cond.privateMethod q.1 ∈ tables_1 ∧ Cond.instanceMethod q.1 ∈ tables_1
theorem lw_p0 : lw_okq (⟨"java/lang/Throwable", "fillInStackTrace", "(I)Ljava/lang/Throwable;"⟩, 6) := ⟨⟨by decide +kernel, by decide +kernel⟩, List.mem_of_getElem? (i := 231) (by decide +kernel), List.mem_of_getElem? (i := 229) (by decide +kernel), List.mem_of_getElem? (i := 230) (by decide +kernel)⟩
theorem lw_p1 : lw_okq (⟨"java/util/ArrayList", "add", "(Ljava/lang/Object;[Ljava/lang/Object;I)V"⟩, 3) := ⟨⟨by decide +kernel, by decide +kernel⟩, List.mem_of_getElem? (i := 42) (by decide +kernel), List.mem_of_getElem? (i := 314) (by decide +kernel), List.mem_of_getElem? (i := 315) (by decide +kernel)⟩
theorem lw_p2 : lw_okq (⟨"java/util/ArrayList", "grow", "()[Ljava/lang/Object;"⟩, 3) := ⟨⟨by decide +kernel, by decide +kernel⟩, List.mem_of_getElem? (i := 42) (by decide +kernel), List.mem_of_getElem? (i := 318) (by decide +kernel), List.mem_of_getElem? (i := 319) (by decide +kernel)⟩
theorem lw_p3 : lw_okq (⟨"java/util/ArrayList", "grow", "(I)[Ljava/lang/Object;"⟩, 3) := ⟨⟨by decide +kernel, by decide +kernel⟩, List.mem_of_getElem? (i := 42) (by decide +kernel), List.mem_of_getElem? (i := 322) (by decide +kernel), List.mem_of_getElem? (i := 323) (by decide +kernel)⟩
theorem lw_p4 : lw_okq (⟨"RainIndex", "stationNumbered", "(I)LRainIndex$Station;"⟩, 12) := ⟨⟨by decide +kernel, by decide +kernel⟩, List.mem_of_getElem? (i := 28) (by decide +kernel), List.mem_of_getElem? (i := 380) (by decide +kernel), List.mem_of_getElem? (i := 381) (by decide +kernel)⟩
theorem lw_p5 : lw_okq (⟨"RainIndex", "farmNumbered", "(I)LRainIndex$Farm;"⟩, 12) := ⟨⟨by decide +kernel, by decide +kernel⟩, List.mem_of_getElem? (i := 28) (by decide +kernel), List.mem_of_getElem? (i := 570) (by decide +kernel), List.mem_of_getElem? (i := 571) (by decide +kernel)⟩
theorem lw_p6 : lw_okq (⟨"RainIndex", "productNumbered", "(I)LRainIndex$Product;"⟩, 12) := ⟨⟨by decide +kernel, by decide +kernel⟩, List.mem_of_getElem? (i := 28) (by decide +kernel), List.mem_of_getElem? (i := 601) (by decide +kernel), List.mem_of_getElem? (i := 602) (by decide +kernel)⟩
theorem lw_p7 : lw_okq (⟨"RainIndex", "isOnSale", "(I)Z"⟩, 12) := ⟨⟨by decide +kernel, by decide +kernel⟩, List.mem_of_getElem? (i := 28) (by decide +kernel), List.mem_of_getElem? (i := 611) (by decide +kernel), List.mem_of_getElem? (i := 612) (by decide +kernel)⟩
theorem lw_p8 : lw_okq (⟨"RainIndex", "coverOf", "(LRainIndex$Farm;I)LRainIndex$Cover;"⟩, 12) := ⟨⟨by decide +kernel, by decide +kernel⟩, List.mem_of_getElem? (i := 28) (by decide +kernel), List.mem_of_getElem? (i := 618) (by decide +kernel), List.mem_of_getElem? (i := 619) (by decide +kernel)⟩
theorem lw_p9 : lw_okq (⟨"RainIndex", "pricesRate", "(LRainIndex$Station;LRainIndex$Product;)I"⟩, 12) := ⟨⟨by decide +kernel, by decide +kernel⟩, List.mem_of_getElem? (i := 28) (by decide +kernel), List.mem_of_getElem? (i := 624) (by decide +kernel), List.mem_of_getElem? (i := 625) (by decide +kernel)⟩
theorem lw_p10 : lw_okq (⟨"RainIndex", "isOver", "(I)Z"⟩, 12) := ⟨⟨by decide +kernel, by decide +kernel⟩, List.mem_of_getElem? (i := 28) (by decide +kernel), List.mem_of_getElem? (i := 628) (by decide +kernel), List.mem_of_getElem? (i := 629) (by decide +kernel)⟩
theorem lw_p11 : lw_okq (⟨"RainIndex", "rateBy", "(LRainIndex$Station;ILRainIndex$Product;I)I"⟩, 12) := ⟨⟨by decide +kernel, by decide +kernel⟩, List.mem_of_getElem? (i := 28) (by decide +kernel), List.mem_of_getElem? (i := 632) (by decide +kernel), List.mem_of_getElem? (i := 633) (by decide +kernel)⟩
theorem lw_p12 : lw_okq (⟨"RainIndex", "priceOf", "(II)I"⟩, 12) := ⟨⟨by decide +kernel, by decide +kernel⟩, List.mem_of_getElem? (i := 28) (by decide +kernel), List.mem_of_getElem? (i := 680) (by decide +kernel), List.mem_of_getElem? (i := 681) (by decide +kernel)⟩
theorem lw_p13 : lw_okq (⟨"RainIndex", "findDues", "(I)I"⟩, 12) := ⟨⟨by decide +kernel, by decide +kernel⟩, List.mem_of_getElem? (i := 28) (by decide +kernel), List.mem_of_getElem? (i := 747) (by decide +kernel), List.mem_of_getElem? (i := 748) (by decide +kernel)⟩
theorem lw_p14 : lw_okq (⟨"RainIndex", "payOut", "(II)I"⟩, 12) := ⟨⟨by decide +kernel, by decide +kernel⟩, List.mem_of_getElem? (i := 28) (by decide +kernel), List.mem_of_getElem? (i := 755) (by decide +kernel), List.mem_of_getElem? (i := 756) (by decide +kernel)⟩
theorem lw_p15 : lw_okq (⟨"RainIndex", "cutToCap", "(II)I"⟩, 12) := ⟨⟨by decide +kernel, by decide +kernel⟩, List.mem_of_getElem? (i := 28) (by decide +kernel), List.mem_of_getElem? (i := 759) (by decide +kernel), List.mem_of_getElem? (i := 760) (by decide +kernel)⟩
def lw_privs_1 : List (MethodName × Nat) := [(⟨"java/lang/Throwable", "fillInStackTrace", "(I)Ljava/lang/Throwable;"⟩, 6), (⟨"java/util/ArrayList", "add", "(Ljava/lang/Object;[Ljava/lang/Object;I)V"⟩, 3), (⟨"java/util/ArrayList", "grow", "()[Ljava/lang/Object;"⟩, 3), (⟨"java/util/ArrayList", "grow", "(I)[Ljava/lang/Object;"⟩, 3), (⟨"RainIndex", "stationNumbered", "(I)LRainIndex$Station;"⟩, 12), (⟨"RainIndex", "farmNumbered", "(I)LRainIndex$Farm;"⟩, 12), (⟨"RainIndex", "productNumbered", "(I)LRainIndex$Product;"⟩, 12), (⟨"RainIndex", "isOnSale", "(I)Z"⟩, 12), (⟨"RainIndex", "coverOf", "(LRainIndex$Farm;I)LRainIndex$Cover;"⟩, 12), (⟨"RainIndex", "pricesRate", "(LRainIndex$Station;LRainIndex$Product;)I"⟩, 12), (⟨"RainIndex", "isOver", "(I)Z"⟩, 12), (⟨"RainIndex", "rateBy", "(LRainIndex$Station;ILRainIndex$Product;I)I"⟩, 12), (⟨"RainIndex", "priceOf", "(II)I"⟩, 12), (⟨"RainIndex", "findDues", "(I)I"⟩, 12), (⟨"RainIndex", "payOut", "(II)I"⟩, 12), (⟨"RainIndex", "cutToCap", "(II)I"⟩, 12)]
theorem lw_r1 : ∀ q ∈ lw_privs_1, lw_okq q := List.forall_mem_cons.mpr ⟨lw_p0, List.forall_mem_cons.mpr ⟨lw_p1, List.forall_mem_cons.mpr ⟨lw_p2, List.forall_mem_cons.mpr ⟨lw_p3, List.forall_mem_cons.mpr ⟨lw_p4, List.forall_mem_cons.mpr ⟨lw_p5, List.forall_mem_cons.mpr ⟨lw_p6, List.forall_mem_cons.mpr ⟨lw_p7, List.forall_mem_cons.mpr ⟨lw_p8, List.forall_mem_cons.mpr ⟨lw_p9, List.forall_mem_cons.mpr ⟨lw_p10, List.forall_mem_cons.mpr ⟨lw_p11, List.forall_mem_cons.mpr ⟨lw_p12, List.forall_mem_cons.mpr ⟨lw_p13, List.forall_mem_cons.mpr ⟨lw_p14, List.forall_mem_cons.mpr ⟨lw_p15, fun _ h => absurd h List.not_mem_nil⟩⟩⟩⟩⟩⟩⟩⟩⟩⟩⟩⟩⟩⟩⟩⟩
theorem lw_p16 : lw_okq (⟨"RainIndex", "hasBegun", "(I)Z"⟩, 12) := ⟨⟨by decide +kernel, by decide +kernel⟩, List.mem_of_getElem? (i := 28) (by decide +kernel), List.mem_of_getElem? (i := 785) (by decide +kernel), List.mem_of_getElem? (i := 786) (by decide +kernel)⟩
theorem lw_p17 : lw_okq (⟨"RainIndex", "lookAgain", "(LRainIndex$Station;I)I"⟩, 12) := ⟨⟨by decide +kernel, by decide +kernel⟩, List.mem_of_getElem? (i := 28) (by decide +kernel), List.mem_of_getElem? (i := 798) (by decide +kernel), List.mem_of_getElem? (i := 799) (by decide +kernel)⟩
theorem lw_p18 : lw_okq (⟨"RainIndex", "meanLoss", "(LRainIndex$Station;I)I"⟩, 12) := ⟨⟨by decide +kernel, by decide +kernel⟩, List.mem_of_getElem? (i := 28) (by decide +kernel), List.mem_of_getElem? (i := 802) (by decide +kernel), List.mem_of_getElem? (i := 803) (by decide +kernel)⟩
theorem lw_p19 : lw_okq (⟨"RainIndex", "mostComplained", "(LRainIndex$Station;I)Z"⟩, 12) := ⟨⟨by decide +kernel, by decide +kernel⟩, List.mem_of_getElem? (i := 28) (by decide +kernel), List.mem_of_getElem? (i := 811) (by decide +kernel), List.mem_of_getElem? (i := 812) (by decide +kernel)⟩
theorem lw_p20 : lw_okq (⟨"RainIndex", "coverNumbered", "(I)LRainIndex$Cover;"⟩, 12) := ⟨⟨by decide +kernel, by decide +kernel⟩, List.mem_of_getElem? (i := 28) (by decide +kernel), List.mem_of_getElem? (i := 868) (by decide +kernel), List.mem_of_getElem? (i := 869) (by decide +kernel)⟩
theorem lw_p21 : lw_okq (⟨"RainIndexModel", "goes", "(ZZZ)Z"⟩, 30) := ⟨⟨by decide +kernel, by decide +kernel⟩, List.mem_of_getElem? (i := 910) (by decide +kernel), List.mem_of_getElem? (i := 1018) (by decide +kernel), List.mem_of_getElem? (i := 1019) (by decide +kernel)⟩
theorem lw_p22 : lw_okq (⟨"RainIndexModel", "isStation", "(I)Z"⟩, 30) := ⟨⟨by decide +kernel, by decide +kernel⟩, List.mem_of_getElem? (i := 910) (by decide +kernel), List.mem_of_getElem? (i := 1026) (by decide +kernel), List.mem_of_getElem? (i := 1027) (by decide +kernel)⟩
theorem lw_p23 : lw_okq (⟨"RainIndexModel", "rainOn", "(III)I"⟩, 30) := ⟨⟨by decide +kernel, by decide +kernel⟩, List.mem_of_getElem? (i := 910) (by decide +kernel), List.mem_of_getElem? (i := 1042) (by decide +kernel), List.mem_of_getElem? (i := 1043) (by decide +kernel)⟩
theorem lw_p24 : lw_okq (⟨"RainIndexModel", "off", "(III)I"⟩, 30) := ⟨⟨by decide +kernel, by decide +kernel⟩, List.mem_of_getElem? (i := 910) (by decide +kernel), List.mem_of_getElem? (i := 1046) (by decide +kernel), List.mem_of_getElem? (i := 1047) (by decide +kernel)⟩
theorem lw_p25 : lw_okq (⟨"RainIndexModel", "lays", "(III)V"⟩, 30) := ⟨⟨by decide +kernel, by decide +kernel⟩, List.mem_of_getElem? (i := 910) (by decide +kernel), List.mem_of_getElem? (i := 1057) (by decide +kernel), List.mem_of_getElem? (i := 1058) (by decide +kernel)⟩
theorem lw_p26 : lw_okq (⟨"RainIndexModel", "beginning", "()I"⟩, 30) := ⟨⟨by decide +kernel, by decide +kernel⟩, List.mem_of_getElem? (i := 910) (by decide +kernel), List.mem_of_getElem? (i := 1061) (by decide +kernel), List.mem_of_getElem? (i := 1062) (by decide +kernel)⟩
theorem lw_p27 : lw_okq (⟨"RainIndexModel", "isFalse", "(I)Z"⟩, 30) := ⟨⟨by decide +kernel, by decide +kernel⟩, List.mem_of_getElem? (i := 910) (by decide +kernel), List.mem_of_getElem? (i := 1065) (by decide +kernel), List.mem_of_getElem? (i := 1066) (by decide +kernel)⟩
theorem lw_p28 : lw_okq (⟨"RainIndexModel", "isProduct", "(I)Z"⟩, 30) := ⟨⟨by decide +kernel, by decide +kernel⟩, List.mem_of_getElem? (i := 910) (by decide +kernel), List.mem_of_getElem? (i := 1081) (by decide +kernel), List.mem_of_getElem? (i := 1082) (by decide +kernel)⟩
theorem lw_p29 : lw_okq (⟨"RainIndexModel", "looksAt", "(II)I"⟩, 30) := ⟨⟨by decide +kernel, by decide +kernel⟩, List.mem_of_getElem? (i := 910) (by decide +kernel), List.mem_of_getElem? (i := 1085) (by decide +kernel), List.mem_of_getElem? (i := 1086) (by decide +kernel)⟩
theorem lw_p30 : lw_okq (⟨"RainIndexModel", "rateOf", "(III)I"⟩, 30) := ⟨⟨by decide +kernel, by decide +kernel⟩, List.mem_of_getElem? (i := 910) (by decide +kernel), List.mem_of_getElem? (i := 1093) (by decide +kernel), List.mem_of_getElem? (i := 1094) (by decide +kernel)⟩
theorem lw_p31 : lw_okq (⟨"RainIndexModel", "pays", "(II)I"⟩, 30) := ⟨⟨by decide +kernel, by decide +kernel⟩, List.mem_of_getElem? (i := 910) (by decide +kernel), List.mem_of_getElem? (i := 1097) (by decide +kernel), List.mem_of_getElem? (i := 1098) (by decide +kernel)⟩
def lw_privs_2 : List (MethodName × Nat) := [(⟨"RainIndex", "hasBegun", "(I)Z"⟩, 12), (⟨"RainIndex", "lookAgain", "(LRainIndex$Station;I)I"⟩, 12), (⟨"RainIndex", "meanLoss", "(LRainIndex$Station;I)I"⟩, 12), (⟨"RainIndex", "mostComplained", "(LRainIndex$Station;I)Z"⟩, 12), (⟨"RainIndex", "coverNumbered", "(I)LRainIndex$Cover;"⟩, 12), (⟨"RainIndexModel", "goes", "(ZZZ)Z"⟩, 30), (⟨"RainIndexModel", "isStation", "(I)Z"⟩, 30), (⟨"RainIndexModel", "rainOn", "(III)I"⟩, 30), (⟨"RainIndexModel", "off", "(III)I"⟩, 30), (⟨"RainIndexModel", "lays", "(III)V"⟩, 30), (⟨"RainIndexModel", "beginning", "()I"⟩, 30), (⟨"RainIndexModel", "isFalse", "(I)Z"⟩, 30), (⟨"RainIndexModel", "isProduct", "(I)Z"⟩, 30), (⟨"RainIndexModel", "looksAt", "(II)I"⟩, 30), (⟨"RainIndexModel", "rateOf", "(III)I"⟩, 30), (⟨"RainIndexModel", "pays", "(II)I"⟩, 30)]
theorem lw_r2 : ∀ q ∈ lw_privs_2, lw_okq q := List.forall_mem_cons.mpr ⟨lw_p16, List.forall_mem_cons.mpr ⟨lw_p17, List.forall_mem_cons.mpr ⟨lw_p18, List.forall_mem_cons.mpr ⟨lw_p19, List.forall_mem_cons.mpr ⟨lw_p20, List.forall_mem_cons.mpr ⟨lw_p21, List.forall_mem_cons.mpr ⟨lw_p22, List.forall_mem_cons.mpr ⟨lw_p23, List.forall_mem_cons.mpr ⟨lw_p24, List.forall_mem_cons.mpr ⟨lw_p25, List.forall_mem_cons.mpr ⟨lw_p26, List.forall_mem_cons.mpr ⟨lw_p27, List.forall_mem_cons.mpr ⟨lw_p28, List.forall_mem_cons.mpr ⟨lw_p29, List.forall_mem_cons.mpr ⟨lw_p30, List.forall_mem_cons.mpr ⟨lw_p31, fun _ h => absurd h List.not_mem_nil⟩⟩⟩⟩⟩⟩⟩⟩⟩⟩⟩⟩⟩⟩⟩⟩
theorem lw_p32 : lw_okq (⟨"RainIndexModel", "pricedOf", "(II)I"⟩, 30) := ⟨⟨by decide +kernel, by decide +kernel⟩, List.mem_of_getElem? (i := 910) (by decide +kernel), List.mem_of_getElem? (i := 1108) (by decide +kernel), List.mem_of_getElem? (i := 1109) (by decide +kernel)⟩
theorem lw_p33 : lw_okq (⟨"RainIndexModel", "isOver", "(I)Z"⟩, 30) := ⟨⟨by decide +kernel, by decide +kernel⟩, List.mem_of_getElem? (i := 910) (by decide +kernel), List.mem_of_getElem? (i := 1112) (by decide +kernel), List.mem_of_getElem? (i := 1113) (by decide +kernel)⟩
theorem lw_p34 : lw_okq (⟨"RainIndexModel", "isFarm", "(I)Z"⟩, 30) := ⟨⟨by decide +kernel, by decide +kernel⟩, List.mem_of_getElem? (i := 910) (by decide +kernel), List.mem_of_getElem? (i := 1124) (by decide +kernel), List.mem_of_getElem? (i := 1125) (by decide +kernel)⟩
theorem lw_p35 : lw_okq (⟨"RainIndexModel", "coverOf", "(II)I"⟩, 30) := ⟨⟨by decide +kernel, by decide +kernel⟩, List.mem_of_getElem? (i := 910) (by decide +kernel), List.mem_of_getElem? (i := 1141) (by decide +kernel), List.mem_of_getElem? (i := 1142) (by decide +kernel)⟩
theorem lw_p36 : lw_okq (⟨"RainIndexModel", "trusts", "(III)V"⟩, 30) := ⟨⟨by decide +kernel, by decide +kernel⟩, List.mem_of_getElem? (i := 910) (by decide +kernel), List.mem_of_getElem? (i := 1149) (by decide +kernel), List.mem_of_getElem? (i := 1150) (by decide +kernel)⟩
theorem lw_p37 : lw_okq (⟨"RainIndexModel", "looks", "(II)I"⟩, 30) := ⟨⟨by decide +kernel, by decide +kernel⟩, List.mem_of_getElem? (i := 910) (by decide +kernel), List.mem_of_getElem? (i := 1161) (by decide +kernel), List.mem_of_getElem? (i := 1162) (by decide +kernel)⟩
theorem lw_p38 : lw_okq (⟨"RainIndexModel", "isOf", "(III)Z"⟩, 30) := ⟨⟨by decide +kernel, by decide +kernel⟩, List.mem_of_getElem? (i := 910) (by decide +kernel), List.mem_of_getElem? (i := 1165) (by decide +kernel), List.mem_of_getElem? (i := 1166) (by decide +kernel)⟩
theorem lw_p39 : lw_okq (⟨"RainIndexModel", "sumOf", "(I)I"⟩, 30) := ⟨⟨by decide +kernel, by decide +kernel⟩, List.mem_of_getElem? (i := 910) (by decide +kernel), List.mem_of_getElem? (i := 1185) (by decide +kernel), List.mem_of_getElem? (i := 1186) (by decide +kernel)⟩
def lw_privs_3 : List (MethodName × Nat) := [(⟨"RainIndexModel", "pricedOf", "(II)I"⟩, 30), (⟨"RainIndexModel", "isOver", "(I)Z"⟩, 30), (⟨"RainIndexModel", "isFarm", "(I)Z"⟩, 30), (⟨"RainIndexModel", "coverOf", "(II)I"⟩, 30), (⟨"RainIndexModel", "trusts", "(III)V"⟩, 30), (⟨"RainIndexModel", "looks", "(II)I"⟩, 30), (⟨"RainIndexModel", "isOf", "(III)Z"⟩, 30), (⟨"RainIndexModel", "sumOf", "(I)I"⟩, 30)]
theorem lw_r3 : ∀ q ∈ lw_privs_3, lw_okq q := List.forall_mem_cons.mpr ⟨lw_p32, List.forall_mem_cons.mpr ⟨lw_p33, List.forall_mem_cons.mpr ⟨lw_p34, List.forall_mem_cons.mpr ⟨lw_p35, List.forall_mem_cons.mpr ⟨lw_p36, List.forall_mem_cons.mpr ⟨lw_p37, List.forall_mem_cons.mpr ⟨lw_p38, List.forall_mem_cons.mpr ⟨lw_p39, fun _ h => absurd h List.not_mem_nil⟩⟩⟩⟩⟩⟩⟩⟩
def lw_privs : List (MethodName × Nat) := lw_privs_1 ++ (lw_privs_2 ++ (lw_privs_3))
def lw_tbl : List Cond := k2_sels lw_privs ++ tables_1
theorem lw_privs_ok : ∀ q ∈ lw_privs, lw_okq q := by
  show ∀ q ∈ lw_privs_1 ++ (lw_privs_2 ++ (lw_privs_3)), lw_okq q
  exact List.forall_mem_append.mpr ⟨lw_r1, List.forall_mem_append.mpr ⟨lw_r2, lw_r3⟩⟩
/-! ===== BEGIN words of one list among another's, by their places ===== -/
theorem goodIn_r {big : List Cond} (ws : List Cond) (ps : List Nat) (hp : ws = ps.filterMap (fun i => big[i]?)) (h : ws.all goodWord = true) : GoodIn big ws := by
  intro w hw
  have h1 := List.all_eq_true.mp h w hw
  rw [hp] at hw
  obtain ⟨i, -, hi⟩ := List.mem_filterMap.mp hw
  have hm : w ∈ big := by first | exact List.mem_of_getElem? hi | exact List.getElem?_mem hi
  exact ⟨hm, good_of_word h1⟩
theorem goodIn_app {big a b : List Cond} (ha : GoodIn big a) (hb : GoodIn big b) : GoodIn big (a ++ b) := fun w h => (List.mem_append.mp h).elim (ha w) (hb w)
theorem goodIn_ca {big a b : List Cond} {c : Cond} (ha : GoodIn big (c :: a)) (hb : GoodIn big b) : GoodIn big (c :: (a ++ b)) := fun w h => (List.mem_cons.mp h).elim (fun e => ha w (List.mem_cons.mpr (Or.inl e))) (fun h => (List.mem_append.mp h).elim (fun h => ha w (List.mem_cons.mpr (Or.inr h))) (hb w))
theorem goodIn_sub {big ws : List Cond} (hm : ∀ w ∈ ws, w ∈ big) (h : ws.all goodWord = true) : GoodIn big ws := fun w hw => ⟨hm w hw, good_of_word (List.all_eq_true.mp h w hw)⟩
/-! ===== END ===== -/

/-! ===== BEGIN exceptions that leave a method, and their catching by the caller (launches without stack traces) ===== -/
section VXA
/-! The laws vx_back, vx_callV, vx_callS, vx_callSW, vx_throw0, vx_throwS follow proofs of the library, with one case more: JvmDerived/Free/Laws.lean (Back.of_free), Shelf42/LK1.lean (callV, callS), Shelf/KitTraced.lean (throwNew0V, throwNewS). -/
/-- where a method has thrown q: the class by its name, the cell, what was written, the world -/
def vx_T (XC : String → State → State → Prop) (st : State) (q : Addr) (t : State) (mc ms : Nat) (free : Addr → Prop) : Prop :=
  ∃ (E : String) (ce : Cell) (L : List Loc), XC E st t ∧ t.heap[q]? = some ce ∧ ce.vm = .none ∧ st.vm.findClass E = some ce.cls ∧ st.WarmedH t.vm ∧ st.sameButNew ({ t with vm := st.vm } : State) L mc ms ∧ ∀ z ∈ L, free z.base
def vx_Q (Qc : Array Value → State → Outcome → State → Prop) (XC : String → State → State → Prop) (mc ms : Nat) (free : Addr → Prop) : Array Value → State → Outcome → State → Prop := fun a st o t =>
  (Qc a st o t ∧ ∃ L, FrameEnd st o t L mc ms ∧ ∀ q ∈ L, free q.base) ∨ ∃ q, o = .threw q ∧ vx_T XC st q t mc ms free
/-- a callee that returns or throws -/
def vx_Met (l : Launch) (y : MethodName) (ws : List Cond) (rm : Room) (Pc : Array Value → State → Prop) (Qc : Array Value → State → Outcome → State → Prop) (XC : String → State → State → Prop) (mc ms : Nat) (free : Addr → Prop) : Prop :=
  MetFree l y (headSpec ws rm) Pc (fun _ _ _ _ _ => True) (vx_Q Qc XC mc ms free)
def vx_Post (XC : String → State → State → Prop) (mc ms : Nat) (free : Addr → Prop) : Pt → Array Value → Addr → Pt → Prop := fun A a q B =>
  ∃ (g : JFrame) (mk : MethodId) (t : State) (L : List Loc) (E : String) (ce : Cell), B.U.heap = t.heap ∧ B.U.vm = t.vm ∧ XC E (A.U.calling g mk a) t ∧ t.heap[q]? = some ce ∧ ce.vm = .none ∧ A.U.vm.findClass E = some ce.cls ∧ B.locs = A.locs ++ L ∧ (∀ z ∈ L, free z.base) ∧ B.cells = A.cells + mc ∧ B.slots = A.slots + ms
def vx_Back (l : Launch) (R : Room) (p : Program) (e : Env) (below : List Frame) (s : State) (sargs : Array Value) (y : MethodName) (len W9 : Nat)
    (Pre : Pt → Array Value → Prop) (Post : Pt → Array Value → Option Value → Pt → Prop) (PostX : Pt → Array Value → Addr → Pt → Prop) : Prop :=
  ∀ (m : MethodId) (meth : Method) (c : Code) (A : Pt) (g : JFrame) (ig : Instr) (mk : MethodId) (a : Array Value),
    Stand p l e R s m sargs below meth c A.U A.locs A.cells A.slots → g.method = m → g.locals.size = c.maxLocals → decode c.code g.pc = .ok (ig, len) →
    2 * g.monitorRoom + (g.stack.map fun v => v.category).sum ≤ W9 → A.U.methodNamed? y = some mk → Pre A a →
    (∃ (v : Option Value) (B : Pt), Stand p l e R s m sargs below meth c B.U B.locs B.cells B.slots ∧ Post A a v B ∧
      Steps p.tables e below (doInvoke e (A.U.setTop g) [] mk a).1 (B.U.setTop { g with pc := g.pc + len, stack := v.toList ++ g.stack })) ∨
    (∃ (q : Addr) (B : Pt), Stand p l e R s m sargs below meth c B.U B.locs B.cells B.slots ∧ PostX A a q B ∧
      Steps p.tables e below (doInvoke e (A.U.setTop g) [] mk a).1 ((B.U.setTop g).pushFrame (.throwing q)))
section Payer
variable {l : Launch} {R : Room} {p : Program} {e : Env} {below : List Frame} {s : State} {sargs : Array Value} {y : MethodName} {len W9 : Nat}
theorem vx_back {ws : List Cond} {rm : Room} {Pc : Array Value → State → Prop} {Qc : Array Value → State → Outcome → State → Prop} {XC : String → State → State → Prop} {mc ms : Nat} {free : Addr → Prop} {bytes : ByteArray} {maxL : Nat} {ret : Option FieldType}
    (hM : vx_Met l y ws rm Pc Qc XC mc ms free) (hblind : FrameBlind Pc) (hrc : rm.cells = mc) (hrs : rm.slots = ms)
    (hframes : rm.frames + 1 ≤ R.frames) (hlocals : W9 + (maxL + 11) + rm.locals ≤ R.locals)
    (hws : ∀ w ∈ ws, ∀ a' U, s.WarmedH U.vm → w.before a' U = true) (hcode : Cond.code y bytes maxL ret ∈ ws) (hinit : ∀ a' U, s.WarmedH U.vm → (Cond.initialized y.cls).before a' U = true) :
    vx_Back l R p e below s sargs y len W9 (PreOf R mc ms Pc) (PostOf Qc mc ms free) (vx_Post XC mc ms free) := by
  intro m meth c A g ig mk a X hg hsize hdg hW hn hp
  have h1 : (headSpec ws rm).pre.before a A.U = true := atoms_intro fun w hw => hws w hw _ _ X.warmed
  have h2 : (Cond.code y bytes maxL ret).before a A.U = true := hws _ hcode _ _ X.warmed
  have h3 : (Cond.initialized y.cls).before a A.U = true := hinit _ _ X.warmed
  have h4 : A.cells + (headSpec ws rm).room.cells ≤ R.cells := by rw [show (headSpec ws rm).room.cells = mc from hrc]; exact hp.1
  have h5 : A.slots + (headSpec ws rm).room.slots ≤ R.slots := by rw [show (headSpec ws rm).room.slots = ms from hrs]; exact hp.2.1
  have hPc : Pc a (A.U.calling g mk a) := hblind _ _ _ _ hp.2.2
  obtain ⟨U, Ls, c0, s0⟩ := A
  dsimp only [Pt.U, Pt.locs, Pt.cells, Pt.slots] at h1 h2 h3 h4 h5 X hn hPc ⊢
  obtain ⟨methY, cY, hmY, hcY, -, hlY, -, -, -, -⟩ := Cond.code_spec hn h2
  obtain ⟨kY, hkY, -⟩ := className_of_methodNamed hn
  have hinitY : kY.init = .initialized := Cond.initialized_spec (findClass_of_methodNamed hn) hkY h3
  have h : At U g.method c below := by rw [hg]; exact X.here
  have hlocals9 : W9 + (maxL + 11) + (headSpec ws rm).room.locals ≤ R.locals := hlocals
  have happ : (headSpec ws rm).appliesLoose y e.platform (U.calling g mk a) = true :=
    Spec.appliesLoose_calling (g := g) h hdg hn hkY hinitY
      (X.room_calling (g := g) (R' := (headSpec ws rm).room) hsize hmY hcY hframes (by rw [hlY]; omega) h4 h5) h1
  obtain ⟨mid, hmid⟩ := h.above
  have hfr : (U.setTop g).frames = (.java g :: mid) ++ below := by rw [State.frames_setTop' g h.top, hmid]; rfl
  obtain ⟨o, s₂, hsteps, -, hend, hq⟩ := Steps.callFree hM p X.admits X.cas X.clock (acts := []) hfr happ hPc trivial
  have hq' : vx_Q Qc XC mc ms free a (U.calling g mk a) o s₂ := hq
  rw [State.frames_setTop' g h.top] at hend
  obtain ⟨g₀, hg0⟩ := Option.isSome_iff_exists.mp h.top
  obtain ⟨r, hr⟩ := State.topJava?_eq_some.mp hg0
  have hr' : (({ U with heap := s₂.heap, slotsUsed := s₂.slotsUsed } : State).setVm s₂.vm).frames = .java g₀ :: r := hr
  rcases hq' with ⟨hqc, L, hfe, hL⟩ | ⟨q, rfl, E, ce, L, hx, hce, hcv, hcl, hW₂, hsm, hL⟩
  · obtain ⟨⟨v, rfl⟩, hW₂, e2, q2, q3, q4, q5, q6⟩ := id hfe
    have e3 : s₂ = ({ (U.calling g mk a).setFrames s₂.frames with heap := s₂.heap, slotsUsed := s₂.slotsUsed } : State).setVm s₂.vm := by
      have : s₂ = ({ s₂ with vm := (U.calling g mk a).vm } : State).setVm s₂.vm := rfl
      rw [e2] at this
      exact this
    obtain ⟨c₂, i₂, len₂, hc₂, hd₂, hf₂⟩ := hend
    have hW' : U.WarmedH s₂.vm := hW₂
    have hcc : c₂ = c := by
      have h1 : s₂.code? g.method = U.code? g.method := by
        rw [State.code?_eq, State.code?_eq, hW'.alike.method?]
      exact Option.some.inj (hc₂.symm.trans (h1.trans h.code))
    subst hcc
    have hlen : len₂ = len := by rw [hdg] at hd₂; cases hd₂; rfl
    subst hlen
    have hs₂ : s₂ = (({ U with heap := s₂.heap, slotsUsed := s₂.slotsUsed } : State).setVm s₂.vm).setTop { g with pc := g.pc + len₂, stack := v.toList ++ g.stack } := by
      refine e3.trans ?_
      rw [hf₂, State.calling_eq h.top, State.setFrames_setFrames, State.setTop_of_frames _ hr', hr]
      rfl
    have hsame : U.sameButNew ({ U with heap := s₂.heap, slotsUsed := s₂.slotsUsed } : State) L mc ms := by
      refine ⟨?_, q2, q3, q4, q5, q6⟩
      obtain ⟨t, ht, -⟩ := State.frames_cons hr
      show ({ U with heap := s₂.heap, slotsUsed := s₂.slotsUsed } : State) = { U.setFrames U.frames with heap := s₂.heap, slotsUsed := s₂.slotsUsed }
      rw [State.setFrames_self ht]
    subst hg
    refine Or.inl ⟨v, ⟨(({ U with heap := s₂.heap, slotsUsed := s₂.slotsUsed } : State).setVm s₂.vm), Ls ++ L, c0 + mc, s0 + ms⟩,
      ⟨X.admits, X.cas, X.clock, X.frames, X.room, X.hears, X.method, X.code, (X.here.setHeapUsed s₂.heap s₂.slotsUsed).setVm hW'.alike, X.tail, State.WarmedH.trans X.warmed hW', X.limits, X.bytes, X.same.trans (hsame.setVm s.vm)⟩,
      ⟨g, mk, s₂, L, rfl, rfl, hqc, rfl, hL, rfl, rfl⟩, ?_⟩
    show Steps p.tables e below _ ((({ U with heap := s₂.heap, slotsUsed := s₂.slotsUsed } : State).setVm s₂.vm).setTop { g with pc := g.pc + len₂, stack := v.toList ++ g.stack })
    rw [← hs₂]
    exact hsteps
  · obtain ⟨e2, q2, q3, q4, q5, q6⟩ := id hsm
    have e3 : s₂ = ({ (U.calling g mk a).setFrames s₂.frames with heap := s₂.heap, slotsUsed := s₂.slotsUsed } : State).setVm s₂.vm := by
      have : s₂ = ({ s₂ with vm := (U.calling g mk a).vm } : State).setVm s₂.vm := rfl
      rw [e2] at this
      exact this
    have hf₂ : s₂.frames = .throwing q :: .java g :: U.frames.tail := hend
    have hW' : U.WarmedH s₂.vm := hW₂
    have hs₂ : s₂ = ((({ U with heap := s₂.heap, slotsUsed := s₂.slotsUsed } : State).setVm s₂.vm).setTop g).pushFrame (.throwing q) := by
      refine e3.trans ?_
      rw [hf₂, State.calling_eq h.top, State.setFrames_setFrames, State.pushFrame, State.frames_setTop _ hr', State.setTop_of_frames _ hr', State.setFrames_setFrames, hr]
      rfl
    have hsame : U.sameButNew ({ U with heap := s₂.heap, slotsUsed := s₂.slotsUsed } : State) L mc ms := by
      refine ⟨?_, q2, q3, q4, q5, q6⟩
      obtain ⟨t, ht, -⟩ := State.frames_cons hr
      show ({ U with heap := s₂.heap, slotsUsed := s₂.slotsUsed } : State) = { U.setFrames U.frames with heap := s₂.heap, slotsUsed := s₂.slotsUsed }
      rw [State.setFrames_self ht]
    subst hg
    refine Or.inr ⟨q, ⟨(({ U with heap := s₂.heap, slotsUsed := s₂.slotsUsed } : State).setVm s₂.vm), Ls ++ L, c0 + mc, s0 + ms⟩,
      ⟨X.admits, X.cas, X.clock, X.frames, X.room, X.hears, X.method, X.code, (X.here.setHeapUsed s₂.heap s₂.slotsUsed).setVm hW'.alike, X.tail, State.WarmedH.trans X.warmed hW', X.limits, X.bytes, X.same.trans (hsame.setVm s.vm)⟩,
      ⟨g, mk, s₂, L, E, ce, rfl, rfl, hx, hce, hcv, hcl, rfl, hL, rfl, rfl⟩, ?_⟩
    show Steps p.tables e below _ (((({ U with heap := s₂.heap, slotsUsed := s₂.slotsUsed } : State).setVm s₂.vm).setTop g).pushFrame (.throwing q))
    rw [← hs₂]
    exact hsteps
end Payer
section Calls
variable {p : Program} {l : Launch} {e : Env} {R : Room} {s : State} {m : MethodId} {args : Array Value} {below : List Frame} {meth : Method} {c : Code} {T : State} {locs : List Loc} {cells slots : Nat}
theorem vx_callV (X : Stand p l e R s m args below meth c T locs cells slots) (hexec : p.tables.exec = Jvm.exec) {own C : String} {index : Nat} {y : MethodName} {bytes : ByteArray} {maxL : Nat} {ret : Option FieldType}
    (hown : s.vm.findClass own = some m.cls) (hlink : (Cond.methodLink own index y).before args s = true) (hinst : (Cond.instanceMethod y).before args s = true) (hsel : (Cond.selects C y y).before args s = true)
    (hcode : (Cond.code y bytes maxL ret).before args s = true) (hy : y.cls ≠ "java/lang/invoke/MethodHandle" ∧ y.cls ≠ "java/lang/invoke/VarHandle")
    {W9 : Nat} {Pre : Pt → Array Value → Prop} {Post : Pt → Array Value → Option Value → Pt → Prop} {PostX : Pt → Array Value → Addr → Pt → Prop} (hK : vx_Back l R p e below s args y 3 W9 Pre Post PostX)
    {b : Addr} {cellB : Cell} (hcell : T.heap[b]? = some cellB) (hobj : cellB.vm.isStatics = false) (hcls : s.vm.findClass C = some cellB.cls)
    {g : JFrame} (hg : g.method = m) (hsize : g.locals.size = c.maxLocals) {argsL rest : List Value} (hlen : ∀ sig, parseMethodDescriptor y.desc = some sig → argsL.length = sig.parameters.length)
    (hstack : g.stack = argsL.reverse ++ .ref b :: rest) (hW : 2 * g.monitorRoom + (rest.map fun v => v.category).sum ≤ W9) (hdg : decode c.code g.pc = .ok (.invokevirtual index, 3))
    (hpre : ∀ vm₁, s.WarmedH vm₁ → Pre ⟨T.setVm vm₁, locs, cells, slots⟩ (Value.ref b :: argsL).toArray) :
    (∃ (v : Option Value) (vm₁ : Vm) (B : Pt), s.WarmedH vm₁ ∧ Stand p l e R s m args below meth c B.U B.locs B.cells B.slots ∧ Post ⟨T.setVm vm₁, locs, cells, slots⟩ (Value.ref b :: argsL).toArray v B ∧
      ∀ target, Steps p.tables e below (B.U.setTop { g with pc := g.pc + 3, stack := v.toList ++ rest }) target → Steps p.tables e below (T.setTop g) target) ∨
    (∃ (q : Addr) (vm₁ : Vm) (B : Pt), s.WarmedH vm₁ ∧ Stand p l e R s m args below meth c B.U B.locs B.cells B.slots ∧ PostX ⟨T.setVm vm₁, locs, cells, slots⟩ (Value.ref b :: argsL).toArray q B ∧
      Steps p.tables e below (T.setTop g) ((B.U.setTop { g with stack := rest }).pushFrame (.throwing q))) := by
  obtain ⟨mk, methM, hnamed, hmethM, hstM, habM⟩ := Cond.instanceMethod_spec hinst
  obtain ⟨methM', cM, hmethM', -, -, -, -, -, -, hsigM⟩ := Cond.code_spec hnamed hcode
  cases hmethM.symm.trans hmethM'
  obtain ⟨c2, r2, m2, q1, q2, q3, q4, kP, hkP, hkPi⟩ := Cond.selects_spec hsel
  cases hcls.symm.trans q1
  cases (State.methodFound?_of_named hnamed hy).symm.trans q2
  cases hnamed.symm.trans q3
  have hselP : selectMethod e.platform s.vm cellB.cls mk = .method mk := by rw [Launch.admits_selectMethod X.admits]; exact q4
  obtain ⟨vm₁, X₁, hstep₁⟩ := X.invokevirtual hexec hown hlink hnamed hmethM hstM hkP hkPi hy (a := b) (cell := cellB) hcell
    (fun z h => by rw [h] at hobj; cases hobj) hselP hmethM habM hkP hkPi (g := g) hg (argsL := argsL) (rest := rest) (hlen _ hsigM) hstack hdg
  rcases hK m meth c ⟨T.setVm vm₁, locs, cells, slots⟩ { g with stack := rest } (.invokevirtual index) mk (Value.ref b :: argsL).toArray X₁ hg hsize hdg hW (X₁.named hnamed) (hpre vm₁ X₁.warmed) with ⟨v, B, X', hpost, hsteps⟩ | ⟨q, B, X', hpost, hsteps⟩
  · exact Or.inl ⟨v, vm₁, B, X₁.warmed, X', hpost, fun target h => hstep₁ _ fun acts => by rw [doInvoke_state]; exact hsteps.trans h⟩
  · exact Or.inr ⟨q, vm₁, B, X₁.warmed, X', hpost, hstep₁ _ fun acts => by rw [doInvoke_state]; exact hsteps⟩
theorem vx_callS (X : Stand p l e R s m args below meth c T locs cells slots) (hexec : p.tables.exec = Jvm.exec) {own : String} {index : Nat} {y : MethodName} {bytes : ByteArray} {maxL : Nat} {ret : Option FieldType}
    (hown : s.vm.findClass own = some m.cls) (hlink : (Cond.methodLink own index y).before args s = true) (hstat : (Cond.static y).before args s = true) (hinit : (Cond.initialized y.cls).before args s = true)
    (hcode : (Cond.code y bytes maxL ret).before args s = true) (hy : y.cls ≠ "java/lang/invoke/MethodHandle" ∧ y.cls ≠ "java/lang/invoke/VarHandle")
    {W9 : Nat} {Pre : Pt → Array Value → Prop} {Post : Pt → Array Value → Option Value → Pt → Prop} {PostX : Pt → Array Value → Addr → Pt → Prop} (hK : vx_Back l R p e below s args y 3 W9 Pre Post PostX)
    {g : JFrame} (hg : g.method = m) (hsize : g.locals.size = c.maxLocals) {argsL rest : List Value} (hlen : ∀ sig, parseMethodDescriptor y.desc = some sig → argsL.length = sig.parameters.length)
    (hstack : g.stack = argsL.reverse ++ rest) (hW : 2 * g.monitorRoom + (rest.map fun v => v.category).sum ≤ W9) (hdg : decode c.code g.pc = .ok (.invokestatic index, 3))
    (hpre : ∀ vm₁, s.WarmedH vm₁ → Pre ⟨T.setVm vm₁, locs, cells, slots⟩ argsL.toArray) :
    (∃ (v : Option Value) (vm₁ : Vm) (B : Pt), s.WarmedH vm₁ ∧ Stand p l e R s m args below meth c B.U B.locs B.cells B.slots ∧ Post ⟨T.setVm vm₁, locs, cells, slots⟩ argsL.toArray v B ∧
      ∀ target, Steps p.tables e below (B.U.setTop { g with pc := g.pc + 3, stack := v.toList ++ rest }) target → Steps p.tables e below (T.setTop g) target) ∨
    (∃ (q : Addr) (vm₁ : Vm) (B : Pt), s.WarmedH vm₁ ∧ Stand p l e R s m args below meth c B.U B.locs B.cells B.slots ∧ PostX ⟨T.setVm vm₁, locs, cells, slots⟩ argsL.toArray q B ∧
      Steps p.tables e below (T.setTop g) ((B.U.setTop { g with stack := rest }).pushFrame (.throwing q))) := by
  obtain ⟨mk, hnamed⟩ := Cond.code_named hcode
  obtain ⟨methM, cM, hmethM, -, -, -, -, -, -, hsigM⟩ := Cond.code_spec hnamed hcode
  have hstatic : methM.isStatic = true := Cond.static_spec hnamed hmethM hstat
  obtain ⟨kP, hkP, -⟩ := className_of_methodNamed hnamed
  have hinitP : kP.init = .initialized := Cond.initialized_spec (findClass_of_methodNamed hnamed) hkP hinit
  obtain ⟨vm₁, X₁, hstep₁⟩ := X.invokestatic hexec hown hlink hnamed hmethM hstatic hkP hinitP hy (g := g) hg (argsL := argsL) (rest := rest) (hlen _ hsigM) hstack hdg
  rcases hK m meth c ⟨T.setVm vm₁, locs, cells, slots⟩ { g with stack := rest } (.invokestatic index) mk argsL.toArray X₁ hg hsize hdg hW (X₁.named hnamed) (hpre vm₁ X₁.warmed) with ⟨v, B, X', hpost, hsteps⟩ | ⟨q, B, X', hpost, hsteps⟩
  · exact Or.inl ⟨v, vm₁, B, X₁.warmed, X', hpost, fun target h => hstep₁ _ fun acts => by rw [doInvoke_state]; exact hsteps.trans h⟩
  · exact Or.inr ⟨q, vm₁, B, X₁.warmed, X', hpost, hstep₁ _ fun acts => by rw [doInvoke_state]; exact hsteps⟩
end Calls
theorem vx_cls {s : State} {T : State} {vm₁ : Vm} {E : String} {k : ClassId} (hW : s.WarmedH vm₁) (h : (T.setVm vm₁).vm.findClass E = some k) : s.vm.findClass E = some k := by
  have h1 : vm₁.findClass E = some k := h
  rw [hW.alike.findClass] at h1
  exact h1
/-- the method's frame g, with q thrown over it -/
def vx_W (p : Program) (l : Launch) (e : Env) (R : Room) (s : State) (m : MethodId) (args : Array Value) (below : List Frame) (meth : Method) (c : Code) (H : Heap) (locs : List Loc) (cells slots : Nat) (Q : State → Prop) (g : JFrame) (q : Addr) : Prop :=
  ∀ T : State, T.heap = H → Stand p l e R s m args below meth c T locs cells slots → ∃ t, Steps p.tables e below ((T.setTop g).pushFrame (.throwing q)) t ∧ Q t
def vx_Run (p : Program) (l : Launch) (e : Env) (R : Room) (s : State) (m : MethodId) (args : Array Value) (below : List Frame) (meth : Method) (c : Code) (H : Heap) (locs : List Loc) (cells slots mc ms : Nat) (g : JFrame) (rest : List Value) (Qa : State → Outcome → State → Prop) (XC : String → State → State → Prop) (free : Addr → Prop) : Prop :=
  ∀ T : State, T.heap = H → Stand p l e R s m args below meth c T locs cells slots →
    (∃ (v : Option Value) (st₀ t T' : State) (L : List Loc), st₀.heap = H ∧ Stand p l e R s m args below meth c T' (locs ++ L) (cells + mc) (slots + ms) ∧ (∀ q ∈ L, free q.base) ∧ T'.heap = t.heap ∧ T'.vm = t.vm ∧ Qa st₀ (.returned v) t ∧
      Goes p e below T g T' { g with pc := g.pc + 3, stack := v.toList ++ rest }) ∨
    (∃ (q : Addr) (st₀ t T' : State) (L : List Loc) (E : String) (ce : Cell), st₀.heap = H ∧ Stand p l e R s m args below meth c T' (locs ++ L) (cells + mc) (slots + ms) ∧ (∀ z ∈ L, free z.base) ∧ T'.heap = t.heap ∧ T'.vm = t.vm ∧ XC E st₀ t ∧ t.heap[q]? = some ce ∧ ce.vm = .none ∧ s.vm.findClass E = some ce.cls ∧
      Steps p.tables e below (T.setTop g) ((T'.setTop { g with stack := rest }).pushFrame (.throwing q)))
def vx_X {S : Type} (px : S → Prop) (B : String → S → State → Prop) (A : Nat → Prop) : String → State → State → Prop := fun E st t => ∃ u : S, px u ∧ B E u t ∧ va_F A st t
section Runs
variable {p : Program} {l : Launch} {e : Env} {R : Room} {s : State} {m : MethodId} {args : Array Value} {below : List Frame} {meth : Method} {c : Code} {H : Heap} {locs : List Loc} {cells slots : Nat}
variable {y : MethodName} {bytes cc : ByteArray} {maxL nL mc ms n index : Nat} {ret : Option FieldType} {ws : List Cond} {rm : Room} {Pc : Array Value → State → Prop} {Qc : Array Value → State → Outcome → State → Prop} {XC : String → State → State → Prop} {free : Addr → Prop} {Ts : List Cond} {own C : String} {b : Addr} {As rest : List Value} {g : JFrame}
theorem vx_callBack (cb : CallB R s args own index y bytes maxL ret ws rm mc ms n) (hM : vx_Met l y ws rm Pc Qc XC mc ms free) (hbl : FrameBlind Pc) : vx_Back l R p e below s args y 3 8 (PreOf R mc ms Pc) (PostOf Qc mc ms free) (vx_Post XC mc ms free) := by
  obtain ⟨hrc, hrs, hfr, hlo, hws, hcw, -, hini, -⟩ := cb
  exact vx_back (bytes := bytes) (maxL := maxL) (ret := ret) hM hbl hrc hrs hfr hlo hws hcw (fun a' U hW => word_at hW (Or.inl (by first | rfl | simp [Cond.onTables, Cond.keeps, Cond.steady])) hini)
theorem vx_runV (S : CallFix p m c cc nL s args Ts own) (hM : vx_Met l y ws rm Pc Qc XC mc ms free) (cw : CallW R s args own C index y bytes maxL ret ws rm mc ms n) (hp : PreV s H C b Pc As)
    (hg : g.method = m) (hn : As.length = n) (hsize : g.locals.size = nL) (hstack : g.stack = As.reverse ++ .ref b :: rest) (hW : 2 * g.monitorRoom + (rest.map fun v => v.category).sum ≤ 8) (hdg : decode cc g.pc = .ok (.invokevirtual index, 3)) (hf : cells + mc ≤ R.cells ∧ slots + ms ≤ R.slots) :
    vx_Run p l e R s m args below meth c H locs cells slots mc ms g rest (Qc (Value.ref b :: As).toArray) XC free := by
  have hK : vx_Back l R p e below s args y 3 8 (PreOf R mc ms Pc) (PostOf Qc mc ms free) (vx_Post XC mc ms free) := vx_callBack cw.1 hM hp.1
  obtain ⟨⟨-, -, -, -, -, -, hcode, -, hy, hlen, hl⟩, hin, hse⟩ := cw
  obtain ⟨hx, hb, hml, ho, -⟩ := S
  obtain ⟨-, ⟨cellB, hcB, hoB, hclB⟩, hPc⟩ := hp
  intro T hT X
  rcases vx_callV X hx (C := C) (bytes := bytes) (maxL := maxL) (ret := ret) ho hl hin hse hcode hy hK (by rw [hT]; exact hcB) hoB hclB hg (hsize.trans hml.symm) (argsL := As) (rest := rest) (fun sig h => hn.trans (hlen sig h)) hstack hW (by rw [hb]; exact hdg)
    (fun vm₁ hW₁ => ⟨hf.1, hf.2, hPc (T.setVm vm₁) hT hW₁⟩) with ⟨v, vm₁, ⟨U', l2, c2, s2⟩, hW₁, X', ⟨g', mk, t, L, e1, e2, hq, h1, hL, h2, h3⟩, st⟩ | ⟨q, vm₁, ⟨U', l2, c2, s2⟩, hW₁, X', ⟨g', mk, t, L, E, ce, e1, e2, hq, hce, hcv, hcl, h1, hL, h2, h3⟩, st⟩
  · dsimp only [Pt.U, Pt.locs, Pt.cells, Pt.slots] at X' e1 e2 h1 h2 h3 st
    subst h1; subst h2; subst h3
    exact Or.inl ⟨v, (T.setVm vm₁).calling g' mk (Value.ref b :: As).toArray, t, U', L, hT, X', hL, e1, e2, hq, st⟩
  · dsimp only [Pt.U, Pt.locs, Pt.cells, Pt.slots] at X' e1 e2 h1 h2 h3 st hcl
    subst h1; subst h2; subst h3
    exact Or.inr ⟨q, (T.setVm vm₁).calling g' mk (Value.ref b :: As).toArray, t, U', L, E, ce, hT, X', hL, e1, e2, hq, hce, hcv, vx_cls hW₁ hcl, st⟩
theorem vx_runS (S : CallFix p m c cc nL s args Ts own) (hM : vx_Met l y ws rm Pc Qc XC mc ms free) (cw : CallB R s args own index y bytes maxL ret ws rm mc ms n ∧ (Cond.static y).before args s = true) (hp : PreS s H Pc As)
    (hg : g.method = m) (hn : As.length = n) (hsize : g.locals.size = nL) (hstack : g.stack = As.reverse ++ rest) (hW : 2 * g.monitorRoom + (rest.map fun v => v.category).sum ≤ 8) (hdg : decode cc g.pc = .ok (.invokestatic index, 3)) (hf : cells + mc ≤ R.cells ∧ slots + ms ≤ R.slots) :
    vx_Run p l e R s m args below meth c H locs cells slots mc ms g rest (Qc As.toArray) XC free := by
  have hK : vx_Back l R p e below s args y 3 8 (PreOf R mc ms Pc) (PostOf Qc mc ms free) (vx_Post XC mc ms free) := vx_callBack cw.1 hM hp.1
  obtain ⟨⟨-, -, -, -, -, -, hcode, hini, hy, hlen, hl⟩, hstt⟩ := cw
  obtain ⟨hx, hb, hml, ho, -⟩ := S
  intro T hT X
  rcases vx_callS X hx (bytes := bytes) (maxL := maxL) (ret := ret) ho hl hstt hini hcode hy hK hg (hsize.trans hml.symm) (argsL := As) (rest := rest) (fun sig h => hn.trans (hlen sig h)) hstack hW (by rw [hb]; exact hdg)
    (fun vm₁ hW₁ => ⟨hf.1, hf.2, hp.2 (T.setVm vm₁) hT hW₁⟩) with ⟨v, vm₁, ⟨U', l2, c2, s2⟩, hW₁, X', ⟨g', mk, t, L, e1, e2, hq, h1, hL, h2, h3⟩, st⟩ | ⟨q, vm₁, ⟨U', l2, c2, s2⟩, hW₁, X', ⟨g', mk, t, L, E, ce, e1, e2, hq, hce, hcv, hcl, h1, hL, h2, h3⟩, st⟩
  · dsimp only [Pt.U, Pt.locs, Pt.cells, Pt.slots] at X' e1 e2 h1 h2 h3 st
    subst h1; subst h2; subst h3
    exact Or.inl ⟨v, (T.setVm vm₁).calling g' mk As.toArray, t, U', L, hT, X', hL, e1, e2, hq, st⟩
  · dsimp only [Pt.U, Pt.locs, Pt.cells, Pt.slots] at X' e1 e2 h1 h2 h3 st hcl
    subst h1; subst h2; subst h3
    exact Or.inr ⟨q, (T.setVm vm₁).calling g' mk As.toArray, t, U', L, E, ce, hT, X', hL, e1, e2, hq, hce, hcv, vx_cls hW₁ hcl, st⟩
end Runs
section Rows
variable {p : Program} {l : Launch} {e : Env} {R : Room} {s : State} {m : MethodId} {args : Array Value} {below : List Frame} {meth : Method} {c : Code} {H : Heap} {locs : List Loc} {cells slots : Nat} {Q : State → Prop}
variable {mc ms : Nat} {free : Addr → Prop} {A0 A1 : Nat → Prop} {H0 : Heap} {a : Array Value} {pc : Nat} {ls : Array Slot} {st0 rest : List Value}
theorem vx_keep {st₀ t T' : State} {L : List Loc} (h0 : st₀.heap = H) (e1 : T'.heap = t.heap) (hS : va_S A0 H0 H locs) (hA : ∀ q, q < H.size → A1 q → A0 q) (hf : ∀ q, free q → A0 q) (hL : ∀ q ∈ L, free q.base) (hF : va_F A1 st₀ t) :
    H.size ≤ T'.heap.size ∧ (∀ q : Nat, q < H.size → ¬ A1 q → T'.heap[q]? = H[q]?) ∧ va_S A0 H0 T'.heap (locs ++ L) := by
  obtain ⟨hz, hk⟩ := hF
  rw [h0] at hz hk
  exact ⟨by rw [e1]; exact hz, fun q h1 h2 => by rw [e1]; exact hk q h1 h2,
    ⟨Nat.le_trans hS.1 (by rw [e1]; exact hz), fun q h1 h2 => by rw [e1, hk q (Nat.lt_of_lt_of_le h1 hS.1) (fun z => h2 (hA q (Nat.lt_of_lt_of_le h1 hS.1) z))]; exact hS.2.1 q h1 h2, fun q hq => by
      rcases List.mem_append.mp hq with h | h
      · exact hS.2.2 q h
      · exact hf _ (hL q h)⟩⟩
theorem vx_calli {S SX : Type} {post : Int32 → S → Prop} {px : SX → Prop} {B : S → State → Prop} {BX : String → SX → State → Prop} {AX : Nat → Prop} (hr : vx_Run p l e R s m args below meth c H locs cells slots mc ms (F0 m pc ls st0) rest (va_Qi post B A1 a) (vx_X px BX AX) free) (hS : va_S A0 H0 H locs) (hA : ∀ q, q < H.size → A1 q → A0 q) (hf : ∀ q, free q → A0 q) (hAX : ∀ q, q < H.size → AX q → A0 q)
    (kx : ∀ (E : String) (ce : Cell) (q9 : Addr) (u : SX) (t : State) (H1 : Heap) (locs1 : List Loc), t.heap = H1 → s.vm.Alike t.vm → px u → BX E u t → H.size ≤ H1.size → (∀ q : Nat, q < H.size → ¬ AX q → H1[q]? = H[q]?) → va_S A0 H0 H1 locs1 → H1[q9]? = some ce → ce.vm = .none → s.vm.findClass E = some ce.cls → vx_W p l e R s m args below meth c H1 locs1 (cells + mc) (slots + ms) Q (F0 m pc ls rest) q9)
    (kk : ∀ (r : Int32) (u : S) (t : State) (H1 : Heap) (locs1 : List Loc), t.heap = H1 → s.vm.Alike t.vm → post r u → B u t → H.size ≤ H1.size → (∀ q : Nat, q < H.size → ¬ A1 q → H1[q]? = H[q]?) → va_S A0 H0 H1 locs1 → W p l e R s m args below meth c H1 locs1 (cells + mc) (slots + ms) Q (F0 m (pc + 3) ls (.int r :: rest))) : W p l e R s m args below meth c H locs cells slots Q (F0 m pc ls st0) := by
  intro T hT X
  rcases hr T hT X with ⟨v, st₀, t, T', L, h0, X', hL, e1, e2, ⟨⟨r, u, hv, hp, hb⟩, hF⟩, st⟩ | ⟨q, st₀, t, T', L, E, ce, h0, X', hL, e1, e2, ⟨u, hp, hb, hF⟩, hce, hcv, hcl, st⟩
  · cases hv
    obtain ⟨k1, k2, k3⟩ := vx_keep h0 e1 hS hA hf hL hF
    obtain ⟨t2, a1, b1⟩ := kk r u t T'.heap (locs ++ L) e1.symm (by rw [← e2]; exact X'.warmed.alike) hp hb k1 k2 k3 T' rfl X'
    exact ⟨t2, st t2 a1, b1⟩
  · obtain ⟨k1, k2, k3⟩ := vx_keep h0 e1 hS hAX hf hL hF
    obtain ⟨t2, a1, b1⟩ := kx E ce q u t T'.heap (locs ++ L) e1.symm (by rw [← e2]; exact X'.warmed.alike) hp hb k1 k2 k3 (by rw [e1]; exact hce) hcv hcl T' rfl X'
    exact ⟨t2, st.trans a1, b1⟩
theorem vx_calll {S SX : Type} {post : Int64 → S → Prop} {px : SX → Prop} {B : S → State → Prop} {BX : String → SX → State → Prop} {AX : Nat → Prop} (hr : vx_Run p l e R s m args below meth c H locs cells slots mc ms (F0 m pc ls st0) rest (va_Ql post B A1 a) (vx_X px BX AX) free) (hS : va_S A0 H0 H locs) (hA : ∀ q, q < H.size → A1 q → A0 q) (hf : ∀ q, free q → A0 q) (hAX : ∀ q, q < H.size → AX q → A0 q)
    (kx : ∀ (E : String) (ce : Cell) (q9 : Addr) (u : SX) (t : State) (H1 : Heap) (locs1 : List Loc), t.heap = H1 → s.vm.Alike t.vm → px u → BX E u t → H.size ≤ H1.size → (∀ q : Nat, q < H.size → ¬ AX q → H1[q]? = H[q]?) → va_S A0 H0 H1 locs1 → H1[q9]? = some ce → ce.vm = .none → s.vm.findClass E = some ce.cls → vx_W p l e R s m args below meth c H1 locs1 (cells + mc) (slots + ms) Q (F0 m pc ls rest) q9)
    (kk : ∀ (r : Int64) (u : S) (t : State) (H1 : Heap) (locs1 : List Loc), t.heap = H1 → s.vm.Alike t.vm → post r u → B u t → H.size ≤ H1.size → (∀ q : Nat, q < H.size → ¬ A1 q → H1[q]? = H[q]?) → va_S A0 H0 H1 locs1 → W p l e R s m args below meth c H1 locs1 (cells + mc) (slots + ms) Q (F0 m (pc + 3) ls (.long r :: rest))) : W p l e R s m args below meth c H locs cells slots Q (F0 m pc ls st0) := by
  intro T hT X
  rcases hr T hT X with ⟨v, st₀, t, T', L, h0, X', hL, e1, e2, ⟨⟨r, u, hv, hp, hb⟩, hF⟩, st⟩ | ⟨q, st₀, t, T', L, E, ce, h0, X', hL, e1, e2, ⟨u, hp, hb, hF⟩, hce, hcv, hcl, st⟩
  · cases hv
    obtain ⟨k1, k2, k3⟩ := vx_keep h0 e1 hS hA hf hL hF
    obtain ⟨t2, a1, b1⟩ := kk r u t T'.heap (locs ++ L) e1.symm (by rw [← e2]; exact X'.warmed.alike) hp hb k1 k2 k3 T' rfl X'
    exact ⟨t2, st t2 a1, b1⟩
  · obtain ⟨k1, k2, k3⟩ := vx_keep h0 e1 hS hAX hf hL hF
    obtain ⟨t2, a1, b1⟩ := kx E ce q u t T'.heap (locs ++ L) e1.symm (by rw [← e2]; exact X'.warmed.alike) hp hb k1 k2 k3 (by rw [e1]; exact hce) hcv hcl T' rfl X'
    exact ⟨t2, st.trans a1, b1⟩
theorem vx_callf {S SX : Type} {post : UInt32 → S → Prop} {px : SX → Prop} {B : S → State → Prop} {BX : String → SX → State → Prop} {AX : Nat → Prop} (hr : vx_Run p l e R s m args below meth c H locs cells slots mc ms (F0 m pc ls st0) rest (va_Qf post B A1 a) (vx_X px BX AX) free) (hS : va_S A0 H0 H locs) (hA : ∀ q, q < H.size → A1 q → A0 q) (hf : ∀ q, free q → A0 q) (hAX : ∀ q, q < H.size → AX q → A0 q)
    (kx : ∀ (E : String) (ce : Cell) (q9 : Addr) (u : SX) (t : State) (H1 : Heap) (locs1 : List Loc), t.heap = H1 → s.vm.Alike t.vm → px u → BX E u t → H.size ≤ H1.size → (∀ q : Nat, q < H.size → ¬ AX q → H1[q]? = H[q]?) → va_S A0 H0 H1 locs1 → H1[q9]? = some ce → ce.vm = .none → s.vm.findClass E = some ce.cls → vx_W p l e R s m args below meth c H1 locs1 (cells + mc) (slots + ms) Q (F0 m pc ls rest) q9)
    (kk : ∀ (r : UInt32) (u : S) (t : State) (H1 : Heap) (locs1 : List Loc), t.heap = H1 → s.vm.Alike t.vm → post r u → B u t → H.size ≤ H1.size → (∀ q : Nat, q < H.size → ¬ A1 q → H1[q]? = H[q]?) → va_S A0 H0 H1 locs1 → W p l e R s m args below meth c H1 locs1 (cells + mc) (slots + ms) Q (F0 m (pc + 3) ls (.float r :: rest))) : W p l e R s m args below meth c H locs cells slots Q (F0 m pc ls st0) := by
  intro T hT X
  rcases hr T hT X with ⟨v, st₀, t, T', L, h0, X', hL, e1, e2, ⟨⟨r, u, hv, hp, hb⟩, hF⟩, st⟩ | ⟨q, st₀, t, T', L, E, ce, h0, X', hL, e1, e2, ⟨u, hp, hb, hF⟩, hce, hcv, hcl, st⟩
  · cases hv
    obtain ⟨k1, k2, k3⟩ := vx_keep h0 e1 hS hA hf hL hF
    obtain ⟨t2, a1, b1⟩ := kk r u t T'.heap (locs ++ L) e1.symm (by rw [← e2]; exact X'.warmed.alike) hp hb k1 k2 k3 T' rfl X'
    exact ⟨t2, st t2 a1, b1⟩
  · obtain ⟨k1, k2, k3⟩ := vx_keep h0 e1 hS hAX hf hL hF
    obtain ⟨t2, a1, b1⟩ := kx E ce q u t T'.heap (locs ++ L) e1.symm (by rw [← e2]; exact X'.warmed.alike) hp hb k1 k2 k3 (by rw [e1]; exact hce) hcv hcl T' rfl X'
    exact ⟨t2, st.trans a1, b1⟩
theorem vx_calld {S SX : Type} {post : UInt64 → S → Prop} {px : SX → Prop} {B : S → State → Prop} {BX : String → SX → State → Prop} {AX : Nat → Prop} (hr : vx_Run p l e R s m args below meth c H locs cells slots mc ms (F0 m pc ls st0) rest (va_Qd post B A1 a) (vx_X px BX AX) free) (hS : va_S A0 H0 H locs) (hA : ∀ q, q < H.size → A1 q → A0 q) (hf : ∀ q, free q → A0 q) (hAX : ∀ q, q < H.size → AX q → A0 q)
    (kx : ∀ (E : String) (ce : Cell) (q9 : Addr) (u : SX) (t : State) (H1 : Heap) (locs1 : List Loc), t.heap = H1 → s.vm.Alike t.vm → px u → BX E u t → H.size ≤ H1.size → (∀ q : Nat, q < H.size → ¬ AX q → H1[q]? = H[q]?) → va_S A0 H0 H1 locs1 → H1[q9]? = some ce → ce.vm = .none → s.vm.findClass E = some ce.cls → vx_W p l e R s m args below meth c H1 locs1 (cells + mc) (slots + ms) Q (F0 m pc ls rest) q9)
    (kk : ∀ (r : UInt64) (u : S) (t : State) (H1 : Heap) (locs1 : List Loc), t.heap = H1 → s.vm.Alike t.vm → post r u → B u t → H.size ≤ H1.size → (∀ q : Nat, q < H.size → ¬ A1 q → H1[q]? = H[q]?) → va_S A0 H0 H1 locs1 → W p l e R s m args below meth c H1 locs1 (cells + mc) (slots + ms) Q (F0 m (pc + 3) ls (.double r :: rest))) : W p l e R s m args below meth c H locs cells slots Q (F0 m pc ls st0) := by
  intro T hT X
  rcases hr T hT X with ⟨v, st₀, t, T', L, h0, X', hL, e1, e2, ⟨⟨r, u, hv, hp, hb⟩, hF⟩, st⟩ | ⟨q, st₀, t, T', L, E, ce, h0, X', hL, e1, e2, ⟨u, hp, hb, hF⟩, hce, hcv, hcl, st⟩
  · cases hv
    obtain ⟨k1, k2, k3⟩ := vx_keep h0 e1 hS hA hf hL hF
    obtain ⟨t2, a1, b1⟩ := kk r u t T'.heap (locs ++ L) e1.symm (by rw [← e2]; exact X'.warmed.alike) hp hb k1 k2 k3 T' rfl X'
    exact ⟨t2, st t2 a1, b1⟩
  · obtain ⟨k1, k2, k3⟩ := vx_keep h0 e1 hS hAX hf hL hF
    obtain ⟨t2, a1, b1⟩ := kx E ce q u t T'.heap (locs ++ L) e1.symm (by rw [← e2]; exact X'.warmed.alike) hp hb k1 k2 k3 (by rw [e1]; exact hce) hcv hcl T' rfl X'
    exact ⟨t2, st.trans a1, b1⟩
theorem vx_callv {S SX : Type} {post : S → Prop} {px : SX → Prop} {B : S → State → Prop} {BX : String → SX → State → Prop} {AX : Nat → Prop} (hr : vx_Run p l e R s m args below meth c H locs cells slots mc ms (F0 m pc ls st0) rest (va_Qv post B A1 a) (vx_X px BX AX) free) (hS : va_S A0 H0 H locs) (hA : ∀ q, q < H.size → A1 q → A0 q) (hf : ∀ q, free q → A0 q) (hAX : ∀ q, q < H.size → AX q → A0 q)
    (kx : ∀ (E : String) (ce : Cell) (q9 : Addr) (u : SX) (t : State) (H1 : Heap) (locs1 : List Loc), t.heap = H1 → s.vm.Alike t.vm → px u → BX E u t → H.size ≤ H1.size → (∀ q : Nat, q < H.size → ¬ AX q → H1[q]? = H[q]?) → va_S A0 H0 H1 locs1 → H1[q9]? = some ce → ce.vm = .none → s.vm.findClass E = some ce.cls → vx_W p l e R s m args below meth c H1 locs1 (cells + mc) (slots + ms) Q (F0 m pc ls rest) q9)
    (kk : ∀ (u : S) (t : State) (H1 : Heap) (locs1 : List Loc), t.heap = H1 → s.vm.Alike t.vm → post u → B u t → H.size ≤ H1.size → (∀ q : Nat, q < H.size → ¬ A1 q → H1[q]? = H[q]?) → va_S A0 H0 H1 locs1 → W p l e R s m args below meth c H1 locs1 (cells + mc) (slots + ms) Q (F0 m (pc + 3) ls (rest))) : W p l e R s m args below meth c H locs cells slots Q (F0 m pc ls st0) := by
  intro T hT X
  rcases hr T hT X with ⟨v, st₀, t, T', L, h0, X', hL, e1, e2, ⟨⟨u, hv, hp, hb⟩, hF⟩, st⟩ | ⟨q, st₀, t, T', L, E, ce, h0, X', hL, e1, e2, ⟨u, hp, hb, hF⟩, hce, hcv, hcl, st⟩
  · cases hv
    obtain ⟨k1, k2, k3⟩ := vx_keep h0 e1 hS hA hf hL hF
    obtain ⟨t2, a1, b1⟩ := kk u t T'.heap (locs ++ L) e1.symm (by rw [← e2]; exact X'.warmed.alike) hp hb k1 k2 k3 T' rfl X'
    exact ⟨t2, st t2 a1, b1⟩
  · obtain ⟨k1, k2, k3⟩ := vx_keep h0 e1 hS hAX hf hL hF
    obtain ⟨t2, a1, b1⟩ := kx E ce q u t T'.heap (locs ++ L) e1.symm (by rw [← e2]; exact X'.warmed.alike) hp hb k1 k2 k3 (by rw [e1]; exact hce) hcv hcl T' rfl X'
    exact ⟨t2, st.trans a1, b1⟩
/-- caught by the row x of this method's table; the rows ahead don't take it -/
theorem vx_catch {own name : String} {E : String} {ce : Cell} {q : Addr} (hown : s.vm.findClass own = some m.cls) (pre : List ExceptionTableEntry) (x : ExceptionTableEntry) (suf : List ExceptionTableEntry) (hsplit : c.exceptionTable.toList = pre ++ x :: suf)
    (hpass : ∀ z ∈ pre, covers z pc = false ∨ (z.catchType ≠ 0 ∧ ∃ nm : String, (Cond.classLink own z.catchType nm).before args s = true ∧ va_Nc E nm s)) (hx : covers x pc = true) (h0 : x.catchType ≠ 0)
    (hlink : (Cond.classLink own x.catchType name).before args s = true) (hcast : (Cond.castable E name).before args s = true) (hcell : H[q]? = some ce) (hv : ce.vm = .none) (hcl : s.vm.findClass E = some ce.cls)
    (kk : W p l e R s m args below meth c H locs cells slots Q (F0 m x.handlerPc ls [.ref q])) : vx_W p l e R s m args below meth c H locs cells slots Q (F0 m pc ls rest) q := by
  intro T hT X
  have hpl : e.platform.magicAccessors = ({} : Platform).magicAccessors := by rw [X.admits.platform]
  obtain ⟨c3, c4, hc3, hc4, hasg⟩ := Cond.castable_spec hcast
  cases Option.some.inj (hc3.symm.trans hcl)
  obtain ⟨c5, hc5, hcl5⟩ := Cond.classLink_spec hown hlink e.platform hpl
  cases Option.some.inj (hc4.symm.trans hc5)
  obtain ⟨vm', X', st⟩ := X.thenCaughtThrough q (g := F0 m pc ls rest) rfl (Steps.refl _) (by rw [hT]; exact hcell) (by rw [hv]; rfl) (by obtain ⟨k9, h9, -⟩ := Vm.findClass_spec hcl; exact ⟨k9, h9⟩) pre x suf hsplit
    (fun z hz => by
      rcases hpass z hz with h | ⟨hz0, nm, hl1, hn1⟩
      · exact Or.inl h
      · obtain ⟨c6, hc6, hcl6⟩ := Cond.classLink_spec hown hl1 e.platform hpl
        obtain ⟨a8, b8, h1, h2, h3⟩ := hn1
        cases Option.some.inj (h1.symm.trans hcl)
        cases Option.some.inj (h2.symm.trans hc6)
        exact Or.inr ⟨hz0, _, hcl6, h3⟩) hx (Or.inr ⟨h0, c4, hcl5, hasg⟩)
  obtain ⟨t, a1, b1⟩ := kk (T.setVm vm') hT X'
  exact ⟨t, st.trans a1, b1⟩
end Rows
section Ends
variable {p : Program} {l : Launch} {e : Env} {R : Room} {s : State} {m : MethodId} {args : Array Value} {below : List Frame} {meth : Method} {c : Code} {H : Heap} {locs : List Loc} {cells slots : Nat} {Q : State → Prop}
variable {mc ms : Nat} {free : Addr → Prop} {A0 A1 : Nat → Prop} {H0 : Heap} {a : Array Value} {ls : Array Slot} {st0 rest : List Value}
variable {Qc : Array Value → State → Outcome → State → Prop} {XC : String → State → State → Prop}
/-- what a body that may throw owes at its end -/
def vx_MQ (below : List Frame) (Qc : Array Value → State → Outcome → State → Prop) (XC : String → State → State → Prop) (a : Array Value) (s : State) (mc ms : Nat) (free : Addr → Prop) : State → Prop := fun t =>
  ∃ o, t.status = .running ∧ Ended t below o ∧ vx_Q Qc XC mc ms free a s o t
theorem vx_ret {g : JFrame} {mc ms : Nat} (k : W p l e R s m args below meth c H locs cells slots (MQ below Qc args s mc ms free) g) : W p l e R s m args below meth c H locs cells slots (vx_MQ below Qc XC args s mc ms free) g := by
  intro T hT X
  obtain ⟨t, a1, o, b1, b2, b3, b4⟩ := k T hT X
  exact ⟨t, a1, o, b1, b2, Or.inl ⟨b3, b4⟩⟩
/-- not caught here: it goes on to the caller -/
theorem vx_widen {g : JFrame} {q : Addr} {k n : Nat} (h1 : cells ≤ k) (h2 : slots ≤ n) (kk : vx_W p l e R s m args below meth c H locs k n Q g q) : vx_W p l e R s m args below meth c H locs cells slots Q g q := fun T hT X => kk T hT (stand_widen X h1 h2)
theorem vx_out {pc : Nat} {E : String} {ce : Cell} {q : Addr} {mc ms : Nat} (hout : ∀ x ∈ c.exceptionTable.toList, covers x pc = false) (hlocks : meth.locks = false) (hcell : H[q]? = some ce) (hv : ce.vm = .none) (hcl : s.vm.findClass E = some ce.cls)
    (hx : ∀ t : State, t.heap = H → s.vm.Alike t.vm → XC E s t) (hf : ∀ z ∈ locs, free z.base) (hc : cells ≤ mc) (hs : slots ≤ ms) :
    vx_W p l e R s m args below meth c H locs cells slots (vx_MQ below Qc XC args s mc ms free) (F0 m pc ls rest) q := by
  intro T hT X
  obtain ⟨st1, hrun, hend, hW, hsm⟩ := X.leaveThrown q (g := F0 m pc ls rest) rfl rfl rfl hout hlocks
  have hcell9 : (T.setFrames (.throwing q :: below)).heap[q]? = some ce := by
    show T.heap[q]? = some ce
    rw [hT]; exact hcell
  exact ⟨_, st1, .threw q, hrun, hend, Or.inr ⟨q, rfl, E, ce, locs, hx _ hT hW.alike, hcell9, hv, hcl, hW, hsm.mono hc hs, hf⟩⟩
theorem vx_frame {U : State} {k n : Nat} (h : s.sameButNew ({ U with vm := s.vm } : State) locs k n) : s.heap.size ≤ U.heap.size ∧ ∀ q : Nat, q < s.heap.size → (∀ z ∈ locs, z.base ≠ q) → U.heap[q]? = s.heap[q]? := by
  obtain ⟨-, h2, -, -, -, h6⟩ := h
  refine ⟨h2, fun q hq hz => ?_⟩
  obtain ⟨c9, e1, e2, e3, e4⟩ := h6 q _ (Array.getElem?_eq_getElem hq)
  have hs : c9.slots = (s.heap[q]).slots := Array.ext_getElem? fun i => e4 i fun hm => hz _ hm rfl
  have h9 : c9 = s.heap[q] := by
    rw [hs] at e2
    exact e2
  have e5 : U.heap[q]? = some c9 := e1
  rw [e5, h9, Array.getElem?_eq_getElem hq]
/-- the words of a throw but the four that speak of the heap -/
def vx_no (w : Cond) : Bool := decide (w ≠ .isRef (.static Bundle.tN "UNASSIGNED_STACK" Bundle.steD)) && decide (w ≠ .isRef (.static Bundle.tN "SUPPRESSED_SENTINEL" Bundle.listD)) && decide (w ≠ .laysStatic Bundle.tN "UNASSIGNED_STACK" Bundle.steD) && decide (w ≠ .laysStatic Bundle.tN "SUPPRESSED_SENTINEL" Bundle.listD)
def vx_at0 (own : String) (ic : Nat) (X : String) (names : List String) : List Cond := (Bundle.ownAtoms0 own ic X names).filter vx_no
def vx_atS (own : String) (ic : Nat) (X : String) (names : List String) : List Cond := (Bundle.ownAtoms own ic X names).filter vx_no
/-- a word that the tables alone decide, or a good one -/
def vx_ot (w : Cond) : Bool := w.onTables || goodWord w
theorem vx_ot_at {args a' : Array Value} {s U : State} {w : Cond} (hW : s.WarmedH U.vm) (hvm : s.vm = U.vm) (hg : vx_ot w = true) (h : w.before args s = true) : w.before a' U = true := by
  simp only [vx_ot, Bool.or_eq_true] at hg
  rcases hg with hg | hg
  · exact va_tabs hg hvm h
  · exact word_at hW (good_of_word hg) h
/-- a list's words: the good ones out of the method's own list, the others by premises of their own -/
theorem vx_hat {args : Array Value} {s : State} {L B : List Cond} (h1 : ∀ w ∈ L.filter goodWord, w.before args s = true) (h2 : ∀ w ∈ L.filter (fun w => !goodWord w), w ∈ B) (h3 : ∀ w ∈ B, w.before args s = true) : ∀ w ∈ L, w.before args s = true := by
  intro w hw
  by_cases g : goodWord w = true
  · exact h1 w (List.mem_filter.mpr ⟨hw, g⟩)
  · refine h3 w (h2 w (List.mem_filter.mpr ⟨hw, ?_⟩))
    show (!goodWord w) = true
    cases hgw : goodWord w
    · rfl
    · exact absurd hgw g
theorem vx_c {args : Array Value} {s : State} {w : Cond} {B : List Cond} (h : w.before args s = true) (t : ∀ w ∈ B, w.before args s = true) : ∀ w' ∈ w :: B, w'.before args s = true := fun w' h' => (List.mem_cons.mp h').elim (fun e => by rw [e]; exact h) (t w')
theorem vx_n {args : Array Value} {s : State} : ∀ w ∈ ([] : List Cond), w.before args s = true := fun _ h => nomatch h
theorem vx_own {args : Array Value} {s : State} {L : List Cond} (h1 : ∀ w ∈ L.filter vx_no, w.before args s = true)
    (hU : (Cond.isRef (.static Bundle.tN "UNASSIGNED_STACK" Bundle.steD)).before args s = true) (hN : (Cond.isRef (.static Bundle.tN "SUPPRESSED_SENTINEL" Bundle.listD)).before args s = true)
    (lU : (Cond.laysStatic Bundle.tN "UNASSIGNED_STACK" Bundle.steD).before args s = true) (lN : (Cond.laysStatic Bundle.tN "SUPPRESSED_SENTINEL" Bundle.listD).before args s = true) : ∀ w ∈ L, w.before args s = true := by
  intro w hw
  by_cases e1 : w = .isRef (.static Bundle.tN "UNASSIGNED_STACK" Bundle.steD)
  · rw [e1]; exact hU
  · by_cases e2 : w = .isRef (.static Bundle.tN "SUPPRESSED_SENTINEL" Bundle.listD)
    · rw [e2]; exact hN
    · by_cases e3 : w = .laysStatic Bundle.tN "UNASSIGNED_STACK" Bundle.steD
      · rw [e3]; exact lU
      · by_cases e4 : w = .laysStatic Bundle.tN "SUPPRESSED_SENTINEL" Bundle.listD
        · rw [e4]; exact lN
        · exact h1 w (List.mem_filter.mpr ⟨hw, by unfold vx_no; rw [decide_eq_true e1, decide_eq_true e2, decide_eq_true e3, decide_eq_true e4]; rfl⟩)
/-- where a static field lies, its class's statics cell in H -/
def vx_L (C n d : String) (A : Nat → Prop) (U : State) (H : Heap) : Prop := ∃ (c : ClassId) (k : Class) (i : Nat) (f : Field) (a : Nat) (cell : Cell), U.vm.findClass C = some c ∧ U.fieldFound? C n d = some (c, k, i, f) ∧ f.isStatic = true ∧ k.statics = some a ∧ H[a]? = some cell ∧ cell.vm.isStatics = true ∧ cell.cls = c ∧ f.slot < cell.slots.size ∧ k.staticTypes[f.slot]? = some f.type ∧ ¬ A a
theorem vx_L.moved {C n d : String} {A : Nat → Prop} {u U : State} {H : Heap} (hvm : u.vm.Alike U.vm) (h : vx_L C n d A u H) : vx_L C n d A U H := by
  obtain ⟨c, k, i, f, a, cell, h1, h2, h3, h4, h5, h6, h7, h8, h9, h10⟩ := h
  obtain ⟨k', hi', he⟩ := State.fieldFound?_setVm hvm h2
  exact ⟨c, k', i, f, a, cell, by rw [hvm.findClass]; exact h1, hi', h3, by rw [he]; exact h4, h5, h6, h7, h8, by rw [he]; exact h9, h10⟩
theorem vx_L.kept {C n d : String} {A : Nat → Prop} {U : State} {H H1 : Heap} (h : vx_L C n d A U H) (hq : ∀ a : Nat, a < H.size → ¬ A a → H1[a]? = H[a]?) : vx_L C n d A U H1 := by
  obtain ⟨c, k, i, f, a, cell, h1, h2, h3, h4, h5, h6, h7, h8, h9, h10⟩ := h
  exact ⟨c, k, i, f, a, cell, h1, h2, h3, h4, by rw [hq a (Array.getElem?_eq_some_iff.mp h5).1 h10]; exact h5, h6, h7, h8, h9, h10⟩
theorem vx_L.narrow {C n d : String} {A B : Nat → Prop} {U : State} {H : Heap} (h : vx_L C n d A U H) (hAB : ∀ q, B q → A q) : vx_L C n d B U H := by
  obtain ⟨c, k, i, f, a, cell, h1, h2, h3, h4, h5, h6, h7, h8, h9, h10⟩ := h
  exact ⟨c, k, i, f, a, cell, h1, h2, h3, h4, h5, h6, h7, h8, h9, fun z => h10 (hAB _ z)⟩
theorem vx_L.word {C n d : String} {A : Nat → Prop} {s : State} {args : Array Value} (h : vx_L C n d A s s.heap) : (Cond.laysStatic C n d).before args s = true := by
  obtain ⟨c, k, i, f, a, cell, h1, h2, h3, h4, h5, h6, h7, h8, h9, -⟩ := h
  show (Cond.laysStatic C n d).holds args s none s [] = true
  exact Cond.laysStatic_of h1 h2 h3 h4 h5 h6 h7 h8 h9
/-- .. and what it holds: null or some reference -/
def vx_Zq (C n d : String) (A : Nat → Prop) (U : State) (H : Heap) : Prop := va_Zq C n d A U H ∧ vx_L C n d A U H
theorem vx_Zq.moved {C n d : String} {A : Nat → Prop} {u U : State} {H : Heap} (hvm : u.vm.Alike U.vm) (h : vx_Zq C n d A u H) : vx_Zq C n d A U H := ⟨va_Zq.moved hvm h.1, vx_L.moved hvm h.2⟩
theorem vx_Zq.kept {C n d : String} {A : Nat → Prop} {U : State} {H H1 : Heap} (h : vx_Zq C n d A U H) (hq : ∀ a : Nat, a < H.size → ¬ A a → H1[a]? = H[a]?) : vx_Zq C n d A U H1 := ⟨va_Zq.kept h.1 hq, vx_L.kept h.2 hq⟩
theorem vx_Zq.narrow {C n d : String} {A B : Nat → Prop} {U : State} {H : Heap} (h : vx_Zq C n d A U H) (hAB : ∀ q, B q → A q) : vx_Zq C n d B U H := ⟨va_Zq.narrow h.1 hAB, vx_L.narrow h.2 hAB⟩
theorem vx_Zqof {args : Array Value} {s : State} {C n d : String} {A : Nat → Prop} (hl : (Cond.laysStatic C n d).before args s = true) (hini : (Cond.initialized C).before args s = true) (h : (Cond.isRef (.static C n d)).before args s = true) (hA : ∀ a : Nat, a < s.heap.size → ¬ A a) : vx_Zq C n d A s s.heap := by
  refine ⟨va_Zqof hl hini h hA, ?_⟩
  obtain ⟨c, k, i, f, a, cell, h1, h2, h3, h4, h5, h6, h7, h8, h9⟩ := Cond.laysStatic_spec hl
  exact ⟨c, k, i, f, a, cell, h1, h2, h3, h4, h5, h6, h7, h8, h9, hA a (Array.getElem?_eq_some_iff.mp h5).1⟩
theorem vx_isRef {C n d : String} {v : Value} {A : Nat → Prop} {s : State} {args : Array Value} (h : va_Z C n d v A s s.heap) (hv : v.isRef = true) : (Cond.isRef (.static C n d)).before args s = true := by
  obtain ⟨cf, kf, fi, f, a, cell, h1, h2, h3, h4, h5, h6, h7, -⟩ := h
  have he : (Term.static C n d).eval args s none [] s = some v := by
    simp [Term.eval, State.fieldNamed?, h1, h2, h4, h5, h6, h7]
  simp only [Cond.before, Cond.holds, Cond.value, he]
  cases v <;> simp_all [Value.isRef]
theorem vx_isRefq {C n d : String} {A : Nat → Prop} {s : State} {args : Array Value} (h : va_Zq C n d A s s.heap) : (Cond.isRef (.static C n d)).before args s = true := by
  rcases h with h | ⟨t, h⟩
  · exact vx_isRef h rfl
  · exact vx_isRef h rfl
/-- the same frame, seen from here: as if the method were called anew in this heap -/
theorem vx_rebase {T : State} (X : Stand p l e R s m args below meth c T locs cells slots) {R' : Room} (hf : R'.frames ≤ R.frames) (hl : R'.locals ≤ R.locals) (hc : cells + R'.cells ≤ R.cells) (hs : slots + R'.slots ≤ R.slots) :
    Stand p l e R' ((T.setVm s.vm).setFrames (.invoking m args :: below)) m args below meth c T [] 0 0 := by
  have htop : (T.setVm s.vm).topJava?.isSome := X.here.top
  have hF : ((T.setVm s.vm).setFrames (.invoking m args :: below)).frames = .invoking m args :: below := State.frames_setFrames _ (State.cur_lt_of_top htop)
  obtain ⟨g₀, hg0⟩ := Option.isSome_iff_exists.mp htop
  obtain ⟨r, hr⟩ := State.topJava?_eq_some.mp hg0
  have hl9 : e.platform.stackLimits (T.setVm s.vm).me = e.platform.stackLimits s.me := X.limits
  have hb9 : (T.setVm s.vm).me.stackBytes = s.me.stackBytes := X.bytes
  refine ⟨X.admits, X.cas, X.clock, hF, ?_, X.hears, X.method, X.code, X.here, X.tail, X.warmed, ?_, ?_, ?_⟩
  · have h := X.room
    have hU : ((T.setVm s.vm).setFrames (.invoking m args :: below)).localsInUse = s.localsInUse := by
      rw [State.localsInUse_invoking hF (meth := meth) (c := c) X.method X.code, State.localsInUse_invoking X.frames X.method X.code]
    simp only [State.hasRoom, Bool.and_eq_true, decide_eq_true_eq] at h ⊢
    obtain ⟨⟨⟨⟨h1, h2, h3, h4, h5, h6⟩, h7⟩, h8⟩, h9⟩ := h
    rw [X.frames, List.length_cons] at h2 h3
    have q1 := X.heapSize
    have q2 := X.used
    simp only [hF, hU, List.length_cons, State.stackLimits_setFrames, State.stackBytes_setFrames, hl9, hb9]
    refine ⟨⟨⟨⟨by omega, by omega, by omega, by omega, by omega, h6⟩, ?_⟩, ?_⟩, X.book⟩
    · show T.heap.size + R'.cells ≤ e.platform.maxCells
      omega
    · show T.slotsUsed + R'.slots ≤ e.platform.maxSlots
      omega
  · rw [State.stackLimits_setFrames]; rfl
  · rw [State.stackBytes_setFrames]; rfl
  · refine ⟨?_, Nat.le_refl _, Nat.le_refl _, ?_, ?_, fun a c9 h9 => ⟨c9, h9, rfl, rfl, fun _ _ => rfl⟩⟩
    · obtain ⟨t, ht, -⟩ := State.frames_cons hr
      show T.setVm s.vm = { ((T.setVm s.vm).setFrames (.invoking m args :: below)).setFrames (T.setVm s.vm).frames with heap := T.heap, slotsUsed := T.slotsUsed }
      rw [State.setFrames_setFrames, State.setFrames_self ht]
      rfl
    · show T.slotsUsed = T.slotsUsed + ((T.heap.toList.drop T.heap.size).map (·.slots.size)).sum
      rw [List.drop_eq_nil_of_le (Nat.le_of_eq Array.length_toList)]
      rfl
    · show ((T.heap.toList.drop T.heap.size).map (·.slots.size)).sum ≤ 0
      rw [List.drop_eq_nil_of_le (Nat.le_of_eq Array.length_toList)]
      exact Nat.le_refl _
/-- 'throw new E()': new; dup; invokespecial; athrow -/
theorem vx_throw0 {cc : ByteArray} {pc : Nat} (hexec : p.tables.exec = Jvm.exec) (hb : c.code = cc) (hl : l.stackTraces = false) {own cls : String} {names : List String} {ik ic mc ms : Nat} {A : Nat → Prop}
    (hown : s.vm.findClass own = some m.cls) (hcls : Bundle.fit cls = true) (hnames : ∀ n ∈ names, Bundle.fit n = true)
    (hk : (Cond.classLink own ik cls).before args s = true) (hini : (Cond.initialized cls).before args s = true) (hat : ∀ w ∈ vx_at0 own ic cls names, w.before args s = true)
    (hgood : ∀ w ∈ Cond.classLink own ik cls :: Cond.initialized cls :: vx_at0 own ic cls names, vx_ot w = true)
    (hU : vx_Zq Bundle.tN "UNASSIGNED_STACK" Bundle.steD A s s.heap) (hN : vx_Zq Bundle.tN "SUPPRESSED_SENTINEL" Bundle.listD A s s.heap) (hS : va_S A s.heap H locs) (hsize : ls.size = c.maxLocals)
    (d0 : decode cc pc = .ok (.new ik, 3)) (d3 : decode cc (pc + 3) = .ok (.dup, 1)) (d4 : decode cc (pc + 4) = .ok (.invokespecial ic, 3)) (d7 : decode cc (pc + 7) = .ok (.athrow, 1))
    (hout : ∀ x ∈ c.exceptionTable.toList, covers x (pc + 7) = false)
    (hRframes : names.length + 3 < R.frames) (hRlocals : (rest.map fun v => v.category).sum + (13 * (names.length + 1) + 42) ≤ R.locals) (hRcells : cells + 1 ≤ R.cells) (hRslots : slots + 6 ≤ R.slots) (hlocks : meth.locks = false)
    (hx : ∀ t : State, s.vm.Alike t.vm → H.size ≤ t.heap.size → (∀ q : Nat, q < H.size → t.heap[q]? = H[q]?) → XC cls s t)
    (hf : ∀ z ∈ locs, free z.base) (hc : cells + 1 ≤ mc) (hs : slots + 6 ≤ ms) :
    W p l e R s m args below meth c H locs cells slots (vx_MQ below Qc XC args s mc ms free) (F0 m pc ls rest) := by
  intro T hT X
  have htr : e.platform.stackTraces = false := (show e.platform.stackTraces = l.stackTraces by rw [X.admits.platform]).trans hl
  have Y := vx_rebase X (R' := { frames := R.frames, locals := R.locals, cells := 1, slots := 6 }) (Nat.le_refl _) (Nat.le_refl _) hRcells hRslots
  obtain ⟨s', hA⟩ : ∃ z, z = (T.setVm s.vm).setFrames (.invoking m args :: below) := ⟨_, rfl⟩
  rw [← hA] at Y
  have hvm : s'.vm = s.vm := by rw [hA]; rfl
  have hhp : s'.heap = H := by rw [hA]; exact hT
  have hW0 : s.WarmedH s'.vm := by rw [hvm]; exact State.WarmedH.refl s
  have hat' : ∀ w ∈ vx_at0 own ic cls names, w.before args s' = true := fun w hw => vx_ot_at hW0 hvm.symm (hgood w (List.mem_cons_of_mem _ (List.mem_cons_of_mem _ hw))) (hat w hw)
  have hk' : (Cond.classLink own ik cls).before args s' = true := vx_ot_at hW0 hvm.symm (hgood _ List.mem_cons_self) hk
  have hini' : (Cond.initialized cls).before args s' = true := vx_ot_at hW0 hvm.symm (hgood _ (List.mem_cons_of_mem _ List.mem_cons_self)) hini
  have hU' : vx_Zq Bundle.tN "UNASSIGNED_STACK" Bundle.steD A s' s'.heap := by rw [hhp]; exact vx_Zq.moved hW0.alike (hU.kept hS.2.1)
  have hN' : vx_Zq Bundle.tN "SUPPRESSED_SENTINEL" Bundle.listD A s' s'.heap := by rw [hhp]; exact vx_Zq.moved hW0.alike (hN.kept hS.2.1)
  have h : ∀ w ∈ Bundle.ownAtoms0 own ic cls names, w.before args s' = true := vx_own hat' (vx_isRefq hU'.1) (vx_isRefq hN'.1) hU'.2.word hN'.2.word
  have hown' : s'.vm.findClass own = some m.cls := by rw [hvm]; exact hown
  have hins : (Cond.instantiable cls 6).before args s' = true := h _ (by simp [Bundle.ownAtoms0])
  obtain ⟨vm₁, cX, kX, hfX, hkX, -, -, X₁, st1⟩ := Y.newCold hexec (own := own) (C := cls) (index := ik) (n := 6) hown' hk' hins hini'
    (g := F0 m pc ls rest) rfl (by rw [hb]; exact d0) (Nat.le_refl _) (Nat.le_refl _)
  generalize hT1 : (T.setVm vm₁).pushCell { cls := cX, slots := kX.instanceTypes.map defaultValue, vm := .none } = T1 at X₁ st1
  have hcat : (Value.ref T.heap.size).category = 1 := rfl
  have hcellA : T1.heap[T.heap.size]? = some (freshCell cX kX) := by rw [← hT1]; exact State.heap_pushCell_size _ _
  have d3' : decode c.code (pc + 3) = .ok (.dup, 1) := by rw [hb]; exact d3
  obtain ⟨U, hsteps, hrun, hend, hW, hsame, ce, hce, hO⟩ := X₁.ctorThrow0 hexec htr (own := own) (cls := cls) (names := names) (ic := ic) hown' hcls hnames h (fun x hx => nomatch hx) hfX hkX hcellA (by rw [hhp, hT]; exact Nat.le_refl _)
    (g := { method := m, pc := pc + 4, locals := ls, stack := .ref T.heap.size :: .ref T.heap.size :: rest, locked := none }) rfl hsize rfl rfl (rest := rest) rfl
    (by rw [hb]; exact d4) (by rw [hb]; exact d7) hout hRframes (by simp only [List.map_cons, List.sum_cons, hcat]; omega) hlocks
  obtain ⟨f1, f2⟩ := vx_frame hsame
  rw [hhp] at f1 f2
  have hWs : s.WarmedH U.vm := State.WarmedH.trans hW0 hW
  have hcl : s.vm.findClass cls = some ce.cls := by
    have h9 := hO.cls
    rw [hvm] at h9
    exact h9
  have hall : s.sameButNew ({ U with vm := s.vm } : State) locs mc ms := by
    subst hA
    obtain ⟨e1, e2⟩ := hsame
    rw [State.setFrames_setFrames] at e1
    have h2 : (T.setVm s.vm).sameButNew ({ U with vm := s.vm } : State) [] (0 + 1) (0 + 6) := ⟨e1, e2⟩
    have h3 := X.same.trans h2
    rw [List.append_nil] at h3
    exact h3.mono hc hs
  refine ⟨U, ?_, .threw T.heap.size, hrun, hend, Or.inr ⟨T.heap.size, rfl, cls, ce, locs, hx U hWs.alike f1 (fun q hq => f2 q hq (fun z hz => nomatch hz)), hce, hO.vm, hcl, hWs, hall, hf⟩⟩
  refine st1 _ ?_
  show Steps p.tables e below (T1.setTop { method := m, pc := pc + 3, locals := ls, stack := .ref T.heap.size :: rest, locked := none }) _
  jvm_step X₁.here [X₁.here.top, hexec, d3', Value.category]
  exact hsteps
/-- 'throw new E("text")': new; dup; ldc; invokespecial; athrow -/
theorem vx_throwS {cc : ByteArray} {pc : Nat} (hexec : p.tables.exec = Jvm.exec) (hb : c.code = cc) (hl : l.stackTraces = false) {own cls text : String} {names : List String} {ik is ic mc ms sa : Nat} {A : Nat → Prop}
    (hown : s.vm.findClass own = some m.cls) (hcls : Bundle.fit cls = true) (hnames : ∀ n ∈ names, Bundle.fit n = true)
    (hk : (Cond.classLink own ik cls).before args s = true) (hini : (Cond.initialized cls).before args s = true) (hstr : vk_R own is text sa s) (hat : ∀ w ∈ vx_atS own ic cls names, w.before args s = true)
    (hgood : ∀ w ∈ Cond.classLink own ik cls :: Cond.initialized cls :: vx_atS own ic cls names, vx_ot w = true)
    (hU : vx_Zq Bundle.tN "UNASSIGNED_STACK" Bundle.steD A s s.heap) (hN : vx_Zq Bundle.tN "SUPPRESSED_SENTINEL" Bundle.listD A s s.heap) (hS : va_S A s.heap H locs) (hsize : ls.size = c.maxLocals)
    (d0 : decode cc pc = .ok (.new ik, 3)) (d3 : decode cc (pc + 3) = .ok (.dup, 1)) (d4 : decode cc (pc + 4) = .ok (.ldc is, 2)) (d6 : decode cc (pc + 6) = .ok (.invokespecial ic, 3)) (d9 : decode cc (pc + 9) = .ok (.athrow, 1))
    (hout : ∀ x ∈ c.exceptionTable.toList, covers x (pc + 9) = false)
    (hRframes : names.length + 3 < R.frames) (hRlocals : (rest.map fun v => v.category).sum + (13 * (names.length + 1) + 43) ≤ R.locals) (hRcells : cells + 1 ≤ R.cells) (hRslots : slots + 6 ≤ R.slots) (hlocks : meth.locks = false)
    (hx : ∀ t : State, s.vm.Alike t.vm → H.size ≤ t.heap.size → (∀ q : Nat, q < H.size → t.heap[q]? = H[q]?) → XC cls s t)
    (hf : ∀ z ∈ locs, free z.base) (hc : cells + 1 ≤ mc) (hs : slots + 6 ≤ ms) :
    W p l e R s m args below meth c H locs cells slots (vx_MQ below Qc XC args s mc ms free) (F0 m pc ls rest) := by
  intro T hT X
  have htr : e.platform.stackTraces = false := (show e.platform.stackTraces = l.stackTraces by rw [X.admits.platform]).trans hl
  have Y := vx_rebase X (R' := { frames := R.frames, locals := R.locals, cells := 1, slots := 6 }) (Nat.le_refl _) (Nat.le_refl _) hRcells hRslots
  obtain ⟨s', hA⟩ : ∃ z, z = (T.setVm s.vm).setFrames (.invoking m args :: below) := ⟨_, rfl⟩
  rw [← hA] at Y
  have hvm : s'.vm = s.vm := by rw [hA]; rfl
  have hhp : s'.heap = H := by rw [hA]; exact hT
  have hW0 : s.WarmedH s'.vm := by rw [hvm]; exact State.WarmedH.refl s
  have hat' : ∀ w ∈ vx_atS own ic cls names, w.before args s' = true := fun w hw => vx_ot_at hW0 hvm.symm (hgood w (List.mem_cons_of_mem _ (List.mem_cons_of_mem _ hw))) (hat w hw)
  have hk' : (Cond.classLink own ik cls).before args s' = true := vx_ot_at hW0 hvm.symm (hgood _ List.mem_cons_self) hk
  have hini' : (Cond.initialized cls).before args s' = true := vx_ot_at hW0 hvm.symm (hgood _ (List.mem_cons_of_mem _ List.mem_cons_self)) hini
  have hU' : vx_Zq Bundle.tN "UNASSIGNED_STACK" Bundle.steD A s' s'.heap := by rw [hhp]; exact vx_Zq.moved hW0.alike (hU.kept hS.2.1)
  have hN' : vx_Zq Bundle.tN "SUPPRESSED_SENTINEL" Bundle.listD A s' s'.heap := by rw [hhp]; exact vx_Zq.moved hW0.alike (hN.kept hS.2.1)
  have h : ∀ w ∈ Bundle.ownAtoms own ic cls names, w.before args s' = true := vx_own hat' (vx_isRefq hU'.1) (vx_isRefq hN'.1) hU'.2.word hN'.2.word
  have hown' : s'.vm.findClass own = some m.cls := by rw [hvm]; exact hown
  have hins : (Cond.instantiable cls 6).before args s' = true := h _ (by simp [Bundle.ownAtoms])
  obtain ⟨vm₁, cX, kX, hfX, hkX, -, -, X₁, st1⟩ := Y.newCold hexec (own := own) (C := cls) (index := ik) (n := 6) hown' hk' hins hini'
    (g := F0 m pc ls rest) rfl (by rw [hb]; exact d0) (Nat.le_refl _) (Nat.le_refl _)
  generalize hT1 : (T.setVm vm₁).pushCell { cls := cX, slots := kX.instanceTypes.map defaultValue, vm := .none } = T1 at X₁ st1
  have hcat : (Value.ref T.heap.size).category = 1 := rfl
  have hcellA : T1.heap[T.heap.size]? = some (freshCell cX kX) := by rw [← hT1]; exact State.heap_pushCell_size _ _
  have d3' : decode c.code (pc + 3) = .ok (.dup, 1) := by rw [hb]; exact d3
  have d4' : decode c.code (pc + 4) = .ok (.ldc is, 2) := by rw [hb]; exact d4
  have hstr' : vk_R own is text sa s' := vk_R.warm hW0 hstr
  obtain ⟨U, hsteps, hrun, hend, hW, hsame, ce, hce, hO⟩ := X₁.ctorThrowS hexec htr (own := own) (cls := cls) (names := names) (ic := ic) hown' hcls hnames h (fun x hx => nomatch hx) hfX hkX hcellA (by rw [hhp, hT]; exact Nat.le_refl _) (msg := .ref sa) rfl
    (g := { method := m, pc := pc + 6, locals := ls, stack := .ref sa :: .ref T.heap.size :: .ref T.heap.size :: rest, locked := none }) rfl hsize rfl rfl (rest := rest) rfl
    (by rw [hb]; exact d6) (by rw [hb]; exact d9) hout hRframes (by simp only [List.map_cons, List.sum_cons, hcat]; omega) hlocks
  obtain ⟨f1, f2⟩ := vx_frame hsame
  rw [hhp] at f1 f2
  have hWs : s.WarmedH U.vm := State.WarmedH.trans hW0 hW
  have hcl : s.vm.findClass cls = some ce.cls := by
    have h9 := hO.cls
    rw [hvm] at h9
    exact h9
  have hall : s.sameButNew ({ U with vm := s.vm } : State) locs mc ms := by
    subst hA
    obtain ⟨e1, e2⟩ := hsame
    rw [State.setFrames_setFrames] at e1
    have h2 : (T.setVm s.vm).sameButNew ({ U with vm := s.vm } : State) [] (0 + 1) (0 + 6) := ⟨e1, e2⟩
    have h3 := X.same.trans h2
    rw [List.append_nil] at h3
    exact h3.mono hc hs
  refine ⟨U, ?_, .threw T.heap.size, hrun, hend, Or.inr ⟨T.heap.size, rfl, cls, ce, locs, hx U hWs.alike f1 (fun q hq => f2 q hq (fun z hz => nomatch hz)), hce, hO.vm, hcl, hWs, hall, hf⟩⟩
  refine st1 _ ?_
  show Steps p.tables e below (T1.setTop { method := m, pc := pc + 3, locals := ls, stack := .ref T.heap.size :: rest, locked := none }) _
  jvm_step X₁.here [X₁.here.top, hexec, d3', Value.category]
  exact X₁.ldcString hexec (own := own) (text := text) (index := is) (a := sa) hown' hstr'.1 hstr'.2
    (g := { method := m, pc := pc + 4, locals := ls, stack := .ref T.heap.size :: .ref T.heap.size :: rest, locked := none }) rfl d4' _ hsteps
/-- 'throw new E("text")', the text by a wide index -/
theorem vx_throwSW {cc : ByteArray} {pc : Nat} (hexec : p.tables.exec = Jvm.exec) (hb : c.code = cc) (hl : l.stackTraces = false) {own cls text : String} {names : List String} {ik is ic mc ms sa : Nat} {A : Nat → Prop}
    (hown : s.vm.findClass own = some m.cls) (hcls : Bundle.fit cls = true) (hnames : ∀ n ∈ names, Bundle.fit n = true)
    (hk : (Cond.classLink own ik cls).before args s = true) (hini : (Cond.initialized cls).before args s = true) (hstr : vk_R own is text sa s) (hat : ∀ w ∈ vx_atS own ic cls names, w.before args s = true)
    (hgood : ∀ w ∈ Cond.classLink own ik cls :: Cond.initialized cls :: vx_atS own ic cls names, vx_ot w = true)
    (hU : vx_Zq Bundle.tN "UNASSIGNED_STACK" Bundle.steD A s s.heap) (hN : vx_Zq Bundle.tN "SUPPRESSED_SENTINEL" Bundle.listD A s s.heap) (hS : va_S A s.heap H locs) (hsize : ls.size = c.maxLocals)
    (d0 : decode cc pc = .ok (.new ik, 3)) (d3 : decode cc (pc + 3) = .ok (.dup, 1)) (d4 : decode cc (pc + 4) = .ok (.ldc_w is, 3)) (d7 : decode cc (pc + 7) = .ok (.invokespecial ic, 3)) (d10 : decode cc (pc + 10) = .ok (.athrow, 1))
    (hout : ∀ x ∈ c.exceptionTable.toList, covers x (pc + 10) = false)
    (hRframes : names.length + 3 < R.frames) (hRlocals : (rest.map fun v => v.category).sum + (13 * (names.length + 1) + 43) ≤ R.locals) (hRcells : cells + 1 ≤ R.cells) (hRslots : slots + 6 ≤ R.slots) (hlocks : meth.locks = false)
    (hx : ∀ t : State, s.vm.Alike t.vm → H.size ≤ t.heap.size → (∀ q : Nat, q < H.size → t.heap[q]? = H[q]?) → XC cls s t)
    (hf : ∀ z ∈ locs, free z.base) (hc : cells + 1 ≤ mc) (hs : slots + 6 ≤ ms) :
    W p l e R s m args below meth c H locs cells slots (vx_MQ below Qc XC args s mc ms free) (F0 m pc ls rest) := by
  intro T hT X
  have htr : e.platform.stackTraces = false := (show e.platform.stackTraces = l.stackTraces by rw [X.admits.platform]).trans hl
  have Y := vx_rebase X (R' := { frames := R.frames, locals := R.locals, cells := 1, slots := 6 }) (Nat.le_refl _) (Nat.le_refl _) hRcells hRslots
  obtain ⟨s', hA⟩ : ∃ z, z = (T.setVm s.vm).setFrames (.invoking m args :: below) := ⟨_, rfl⟩
  rw [← hA] at Y
  have hvm : s'.vm = s.vm := by rw [hA]; rfl
  have hhp : s'.heap = H := by rw [hA]; exact hT
  have hW0 : s.WarmedH s'.vm := by rw [hvm]; exact State.WarmedH.refl s
  have hat' : ∀ w ∈ vx_atS own ic cls names, w.before args s' = true := fun w hw => vx_ot_at hW0 hvm.symm (hgood w (List.mem_cons_of_mem _ (List.mem_cons_of_mem _ hw))) (hat w hw)
  have hk' : (Cond.classLink own ik cls).before args s' = true := vx_ot_at hW0 hvm.symm (hgood _ List.mem_cons_self) hk
  have hini' : (Cond.initialized cls).before args s' = true := vx_ot_at hW0 hvm.symm (hgood _ (List.mem_cons_of_mem _ List.mem_cons_self)) hini
  have hU' : vx_Zq Bundle.tN "UNASSIGNED_STACK" Bundle.steD A s' s'.heap := by rw [hhp]; exact vx_Zq.moved hW0.alike (hU.kept hS.2.1)
  have hN' : vx_Zq Bundle.tN "SUPPRESSED_SENTINEL" Bundle.listD A s' s'.heap := by rw [hhp]; exact vx_Zq.moved hW0.alike (hN.kept hS.2.1)
  have h : ∀ w ∈ Bundle.ownAtoms own ic cls names, w.before args s' = true := vx_own hat' (vx_isRefq hU'.1) (vx_isRefq hN'.1) hU'.2.word hN'.2.word
  have hown' : s'.vm.findClass own = some m.cls := by rw [hvm]; exact hown
  have hins : (Cond.instantiable cls 6).before args s' = true := h _ (by simp [Bundle.ownAtoms])
  obtain ⟨vm₁, cX, kX, hfX, hkX, -, -, X₁, st1⟩ := Y.newCold hexec (own := own) (C := cls) (index := ik) (n := 6) hown' hk' hins hini'
    (g := F0 m pc ls rest) rfl (by rw [hb]; exact d0) (Nat.le_refl _) (Nat.le_refl _)
  generalize hT1 : (T.setVm vm₁).pushCell { cls := cX, slots := kX.instanceTypes.map defaultValue, vm := .none } = T1 at X₁ st1
  have hcat : (Value.ref T.heap.size).category = 1 := rfl
  have hcellA : T1.heap[T.heap.size]? = some (freshCell cX kX) := by rw [← hT1]; exact State.heap_pushCell_size _ _
  have d3' : decode c.code (pc + 3) = .ok (.dup, 1) := by rw [hb]; exact d3
  have d4' : decode c.code (pc + 4) = .ok (.ldc_w is, 3) := by rw [hb]; exact d4
  have hstr' : vk_R own is text sa s' := vk_R.warm hW0 hstr
  obtain ⟨U, hsteps, hrun, hend, hW, hsame, ce, hce, hO⟩ := X₁.ctorThrowS hexec htr (own := own) (cls := cls) (names := names) (ic := ic) hown' hcls hnames h (fun x hx => nomatch hx) hfX hkX hcellA (by rw [hhp, hT]; exact Nat.le_refl _) (msg := .ref sa) rfl
    (g := { method := m, pc := pc + 7, locals := ls, stack := .ref sa :: .ref T.heap.size :: .ref T.heap.size :: rest, locked := none }) rfl hsize rfl rfl (rest := rest) rfl
    (by rw [hb]; exact d7) (by rw [hb]; exact d10) hout hRframes (by simp only [List.map_cons, List.sum_cons, hcat]; omega) hlocks
  obtain ⟨f1, f2⟩ := vx_frame hsame
  rw [hhp] at f1 f2
  have hWs : s.WarmedH U.vm := State.WarmedH.trans hW0 hW
  have hcl : s.vm.findClass cls = some ce.cls := by
    have h9 := hO.cls
    rw [hvm] at h9
    exact h9
  have hall : s.sameButNew ({ U with vm := s.vm } : State) locs mc ms := by
    subst hA
    obtain ⟨e1, e2⟩ := hsame
    rw [State.setFrames_setFrames] at e1
    have h2 : (T.setVm s.vm).sameButNew ({ U with vm := s.vm } : State) [] (0 + 1) (0 + 6) := ⟨e1, e2⟩
    have h3 := X.same.trans h2
    rw [List.append_nil] at h3
    exact h3.mono hc hs
  refine ⟨U, ?_, .threw T.heap.size, hrun, hend, Or.inr ⟨T.heap.size, rfl, cls, ce, locs, hx U hWs.alike f1 (fun q hq => f2 q hq (fun z hz => nomatch hz)), hce, hO.vm, hcl, hWs, hall, hf⟩⟩
  refine st1 _ ?_
  show Steps p.tables e below (T1.setTop { method := m, pc := pc + 3, locals := ls, stack := .ref T.heap.size :: rest, locked := none }) _
  jvm_step X₁.here [X₁.here.top, hexec, d3', Value.category]
  exact X₁.ldcStringW hexec (own := own) (text := text) (index := is) (a := sa) hown' hstr'.1 hstr'.2
    (g := { method := m, pc := pc + 4, locals := ls, stack := .ref T.heap.size :: .ref T.heap.size :: rest, locked := none }) rfl d4' _ hsteps
end Ends
section Bodies
variable {l : Launch}
theorem vx_ofW {y : MethodName} {ws ws' : List Cond} {rm : Room} {Pc : Array Value → State → Prop} {Qc : Array Value → State → Outcome → State → Prop} {XC : String → State → State → Prop} {mc ms : Nat} {free : Addr → Prop} {cc : ByteArray} {maxL : Nat} {ret : Option FieldType}
    (hy : plainName y.cls = true) (hw : ws = Cond.code y cc maxL ret :: ws')
    (body : ∀ p e s m args below meth c s₁, BodyLoose p l y (headSpec ws rm) cc maxL ret e s m args below meth c s₁ → c.maxLocals = maxL → (∀ x ∈ c.exceptionTable.toList, False) → Pc args s →
      W p l e (headSpec ws rm).room s m args below meth c s.heap [] 0 0 (vx_MQ below Qc XC args s mc ms free) (entryFrame m args maxL)) : vx_Met l y ws rm Pc Qc XC mc ms free := by
  refine MetFree.of_bodyS (code := cc) (maxLocals := maxL) (ret := ret) hy ?_ ?_
  · intro args s m h hn
    obtain ⟨meth, c, h1, h2, h3, h4, h5, h6, -, -⟩ := Cond.code_spec hn (atoms_spec (ws := ws) h _ (by rw [hw]; exact List.mem_cons_self))
    exact ⟨meth, c, h1, h2, h3, h4, h5, h6⟩
  · intro p e s m args below meth c s₁ B hml hP _
    have hh0 : s₁.heap = s.heap := by rw [B.state]; rfl
    have ht : ∀ x ∈ c.exceptionTable.toList, False := by
      obtain ⟨meth9, c9, h1, h2, -, -, -, -, h7, -⟩ := Cond.code_spec B.named (atoms_spec (ws := ws) B.pre _ (by rw [hw]; exact List.mem_cons_self))
      cases Option.some.inj (h1.symm.trans B.method)
      cases Option.some.inj (h2.symm.trans (Stand.of_body B).code)
      intro x hx
      rw [Array.isEmpty_iff.mp h7] at hx
      cases hx
    obtain ⟨t, a1, o, b1, b2, b3⟩ := body p e s m args below meth c s₁ B hml ht hP s₁ hh0 (Stand.of_body B)
    exact ⟨t, o, a1, b1, b2, b3⟩
/-- the table of a body with handlers -/
theorem vx_table {p : Program} {x y : MethodName} {S : Spec} {cc bytes : ByteArray} {maxL maxL' : Nat} {ret ret' : Option FieldType} {e : Env} {s s₁ : State} {m : MethodId} {args : Array Value} {below : List Frame} {meth : Method} {c : Code} {hh : List (Nat × Nat × Nat × Nat)}
    (B : BodyLoose p l y S cc maxL ret e s m args below meth c s₁) (h : (Cond.codeWith y bytes maxL' ret' hh).before args s = true) : c.exceptionTable.toList = tableOf hh := by
  obtain ⟨m9, meth9, c9, hn9, h1, h2, -, -, h6, -⟩ := Cond.codeWith_spec h
  cases Option.some.inj (hn9.symm.trans B.named)
  cases Option.some.inj (h1.symm.trans B.method)
  cases Option.some.inj (h2.symm.trans (Stand.of_body B).code)
  rw [← h6, table_eq]
end Bodies
end VXA
/-! ===== END ===== -/
/-! ===== BEGIN a static call of a method with an exception table ===== -/
section VXS
variable {p : Program} {l : Launch} {e : Env} {R : Room} {s : State} {m : MethodId} {args : Array Value} {below : List Frame} {meth : Method} {c : Code} {T : State} {H : Heap} {locs : List Loc} {cells slots : Nat}
abbrev vx_CSW (R : Room) (s : State) (args : Array Value) (own : String) (index : Nat) (y : MethodName) (bytes : ByteArray) (maxL : Nat) (ret : Option FieldType) (hh : List (Nat × Nat × Nat × Nat)) (ws : List Cond) (rm : Room) (mc ms n : Nat) : Prop :=
  (rm.cells = mc ∧ rm.slots = ms ∧ rm.frames + 1 ≤ R.frames ∧ 8 + (maxL + 11) + rm.locals ≤ R.locals ∧ (∀ w ∈ ws, ∀ (a' : Array Value) (U : State), s.WarmedH U.vm → w.before a' U = true) ∧ Cond.codeWith y bytes maxL ret hh ∈ ws) ∧
  (Cond.codeWith y bytes maxL ret hh).before args s = true ∧ (Cond.initialized y.cls).before args s = true ∧ (y.cls ≠ "java/lang/invoke/MethodHandle" ∧ y.cls ≠ "java/lang/invoke/VarHandle") ∧
  (∀ sig, parseMethodDescriptor y.desc = some sig → n = sig.parameters.length) ∧ (Cond.methodLink own index y).before args s = true ∧ (Cond.static y).before args s = true
theorem vx_cwSW {own : String} {index maxL mc ms : Nat} {y : MethodName} {bytes : ByteArray} {ret : Option FieldType} {hh : List (Nat × Nat × Nat × Nat)} {Ts ws ws' : List Cond} {rm : Room} (n : Nat) (ht : ∀ w ∈ Ts, w.before args s = true) (hT : GoodIn Ts (va_wsS own index y ws)) (hw : ws = Cond.codeWith y bytes maxL ret hh :: ws') (hrc : rm.cells = mc) (hrs : rm.slots = ms)
    (hd : y.cls ≠ "java/lang/invoke/MethodHandle" ∧ y.cls ≠ "java/lang/invoke/VarHandle" ∧ (parseMethodDescriptor y.desc).map (fun d => d.parameters.length) = some n) (hR : rm.frames + 1 ≤ R.frames ∧ 8 + (maxL + 11) + rm.locals ≤ R.locals) :
    vx_CSW R s args own index y bytes maxL ret hh ws rm mc ms n := by
  have ok : ∀ w ∈ va_wsS own index y ws, w.before args s = true := fun w h => ht w (hT w h).1
  have hG : GoodIn Ts ws := fun w h => hT w (by unfold va_wsS; exact List.mem_append_right _ h)
  have hc : Cond.codeWith y bytes maxL ret hh ∈ ws := by rw [hw]; exact List.mem_cons_self
  refine ⟨⟨hrc, hrs, hR.1, hR.2, pay_in ht hG, hc⟩, ht _ (hG _ hc).1, ok _ (by simp [va_wsS]), ⟨hd.1, hd.2.1⟩, fun sig h => ?_, ok _ (by simp [va_wsS]), ok _ (by simp [va_wsS])⟩
  have h2 := hd.2.2
  rw [h] at h2
  exact (Option.some.inj h2).symm
theorem vx_callSW (X : Stand p l e R s m args below meth c T locs cells slots) (hexec : p.tables.exec = Jvm.exec) {own : String} {index : Nat} {y : MethodName} {bytes : ByteArray} {maxL : Nat} {ret : Option FieldType} {hh : List (Nat × Nat × Nat × Nat)}
    (hown : s.vm.findClass own = some m.cls) (hlink : (Cond.methodLink own index y).before args s = true) (hstat : (Cond.static y).before args s = true) (hinit : (Cond.initialized y.cls).before args s = true)
    (hcode : (Cond.codeWith y bytes maxL ret hh).before args s = true) (hy : y.cls ≠ "java/lang/invoke/MethodHandle" ∧ y.cls ≠ "java/lang/invoke/VarHandle")
    {W9 : Nat} {Pre : Pt → Array Value → Prop} {Post : Pt → Array Value → Option Value → Pt → Prop} (hK : Back l R p e below s args y 3 W9 Pre Post)
    {g : JFrame} (hg : g.method = m) (hsize : g.locals.size = c.maxLocals) {argsL rest : List Value} (hlen : ∀ sig, parseMethodDescriptor y.desc = some sig → argsL.length = sig.parameters.length)
    (hstack : g.stack = argsL.reverse ++ rest) (hW : 2 * g.monitorRoom + (rest.map fun v => v.category).sum ≤ W9) (hdg : decode c.code g.pc = .ok (.invokestatic index, 3))
    (hpre : ∀ vm₁, s.WarmedH vm₁ → Pre ⟨T.setVm vm₁, locs, cells, slots⟩ argsL.toArray) :
    ∃ (v : Option Value) (vm₁ : Vm) (B : Pt), s.WarmedH vm₁ ∧ Stand p l e R s m args below meth c B.U B.locs B.cells B.slots ∧ Post ⟨T.setVm vm₁, locs, cells, slots⟩ argsL.toArray v B ∧
      ∀ target, Steps p.tables e below (B.U.setTop { g with pc := g.pc + 3, stack := v.toList ++ rest }) target → Steps p.tables e below (T.setTop g) target := by
  obtain ⟨mk, methM, cM, hnamed, hmethM, -, -, -, -, -, -, hsigM⟩ := Cond.codeWith_spec hcode
  have hstatic : methM.isStatic = true := Cond.static_spec hnamed hmethM hstat
  obtain ⟨kP, hkP, -⟩ := className_of_methodNamed hnamed
  have hinitP : kP.init = .initialized := Cond.initialized_spec (findClass_of_methodNamed hnamed) hkP hinit
  obtain ⟨vm₁, X₁, hstep₁⟩ := X.invokestatic hexec hown hlink hnamed hmethM hstatic hkP hinitP hy (g := g) hg (argsL := argsL) (rest := rest) (hlen _ hsigM) hstack hdg
  obtain ⟨v, B, X', hpost, hsteps⟩ := hK m meth c ⟨T.setVm vm₁, locs, cells, slots⟩ { g with stack := rest } (.invokestatic index) mk argsL.toArray X₁ hg hsize hdg hW (X₁.named hnamed) (hpre vm₁ X₁.warmed)
  exact ⟨v, vm₁, B, X₁.warmed, X', hpost, fun target h => hstep₁ _ fun acts => by rw [doInvoke_state]; exact hsteps.trans h⟩
theorem vx_runSW {y : MethodName} {bytes cc : ByteArray} {maxL nL mc ms n index : Nat} {ret : Option FieldType} {hh : List (Nat × Nat × Nat × Nat)} {ws : List Cond} {rm : Room} {Pc : Array Value → State → Prop} {Qc : Array Value → State → Outcome → State → Prop} {free : Addr → Prop} {Ts : List Cond} {own : String} {As rest : List Value} {g : JFrame}
    (S : CallFix p m c cc nL s args Ts own) (hM : Met l y ws rm Pc Qc mc ms free) (cw : vx_CSW R s args own index y bytes maxL ret hh ws rm mc ms n) (hp : PreS s H Pc As)
    (hg : g.method = m) (hn : As.length = n) (hsize : g.locals.size = nL) (hstack : g.stack = As.reverse ++ rest) (hW : 2 * g.monitorRoom + (rest.map fun v => v.category).sum ≤ 8) (hdg : decode cc g.pc = .ok (.invokestatic index, 3)) (hf : cells + mc ≤ R.cells ∧ slots + ms ≤ R.slots) :
    va_Run p l e R s m args below meth c H locs cells slots mc ms g rest (Qc As.toArray) (free) := by
  obtain ⟨⟨hrc, hrs, hfr, hlo, hws, hcw⟩, hcode, hini, hy, hlen, hl, hstt⟩ := cw
  have hK : Back l R p e below s args y 3 8 (PreOf R mc ms Pc) (PostOf Qc mc ms free) := va_backW (hh := hh) (bytes := bytes) (maxL := maxL) (ret := ret) hM hp.1 hrc hrs hfr hlo hws hcw (fun a' U hW => word_at hW (Or.inl (by first | rfl | simp [Cond.onTables, Cond.keeps, Cond.steady])) hini)
  obtain ⟨hx, hb, hml, ho, -⟩ := S
  intro T hT X
  obtain ⟨v, vm₁, ⟨U', l2, c2, s2⟩, hW₁, X', ⟨g', mk, t, L, e1, e2, hq, h1, hL, h2, h3⟩, st⟩ := vx_callSW X hx (hh := hh) (bytes := bytes) (maxL := maxL) (ret := ret) ho hl hstt hini hcode hy hK hg (hsize.trans hml.symm) (argsL := As) (rest := rest) (fun sig h => hn.trans (hlen sig h)) hstack hW (by rw [hb]; exact hdg)
    (fun vm₁ hW₁ => ⟨hf.1, hf.2, hp.2 (T.setVm vm₁) hT hW₁⟩)
  dsimp only [Pt.U, Pt.locs, Pt.cells, Pt.slots] at X' e1 e2 h1 h2 h3 st
  subst h1; subst h2; subst h3
  exact ⟨v, (T.setVm vm₁).calling g' mk As.toArray, t, U', L, hT, X', hL, e1, e2, hq, st⟩
/-- not caught here, past rows that name other classes: it goes on to the caller -/
theorem vx_outP {p : Program} {l : Launch} {e : Env} {R : Room} {s : State} {m : MethodId} {args : Array Value} {below : List Frame} {meth : Method} {c : Code} {H : Heap} {locs : List Loc} {cells slots : Nat} {free : Addr → Prop} {ls : Array Slot} {rest : List Value} {Qc : Array Value → State → Outcome → State → Prop} {XC : String → State → State → Prop}
    {pc : Nat} {own E : String} {ce : Cell} {q : Addr} {mc ms : Nat} (hown : s.vm.findClass own = some m.cls) (hlocks : meth.locks = false)
    (hpass : ∀ z ∈ c.exceptionTable.toList, covers z pc = false ∨ (z.catchType ≠ 0 ∧ ∃ nm : String, (Cond.classLink own z.catchType nm).before args s = true ∧ va_Nc E nm s)) (hcell : H[q]? = some ce) (hv : ce.vm = .none) (hcl : s.vm.findClass E = some ce.cls)
    (hx : ∀ t : State, t.heap = H → s.vm.Alike t.vm → XC E s t) (hf : ∀ z ∈ locs, free z.base) (hc : cells ≤ mc) (hs : slots ≤ ms) :
    vx_W p l e R s m args below meth c H locs cells slots (vx_MQ below Qc XC args s mc ms free) (F0 m pc ls rest) q := by
  intro T hT X
  have hpl : e.platform.magicAccessors = ({} : Platform).magicAccessors := by rw [X.admits.platform]
  obtain ⟨vm', hW', X', st⟩ := X.outThrough hlocks q (g := F0 m pc ls rest) rfl rfl rfl (cell := ce) (by rw [hT]; exact hcell) (by rw [hv]; rfl)
    (by obtain ⟨k9, h9, -⟩ := Vm.findClass_spec hcl; exact ⟨k9, h9⟩) (fun z hz => by
      rcases hpass z hz with h | ⟨hz0, nm, hl1, hn1⟩
      · exact Or.inl h
      · obtain ⟨c6, hc6, hcl6⟩ := Cond.classLink_spec hown hl1 e.platform hpl
        obtain ⟨a8, b8, h1, h2, h3⟩ := hn1
        cases Option.some.inj (h1.symm.trans hcl)
        cases Option.some.inj (h2.symm.trans hc6)
        exact Or.inr ⟨hz0, _, hcl6, h3⟩)
  obtain ⟨g₀, hfr⟩ := X'.frames_eq
  have hcell9 : ((T.setVm vm').setFrames (.throwing q :: below)).heap[q]? = some ce := by
    show T.heap[q]? = some ce
    rw [hT]; exact hcell
  have hend : Ended ((T.setVm vm').setFrames (.throwing q :: below)) below (.threw q) := State.frames_setFrames _ (State.cur_lt_of_frames hfr)
  refine ⟨(T.setVm vm').setFrames (.throwing q :: below), ?_, .threw q, X'.here.running, hend, Or.inr ⟨q, rfl, E, ce, locs, hx _ hT (X'.ends _).1.alike, hcell9, hv, hcl, (X'.ends _).1, (X'.ends _).2.mono hc hs, hf⟩⟩
  rw [X.pushThrowing_eq]
  exact st
/-- a thing of a world lies in the heap -/
theorem vx_lt {D : va_G} {cl : List vw_C} {ws : va_W} {H1 : Heap} (h : va_P D cl ws H1) {k : Nat} {q : Nat × va_E} (hk : ws[k]? = some q) : q.1 < H1.size := (h k q hk).lt
end VXS
/-! ===== END ===== -/
/-! ===== BEGIN methods with a table of their own: called by a name, returning or throwing ===== -/
section VXH
/-! vx_backW, vx_callVX, vx_callSX, vx_callVW, vx_runVW, vx_runVX, vx_runSX, vx_ofWH follow the same proofs as their sisters above (Free/Laws.lean, Shelf42/LK1.lean); vx_outP calls Shelf42/NT130.lean (outThrough). -/
section
variable {l : Launch} {R : Room} {p : Program} {e : Env} {below : List Frame} {s : State} {sargs : Array Value} {y : MethodName} {len W9 : Nat}
theorem vx_backW {ws : List Cond} {rm : Room} {Pc : Array Value → State → Prop} {Qc : Array Value → State → Outcome → State → Prop} {XC : String → State → State → Prop} {mc ms : Nat} {free : Addr → Prop} {bytes : ByteArray} {maxL : Nat} {ret : Option FieldType} {hh : List (Nat × Nat × Nat × Nat)}
    (hM : vx_Met l y ws rm Pc Qc XC mc ms free) (hblind : FrameBlind Pc) (hrc : rm.cells = mc) (hrs : rm.slots = ms)
    (hframes : rm.frames + 1 ≤ R.frames) (hlocals : W9 + (maxL + 11) + rm.locals ≤ R.locals)
    (hws : ∀ w ∈ ws, ∀ a' U, s.WarmedH U.vm → w.before a' U = true) (hcode : Cond.codeWith y bytes maxL ret hh ∈ ws) (hinit : ∀ a' U, s.WarmedH U.vm → (Cond.initialized y.cls).before a' U = true) :
    vx_Back l R p e below s sargs y len W9 (PreOf R mc ms Pc) (PostOf Qc mc ms free) (vx_Post XC mc ms free) := by
  intro m meth c A g ig mk a X hg hsize hdg hW hn hp
  have h1 : (headSpec ws rm).pre.before a A.U = true := atoms_intro fun w hw => hws w hw _ _ X.warmed
  have h2 : (Cond.codeWith y bytes maxL ret hh).before a A.U = true := hws _ hcode _ _ X.warmed
  have h3 : (Cond.initialized y.cls).before a A.U = true := hinit _ _ X.warmed
  have h4 : A.cells + (headSpec ws rm).room.cells ≤ R.cells := by rw [show (headSpec ws rm).room.cells = mc from hrc]; exact hp.1
  have h5 : A.slots + (headSpec ws rm).room.slots ≤ R.slots := by rw [show (headSpec ws rm).room.slots = ms from hrs]; exact hp.2.1
  have hPc : Pc a (A.U.calling g mk a) := hblind _ _ _ _ hp.2.2
  obtain ⟨U, Ls, c0, s0⟩ := A
  dsimp only [Pt.U, Pt.locs, Pt.cells, Pt.slots] at h1 h2 h3 h4 h5 X hn hPc ⊢
  obtain ⟨m9, methY, cY, hn9, hmY, hcY, -, hlY, -⟩ := Cond.codeWith_spec h2
  cases Option.some.inj (hn9.symm.trans hn)
  obtain ⟨kY, hkY, -⟩ := className_of_methodNamed hn
  have hinitY : kY.init = .initialized := Cond.initialized_spec (findClass_of_methodNamed hn) hkY h3
  have h : At U g.method c below := by rw [hg]; exact X.here
  have hlocals9 : W9 + (maxL + 11) + (headSpec ws rm).room.locals ≤ R.locals := hlocals
  have happ : (headSpec ws rm).appliesLoose y e.platform (U.calling g mk a) = true :=
    Spec.appliesLoose_calling (g := g) h hdg hn hkY hinitY
      (X.room_calling (g := g) (R' := (headSpec ws rm).room) hsize hmY hcY hframes (by rw [hlY]; omega) h4 h5) h1
  obtain ⟨mid, hmid⟩ := h.above
  have hfr : (U.setTop g).frames = (.java g :: mid) ++ below := by rw [State.frames_setTop' g h.top, hmid]; rfl
  obtain ⟨o, s₂, hsteps, -, hend, hq⟩ := Steps.callFree hM p X.admits X.cas X.clock (acts := []) hfr happ hPc trivial
  have hq' : vx_Q Qc XC mc ms free a (U.calling g mk a) o s₂ := hq
  rw [State.frames_setTop' g h.top] at hend
  obtain ⟨g₀, hg0⟩ := Option.isSome_iff_exists.mp h.top
  obtain ⟨r, hr⟩ := State.topJava?_eq_some.mp hg0
  have hr' : (({ U with heap := s₂.heap, slotsUsed := s₂.slotsUsed } : State).setVm s₂.vm).frames = .java g₀ :: r := hr
  rcases hq' with ⟨hqc, L, hfe, hL⟩ | ⟨q, rfl, E, ce, L, hx, hce, hcv, hcl, hW₂, hsm, hL⟩
  · obtain ⟨⟨v, rfl⟩, hW₂, e2, q2, q3, q4, q5, q6⟩ := id hfe
    have e3 : s₂ = ({ (U.calling g mk a).setFrames s₂.frames with heap := s₂.heap, slotsUsed := s₂.slotsUsed } : State).setVm s₂.vm := by
      have : s₂ = ({ s₂ with vm := (U.calling g mk a).vm } : State).setVm s₂.vm := rfl
      rw [e2] at this
      exact this
    obtain ⟨c₂, i₂, len₂, hc₂, hd₂, hf₂⟩ := hend
    have hW' : U.WarmedH s₂.vm := hW₂
    have hcc : c₂ = c := by
      have h1 : s₂.code? g.method = U.code? g.method := by
        rw [State.code?_eq, State.code?_eq, hW'.alike.method?]
      exact Option.some.inj (hc₂.symm.trans (h1.trans h.code))
    subst hcc
    have hlen : len₂ = len := by rw [hdg] at hd₂; cases hd₂; rfl
    subst hlen
    have hs₂ : s₂ = (({ U with heap := s₂.heap, slotsUsed := s₂.slotsUsed } : State).setVm s₂.vm).setTop { g with pc := g.pc + len₂, stack := v.toList ++ g.stack } := by
      refine e3.trans ?_
      rw [hf₂, State.calling_eq h.top, State.setFrames_setFrames, State.setTop_of_frames _ hr', hr]
      rfl
    have hsame : U.sameButNew ({ U with heap := s₂.heap, slotsUsed := s₂.slotsUsed } : State) L mc ms := by
      refine ⟨?_, q2, q3, q4, q5, q6⟩
      obtain ⟨t, ht, -⟩ := State.frames_cons hr
      show ({ U with heap := s₂.heap, slotsUsed := s₂.slotsUsed } : State) = { U.setFrames U.frames with heap := s₂.heap, slotsUsed := s₂.slotsUsed }
      rw [State.setFrames_self ht]
    subst hg
    refine Or.inl ⟨v, ⟨(({ U with heap := s₂.heap, slotsUsed := s₂.slotsUsed } : State).setVm s₂.vm), Ls ++ L, c0 + mc, s0 + ms⟩,
      ⟨X.admits, X.cas, X.clock, X.frames, X.room, X.hears, X.method, X.code, (X.here.setHeapUsed s₂.heap s₂.slotsUsed).setVm hW'.alike, X.tail, State.WarmedH.trans X.warmed hW', X.limits, X.bytes, X.same.trans (hsame.setVm s.vm)⟩,
      ⟨g, mk, s₂, L, rfl, rfl, hqc, rfl, hL, rfl, rfl⟩, ?_⟩
    show Steps p.tables e below _ ((({ U with heap := s₂.heap, slotsUsed := s₂.slotsUsed } : State).setVm s₂.vm).setTop { g with pc := g.pc + len₂, stack := v.toList ++ g.stack })
    rw [← hs₂]
    exact hsteps
  · obtain ⟨e2, q2, q3, q4, q5, q6⟩ := id hsm
    have e3 : s₂ = ({ (U.calling g mk a).setFrames s₂.frames with heap := s₂.heap, slotsUsed := s₂.slotsUsed } : State).setVm s₂.vm := by
      have : s₂ = ({ s₂ with vm := (U.calling g mk a).vm } : State).setVm s₂.vm := rfl
      rw [e2] at this
      exact this
    have hf₂ : s₂.frames = .throwing q :: .java g :: U.frames.tail := hend
    have hW' : U.WarmedH s₂.vm := hW₂
    have hs₂ : s₂ = ((({ U with heap := s₂.heap, slotsUsed := s₂.slotsUsed } : State).setVm s₂.vm).setTop g).pushFrame (.throwing q) := by
      refine e3.trans ?_
      rw [hf₂, State.calling_eq h.top, State.setFrames_setFrames, State.pushFrame, State.frames_setTop _ hr', State.setTop_of_frames _ hr', State.setFrames_setFrames, hr]
      rfl
    have hsame : U.sameButNew ({ U with heap := s₂.heap, slotsUsed := s₂.slotsUsed } : State) L mc ms := by
      refine ⟨?_, q2, q3, q4, q5, q6⟩
      obtain ⟨t, ht, -⟩ := State.frames_cons hr
      show ({ U with heap := s₂.heap, slotsUsed := s₂.slotsUsed } : State) = { U.setFrames U.frames with heap := s₂.heap, slotsUsed := s₂.slotsUsed }
      rw [State.setFrames_self ht]
    subst hg
    refine Or.inr ⟨q, ⟨(({ U with heap := s₂.heap, slotsUsed := s₂.slotsUsed } : State).setVm s₂.vm), Ls ++ L, c0 + mc, s0 + ms⟩,
      ⟨X.admits, X.cas, X.clock, X.frames, X.room, X.hears, X.method, X.code, (X.here.setHeapUsed s₂.heap s₂.slotsUsed).setVm hW'.alike, X.tail, State.WarmedH.trans X.warmed hW', X.limits, X.bytes, X.same.trans (hsame.setVm s.vm)⟩,
      ⟨g, mk, s₂, L, E, ce, rfl, rfl, hx, hce, hcv, hcl, rfl, hL, rfl, rfl⟩, ?_⟩
    show Steps p.tables e below _ (((({ U with heap := s₂.heap, slotsUsed := s₂.slotsUsed } : State).setVm s₂.vm).setTop g).pushFrame (.throwing q))
    rw [← hs₂]
    exact hsteps
end
variable {p : Program} {l : Launch} {e : Env} {R : Room} {s : State} {m : MethodId} {args : Array Value} {below : List Frame} {meth : Method} {c : Code} {T : State} {H : Heap} {locs : List Loc} {cells slots : Nat}
theorem vx_callVX (X : Stand p l e R s m args below meth c T locs cells slots) (hexec : p.tables.exec = Jvm.exec) {own C : String} {index : Nat} {y : MethodName} {bytes : ByteArray} {maxL : Nat} {ret : Option FieldType} {hh : List (Nat × Nat × Nat × Nat)}
    (hown : s.vm.findClass own = some m.cls) (hlink : (Cond.methodLink own index y).before args s = true) (hinst : (Cond.instanceMethod y).before args s = true) (hsel : (Cond.selects C y y).before args s = true)
    (hcode : (Cond.codeWith y bytes maxL ret hh).before args s = true) (hy : y.cls ≠ "java/lang/invoke/MethodHandle" ∧ y.cls ≠ "java/lang/invoke/VarHandle")
    {W9 : Nat} {Pre : Pt → Array Value → Prop} {Post : Pt → Array Value → Option Value → Pt → Prop} {PostX : Pt → Array Value → Addr → Pt → Prop} (hK : vx_Back l R p e below s args y 3 W9 Pre Post PostX)
    {b : Addr} {cellB : Cell} (hcell : T.heap[b]? = some cellB) (hobj : cellB.vm.isStatics = false) (hcls : s.vm.findClass C = some cellB.cls)
    {g : JFrame} (hg : g.method = m) (hsize : g.locals.size = c.maxLocals) {argsL rest : List Value} (hlen : ∀ sig, parseMethodDescriptor y.desc = some sig → argsL.length = sig.parameters.length)
    (hstack : g.stack = argsL.reverse ++ .ref b :: rest) (hW : 2 * g.monitorRoom + (rest.map fun v => v.category).sum ≤ W9) (hdg : decode c.code g.pc = .ok (.invokevirtual index, 3))
    (hpre : ∀ vm₁, s.WarmedH vm₁ → Pre ⟨T.setVm vm₁, locs, cells, slots⟩ (Value.ref b :: argsL).toArray) :
    (∃ (v : Option Value) (vm₁ : Vm) (B : Pt), s.WarmedH vm₁ ∧ Stand p l e R s m args below meth c B.U B.locs B.cells B.slots ∧ Post ⟨T.setVm vm₁, locs, cells, slots⟩ (Value.ref b :: argsL).toArray v B ∧
      ∀ target, Steps p.tables e below (B.U.setTop { g with pc := g.pc + 3, stack := v.toList ++ rest }) target → Steps p.tables e below (T.setTop g) target) ∨
    (∃ (q : Addr) (vm₁ : Vm) (B : Pt), s.WarmedH vm₁ ∧ Stand p l e R s m args below meth c B.U B.locs B.cells B.slots ∧ PostX ⟨T.setVm vm₁, locs, cells, slots⟩ (Value.ref b :: argsL).toArray q B ∧
      Steps p.tables e below (T.setTop g) ((B.U.setTop { g with stack := rest }).pushFrame (.throwing q))) := by
  obtain ⟨mk, methM, hnamed, hmethM, hstM, habM⟩ := Cond.instanceMethod_spec hinst
  obtain ⟨m8, methM', cM, hn8, hmethM', -, -, -, -, -, -, hsigM⟩ := Cond.codeWith_spec hcode
  cases Option.some.inj (hn8.symm.trans hnamed)
  cases hmethM.symm.trans hmethM'
  obtain ⟨c2, r2, m2, q1, q2, q3, q4, kP, hkP, hkPi⟩ := Cond.selects_spec hsel
  cases hcls.symm.trans q1
  cases (State.methodFound?_of_named hnamed hy).symm.trans q2
  cases hnamed.symm.trans q3
  have hselP : selectMethod e.platform s.vm cellB.cls mk = .method mk := by rw [Launch.admits_selectMethod X.admits]; exact q4
  obtain ⟨vm₁, X₁, hstep₁⟩ := X.invokevirtual hexec hown hlink hnamed hmethM hstM hkP hkPi hy (a := b) (cell := cellB) hcell
    (fun z h => by rw [h] at hobj; cases hobj) hselP hmethM habM hkP hkPi (g := g) hg (argsL := argsL) (rest := rest) (hlen _ hsigM) hstack hdg
  rcases hK m meth c ⟨T.setVm vm₁, locs, cells, slots⟩ { g with stack := rest } (.invokevirtual index) mk (Value.ref b :: argsL).toArray X₁ hg hsize hdg hW (X₁.named hnamed) (hpre vm₁ X₁.warmed) with ⟨v, B, X', hpost, hsteps⟩ | ⟨q, B, X', hpost, hsteps⟩
  · exact Or.inl ⟨v, vm₁, B, X₁.warmed, X', hpost, fun target h => hstep₁ _ fun acts => by rw [doInvoke_state]; exact hsteps.trans h⟩
  · exact Or.inr ⟨q, vm₁, B, X₁.warmed, X', hpost, hstep₁ _ fun acts => by rw [doInvoke_state]; exact hsteps⟩
theorem vx_callSX (X : Stand p l e R s m args below meth c T locs cells slots) (hexec : p.tables.exec = Jvm.exec) {own : String} {index : Nat} {y : MethodName} {bytes : ByteArray} {maxL : Nat} {ret : Option FieldType} {hh : List (Nat × Nat × Nat × Nat)}
    (hown : s.vm.findClass own = some m.cls) (hlink : (Cond.methodLink own index y).before args s = true) (hstat : (Cond.static y).before args s = true) (hinit : (Cond.initialized y.cls).before args s = true)
    (hcode : (Cond.codeWith y bytes maxL ret hh).before args s = true) (hy : y.cls ≠ "java/lang/invoke/MethodHandle" ∧ y.cls ≠ "java/lang/invoke/VarHandle")
    {W9 : Nat} {Pre : Pt → Array Value → Prop} {Post : Pt → Array Value → Option Value → Pt → Prop} {PostX : Pt → Array Value → Addr → Pt → Prop} (hK : vx_Back l R p e below s args y 3 W9 Pre Post PostX)
    {g : JFrame} (hg : g.method = m) (hsize : g.locals.size = c.maxLocals) {argsL rest : List Value} (hlen : ∀ sig, parseMethodDescriptor y.desc = some sig → argsL.length = sig.parameters.length)
    (hstack : g.stack = argsL.reverse ++ rest) (hW : 2 * g.monitorRoom + (rest.map fun v => v.category).sum ≤ W9) (hdg : decode c.code g.pc = .ok (.invokestatic index, 3))
    (hpre : ∀ vm₁, s.WarmedH vm₁ → Pre ⟨T.setVm vm₁, locs, cells, slots⟩ argsL.toArray) :
    (∃ (v : Option Value) (vm₁ : Vm) (B : Pt), s.WarmedH vm₁ ∧ Stand p l e R s m args below meth c B.U B.locs B.cells B.slots ∧ Post ⟨T.setVm vm₁, locs, cells, slots⟩ argsL.toArray v B ∧
      ∀ target, Steps p.tables e below (B.U.setTop { g with pc := g.pc + 3, stack := v.toList ++ rest }) target → Steps p.tables e below (T.setTop g) target) ∨
    (∃ (q : Addr) (vm₁ : Vm) (B : Pt), s.WarmedH vm₁ ∧ Stand p l e R s m args below meth c B.U B.locs B.cells B.slots ∧ PostX ⟨T.setVm vm₁, locs, cells, slots⟩ argsL.toArray q B ∧
      Steps p.tables e below (T.setTop g) ((B.U.setTop { g with stack := rest }).pushFrame (.throwing q))) := by
  obtain ⟨mk, methM, cM, hnamed, hmethM, -, -, -, -, -, -, hsigM⟩ := Cond.codeWith_spec hcode
  have hstatic : methM.isStatic = true := Cond.static_spec hnamed hmethM hstat
  obtain ⟨kP, hkP, -⟩ := className_of_methodNamed hnamed
  have hinitP : kP.init = .initialized := Cond.initialized_spec (findClass_of_methodNamed hnamed) hkP hinit
  obtain ⟨vm₁, X₁, hstep₁⟩ := X.invokestatic hexec hown hlink hnamed hmethM hstatic hkP hinitP hy (g := g) hg (argsL := argsL) (rest := rest) (hlen _ hsigM) hstack hdg
  rcases hK m meth c ⟨T.setVm vm₁, locs, cells, slots⟩ { g with stack := rest } (.invokestatic index) mk argsL.toArray X₁ hg hsize hdg hW (X₁.named hnamed) (hpre vm₁ X₁.warmed) with ⟨v, B, X', hpost, hsteps⟩ | ⟨q, B, X', hpost, hsteps⟩
  · exact Or.inl ⟨v, vm₁, B, X₁.warmed, X', hpost, fun target h => hstep₁ _ fun acts => by rw [doInvoke_state]; exact hsteps.trans h⟩
  · exact Or.inr ⟨q, vm₁, B, X₁.warmed, X', hpost, hstep₁ _ fun acts => by rw [doInvoke_state]; exact hsteps⟩
theorem vx_callVW (X : Stand p l e R s m args below meth c T locs cells slots) (hexec : p.tables.exec = Jvm.exec) {own C : String} {index : Nat} {y : MethodName} {bytes : ByteArray} {maxL : Nat} {ret : Option FieldType} {hh : List (Nat × Nat × Nat × Nat)}
    (hown : s.vm.findClass own = some m.cls) (hlink : (Cond.methodLink own index y).before args s = true) (hinst : (Cond.instanceMethod y).before args s = true) (hsel : (Cond.selects C y y).before args s = true)
    (hcode : (Cond.codeWith y bytes maxL ret hh).before args s = true) (hy : y.cls ≠ "java/lang/invoke/MethodHandle" ∧ y.cls ≠ "java/lang/invoke/VarHandle")
    {W9 : Nat} {Pre : Pt → Array Value → Prop} {Post : Pt → Array Value → Option Value → Pt → Prop} (hK : Back l R p e below s args y 3 W9 Pre Post)
    {b : Addr} {cellB : Cell} (hcell : T.heap[b]? = some cellB) (hobj : cellB.vm.isStatics = false) (hcls : s.vm.findClass C = some cellB.cls)
    {g : JFrame} (hg : g.method = m) (hsize : g.locals.size = c.maxLocals) {argsL rest : List Value} (hlen : ∀ sig, parseMethodDescriptor y.desc = some sig → argsL.length = sig.parameters.length)
    (hstack : g.stack = argsL.reverse ++ .ref b :: rest) (hW : 2 * g.monitorRoom + (rest.map fun v => v.category).sum ≤ W9) (hdg : decode c.code g.pc = .ok (.invokevirtual index, 3))
    (hpre : ∀ vm₁, s.WarmedH vm₁ → Pre ⟨T.setVm vm₁, locs, cells, slots⟩ (Value.ref b :: argsL).toArray) :
    ∃ (v : Option Value) (vm₁ : Vm) (B : Pt), s.WarmedH vm₁ ∧ Stand p l e R s m args below meth c B.U B.locs B.cells B.slots ∧ Post ⟨T.setVm vm₁, locs, cells, slots⟩ (Value.ref b :: argsL).toArray v B ∧
      ∀ target, Steps p.tables e below (B.U.setTop { g with pc := g.pc + 3, stack := v.toList ++ rest }) target → Steps p.tables e below (T.setTop g) target := by
  obtain ⟨mk, methM, hnamed, hmethM, hstM, habM⟩ := Cond.instanceMethod_spec hinst
  obtain ⟨m8, methM', cM, hn8, hmethM', -, -, -, -, -, -, hsigM⟩ := Cond.codeWith_spec hcode
  cases Option.some.inj (hn8.symm.trans hnamed)
  cases hmethM.symm.trans hmethM'
  obtain ⟨c2, r2, m2, q1, q2, q3, q4, kP, hkP, hkPi⟩ := Cond.selects_spec hsel
  cases hcls.symm.trans q1
  cases (State.methodFound?_of_named hnamed hy).symm.trans q2
  cases hnamed.symm.trans q3
  have hselP : selectMethod e.platform s.vm cellB.cls mk = .method mk := by rw [Launch.admits_selectMethod X.admits]; exact q4
  obtain ⟨vm₁, X₁, hstep₁⟩ := X.invokevirtual hexec hown hlink hnamed hmethM hstM hkP hkPi hy (a := b) (cell := cellB) hcell
    (fun z h => by rw [h] at hobj; cases hobj) hselP hmethM habM hkP hkPi (g := g) hg (argsL := argsL) (rest := rest) (hlen _ hsigM) hstack hdg
  obtain ⟨v, B, X', hpost, hsteps⟩ := hK m meth c ⟨T.setVm vm₁, locs, cells, slots⟩ { g with stack := rest } (.invokevirtual index) mk (Value.ref b :: argsL).toArray X₁ hg hsize hdg hW (X₁.named hnamed) (hpre vm₁ X₁.warmed)
  exact ⟨v, vm₁, B, X₁.warmed, X', hpost, fun target h => hstep₁ _ fun acts => by rw [doInvoke_state]; exact hsteps.trans h⟩
abbrev vx_CVW (R : Room) (s : State) (args : Array Value) (own C : String) (index : Nat) (y : MethodName) (bytes : ByteArray) (maxL : Nat) (ret : Option FieldType) (hh : List (Nat × Nat × Nat × Nat)) (ws : List Cond) (rm : Room) (mc ms n : Nat) : Prop :=
  (rm.cells = mc ∧ rm.slots = ms ∧ rm.frames + 1 ≤ R.frames ∧ 8 + (maxL + 11) + rm.locals ≤ R.locals ∧ (∀ w ∈ ws, ∀ (a' : Array Value) (U : State), s.WarmedH U.vm → w.before a' U = true) ∧ Cond.codeWith y bytes maxL ret hh ∈ ws) ∧
  (Cond.codeWith y bytes maxL ret hh).before args s = true ∧ (Cond.initialized y.cls).before args s = true ∧ (y.cls ≠ "java/lang/invoke/MethodHandle" ∧ y.cls ≠ "java/lang/invoke/VarHandle") ∧
  (∀ sig, parseMethodDescriptor y.desc = some sig → n = sig.parameters.length) ∧ (Cond.methodLink own index y).before args s = true ∧ (Cond.instanceMethod y).before args s = true ∧ (Cond.selects C y y).before args s = true
theorem vx_cwVW {own C : String} {index maxL mc ms : Nat} {y : MethodName} {bytes : ByteArray} {ret : Option FieldType} {hh : List (Nat × Nat × Nat × Nat)} {Ts ws ws' : List Cond} {rm : Room} (n : Nat) (ht : ∀ w ∈ Ts, w.before args s = true) (hT : GoodIn Ts (wsV own index C y ws)) (hw : ws = Cond.codeWith y bytes maxL ret hh :: ws') (hrc : rm.cells = mc) (hrs : rm.slots = ms)
    (hd : y.cls = C ∧ y.cls ≠ "java/lang/invoke/MethodHandle" ∧ y.cls ≠ "java/lang/invoke/VarHandle" ∧ (parseMethodDescriptor y.desc).map (fun d => d.parameters.length) = some n) (hR : rm.frames + 1 ≤ R.frames ∧ 8 + (maxL + 11) + rm.locals ≤ R.locals) :
    vx_CVW R s args own C index y bytes maxL ret hh ws rm mc ms n := by
  obtain ⟨hC, hd⟩ := hd
  subst hC
  have ok : ∀ w ∈ wsV own index y.cls y ws, w.before args s = true := fun w h => ht w (hT w h).1
  have hG : GoodIn Ts ws := fun w h => hT w (by unfold wsV; exact List.mem_append_right _ h)
  have hc : Cond.codeWith y bytes maxL ret hh ∈ ws := by rw [hw]; exact List.mem_cons_self
  refine ⟨⟨hrc, hrs, hR.1, hR.2, pay_in ht hG, hc⟩, ht _ (hG _ hc).1, ok _ (by simp [wsV]), ⟨hd.1, hd.2.1⟩, fun sig h => ?_, ok _ (by simp [wsV]), ok _ (by simp [wsV]), ok _ (by simp [wsV])⟩
  have h2 := hd.2.2
  rw [h] at h2
  exact (Option.some.inj h2).symm
theorem vx_runVW {y : MethodName} {bytes cc : ByteArray} {maxL nL mc ms n index : Nat} {ret : Option FieldType} {hh : List (Nat × Nat × Nat × Nat)} {ws : List Cond} {rm : Room} {Pc : Array Value → State → Prop} {Qc : Array Value → State → Outcome → State → Prop} {free : Addr → Prop} {Ts : List Cond} {own C : String} {b : Addr} {As rest : List Value} {g : JFrame}
    (S : CallFix p m c cc nL s args Ts own) (hM : Met l y ws rm Pc Qc mc ms free) (cw : vx_CVW R s args own C index y bytes maxL ret hh ws rm mc ms n) (hp : PreV s H C b Pc As)
    (hg : g.method = m) (hn : As.length = n) (hsize : g.locals.size = nL) (hstack : g.stack = As.reverse ++ .ref b :: rest) (hW : 2 * g.monitorRoom + (rest.map fun v => v.category).sum ≤ 8) (hdg : decode cc g.pc = .ok (.invokevirtual index, 3)) (hf : cells + mc ≤ R.cells ∧ slots + ms ≤ R.slots) :
    va_Run p l e R s m args below meth c H locs cells slots mc ms g rest (Qc (Value.ref b :: As).toArray) free := by
  obtain ⟨⟨hrc, hrs, hfr, hlo, hws, hcw⟩, hcode, hini, hy, hlen, hl, hin, hse⟩ := cw
  have hK : Back l R p e below s args y 3 8 (PreOf R mc ms Pc) (PostOf Qc mc ms free) := va_backW (hh := hh) (bytes := bytes) (maxL := maxL) (ret := ret) hM hp.1 hrc hrs hfr hlo hws hcw (fun a' U hW => word_at hW (Or.inl (by first | rfl | simp [Cond.onTables, Cond.keeps, Cond.steady])) hini)
  obtain ⟨hx, hb, hml, ho, -⟩ := S
  obtain ⟨-, ⟨cellB, hcB, hoB, hclB⟩, hPc⟩ := hp
  intro T hT X
  obtain ⟨v, vm₁, ⟨U', l2, c2, s2⟩, hW₁, X', ⟨g', mk, t, L, e1, e2, hq, h1, hL, h2, h3⟩, st⟩ := vx_callVW X hx (C := C) (hh := hh) (bytes := bytes) (maxL := maxL) (ret := ret) ho hl hin hse hcode hy hK (by rw [hT]; exact hcB) hoB hclB hg (hsize.trans hml.symm) (argsL := As) (rest := rest) (fun sig h => hn.trans (hlen sig h)) hstack hW (by rw [hb]; exact hdg)
    (fun vm₁ hW₁ => ⟨hf.1, hf.2, hPc (T.setVm vm₁) hT hW₁⟩)
  dsimp only [Pt.U, Pt.locs, Pt.cells, Pt.slots] at X' e1 e2 h1 h2 h3 st
  subst h1; subst h2; subst h3
  exact ⟨v, (T.setVm vm₁).calling g' mk (Value.ref b :: As).toArray, t, U', L, hT, X', hL, e1, e2, hq, st⟩
section
variable {y : MethodName} {bytes cc : ByteArray} {maxL nL mc ms n index : Nat} {ret : Option FieldType} {ws : List Cond} {rm : Room} {Pc : Array Value → State → Prop} {Qc : Array Value → State → Outcome → State → Prop} {XC : String → State → State → Prop} {free : Addr → Prop} {Ts : List Cond} {own C : String} {b : Addr} {As rest : List Value} {g : JFrame}
theorem vx_runVX {hh : List (Nat × Nat × Nat × Nat)} (S : CallFix p m c cc nL s args Ts own) (hM : vx_Met l y ws rm Pc Qc XC mc ms free) (cw : vx_CVW R s args own C index y bytes maxL ret hh ws rm mc ms n) (hp : PreV s H C b Pc As)
    (hg : g.method = m) (hn : As.length = n) (hsize : g.locals.size = nL) (hstack : g.stack = As.reverse ++ .ref b :: rest) (hW : 2 * g.monitorRoom + (rest.map fun v => v.category).sum ≤ 8) (hdg : decode cc g.pc = .ok (.invokevirtual index, 3)) (hf : cells + mc ≤ R.cells ∧ slots + ms ≤ R.slots) :
    vx_Run p l e R s m args below meth c H locs cells slots mc ms g rest (Qc (Value.ref b :: As).toArray) XC free := by
  obtain ⟨⟨hrc, hrs, hfr, hlo, hws, hcw⟩, hcode, hini, hy, hlen, hl, hin, hse⟩ := cw
  have hK : vx_Back l R p e below s args y 3 8 (PreOf R mc ms Pc) (PostOf Qc mc ms free) (vx_Post XC mc ms free) := vx_backW (hh := hh) (bytes := bytes) (maxL := maxL) (ret := ret) hM hp.1 hrc hrs hfr hlo hws hcw (fun a' U hW => word_at hW (Or.inl (by first | rfl | simp [Cond.onTables, Cond.keeps, Cond.steady])) hini)
  obtain ⟨hx, hb, hml, ho, -⟩ := S
  obtain ⟨-, ⟨cellB, hcB, hoB, hclB⟩, hPc⟩ := hp
  intro T hT X
  rcases vx_callVX X hx (C := C) (hh := hh) (bytes := bytes) (maxL := maxL) (ret := ret) ho hl hin hse hcode hy hK (by rw [hT]; exact hcB) hoB hclB hg (hsize.trans hml.symm) (argsL := As) (rest := rest) (fun sig h => hn.trans (hlen sig h)) hstack hW (by rw [hb]; exact hdg)
    (fun vm₁ hW₁ => ⟨hf.1, hf.2, hPc (T.setVm vm₁) hT hW₁⟩) with ⟨v, vm₁, ⟨U', l2, c2, s2⟩, hW₁, X', ⟨g', mk, t, L, e1, e2, hq, h1, hL, h2, h3⟩, st⟩ | ⟨q, vm₁, ⟨U', l2, c2, s2⟩, hW₁, X', ⟨g', mk, t, L, E, ce, e1, e2, hq, hce, hcv, hcl, h1, hL, h2, h3⟩, st⟩
  · dsimp only [Pt.U, Pt.locs, Pt.cells, Pt.slots] at X' e1 e2 h1 h2 h3 st
    subst h1; subst h2; subst h3
    exact Or.inl ⟨v, (T.setVm vm₁).calling g' mk (Value.ref b :: As).toArray, t, U', L, hT, X', hL, e1, e2, hq, st⟩
  · dsimp only [Pt.U, Pt.locs, Pt.cells, Pt.slots] at X' e1 e2 h1 h2 h3 st hcl
    subst h1; subst h2; subst h3
    exact Or.inr ⟨q, (T.setVm vm₁).calling g' mk (Value.ref b :: As).toArray, t, U', L, E, ce, hT, X', hL, e1, e2, hq, hce, hcv, vx_cls hW₁ hcl, st⟩
theorem vx_runSX {hh : List (Nat × Nat × Nat × Nat)} (S : CallFix p m c cc nL s args Ts own) (hM : vx_Met l y ws rm Pc Qc XC mc ms free) (cw : vx_CSW R s args own index y bytes maxL ret hh ws rm mc ms n) (hp : PreS s H Pc As)
    (hg : g.method = m) (hn : As.length = n) (hsize : g.locals.size = nL) (hstack : g.stack = As.reverse ++ rest) (hW : 2 * g.monitorRoom + (rest.map fun v => v.category).sum ≤ 8) (hdg : decode cc g.pc = .ok (.invokestatic index, 3)) (hf : cells + mc ≤ R.cells ∧ slots + ms ≤ R.slots) :
    vx_Run p l e R s m args below meth c H locs cells slots mc ms g rest (Qc As.toArray) XC free := by
  obtain ⟨⟨hrc, hrs, hfr, hlo, hws, hcw⟩, hcode, hini, hy, hlen, hl, hstt⟩ := cw
  have hK : vx_Back l R p e below s args y 3 8 (PreOf R mc ms Pc) (PostOf Qc mc ms free) (vx_Post XC mc ms free) := vx_backW (hh := hh) (bytes := bytes) (maxL := maxL) (ret := ret) hM hp.1 hrc hrs hfr hlo hws hcw (fun a' U hW => word_at hW (Or.inl (by first | rfl | simp [Cond.onTables, Cond.keeps, Cond.steady])) hini)
  obtain ⟨hx, hb, hml, ho, -⟩ := S
  intro T hT X
  rcases vx_callSX X hx (hh := hh) (bytes := bytes) (maxL := maxL) (ret := ret) ho hl hstt hini hcode hy hK hg (hsize.trans hml.symm) (argsL := As) (rest := rest) (fun sig h => hn.trans (hlen sig h)) hstack hW (by rw [hb]; exact hdg)
    (fun vm₁ hW₁ => ⟨hf.1, hf.2, hp.2 (T.setVm vm₁) hT hW₁⟩) with ⟨v, vm₁, ⟨U', l2, c2, s2⟩, hW₁, X', ⟨g', mk, t, L, e1, e2, hq, h1, hL, h2, h3⟩, st⟩ | ⟨q, vm₁, ⟨U', l2, c2, s2⟩, hW₁, X', ⟨g', mk, t, L, E, ce, e1, e2, hq, hce, hcv, hcl, h1, hL, h2, h3⟩, st⟩
  · dsimp only [Pt.U, Pt.locs, Pt.cells, Pt.slots] at X' e1 e2 h1 h2 h3 st
    subst h1; subst h2; subst h3
    exact Or.inl ⟨v, (T.setVm vm₁).calling g' mk As.toArray, t, U', L, hT, X', hL, e1, e2, hq, st⟩
  · dsimp only [Pt.U, Pt.locs, Pt.cells, Pt.slots] at X' e1 e2 h1 h2 h3 st hcl
    subst h1; subst h2; subst h3
    exact Or.inr ⟨q, (T.setVm vm₁).calling g' mk As.toArray, t, U', L, E, ce, hT, X', hL, e1, e2, hq, hce, hcv, vx_cls hW₁ hcl, st⟩
end
end VXH
theorem vx_ofWH {l : Launch} {y : MethodName} {ws ws' : List Cond} {rm : Room} {Pc : Array Value → State → Prop} {Qc : Array Value → State → Outcome → State → Prop} {XC : String → State → State → Prop} {mc ms : Nat} {free : Addr → Prop} {cc : ByteArray} {maxL : Nat} {ret : Option FieldType} {hh : List (Nat × Nat × Nat × Nat)}
    (hy : plainName y.cls = true) (hw : ws = Cond.codeWith y cc maxL ret hh :: ws')
    (body : ∀ p e s m args below meth c s₁, BodyLoose p l y (headSpec ws rm) cc maxL ret e s m args below meth c s₁ → c.maxLocals = maxL → Pc args s →
      W p l e (headSpec ws rm).room s m args below meth c s.heap [] 0 0 (vx_MQ below Qc XC args s mc ms free) (entryFrame m args maxL)) : vx_Met l y ws rm Pc Qc XC mc ms free := by
  refine MetFree.of_bodyS (code := cc) (maxLocals := maxL) (ret := ret) hy ?_ ?_
  · intro args s m h hn
    obtain ⟨m9, meth, c, hn9, h1, h2, h3, h4, -, h5, h6, -⟩ := Cond.codeWith_spec (atoms_spec (ws := ws) h _ (by rw [hw]; exact List.mem_cons_self))
    cases hn.symm.trans hn9
    exact ⟨meth, c, h1, h2, h3, h4, h5, h6⟩
  · intro p e s m args below meth c s₁ B hml hP _
    have hh0 : s₁.heap = s.heap := by rw [B.state]; rfl
    obtain ⟨t, a1, o, b1, b2, b3⟩ := body p e s m args below meth c s₁ B hml hP s₁ hh0 (Stand.of_body B)
    exact ⟨t, o, a1, b1, b2, b3⟩
/-! ===== END ===== -/

/-! ===== BEGIN printed: names, fields, word lists, decode rows ===== -/
def RX0 : String := "RainIndex$Books"
def TX0 : u_T := fun k => match k with
  | 0 => ("RainIndex$Books", "prices", "I", false)
  | 1 => ("RainIndex$Books", "subsidies", "I", false)
  | 2 => ("RainIndex$Books", "paid", "I", false)
  | _ => ("RainIndex$Books", "carried", "I", false)
def tyX0 : Nat → FieldType := fun k => match k with
  | 0 => .int
  | 1 => .int
  | 2 => .int
  | _ => .int
abbrev wsX00 : List Cond := u_ws RX0 TX0 4
theorem nmX0 : ∀ a, a < 4 → ∀ b, b < 4 → a ≠ b → (TX0 a).2.1 ≠ (TX0 b).2.1 := by decide +kernel
theorem tyX0_ok : ∀ k, k < 4 → parseFieldDescriptor (TX0 k).2.2.1 = some (tyX0 k) := by decide +kernel
abbrev cX0_init : ByteArray := prog_2_method_1_code
def yX0_init : MethodName := ⟨RX0, "<init>", "()V"⟩
abbrev cX0_tell : ByteArray := prog_2_method_2_code
def yX0_tell : MethodName := ⟨RX0, "tell", "(I)I"⟩
def RX1 : String := "RainIndex$Cover"
def TX1 : u_T := fun k => match k with
  | 0 => ("RainIndex$Cover", "farm", "LRainIndex$Farm;", true)
  | 1 => ("RainIndex$Cover", "product", "LRainIndex$Product;", true)
  | 2 => ("RainIndex$Cover", "sum", "I", true)
  | 3 => ("RainIndex$Cover", "season", "I", true)
  | 4 => ("RainIndex$Cover", "price", "I", true)
  | 5 => ("RainIndex$Cover", "share", "I", true)
  | 6 => ("RainIndex$Cover", "settledBy", "I", false)
  | 7 => ("RainIndex$Cover", "rate", "I", false)
  | 8 => ("RainIndex$Cover", "due", "I", false)
  | 9 => ("RainIndex$Cover", "paid", "I", false)
  | 10 => ("RainIndex$Cover", "setOff", "I", false)
  | _ => ("RainIndex$Cover", "hasComplained", "Z", false)
def tyX1 : Nat → FieldType := fun k => match k with
  | 0 => .object "RainIndex$Farm"
  | 1 => .object "RainIndex$Product"
  | 2 => .int
  | 3 => .int
  | 4 => .int
  | 5 => .int
  | 6 => .int
  | 7 => .int
  | 8 => .int
  | 9 => .int
  | 10 => .int
  | _ => .boolean
abbrev wsX10 : List Cond := u_ws RX1 TX1 12
theorem nmX1 : ∀ a, a < 12 → ∀ b, b < 12 → a ≠ b → (TX1 a).2.1 ≠ (TX1 b).2.1 := by decide +kernel
theorem tyX1_ok : ∀ k, k < 12 → parseFieldDescriptor (TX1 k).2.2.1 = some (tyX1 k) := by decide +kernel
abbrev cX1_init : ByteArray := prog_3_method_1_code
def yX1_init : MethodName := ⟨RX1, "<init>", "(LRainIndex$Farm;LRainIndex$Product;IIII)V"⟩
abbrev cX1_isOf : ByteArray := prog_3_method_2_code
def yX1_isOf : MethodName := ⟨RX1, "isOf", "(LRainIndex$Station;I)Z"⟩
abbrev cX1_dueBy : ByteArray := prog_3_method_3_code
def yX1_dueBy : MethodName := ⟨RX1, "dueBy", "(I)I"⟩
abbrev cX1_payMore : ByteArray := prog_3_method_4_code
def yX1_payMore : MethodName := ⟨RX1, "payMore", "(I)I"⟩
abbrev cX1_tell : ByteArray := prog_3_method_5_code
def yX1_tell : MethodName := ⟨RX1, "tell", "(I)I"⟩
def RX2 : String := "RainIndex$Farm"
def TX2 : u_T := fun k => match k with
  | 0 => ("RainIndex$Farm", "number", "I", true)
  | 1 => ("RainIndex$Farm", "station", "LRainIndex$Station;", true)
  | 2 => ("RainIndex$Farm", "losses", "[I", true)
  | 3 => ("RainIndex$Farm", "trust", "I", false)
  | 4 => ("RainIndex$Farm", "debt", "I", false)
  | 5 => ("RainIndex$Farm", "got", "I", false)
  | _ => ("RainIndex$Farm", "spent", "I", false)
def tyX2 : Nat → FieldType := fun k => match k with
  | 0 => .int
  | 1 => .object "RainIndex$Station"
  | 2 => .array .int
  | 3 => .int
  | 4 => .int
  | 5 => .int
  | _ => .int
abbrev wsX20 : List Cond := u_ws RX2 TX2 7
theorem nmX2 : ∀ a, a < 7 → ∀ b, b < 7 → a ≠ b → (TX2 a).2.1 ≠ (TX2 b).2.1 := by decide +kernel
theorem tyX2_ok : ∀ k, k < 7 → parseFieldDescriptor (TX2 k).2.2.1 = some (tyX2 k) := by decide +kernel
abbrev cX2_init : ByteArray := prog_4_method_1_code
def yX2_init : MethodName := ⟨RX2, "<init>", "(ILRainIndex$Station;)V"⟩
abbrev cX2_lossIn : ByteArray := prog_4_method_2_code
def yX2_lossIn : MethodName := ⟨RX2, "lossIn", "(I)I"⟩
abbrev cX2_receive : ByteArray := prog_4_method_3_code
def yX2_receive : MethodName := ⟨RX2, "receive", "(I)I"⟩
abbrev cX2_judge : ByteArray := prog_4_method_4_code
def yX2_judge : MethodName := ⟨RX2, "judge", "(II)V"⟩
abbrev cX2_tell : ByteArray := prog_4_method_5_code
def yX2_tell : MethodName := ⟨RX2, "tell", "(I)I"⟩
def RX3 : String := "RainIndex$Phase"
def TX3 : u_T := fun k => match k with
  | 0 => ("RainIndex$Phase", "days", "I", true)
  | 1 => ("RainIndex$Phase", "isDry", "Z", true)
  | 2 => ("RainIndex$Phase", "trigger", "I", true)
  | 3 => ("RainIndex$Phase", "exit", "I", true)
  | _ => ("RainIndex$Phase", "weight", "I", true)
def tyX3 : Nat → FieldType := fun k => match k with
  | 0 => .int
  | 1 => .boolean
  | 2 => .int
  | 3 => .int
  | _ => .int
abbrev wsX30 : List Cond := u_ws RX3 TX3 5
theorem nmX3 : ∀ a, a < 5 → ∀ b, b < 5 → a ≠ b → (TX3 a).2.1 ≠ (TX3 b).2.1 := by decide +kernel
theorem tyX3_ok : ∀ k, k < 5 → parseFieldDescriptor (TX3 k).2.2.1 = some (tyX3 k) := by decide +kernel
abbrev cX3_init : ByteArray := prog_5_method_1_code
def yX3_init : MethodName := ⟨RX3, "<init>", "(IZIII)V"⟩
abbrev cX3_look : ByteArray := prog_5_method_2_code
def yX3_look : MethodName := ⟨RX3, "look", "(LRainIndex$SeasonRain;I)I"⟩
abbrev cX3_pays : ByteArray := prog_5_method_3_code
def yX3_pays : MethodName := ⟨RX3, "pays", "(I)I"⟩
def RX4 : String := "RainIndex$Product"
def TX4 : u_T := fun k => match k with
  | 0 => ("RainIndex$Product", "number", "I", true)
  | 1 => ("RainIndex$Product", "phases", "Ljava/util/ArrayList;", true)
  | _ => ("RainIndex$Product", "known", "I", false)
def tyX4 : Nat → FieldType := fun k => match k with
  | 0 => .int
  | 1 => .object "java/util/ArrayList"
  | _ => .int
abbrev wsX40 : List Cond := u_ws RX4 TX4 3
theorem nmX4 : ∀ a, a < 3 → ∀ b, b < 3 → a ≠ b → (TX4 a).2.1 ≠ (TX4 b).2.1 := by decide +kernel
theorem tyX4_ok : ∀ k, k < 3 → parseFieldDescriptor (TX4 k).2.2.1 = some (tyX4 k) := by decide +kernel
abbrev cX4_init : ByteArray := prog_6_method_1_code
def yX4_init : MethodName := ⟨RX4, "<init>", "(I)V"⟩
abbrev cX4_startOf : ByteArray := prog_6_method_2_code
def yX4_startOf : MethodName := ⟨RX4, "startOf", "(ILRainIndex$SeasonRain;)I"⟩
abbrev cX4_rateIn : ByteArray := prog_6_method_3_code
def yX4_rateIn : MethodName := ⟨RX4, "rateIn", "(LRainIndex$SeasonRain;)I"⟩
def RX5 : String := "RainIndex$SeasonRain"
def TX5 : u_T := fun k => match k with
  | _ => ("RainIndex$SeasonRain", "tenths", "[I", true)
def tyX5 : Nat → FieldType := fun k => match k with
  | _ => .array .int
abbrev wsX50 : List Cond := u_ws RX5 TX5 1
theorem nmX5 : ∀ a, a < 1 → ∀ b, b < 1 → a ≠ b → (TX5 a).2.1 ≠ (TX5 b).2.1 := by decide +kernel
theorem tyX5_ok : ∀ k, k < 1 → parseFieldDescriptor (TX5 k).2.2.1 = some (tyX5 k) := by decide +kernel
abbrev cX5_init : ByteArray := prog_7_method_1_code
def yX5_init : MethodName := ⟨RX5, "<init>", "()V"⟩
abbrev cX5_fill : ByteArray := prog_7_method_2_code
def yX5_fill : MethodName := ⟨RX5, "fill", "(LRainIndex$Weather;LRainIndex$Station;III)V"⟩
abbrev cX5_sum : ByteArray := prog_7_method_3_code
def yX5_sum : MethodName := ⟨RX5, "sum", "(II)I"⟩
abbrev cX5_drySpell : ByteArray := prog_7_method_4_code
def yX5_drySpell : MethodName := ⟨RX5, "drySpell", "(II)I"⟩
abbrev cX5_start : ByteArray := prog_7_method_5_code
def yX5_start : MethodName := ⟨RX5, "start", "()I"⟩
def RX6 : String := "RainIndex$Station"
def TX6 : u_T := fun k => match k with
  | 0 => ("RainIndex$Station", "number", "I", true)
  | 1 => ("RainIndex$Station", "x", "I", true)
  | 2 => ("RainIndex$Station", "y", "I", true)
  | 3 => ("RainIndex$Station", "latest", "[LRainIndex$Telling;", true)
  | _ => ("RainIndex$Station", "lookedAgain", "[Z", true)
def tyX6 : Nat → FieldType := fun k => match k with
  | 0 => .int
  | 1 => .int
  | 2 => .int
  | 3 => .array (.object "RainIndex$Telling")
  | _ => .array .boolean
abbrev wsX60 : List Cond := u_ws RX6 TX6 5
theorem nmX6 : ∀ a, a < 5 → ∀ b, b < 5 → a ≠ b → (TX6 a).2.1 ≠ (TX6 b).2.1 := by decide +kernel
theorem tyX6_ok : ∀ k, k < 5 → parseFieldDescriptor (TX6 k).2.2.1 = some (tyX6 k) := by decide +kernel
abbrev cX6_init : ByteArray := prog_8_method_1_code
def yX6_init : MethodName := ⟨RX6, "<init>", "(III)V"⟩
abbrev cX6_distanceTo : ByteArray := prog_8_method_2_code
def yX6_distanceTo : MethodName := ⟨RX6, "distanceTo", "(II)I"⟩
abbrev cX6_keep : ByteArray := prog_8_method_3_code
def yX6_keep : MethodName := ⟨RX6, "keep", "(III)V"⟩
abbrev cX6_datum : ByteArray := prog_8_method_4_code
def yX6_datum : MethodName := ⟨RX6, "datum", "(III)I"⟩
def RX7 : String := "RainIndex$Telling"
def TX7 : u_T := fun k => match k with
  | 0 => ("RainIndex$Telling", "number", "I", true)
  | 1 => ("RainIndex$Telling", "tenths", "I", true)
  | 2 => ("RainIndex$Telling", "first", "I", true)
  | _ => ("RainIndex$Telling", "before", "LRainIndex$Telling;", true)
def tyX7 : Nat → FieldType := fun k => match k with
  | 0 => .int
  | 1 => .int
  | 2 => .int
  | _ => .object "RainIndex$Telling"
abbrev wsX70 : List Cond := u_ws RX7 TX7 4
theorem nmX7 : ∀ a, a < 4 → ∀ b, b < 4 → a ≠ b → (TX7 a).2.1 ≠ (TX7 b).2.1 := by decide +kernel
theorem tyX7_ok : ∀ k, k < 4 → parseFieldDescriptor (TX7 k).2.2.1 = some (tyX7 k) := by decide +kernel
abbrev cX7_init : ByteArray := prog_9_method_1_code
def yX7_init : MethodName := ⟨RX7, "<init>", "(IILRainIndex$Telling;)V"⟩
def RX8 : String := "RainIndex$Weather"
def TX8 : u_T := fun k => match k with
  | 0 => ("RainIndex$Weather", "stations", "Ljava/util/ArrayList;", true)
  | _ => ("RainIndex$Weather", "tellings", "I", false)
def tyX8 : Nat → FieldType := fun k => match k with
  | 0 => .object "java/util/ArrayList"
  | _ => .int
abbrev wsX80 : List Cond := u_ws RX8 TX8 2
theorem nmX8 : ∀ a, a < 2 → ∀ b, b < 2 → a ≠ b → (TX8 a).2.1 ≠ (TX8 b).2.1 := by decide +kernel
theorem tyX8_ok : ∀ k, k < 2 → parseFieldDescriptor (TX8 k).2.2.1 = some (tyX8 k) := by decide +kernel
abbrev cX8_init : ByteArray := prog_10_method_1_code
def yX8_init : MethodName := ⟨RX8, "<init>", "()V"⟩
abbrev cX8_tell : ByteArray := prog_10_method_2_code
def yX8_tell : MethodName := ⟨RX8, "tell", "(LRainIndex$Station;II)I"⟩
abbrev cX8_nearestTo : ByteArray := prog_10_method_3_code
def yX8_nearestTo : MethodName := ⟨RX8, "nearestTo", "(II)LRainIndex$Station;"⟩
abbrev cX8_rainOn : ByteArray := prog_10_method_4_code
def yX8_rainOn : MethodName := ⟨RX8, "rainOn", "(LRainIndex$Station;III)I"⟩
def RX9 : String := "RainIndex"
def TX9 : u_T := fun k => match k with
  | 0 => ("RainIndex", "weather", "LRainIndex$Weather;", true)
  | 1 => ("RainIndex", "view", "LRainIndex$SeasonRain;", true)
  | 2 => ("RainIndex", "products", "Ljava/util/ArrayList;", true)
  | 3 => ("RainIndex", "farms", "Ljava/util/ArrayList;", true)
  | 4 => ("RainIndex", "covers", "Ljava/util/ArrayList;", true)
  | 5 => ("RainIndex", "accounts", "LRainIndex$Books;", true)
  | 6 => ("RainIndex", "settledOn", "[I", true)
  | 7 => ("RainIndex", "draft", "LRainIndex$Product;", false)
  | 8 => ("RainIndex", "today", "I", false)
  | 9 => ("RainIndex", "loadingNow", "I", false)
  | 10 => ("RainIndex", "retentionNow", "I", false)
  | _ => ("RainIndex", "layerNow", "I", false)
def tyX9 : Nat → FieldType := fun k => match k with
  | 0 => .object "RainIndex$Weather"
  | 1 => .object "RainIndex$SeasonRain"
  | 2 => .object "java/util/ArrayList"
  | 3 => .object "java/util/ArrayList"
  | 4 => .object "java/util/ArrayList"
  | 5 => .object "RainIndex$Books"
  | 6 => .array .int
  | 7 => .object "RainIndex$Product"
  | 8 => .int
  | 9 => .int
  | 10 => .int
  | _ => .int
abbrev wsX90 : List Cond := u_ws RX9 TX9 12
theorem nmX9 : ∀ a, a < 12 → ∀ b, b < 12 → a ≠ b → (TX9 a).2.1 ≠ (TX9 b).2.1 := by decide +kernel
theorem tyX9_ok : ∀ k, k < 12 → parseFieldDescriptor (TX9 k).2.2.1 = some (tyX9 k) := by decide +kernel
abbrev cX9_init : ByteArray := prog_1_method_1_code
def yX9_init : MethodName := ⟨RX9, "<init>", "()V"⟩
abbrev cX9_station : ByteArray := prog_1_method_2_code
def yX9_station : MethodName := ⟨RX9, "station", "(II)I"⟩
abbrev cX9_rain : ByteArray := prog_1_method_3_code
def yX9_rain : MethodName := ⟨RX9, "rain", "(III)I"⟩
abbrev cX9_pass : ByteArray := prog_1_method_4_code
def yX9_pass : MethodName := ⟨RX9, "pass", "(I)I"⟩
abbrev cX9_phase : ByteArray := prog_1_method_5_code
def yX9_phase : MethodName := ⟨RX9, "phase", "(IZIII)I"⟩
abbrev cX9_product : ByteArray := prog_1_method_6_code
def yX9_product : MethodName := ⟨RX9, "product", "(I)I"⟩
abbrev cX9_farm : ByteArray := prog_1_method_7_code
def yX9_farm : MethodName := ⟨RX9, "farm", "(II)I"⟩
abbrev cX9_lend : ByteArray := prog_1_method_8_code
def yX9_lend : MethodName := ⟨RX9, "lend", "(II)I"⟩
abbrev cX9_loading : ByteArray := prog_1_method_9_code
def yX9_loading : MethodName := ⟨RX9, "loading", "(I)I"⟩
abbrev cX9_layer : ByteArray := prog_1_method_10_code
def yX9_layer : MethodName := ⟨RX9, "layer", "(II)I"⟩
abbrev cX9_sell : ByteArray := prog_1_method_11_code
def yX9_sell : MethodName := ⟨RX9, "sell", "(IIII)I"⟩
abbrev cX9_settle : ByteArray := prog_1_method_12_code
def yX9_settle : MethodName := ⟨RX9, "settle", "(I)I"⟩
abbrev cX9_loss : ByteArray := prog_1_method_13_code
def yX9_loss : MethodName := ⟨RX9, "loss", "(III)I"⟩
abbrev cX9_complain : ByteArray := prog_1_method_14_code
def yX9_complain : MethodName := ⟨RX9, "complain", "(II)I"⟩
abbrev cX9_day : ByteArray := prog_1_method_15_code
def yX9_day : MethodName := ⟨RX9, "day", "()I"⟩
abbrev cX9_filled : ByteArray := prog_1_method_16_code
def yX9_filled : MethodName := ⟨RX9, "filled", "(III)I"⟩
abbrev cX9_onset : ByteArray := prog_1_method_17_code
def yX9_onset : MethodName := ⟨RX9, "onset", "(III)I"⟩
abbrev cX9_index : ByteArray := prog_1_method_18_code
def yX9_index : MethodName := ⟨RX9, "index", "(IIII)I"⟩
abbrev cX9_rate : ByteArray := prog_1_method_19_code
def yX9_rate : MethodName := ⟨RX9, "rate", "(III)I"⟩
abbrev cX9_priced : ByteArray := prog_1_method_20_code
def yX9_priced : MethodName := ⟨RX9, "priced", "(II)I"⟩
abbrev cX9_cover : ByteArray := prog_1_method_21_code
def yX9_cover : MethodName := ⟨RX9, "cover", "(II)I"⟩
abbrev cX9_dueAnew : ByteArray := prog_1_method_22_code
def yX9_dueAnew : MethodName := ⟨RX9, "dueAnew", "(I)I"⟩
abbrev cX9_told : ByteArray := prog_1_method_23_code
def yX9_told : MethodName := ⟨RX9, "told", "(II)I"⟩
abbrev cX9_books : ByteArray := prog_1_method_24_code
def yX9_books : MethodName := ⟨RX9, "books", "(I)I"⟩
abbrev cX9_isWithin : ByteArray := prog_1_method_25_code
def yX9_isWithin : MethodName := ⟨RX9, "isWithin", "(III)Z"⟩
abbrev cX9_testPlace : ByteArray := prog_1_method_26_code
def yX9_testPlace : MethodName := ⟨RX9, "testPlace", "(II)V"⟩
abbrev cX9_testKnown : ByteArray := prog_1_method_27_code
def yX9_testKnown : MethodName := ⟨RX9, "testKnown", "(I)V"⟩
abbrev cX9_testWhat : ByteArray := prog_1_method_28_code
def yX9_testWhat : MethodName := ⟨RX9, "testWhat", "(II)V"⟩
abbrev cX9_testSeason : ByteArray := prog_1_method_29_code
def yX9_testSeason : MethodName := ⟨RX9, "testSeason", "(I)V"⟩
abbrev cX9_stationNumbered : ByteArray := prog_1_method_30_code
def yX9_stationNumbered : MethodName := ⟨RX9, "stationNumbered", "(I)LRainIndex$Station;"⟩
abbrev cX9_productNumbered : ByteArray := prog_1_method_31_code
def yX9_productNumbered : MethodName := ⟨RX9, "productNumbered", "(I)LRainIndex$Product;"⟩
abbrev cX9_farmNumbered : ByteArray := prog_1_method_32_code
def yX9_farmNumbered : MethodName := ⟨RX9, "farmNumbered", "(I)LRainIndex$Farm;"⟩
abbrev cX9_coverNumbered : ByteArray := prog_1_method_33_code
def yX9_coverNumbered : MethodName := ⟨RX9, "coverNumbered", "(I)LRainIndex$Cover;"⟩
abbrev cX9_firstDay : ByteArray := prog_1_method_34_code
def yX9_firstDay : MethodName := ⟨RX9, "firstDay", "(I)I"⟩
abbrev cX9_hasBegun : ByteArray := prog_1_method_35_code
def yX9_hasBegun : MethodName := ⟨RX9, "hasBegun", "(I)Z"⟩
abbrev cX9_isOver : ByteArray := prog_1_method_36_code
def yX9_isOver : MethodName := ⟨RX9, "isOver", "(I)Z"⟩
abbrev cX9_isOnSale : ByteArray := prog_1_method_37_code
def yX9_isOnSale : MethodName := ⟨RX9, "isOnSale", "(I)Z"⟩
abbrev cX9_rateBy : ByteArray := prog_1_method_38_code
def yX9_rateBy : MethodName := ⟨RX9, "rateBy", "(LRainIndex$Station;ILRainIndex$Product;I)I"⟩
abbrev cX9_pricesRate : ByteArray := prog_1_method_39_code
def yX9_pricesRate : MethodName := ⟨RX9, "pricesRate", "(LRainIndex$Station;LRainIndex$Product;)I"⟩
abbrev cX9_priceOf : ByteArray := prog_1_method_40_code
def yX9_priceOf : MethodName := ⟨RX9, "priceOf", "(II)I"⟩
abbrev cX9_stateShare : ByteArray := prog_1_method_41_code
def yX9_stateShare : MethodName := ⟨RX9, "stateShare", "(II)I"⟩
abbrev cX9_coverOf : ByteArray := prog_1_method_42_code
def yX9_coverOf : MethodName := ⟨RX9, "coverOf", "(LRainIndex$Farm;I)LRainIndex$Cover;"⟩
abbrev cX9_findDues : ByteArray := prog_1_method_43_code
def yX9_findDues : MethodName := ⟨RX9, "findDues", "(I)I"⟩
abbrev cX9_payOut : ByteArray := prog_1_method_44_code
def yX9_payOut : MethodName := ⟨RX9, "payOut", "(II)I"⟩
abbrev cX9_cutToCap : ByteArray := prog_1_method_45_code
def yX9_cutToCap : MethodName := ⟨RX9, "cutToCap", "(II)I"⟩
abbrev cX9_lookAgain : ByteArray := prog_1_method_46_code
def yX9_lookAgain : MethodName := ⟨RX9, "lookAgain", "(LRainIndex$Station;I)I"⟩
abbrev cX9_meanLoss : ByteArray := prog_1_method_47_code
def yX9_meanLoss : MethodName := ⟨RX9, "meanLoss", "(LRainIndex$Station;I)I"⟩
abbrev cX9_mostComplained : ByteArray := prog_1_method_48_code
def yX9_mostComplained : MethodName := ⟨RX9, "mostComplained", "(LRainIndex$Station;I)Z"⟩
def RX10 : String := "RainIndexModel"
def TX10 : u_T := fun k => match k with
  | 0 => ("RainIndexModel", "day", "I", false)
  | 1 => ("RainIndexModel", "xs", "[I", true)
  | 2 => ("RainIndexModel", "ys", "[I", true)
  | 3 => ("RainIndexModel", "stations", "I", false)
  | 4 => ("RainIndexModel", "firsts", "[I", true)
  | 5 => ("RainIndexModel", "latests", "[I", true)
  | 6 => ("RainIndexModel", "hasRain", "Z", false)
  | 7 => ("RainIndexModel", "phases", "[I", true)
  | 8 => ("RainIndexModel", "sizes", "[I", true)
  | 9 => ("RainIndexModel", "knowns", "[I", true)
  | 10 => ("RainIndexModel", "products", "I", false)
  | 11 => ("RainIndexModel", "drafted", "I", false)
  | 12 => ("RainIndexModel", "homes", "[I", true)
  | 13 => ("RainIndexModel", "trusts", "[I", true)
  | 14 => ("RainIndexModel", "debts", "[I", true)
  | 15 => ("RainIndexModel", "gots", "[I", true)
  | 16 => ("RainIndexModel", "paids", "[I", true)
  | 17 => ("RainIndexModel", "farms", "I", false)
  | 18 => ("RainIndexModel", "losses", "[I", true)
  | 19 => ("RainIndexModel", "complained", "[Z", true)
  | 20 => ("RainIndexModel", "loading", "I", false)
  | 21 => ("RainIndexModel", "retention", "I", false)
  | 22 => ("RainIndexModel", "layer", "I", false)
  | 23 => ("RainIndexModel", "covers", "[I", true)
  | 24 => ("RainIndexModel", "many", "I", false)
  | 25 => ("RainIndexModel", "settled", "[I", true)
  | 26 => ("RainIndexModel", "looked", "[Z", true)
  | 27 => ("RainIndexModel", "carried", "I", false)
  | 28 => ("RainIndexModel", "rains", "[I", true)
  | _ => ("RainIndexModel", "last", "I", false)
def tyX10 : Nat → FieldType := fun k => match k with
  | 0 => .int
  | 1 => .array .int
  | 2 => .array .int
  | 3 => .int
  | 4 => .array .int
  | 5 => .array .int
  | 6 => .boolean
  | 7 => .array .int
  | 8 => .array .int
  | 9 => .array .int
  | 10 => .int
  | 11 => .int
  | 12 => .array .int
  | 13 => .array .int
  | 14 => .array .int
  | 15 => .array .int
  | 16 => .array .int
  | 17 => .int
  | 18 => .array .int
  | 19 => .array .boolean
  | 20 => .int
  | 21 => .int
  | 22 => .int
  | 23 => .array .int
  | 24 => .int
  | 25 => .array .int
  | 26 => .array .boolean
  | 27 => .int
  | 28 => .array .int
  | _ => .int
abbrev wsX100 : List Cond := u_ws RX10 TX10 30
theorem nmX10 : ∀ a, a < 30 → ∀ b, b < 30 → a ≠ b → (TX10 a).2.1 ≠ (TX10 b).2.1 := by decide +kernel
theorem tyX10_ok : ∀ k, k < 30 → parseFieldDescriptor (TX10 k).2.2.1 = some (tyX10 k) := by decide +kernel
abbrev cX10_init : ByteArray := prog_12_method_1_code
def yX10_init : MethodName := ⟨RX10, "<init>", "()V"⟩
abbrev cX10_thrown : ByteArray := prog_12_method_2_code
def yX10_thrown : MethodName := ⟨RX10, "thrown", "()I"⟩
abbrev cX10_in : ByteArray := prog_12_method_3_code
def yX10_in : MethodName := ⟨RX10, "in", "(III)Z"⟩
abbrev cX10_goes : ByteArray := prog_12_method_4_code
def yX10_goes : MethodName := ⟨RX10, "goes", "(ZZZ)Z"⟩
abbrev cX10_isStation : ByteArray := prog_12_method_5_code
def yX10_isStation : MethodName := ⟨RX10, "isStation", "(I)Z"⟩
abbrev cX10_isSeason : ByteArray := prog_12_method_6_code
def yX10_isSeason : MethodName := ⟨RX10, "isSeason", "(I)Z"⟩
abbrev cX10_isProduct : ByteArray := prog_12_method_7_code
def yX10_isProduct : MethodName := ⟨RX10, "isProduct", "(I)Z"⟩
abbrev cX10_isFarm : ByteArray := prog_12_method_8_code
def yX10_isFarm : MethodName := ⟨RX10, "isFarm", "(I)Z"⟩
abbrev cX10_lesser : ByteArray := prog_12_method_9_code
def yX10_lesser : MethodName := ⟨RX10, "lesser", "(II)I"⟩
abbrev cX10_station : ByteArray := prog_12_method_10_code
def yX10_station : MethodName := ⟨RX10, "station", "(II)I"⟩
abbrev cX10_rain : ByteArray := prog_12_method_11_code
def yX10_rain : MethodName := ⟨RX10, "rain", "(III)I"⟩
abbrev cX10_pass : ByteArray := prog_12_method_12_code
def yX10_pass : MethodName := ⟨RX10, "pass", "(I)I"⟩
abbrev cX10_day : ByteArray := prog_12_method_13_code
def yX10_day : MethodName := ⟨RX10, "day", "()I"⟩
abbrev cX10_off : ByteArray := prog_12_method_14_code
def yX10_off : MethodName := ⟨RX10, "off", "(III)I"⟩
abbrev cX10_rainOn : ByteArray := prog_12_method_15_code
def yX10_rainOn : MethodName := ⟨RX10, "rainOn", "(III)I"⟩
abbrev cX10_filled : ByteArray := prog_12_method_16_code
def yX10_filled : MethodName := ⟨RX10, "filled", "(III)I"⟩
abbrev cX10_lays : ByteArray := prog_12_method_17_code
def yX10_lays : MethodName := ⟨RX10, "lays", "(III)V"⟩
abbrev cX10_isFalse : ByteArray := prog_12_method_18_code
def yX10_isFalse : MethodName := ⟨RX10, "isFalse", "(I)Z"⟩
abbrev cX10_beginning : ByteArray := prog_12_method_19_code
def yX10_beginning : MethodName := ⟨RX10, "beginning", "()I"⟩
abbrev cX10_onset : ByteArray := prog_12_method_20_code
def yX10_onset : MethodName := ⟨RX10, "onset", "(III)I"⟩
abbrev cX10_phase : ByteArray := prog_12_method_21_code
def yX10_phase : MethodName := ⟨RX10, "phase", "(IZIII)I"⟩
abbrev cX10_product : ByteArray := prog_12_method_22_code
def yX10_product : MethodName := ⟨RX10, "product", "(I)I"⟩
abbrev cX10_looksAt : ByteArray := prog_12_method_23_code
def yX10_looksAt : MethodName := ⟨RX10, "looksAt", "(II)I"⟩
abbrev cX10_pays : ByteArray := prog_12_method_24_code
def yX10_pays : MethodName := ⟨RX10, "pays", "(II)I"⟩
abbrev cX10_rateOf : ByteArray := prog_12_method_25_code
def yX10_rateOf : MethodName := ⟨RX10, "rateOf", "(III)I"⟩
abbrev cX10_index : ByteArray := prog_12_method_26_code
def yX10_index : MethodName := ⟨RX10, "index", "(IIII)I"⟩
abbrev cX10_rate : ByteArray := prog_12_method_27_code
def yX10_rate : MethodName := ⟨RX10, "rate", "(III)I"⟩
abbrev cX10_isOver : ByteArray := prog_12_method_28_code
def yX10_isOver : MethodName := ⟨RX10, "isOver", "(I)Z"⟩
abbrev cX10_pricedOf : ByteArray := prog_12_method_29_code
def yX10_pricedOf : MethodName := ⟨RX10, "pricedOf", "(II)I"⟩
abbrev cX10_priced : ByteArray := prog_12_method_30_code
def yX10_priced : MethodName := ⟨RX10, "priced", "(II)I"⟩
abbrev cX10_farm : ByteArray := prog_12_method_31_code
def yX10_farm : MethodName := ⟨RX10, "farm", "(II)I"⟩
abbrev cX10_lend : ByteArray := prog_12_method_32_code
def yX10_lend : MethodName := ⟨RX10, "lend", "(II)I"⟩
abbrev cX10_loading : ByteArray := prog_12_method_33_code
def yX10_loading : MethodName := ⟨RX10, "loading", "(I)I"⟩
abbrev cX10_layer : ByteArray := prog_12_method_34_code
def yX10_layer : MethodName := ⟨RX10, "layer", "(II)I"⟩
abbrev cX10_coverOf : ByteArray := prog_12_method_35_code
def yX10_coverOf : MethodName := ⟨RX10, "coverOf", "(II)I"⟩
abbrev cX10_sell : ByteArray := prog_12_method_36_code
def yX10_sell : MethodName := ⟨RX10, "sell", "(IIII)I"⟩
abbrev cX10_trusts : ByteArray := prog_12_method_37_code
def yX10_trusts : MethodName := ⟨RX10, "trusts", "(III)V"⟩
abbrev cX10_settle : ByteArray := prog_12_method_38_code
def yX10_settle : MethodName := ⟨RX10, "settle", "(I)I"⟩
abbrev cX10_loss : ByteArray := prog_12_method_39_code
def yX10_loss : MethodName := ⟨RX10, "loss", "(III)I"⟩
abbrev cX10_isOf : ByteArray := prog_12_method_40_code
def yX10_isOf : MethodName := ⟨RX10, "isOf", "(III)Z"⟩
abbrev cX10_looks : ByteArray := prog_12_method_41_code
def yX10_looks : MethodName := ⟨RX10, "looks", "(II)I"⟩
abbrev cX10_complain : ByteArray := prog_12_method_42_code
def yX10_complain : MethodName := ⟨RX10, "complain", "(II)I"⟩
abbrev cX10_cover : ByteArray := prog_12_method_43_code
def yX10_cover : MethodName := ⟨RX10, "cover", "(II)I"⟩
abbrev cX10_dueAnew : ByteArray := prog_12_method_44_code
def yX10_dueAnew : MethodName := ⟨RX10, "dueAnew", "(I)I"⟩
abbrev cX10_told : ByteArray := prog_12_method_45_code
def yX10_told : MethodName := ⟨RX10, "told", "(II)I"⟩
abbrev cX10_sumOf : ByteArray := prog_12_method_46_code
def yX10_sumOf : MethodName := ⟨RX10, "sumOf", "(I)I"⟩
abbrev cX10_books : ByteArray := prog_12_method_47_code
def yX10_books : MethodName := ⟨RX10, "books", "(I)I"⟩
def RJx145de : String := "java/io/Serializable"
def TJx145de : u_T := fun k => match k with
  | _ => ("", "", "", false)
def tyJx145de : Nat → FieldType := fun k => match k with
  | _ => .int
abbrev wsJx145de0 : List Cond := u_ws RJx145de TJx145de 0
theorem nmJx145de : ∀ a, a < 0 → ∀ b, b < 0 → a ≠ b → (TJx145de a).2.1 ≠ (TJx145de b).2.1 := by decide +kernel
theorem tyJx145de_ok : ∀ k, k < 0 → parseFieldDescriptor (TJx145de k).2.2.1 = some (tyJx145de k) := by decide +kernel
def RJx8e188 : String := "java/lang/Cloneable"
def TJx8e188 : u_T := fun k => match k with
  | _ => ("", "", "", false)
def tyJx8e188 : Nat → FieldType := fun k => match k with
  | _ => .int
abbrev wsJx8e1880 : List Cond := u_ws RJx8e188 TJx8e188 0
theorem nmJx8e188 : ∀ a, a < 0 → ∀ b, b < 0 → a ≠ b → (TJx8e188 a).2.1 ≠ (TJx8e188 b).2.1 := by decide +kernel
theorem tyJx8e188_ok : ∀ k, k < 0 → parseFieldDescriptor (TJx8e188 k).2.2.1 = some (tyJx8e188 k) := by decide +kernel
def RJxab1ab : String := "java/lang/Iterable"
def TJxab1ab : u_T := fun k => match k with
  | _ => ("", "", "", false)
def tyJxab1ab : Nat → FieldType := fun k => match k with
  | _ => .int
abbrev wsJxab1ab0 : List Cond := u_ws RJxab1ab TJxab1ab 0
theorem nmJxab1ab : ∀ a, a < 0 → ∀ b, b < 0 → a ≠ b → (TJxab1ab a).2.1 ≠ (TJxab1ab b).2.1 := by decide +kernel
theorem tyJxab1ab_ok : ∀ k, k < 0 → parseFieldDescriptor (TJxab1ab k).2.2.1 = some (tyJxab1ab k) := by decide +kernel
def RJ9 : String := "java/lang/Math"
def TJ9 : u_T := fun k => match k with
  | _ => ("", "", "", false)
def tyJ9 : Nat → FieldType := fun k => match k with
  | _ => .int
abbrev wsJ90 : List Cond := u_ws RJ9 TJ9 0
theorem nmJ9 : ∀ a, a < 0 → ∀ b, b < 0 → a ≠ b → (TJ9 a).2.1 ≠ (TJ9 b).2.1 := by decide +kernel
theorem tyJ9_ok : ∀ k, k < 0 → parseFieldDescriptor (TJ9 k).2.2.1 = some (tyJ9 k) := by decide +kernel
abbrev cJ9_max_7cf53 : ByteArray := prog_20_method_65_code
def yJ9_max_7cf53 : MethodName := ⟨RJ9, "max", "(II)I"⟩
abbrev cJ9_min_7cf53 : ByteArray := prog_20_method_69_code
def yJ9_min_7cf53 : MethodName := ⟨RJ9, "min", "(II)I"⟩
def RJ0 : String := "java/lang/String"
def TJ0 : u_T := fun k => match k with
  | _ => ("", "", "", false)
def tyJ0 : Nat → FieldType := fun k => match k with
  | _ => .int
abbrev wsJ00 : List Cond := u_ws RJ0 TJ0 0
theorem nmJ0 : ∀ a, a < 0 → ∀ b, b < 0 → a ≠ b → (TJ0 a).2.1 ≠ (TJ0 b).2.1 := by decide +kernel
theorem tyJ0_ok : ∀ k, k < 0 → parseFieldDescriptor (TJ0 k).2.2.1 = some (tyJ0 k) := by decide +kernel
def RJ10 : String := "java/lang/System"
def TJ10 : u_T := fun k => match k with
  | _ => ("", "", "", false)
def tyJ10 : Nat → FieldType := fun k => match k with
  | _ => .int
abbrev wsJ100 : List Cond := u_ws RJ10 TJ10 0
theorem nmJ10 : ∀ a, a < 0 → ∀ b, b < 0 → a ≠ b → (TJ10 a).2.1 ≠ (TJ10 b).2.1 := by decide +kernel
theorem tyJ10_ok : ∀ k, k < 0 → parseFieldDescriptor (TJ10 k).2.2.1 = some (tyJ10 k) := by decide +kernel
def RJxa1e45 : String := "java/util/AbstractCollection"
def TJxa1e45 : u_T := fun k => match k with
  | _ => ("", "", "", false)
def tyJxa1e45 : Nat → FieldType := fun k => match k with
  | _ => .int
abbrev wsJxa1e450 : List Cond := u_ws RJxa1e45 TJxa1e45 0
theorem nmJxa1e45 : ∀ a, a < 0 → ∀ b, b < 0 → a ≠ b → (TJxa1e45 a).2.1 ≠ (TJxa1e45 b).2.1 := by decide +kernel
theorem tyJxa1e45_ok : ∀ k, k < 0 → parseFieldDescriptor (TJxa1e45 k).2.2.1 = some (tyJxa1e45 k) := by decide +kernel
abbrev cJxa1e45_init_da8c8 : ByteArray := prog_25_method_1_code
def yJxa1e45_init_da8c8 : MethodName := ⟨RJxa1e45, "<init>", "()V"⟩
def RJxc12de : String := "java/util/AbstractList"
def TJxc12de : u_T := fun k => match k with
  | _ => ("", "", "", false)
def tyJxc12de : Nat → FieldType := fun k => match k with
  | _ => .int
abbrev wsJxc12de0 : List Cond := u_ws RJxc12de TJxc12de 0
theorem nmJxc12de : ∀ a, a < 0 → ∀ b, b < 0 → a ≠ b → (TJxc12de a).2.1 ≠ (TJxc12de b).2.1 := by decide +kernel
theorem tyJxc12de_ok : ∀ k, k < 0 → parseFieldDescriptor (TJxc12de k).2.2.1 = some (tyJxc12de k) := by decide +kernel
abbrev cJxc12de_init_da8c8 : ByteArray := prog_26_method_1_code
def yJxc12de_init_da8c8 : MethodName := ⟨RJxc12de, "<init>", "()V"⟩
def RJx4a65c : String := "java/util/ArrayList"
def TJx4a65c : u_T := fun k => match k with
  | 0 => ("java/util/AbstractList", "modCount", "I", false)
  | 1 => ("java/util/ArrayList", "elementData", "[Ljava/lang/Object;", false)
  | _ => ("java/util/ArrayList", "size", "I", false)
def tyJx4a65c : Nat → FieldType := fun k => match k with
  | 0 => .int
  | 1 => .array (.object "java/lang/Object")
  | _ => .int
abbrev wsJx4a65c0 : List Cond := u_ws RJx4a65c TJx4a65c 3
theorem nmJx4a65c : ∀ a, a < 3 → ∀ b, b < 3 → a ≠ b → (TJx4a65c a).2.1 ≠ (TJx4a65c b).2.1 := by decide +kernel
theorem tyJx4a65c_ok : ∀ k, k < 3 → parseFieldDescriptor (TJx4a65c k).2.2.1 = some (tyJx4a65c k) := by decide +kernel
abbrev cJx4a65c_init_da8c8 : ByteArray := prog_27_method_2_code
def yJx4a65c_init_da8c8 : MethodName := ⟨RJx4a65c, "<init>", "()V"⟩
abbrev cJx4a65c_grow_92f84 : ByteArray := prog_27_method_6_code
def yJx4a65c_grow_92f84 : MethodName := ⟨RJx4a65c, "grow", "(I)[Ljava/lang/Object;"⟩
abbrev cJx4a65c_grow_d5877 : ByteArray := prog_27_method_7_code
def yJx4a65c_grow_d5877 : MethodName := ⟨RJx4a65c, "grow", "()[Ljava/lang/Object;"⟩
abbrev cJx4a65c_size_8abf5 : ByteArray := prog_27_method_8_code
def yJx4a65c_size_8abf5 : MethodName := ⟨RJx4a65c, "size", "()I"⟩
abbrev cJx4a65c_isEmpty_aae02 : ByteArray := prog_27_method_9_code
def yJx4a65c_isEmpty_aae02 : MethodName := ⟨RJx4a65c, "isEmpty", "()Z"⟩
abbrev cJx4a65c_elementData_915e3 : ByteArray := prog_27_method_18_code
def yJx4a65c_elementData_915e3 : MethodName := ⟨RJx4a65c, "elementData", "(I)Ljava/lang/Object;"⟩
abbrev cJx4a65c_get_915e3 : ByteArray := prog_27_method_20_code
def yJx4a65c_get_915e3 : MethodName := ⟨RJx4a65c, "get", "(I)Ljava/lang/Object;"⟩
abbrev cJx4a65c_add_72be8 : ByteArray := prog_27_method_24_code
def yJx4a65c_add_72be8 : MethodName := ⟨RJx4a65c, "add", "(Ljava/lang/Object;[Ljava/lang/Object;I)V"⟩
abbrev cJx4a65c_add_9ea2d : ByteArray := prog_27_method_25_code
def yJx4a65c_add_9ea2d : MethodName := ⟨RJx4a65c, "add", "(Ljava/lang/Object;)Z"⟩
def RJ7 : String := "java/util/Arrays"
def TJ7 : u_T := fun k => match k with
  | _ => ("", "", "", false)
def tyJ7 : Nat → FieldType := fun k => match k with
  | _ => .int
abbrev wsJ70 : List Cond := u_ws RJ7 TJ7 0
theorem nmJ7 : ∀ a, a < 0 → ∀ b, b < 0 → a ≠ b → (TJ7 a).2.1 ≠ (TJ7 b).2.1 := by decide +kernel
theorem tyJ7_ok : ∀ k, k < 0 → parseFieldDescriptor (TJ7 k).2.2.1 = some (tyJ7 k) := by decide +kernel
abbrev cJ7_fill_53178 : ByteArray := prog_28_method_103_code
def yJ7_fill_53178 : MethodName := ⟨RJ7, "fill", "([II)V"⟩
abbrev cJ7_copyOf_1904c : ByteArray := prog_28_method_119_code
def yJ7_copyOf_1904c : MethodName := ⟨RJ7, "copyOf", "([Ljava/lang/Object;I)[Ljava/lang/Object;"⟩
abbrev cJ7_copyOf_6403c : ByteArray := prog_28_method_120_code
def yJ7_copyOf_6403c : MethodName := ⟨RJ7, "copyOf", "([Ljava/lang/Object;ILjava/lang/Class;)[Ljava/lang/Object;"⟩
def RJx5ef63 : String := "java/util/Collection"
def TJx5ef63 : u_T := fun k => match k with
  | _ => ("", "", "", false)
def tyJx5ef63 : Nat → FieldType := fun k => match k with
  | _ => .int
abbrev wsJx5ef630 : List Cond := u_ws RJx5ef63 TJx5ef63 0
theorem nmJx5ef63 : ∀ a, a < 0 → ∀ b, b < 0 → a ≠ b → (TJx5ef63 a).2.1 ≠ (TJx5ef63 b).2.1 := by decide +kernel
theorem tyJx5ef63_ok : ∀ k, k < 0 → parseFieldDescriptor (TJx5ef63 k).2.2.1 = some (tyJx5ef63 k) := by decide +kernel
def RJxbd725 : String := "java/util/List"
def TJxbd725 : u_T := fun k => match k with
  | _ => ("", "", "", false)
def tyJxbd725 : Nat → FieldType := fun k => match k with
  | _ => .int
abbrev wsJxbd7250 : List Cond := u_ws RJxbd725 TJxbd725 0
theorem nmJxbd725 : ∀ a, a < 0 → ∀ b, b < 0 → a ≠ b → (TJxbd725 a).2.1 ≠ (TJxbd725 b).2.1 := by decide +kernel
theorem tyJxbd725_ok : ∀ k, k < 0 → parseFieldDescriptor (TJxbd725 k).2.2.1 = some (tyJxbd725 k) := by decide +kernel
def RJ15 : String := "java/util/Objects"
def TJ15 : u_T := fun k => match k with
  | _ => ("", "", "", false)
def tyJ15 : Nat → FieldType := fun k => match k with
  | _ => .int
abbrev wsJ150 : List Cond := u_ws RJ15 TJ15 0
theorem nmJ15 : ∀ a, a < 0 → ∀ b, b < 0 → a ≠ b → (TJ15 a).2.1 ≠ (TJ15 b).2.1 := by decide +kernel
theorem tyJ15_ok : ∀ k, k < 0 → parseFieldDescriptor (TJ15 k).2.2.1 = some (tyJ15 k) := by decide +kernel
abbrev cJ15_checkIndex_7cf53 : ByteArray := prog_31_method_17_code
def yJ15_checkIndex_7cf53 : MethodName := ⟨RJ15, "checkIndex", "(II)I"⟩
def RJxf0a74 : String := "java/util/RandomAccess"
def TJxf0a74 : u_T := fun k => match k with
  | _ => ("", "", "", false)
def tyJxf0a74 : Nat → FieldType := fun k => match k with
  | _ => .int
abbrev wsJxf0a740 : List Cond := u_ws RJxf0a74 TJxf0a74 0
theorem nmJxf0a74 : ∀ a, a < 0 → ∀ b, b < 0 → a ≠ b → (TJxf0a74 a).2.1 ≠ (TJxf0a74 b).2.1 := by decide +kernel
theorem tyJxf0a74_ok : ∀ k, k < 0 → parseFieldDescriptor (TJxf0a74 k).2.2.1 = some (tyJxf0a74 k) := by decide +kernel
def RJxa66e6 : String := "java/util/SequencedCollection"
def TJxa66e6 : u_T := fun k => match k with
  | _ => ("", "", "", false)
def tyJxa66e6 : Nat → FieldType := fun k => match k with
  | _ => .int
abbrev wsJxa66e60 : List Cond := u_ws RJxa66e6 TJxa66e6 0
theorem nmJxa66e6 : ∀ a, a < 0 → ∀ b, b < 0 → a ≠ b → (TJxa66e6 a).2.1 ≠ (TJxa66e6 b).2.1 := by decide +kernel
theorem tyJxa66e6_ok : ∀ k, k < 0 → parseFieldDescriptor (TJxa66e6 k).2.2.1 = some (tyJxa66e6 k) := by decide +kernel
def RJ8 : String := "jdk/internal/util/ArraysSupport"
def TJ8 : u_T := fun k => match k with
  | _ => ("", "", "", false)
def tyJ8 : Nat → FieldType := fun k => match k with
  | _ => .int
abbrev wsJ80 : List Cond := u_ws RJ8 TJ8 0
theorem nmJ8 : ∀ a, a < 0 → ∀ b, b < 0 → a ≠ b → (TJ8 a).2.1 ≠ (TJ8 b).2.1 := by decide +kernel
theorem tyJ8_ok : ∀ k, k < 0 → parseFieldDescriptor (TJ8 k).2.2.1 = some (tyJ8 k) := by decide +kernel
abbrev cJ8_newLength_cabcc : ByteArray := prog_34_method_27_code
def yJ8_newLength_cabcc : MethodName := ⟨RJ8, "newLength", "(III)I"⟩
abbrev cJ8_hugeLength_7cf53 : ByteArray := prog_34_method_28_code
def yJ8_hugeLength_7cf53 : MethodName := ⟨RJ8, "hugeLength", "(II)I"⟩
def RJ3 : String := "jdk/internal/util/Preconditions"
def TJ3 : u_T := fun k => match k with
  | _ => ("", "", "", false)
def tyJ3 : Nat → FieldType := fun k => match k with
  | _ => .int
abbrev wsJ30 : List Cond := u_ws RJ3 TJ3 0
theorem nmJ3 : ∀ a, a < 0 → ∀ b, b < 0 → a ≠ b → (TJ3 a).2.1 ≠ (TJ3 b).2.1 := by decide +kernel
theorem tyJ3_ok : ∀ k, k < 0 → parseFieldDescriptor (TJ3 k).2.2.1 = some (tyJ3 k) := by decide +kernel
abbrev cJ3_checkIndex_8e157 : ByteArray := prog_35_method_11_code
def yJ3_checkIndex_8e157 : MethodName := ⟨RJ3, "checkIndex", "(IILjava/util/function/BiFunction;)I"⟩
def RL : String := "RainIndexLaw"
abbrev cL_station : ByteArray := method_3_code
def yL_station : MethodName := ⟨RL, "station", "(LRainIndex;II[J)I"⟩
abbrev cL_rain : ByteArray := method_4_code
def yL_rain : MethodName := ⟨RL, "rain", "(LRainIndex;III[J)I"⟩
abbrev cL_pass : ByteArray := method_5_code
def yL_pass : MethodName := ⟨RL, "pass", "(LRainIndex;I[J)I"⟩
abbrev cL_phase : ByteArray := method_6_code
def yL_phase : MethodName := ⟨RL, "phase", "(LRainIndex;IZIII[J)I"⟩
abbrev cL_product : ByteArray := method_7_code
def yL_product : MethodName := ⟨RL, "product", "(LRainIndex;I[J)I"⟩
abbrev cL_farm : ByteArray := method_8_code
def yL_farm : MethodName := ⟨RL, "farm", "(LRainIndex;II[J)I"⟩
abbrev cL_lend : ByteArray := method_9_code
def yL_lend : MethodName := ⟨RL, "lend", "(LRainIndex;II[J)I"⟩
abbrev cL_loading : ByteArray := method_10_code
def yL_loading : MethodName := ⟨RL, "loading", "(LRainIndex;I[J)I"⟩
abbrev cL_layer : ByteArray := method_11_code
def yL_layer : MethodName := ⟨RL, "layer", "(LRainIndex;II[J)I"⟩
abbrev cL_sell : ByteArray := method_12_code
def yL_sell : MethodName := ⟨RL, "sell", "(LRainIndex;IIII[J)I"⟩
abbrev cL_settle : ByteArray := method_13_code
def yL_settle : MethodName := ⟨RL, "settle", "(LRainIndex;I[J)I"⟩
abbrev cL_loss : ByteArray := method_14_code
def yL_loss : MethodName := ⟨RL, "loss", "(LRainIndex;III[J)I"⟩
abbrev cL_complain : ByteArray := method_15_code
def yL_complain : MethodName := ⟨RL, "complain", "(LRainIndex;II[J)I"⟩
abbrev cL_filled : ByteArray := method_16_code
def yL_filled : MethodName := ⟨RL, "filled", "(LRainIndex;III[J)I"⟩
abbrev cL_onset : ByteArray := method_17_code
def yL_onset : MethodName := ⟨RL, "onset", "(LRainIndex;III[J)I"⟩
abbrev cL_index : ByteArray := method_18_code
def yL_index : MethodName := ⟨RL, "index", "(LRainIndex;IIII[J)I"⟩
abbrev cL_rate : ByteArray := method_19_code
def yL_rate : MethodName := ⟨RL, "rate", "(LRainIndex;III[J)I"⟩
abbrev cL_priced : ByteArray := method_20_code
def yL_priced : MethodName := ⟨RL, "priced", "(LRainIndex;II[J)I"⟩
abbrev cL_cover : ByteArray := method_21_code
def yL_cover : MethodName := ⟨RL, "cover", "(LRainIndex;II[J)I"⟩
abbrev cL_dueAnew : ByteArray := method_22_code
def yL_dueAnew : MethodName := ⟨RL, "dueAnew", "(LRainIndex;I[J)I"⟩
abbrev cL_told : ByteArray := method_23_code
def yL_told : MethodName := ⟨RL, "told", "(LRainIndex;II[J)I"⟩
abbrev cL_books : ByteArray := method_24_code
def yL_books : MethodName := ⟨RL, "books", "(LRainIndex;I[J)I"⟩
abbrev cL_law : ByteArray := code
def yL_law : MethodName := ⟨RL, "law", "([I)Z"⟩
abbrev vwCl : List vw_C := [(RJx4a65c, TJx4a65c, 3), (RX0, TX0, 4), (RX1, TX1, 12), (RX2, TX2, 7), (RX3, TX3, 5), (RX4, TX4, 3), (RX5, TX5, 1), (RX6, TX6, 5), (RX7, TX7, 4), (RX8, TX8, 2), (RX9, TX9, 12), (RX10, TX10, 30)]
end
section
section TBLS
def TBL : List Cond := lw_tbl.filter goodWord
theorem tb_mem {w : Cond} (i : Nat) (h : tables_1[i]? = some w) (hg : goodWord w = true) : w ∈ TBL := List.mem_filter.mpr ⟨List.mem_append_right _ (List.mem_of_getElem? h), hg⟩
theorem tb_sel {q : MethodName × Nat} (i : Nat) (h : lw_privs[i]? = some q) (hg : goodWord (Cond.selects q.1.cls q.1 q.1) = true) : Cond.selects q.1.cls q.1 q.1 ∈ TBL := List.mem_filter.mpr ⟨List.mem_append_left _ (List.mem_map.mpr ⟨q, List.mem_of_getElem? h, rfl⟩), hg⟩
theorem tb_sub {ws : List Cond} (h : ws.all (fun w => lw_tbl.contains w && goodWord w) = true) : ∀ w ∈ ws, w ∈ TBL := by
  intro w hw
  have h1 := List.all_eq_true.mp h w hw
  simp only [Bool.and_eq_true, List.contains_iff_mem] at h1
  exact List.mem_filter.mpr h1
theorem tb_m {w : Cond} {l : List Cond} (i : Nat) (hl : ∀ w ∈ l, w ∈ tables_1) (h : l[i]? = some w) (hg : goodWord w = true) : w ∈ TBL := List.mem_filter.mpr ⟨List.mem_append_right _ (hl w (List.mem_of_getElem? h)), hg⟩
theorem tb_c1 : ∀ w ∈ tables_1_1, w ∈ tables_1 := fun w h => List.mem_append_left _ h
theorem tb_c2 : ∀ w ∈ tables_1_2, w ∈ tables_1 := fun w h => List.mem_append_right _ (List.mem_append_left _ h)
theorem tb_c3 : ∀ w ∈ tables_1_3, w ∈ tables_1 := fun w h => List.mem_append_right _ (List.mem_append_right _ (List.mem_append_left _ h))
theorem tb_c4 : ∀ w ∈ tables_1_4, w ∈ tables_1 := fun w h => List.mem_append_right _ (List.mem_append_right _ (List.mem_append_right _ (List.mem_append_left _ h)))
theorem tb_c5 : ∀ w ∈ tables_1_5, w ∈ tables_1 := fun w h => List.mem_append_right _ (List.mem_append_right _ (List.mem_append_right _ (List.mem_append_right _ (List.mem_append_left _ h))))
theorem tb_c6 : ∀ w ∈ tables_1_6, w ∈ tables_1 := fun w h => List.mem_append_right _ (List.mem_append_right _ (List.mem_append_right _ (List.mem_append_right _ (List.mem_append_right _ (h)))))
theorem k_0 : (Jvm.Cond.initialized "RainIndexLaw") ∈ TBL := tb_m 0 tb_c1 (by decide +kernel) (by rfl)
theorem k_1 : (Jvm.Cond.initialized "RainIndex") ∈ TBL := tb_m 1 tb_c1 (by decide +kernel) (by rfl)
theorem k_2 : (Jvm.Cond.initialized "RainIndex$Weather") ∈ TBL := tb_m 2 tb_c1 (by decide +kernel) (by rfl)
theorem k_3 : (Jvm.Cond.initialized "java/util/AbstractCollection") ∈ TBL := tb_m 3 tb_c1 (by decide +kernel) (by rfl)
theorem k_4 : (Jvm.Cond.initialized "java/util/AbstractList") ∈ TBL := tb_m 4 tb_c1 (by decide +kernel) (by rfl)
theorem k_5 : (Jvm.Cond.initialized "java/util/ArrayList") ∈ TBL := tb_m 5 tb_c1 (by decide +kernel) (by rfl)
theorem k_6 : (Jvm.Cond.initialized "RainIndex$SeasonRain") ∈ TBL := tb_m 6 tb_c1 (by decide +kernel) (by rfl)
theorem k_7 : (Jvm.Cond.initialized "RainIndex$Books") ∈ TBL := tb_m 7 tb_c1 (by decide +kernel) (by rfl)
theorem k_8 : (Jvm.Cond.initialized "RainIndex$Product") ∈ TBL := tb_m 8 tb_c1 (by decide +kernel) (by rfl)
theorem k_9 : (Jvm.Cond.initialized "java/util/Arrays") ∈ TBL := tb_m 9 tb_c1 (by decide +kernel) (by rfl)
theorem k_10 : (Jvm.Cond.initialized "RainIndexModel") ∈ TBL := tb_m 10 tb_c1 (by decide +kernel) (by rfl)
theorem k_11 : (Jvm.Cond.initialized "java/lang/Throwable") ∈ TBL := tb_m 11 tb_c1 (by decide +kernel) (by rfl)
theorem k_12 : (Jvm.Cond.initialized "java/lang/Exception") ∈ TBL := tb_m 12 tb_c1 (by decide +kernel) (by rfl)
theorem k_13 : (Jvm.Cond.initialized "java/lang/RuntimeException") ∈ TBL := tb_m 13 tb_c1 (by decide +kernel) (by rfl)
theorem k_14 : (Jvm.Cond.initialized "java/lang/IllegalArgumentException") ∈ TBL := tb_m 14 tb_c1 (by decide +kernel) (by rfl)
theorem k_15 : (Jvm.Cond.initialized "java/lang/IllegalStateException") ∈ TBL := tb_m 15 tb_c1 (by decide +kernel) (by rfl)
theorem k_16 : (Jvm.Cond.initialized "RainIndex$Station") ∈ TBL := tb_m 16 tb_c1 (by decide +kernel) (by rfl)
theorem k_17 : (Jvm.Cond.initialized "jdk/internal/util/ArraysSupport") ∈ TBL := tb_m 17 tb_c1 (by decide +kernel) (by rfl)
theorem k_18 : (Jvm.Cond.initialized "java/lang/Math") ∈ TBL := tb_m 18 tb_c1 (by decide +kernel) (by rfl)
theorem k_19 : (Jvm.Cond.initialized "java/lang/System") ∈ TBL := tb_m 19 tb_c1 (by decide +kernel) (by rfl)
theorem k_20 : (Jvm.Cond.initialized "java/lang/IndexOutOfBoundsException") ∈ TBL := tb_m 20 tb_c1 (by decide +kernel) (by rfl)
theorem k_21 : (Jvm.Cond.initialized "java/util/Objects") ∈ TBL := tb_m 21 tb_c1 (by decide +kernel) (by rfl)
theorem k_22 : (Jvm.Cond.initialized "jdk/internal/util/Preconditions") ∈ TBL := tb_m 22 tb_c1 (by decide +kernel) (by rfl)
theorem k_23 : (Jvm.Cond.initialized "RainIndex$Telling") ∈ TBL := tb_m 23 tb_c1 (by decide +kernel) (by rfl)
theorem k_24 : (Jvm.Cond.initialized "RainIndex$Phase") ∈ TBL := tb_m 24 tb_c1 (by decide +kernel) (by rfl)
theorem k_25 : (Jvm.Cond.initialized "RainIndex$Farm") ∈ TBL := tb_m 25 tb_c1 (by decide +kernel) (by rfl)
theorem k_26 : (Jvm.Cond.initialized "RainIndex$Cover") ∈ TBL := tb_m 26 tb_c1 (by decide +kernel) (by rfl)
theorem k_27 : (Jvm.Cond.classLink "RainIndexLaw" (8 : Nat) "RainIndex") ∈ TBL := tb_m 27 tb_c1 (by decide +kernel) (by rfl)
theorem k_28 : (Jvm.Cond.instantiable "RainIndex" (12 : Nat)) ∈ TBL := tb_m 28 tb_c1 (by decide +kernel) (by rfl)
theorem k_29 : (Jvm.Cond.methodLink "RainIndexLaw" (86 : Nat) ({ cls := "RainIndex", name := "<init>", desc := "()V" } : Jvm.MethodName)) ∈ TBL := tb_m 29 tb_c1 (by decide +kernel) (by rfl)
theorem k_30 : (Jvm.Cond.instanceMethod ({ cls := "RainIndex", name := "<init>", desc := "()V" } : Jvm.MethodName)) ∈ TBL := tb_m 30 tb_c1 (by decide +kernel) (by rfl)
theorem k_31 : (Jvm.Cond.code ({ cls := "RainIndex", name := "<init>", desc := "()V" } : Jvm.MethodName) prog_1_method_1_code (1 : Nat) (Option.none : Option Jvm.ClassFile.FieldType)) ∈ TBL := tb_m 31 tb_c1 (by decide +kernel) (by rfl)
theorem k_32 : (Jvm.Cond.methodLink "RainIndex" (1 : Nat) ({ cls := "java/lang/Object", name := "<init>", desc := "()V" } : Jvm.MethodName)) ∈ TBL := tb_m 32 tb_c1 (by decide +kernel) (by rfl)
theorem k_33 : (Jvm.Cond.instanceMethod ({ cls := "java/lang/Object", name := "<init>", desc := "()V" } : Jvm.MethodName)) ∈ TBL := tb_m 33 tb_c1 (by decide +kernel) (by rfl)
theorem k_34 : (Jvm.Cond.code ({ cls := "java/lang/Object", name := "<init>", desc := "()V" } : Jvm.MethodName) object_method_1_code (1 : Nat) (Option.none : Option Jvm.ClassFile.FieldType)) ∈ TBL := tb_m 34 tb_c1 (by decide +kernel) (by rfl)
theorem k_35 : (Jvm.Cond.classLink "RainIndex" (7 : Nat) "RainIndex$Weather") ∈ TBL := tb_m 35 tb_c1 (by decide +kernel) (by rfl)
theorem k_36 : (Jvm.Cond.instantiable "RainIndex$Weather" (2 : Nat)) ∈ TBL := tb_m 36 tb_c1 (by decide +kernel) (by rfl)
theorem k_38 : (Jvm.Cond.instanceMethod ({ cls := "RainIndex$Weather", name := "<init>", desc := "()V" } : Jvm.MethodName)) ∈ TBL := tb_m 38 tb_c1 (by decide +kernel) (by rfl)
theorem k_39 : (Jvm.Cond.code ({ cls := "RainIndex$Weather", name := "<init>", desc := "()V" } : Jvm.MethodName) prog_10_method_1_code (1 : Nat) (Option.none : Option Jvm.ClassFile.FieldType)) ∈ TBL := tb_m 39 tb_c1 (by decide +kernel) (by rfl)
theorem k_40 : (Jvm.Cond.methodLink "RainIndex$Weather" (3 : Nat) ({ cls := "java/lang/Object", name := "<init>", desc := "()V" } : Jvm.MethodName)) ∈ TBL := tb_m 40 tb_c1 (by decide +kernel) (by rfl)
theorem k_41 : (Jvm.Cond.classLink "RainIndex$Weather" (9 : Nat) "java/util/ArrayList") ∈ TBL := tb_m 41 tb_c1 (by decide +kernel) (by rfl)
theorem k_42 : (Jvm.Cond.instantiable "java/util/ArrayList" (3 : Nat)) ∈ TBL := tb_m 42 tb_c1 (by decide +kernel) (by rfl)
theorem k_43 : (Jvm.Cond.methodLink "RainIndex$Weather" (11 : Nat) ({ cls := "java/util/ArrayList", name := "<init>", desc := "()V" } : Jvm.MethodName)) ∈ TBL := tb_m 43 tb_c1 (by decide +kernel) (by rfl)
theorem k_44 : (Jvm.Cond.instanceMethod ({ cls := "java/util/ArrayList", name := "<init>", desc := "()V" } : Jvm.MethodName)) ∈ TBL := tb_m 44 tb_c1 (by decide +kernel) (by rfl)
theorem k_45 : (Jvm.Cond.code ({ cls := "java/util/ArrayList", name := "<init>", desc := "()V" } : Jvm.MethodName) prog_27_method_2_code (1 : Nat) (Option.none : Option Jvm.ClassFile.FieldType)) ∈ TBL := tb_m 45 tb_c1 (by decide +kernel) (by rfl)
theorem k_46 : (Jvm.Cond.methodLink "java/util/ArrayList" (1 : Nat) ({ cls := "java/util/AbstractList", name := "<init>", desc := "()V" } : Jvm.MethodName)) ∈ TBL := tb_m 46 tb_c1 (by decide +kernel) (by rfl)
theorem k_47 : (Jvm.Cond.instanceMethod ({ cls := "java/util/AbstractList", name := "<init>", desc := "()V" } : Jvm.MethodName)) ∈ TBL := tb_m 47 tb_c1 (by decide +kernel) (by rfl)
theorem k_48 : (Jvm.Cond.code ({ cls := "java/util/AbstractList", name := "<init>", desc := "()V" } : Jvm.MethodName) prog_26_method_1_code (1 : Nat) (Option.none : Option Jvm.ClassFile.FieldType)) ∈ TBL := tb_m 48 tb_c1 (by decide +kernel) (by rfl)
theorem k_49 : (Jvm.Cond.methodLink "java/util/AbstractList" (1 : Nat) ({ cls := "java/util/AbstractCollection", name := "<init>", desc := "()V" } : Jvm.MethodName)) ∈ TBL := tb_m 49 tb_c1 (by decide +kernel) (by rfl)
theorem k_50 : (Jvm.Cond.instanceMethod ({ cls := "java/util/AbstractCollection", name := "<init>", desc := "()V" } : Jvm.MethodName)) ∈ TBL := tb_m 50 tb_c1 (by decide +kernel) (by rfl)
theorem k_51 : (Jvm.Cond.code ({ cls := "java/util/AbstractCollection", name := "<init>", desc := "()V" } : Jvm.MethodName) prog_25_method_1_code (1 : Nat) (Option.none : Option Jvm.ClassFile.FieldType)) ∈ TBL := tb_m 51 tb_c1 (by decide +kernel) (by rfl)
theorem k_52 : (Jvm.Cond.methodLink "java/util/AbstractCollection" (1 : Nat) ({ cls := "java/lang/Object", name := "<init>", desc := "()V" } : Jvm.MethodName)) ∈ TBL := tb_m 52 tb_c1 (by decide +kernel) (by rfl)
theorem k_53 : (Jvm.Cond.fieldLink "java/util/ArrayList" (39 : Nat) "java/util/ArrayList" "DEFAULTCAPACITY_EMPTY_ELEMENTDATA" "[Ljava/lang/Object;") ∈ TBL := tb_m 53 tb_c1 (by decide +kernel) (by rfl)
theorem k_55 : (Jvm.Cond.fieldLink "java/util/ArrayList" (9 : Nat) "java/util/ArrayList" "elementData" "[Ljava/lang/Object;") ∈ TBL := tb_m 55 tb_c1 (by decide +kernel) (by rfl)
theorem k_56 : (Jvm.Cond.fieldLink "java/util/ArrayList" (48 : Nat) "java/util/ArrayList" "size" "I") ∈ TBL := tb_m 56 tb_c1 (by decide +kernel) (by rfl)
theorem k_57 : (Jvm.Cond.fieldLink "java/util/AbstractList" (7 : Nat) "java/util/AbstractList" "modCount" "I") ∈ TBL := tb_m 57 tb_c1 (by decide +kernel) (by rfl)
theorem k_58 : (Jvm.Cond.fieldLink "java/util/ArrayList" (63 : Nat) "java/util/ArrayList" "modCount" "I") ∈ TBL := tb_m 58 tb_c1 (by decide +kernel) (by rfl)
theorem k_59 : (Jvm.Cond.sameField "java/util/ArrayList" "java/util/AbstractList" "modCount" "I") ∈ TBL := tb_m 59 tb_c1 (by decide +kernel) (by rfl)
theorem k_60 : (Jvm.Cond.lays "java/util/ArrayList" "java/util/ArrayList" "elementData" "[Ljava/lang/Object;") ∈ TBL := tb_m 60 tb_c1 (by decide +kernel) (by rfl)
theorem k_62 : (Jvm.Cond.lays "java/util/ArrayList" "java/util/ArrayList" "size" "I") ∈ TBL := tb_m 62 tb_c1 (by decide +kernel) (by rfl)
theorem k_64 : (Jvm.Cond.lays "java/util/ArrayList" "java/util/AbstractList" "modCount" "I") ∈ TBL := tb_m 64 tb_c1 (by decide +kernel) (by rfl)
theorem k_67 : (Jvm.Cond.fieldLink "RainIndex$Weather" (12 : Nat) "RainIndex$Weather" "stations" "Ljava/util/ArrayList;") ∈ TBL := tb_m 67 tb_c1 (by decide +kernel) (by rfl)
theorem k_68 : (Jvm.Cond.fieldLink "RainIndex" (79 : Nat) "RainIndex$Weather" "stations" "Ljava/util/ArrayList;") ∈ TBL := tb_m 68 tb_c1 (by decide +kernel) (by rfl)
theorem k_69 : (Jvm.Cond.fieldLink "RainIndex$Weather" (18 : Nat) "RainIndex$Weather" "tellings" "I") ∈ TBL := tb_m 69 tb_c1 (by decide +kernel) (by rfl)
theorem k_70 : (Jvm.Cond.fieldLink "RainIndex" (86 : Nat) "RainIndex$Weather" "tellings" "I") ∈ TBL := tb_m 70 tb_c1 (by decide +kernel) (by rfl)
theorem k_71 : (Jvm.Cond.laysFinal "RainIndex$Weather" "RainIndex$Weather" "stations" "Ljava/util/ArrayList;") ∈ TBL := tb_m 71 tb_c1 (by decide +kernel) (by rfl)
theorem k_73 : (Jvm.Cond.lays "RainIndex$Weather" "RainIndex$Weather" "tellings" "I") ∈ TBL := tb_m 73 tb_c1 (by decide +kernel) (by rfl)
theorem k_76 : (Jvm.Cond.classLink "RainIndex" (16 : Nat) "RainIndex$SeasonRain") ∈ TBL := tb_m 76 tb_c1 (by decide +kernel) (by rfl)
theorem k_77 : (Jvm.Cond.instantiable "RainIndex$SeasonRain" (1 : Nat)) ∈ TBL := tb_m 77 tb_c1 (by decide +kernel) (by rfl)
theorem k_79 : (Jvm.Cond.instanceMethod ({ cls := "RainIndex$SeasonRain", name := "<init>", desc := "()V" } : Jvm.MethodName)) ∈ TBL := tb_m 79 tb_c1 (by decide +kernel) (by rfl)
theorem k_80 : (Jvm.Cond.code ({ cls := "RainIndex$SeasonRain", name := "<init>", desc := "()V" } : Jvm.MethodName) prog_7_method_1_code (1 : Nat) (Option.none : Option Jvm.ClassFile.FieldType)) ∈ TBL := tb_m 80 tb_c1 (by decide +kernel) (by rfl)
theorem k_81 : (Jvm.Cond.methodLink "RainIndex$SeasonRain" (3 : Nat) ({ cls := "java/lang/Object", name := "<init>", desc := "()V" } : Jvm.MethodName)) ∈ TBL := tb_m 81 tb_c1 (by decide +kernel) (by rfl)
theorem k_82 : (Jvm.Cond.fieldLink "RainIndex$SeasonRain" (9 : Nat) "RainIndex$SeasonRain" "tenths" "[I") ∈ TBL := tb_m 82 tb_c1 (by decide +kernel) (by rfl)
theorem k_83 : (Jvm.Cond.laysFinal "RainIndex$SeasonRain" "RainIndex$SeasonRain" "tenths" "[I") ∈ TBL := tb_m 83 tb_c1 (by decide +kernel) (by rfl)
theorem k_86 : (Jvm.Cond.arrayClass Jvm.ClassFile.FieldType.int) ∈ TBL := tb_m 86 tb_c1 (by decide +kernel) (by rfl)
theorem k_87 : (Jvm.Cond.classLink "RainIndex" (23 : Nat) "java/util/ArrayList") ∈ TBL := tb_m 87 tb_c1 (by decide +kernel) (by rfl)
theorem k_88 : (Jvm.Cond.methodLink "RainIndex" (25 : Nat) ({ cls := "java/util/ArrayList", name := "<init>", desc := "()V" } : Jvm.MethodName)) ∈ TBL := tb_m 88 tb_c1 (by decide +kernel) (by rfl)
theorem k_89 : (Jvm.Cond.classLink "RainIndex" (36 : Nat) "RainIndex$Books") ∈ TBL := tb_m 89 tb_c1 (by decide +kernel) (by rfl)
theorem k_90 : (Jvm.Cond.instantiable "RainIndex$Books" (4 : Nat)) ∈ TBL := tb_m 90 tb_c1 (by decide +kernel) (by rfl)
theorem k_92 : (Jvm.Cond.instanceMethod ({ cls := "RainIndex$Books", name := "<init>", desc := "()V" } : Jvm.MethodName)) ∈ TBL := tb_m 92 tb_c1 (by decide +kernel) (by rfl)
theorem k_93 : (Jvm.Cond.code ({ cls := "RainIndex$Books", name := "<init>", desc := "()V" } : Jvm.MethodName) prog_2_method_1_code (1 : Nat) (Option.none : Option Jvm.ClassFile.FieldType)) ∈ TBL := tb_m 93 tb_c1 (by decide +kernel) (by rfl)
theorem k_94 : (Jvm.Cond.methodLink "RainIndex$Books" (1 : Nat) ({ cls := "java/lang/Object", name := "<init>", desc := "()V" } : Jvm.MethodName)) ∈ TBL := tb_m 94 tb_c1 (by decide +kernel) (by rfl)
theorem k_95 : (Jvm.Cond.fieldLink "RainIndex$Books" (7 : Nat) "RainIndex$Books" "prices" "I") ∈ TBL := tb_m 95 tb_c1 (by decide +kernel) (by rfl)
theorem k_96 : (Jvm.Cond.fieldLink "RainIndex" (222 : Nat) "RainIndex$Books" "prices" "I") ∈ TBL := tb_m 96 tb_c1 (by decide +kernel) (by rfl)
theorem k_97 : (Jvm.Cond.fieldLink "RainIndex$Books" (13 : Nat) "RainIndex$Books" "subsidies" "I") ∈ TBL := tb_m 97 tb_c1 (by decide +kernel) (by rfl)
theorem k_98 : (Jvm.Cond.fieldLink "RainIndex" (225 : Nat) "RainIndex$Books" "subsidies" "I") ∈ TBL := tb_m 98 tb_c1 (by decide +kernel) (by rfl)
theorem k_99 : (Jvm.Cond.fieldLink "RainIndex$Books" (16 : Nat) "RainIndex$Books" "paid" "I") ∈ TBL := tb_m 99 tb_c1 (by decide +kernel) (by rfl)
theorem k_100 : (Jvm.Cond.fieldLink "RainIndex" (240 : Nat) "RainIndex$Books" "paid" "I") ∈ TBL := tb_m 100 tb_c1 (by decide +kernel) (by rfl)
theorem k_101 : (Jvm.Cond.fieldLink "RainIndex$Books" (19 : Nat) "RainIndex$Books" "carried" "I") ∈ TBL := tb_m 101 tb_c1 (by decide +kernel) (by rfl)
theorem k_102 : (Jvm.Cond.fieldLink "RainIndex" (243 : Nat) "RainIndex$Books" "carried" "I") ∈ TBL := tb_m 102 tb_c1 (by decide +kernel) (by rfl)
theorem k_103 : (Jvm.Cond.lays "RainIndex$Books" "RainIndex$Books" "prices" "I") ∈ TBL := tb_m 103 tb_c1 (by decide +kernel) (by rfl)
theorem k_105 : (Jvm.Cond.lays "RainIndex$Books" "RainIndex$Books" "subsidies" "I") ∈ TBL := tb_m 105 tb_c1 (by decide +kernel) (by rfl)
theorem k_107 : (Jvm.Cond.lays "RainIndex$Books" "RainIndex$Books" "paid" "I") ∈ TBL := tb_m 107 tb_c1 (by decide +kernel) (by rfl)
theorem k_109 : (Jvm.Cond.lays "RainIndex$Books" "RainIndex$Books" "carried" "I") ∈ TBL := tb_m 109 tb_c1 (by decide +kernel) (by rfl)
theorem k_112 : (Jvm.Cond.classLink "RainIndex" (47 : Nat) "RainIndex$Product") ∈ TBL := tb_m 112 tb_c1 (by decide +kernel) (by rfl)
theorem k_113 : (Jvm.Cond.instantiable "RainIndex$Product" (3 : Nat)) ∈ TBL := tb_m 113 tb_c1 (by decide +kernel) (by rfl)
theorem k_114 : (Jvm.Cond.methodLink "RainIndex" (49 : Nat) ({ cls := "RainIndex$Product", name := "<init>", desc := "(I)V" } : Jvm.MethodName)) ∈ TBL := tb_m 114 tb_c1 (by decide +kernel) (by rfl)
theorem k_115 : (Jvm.Cond.instanceMethod ({ cls := "RainIndex$Product", name := "<init>", desc := "(I)V" } : Jvm.MethodName)) ∈ TBL := tb_m 115 tb_c1 (by decide +kernel) (by rfl)
theorem k_116 : (Jvm.Cond.code ({ cls := "RainIndex$Product", name := "<init>", desc := "(I)V" } : Jvm.MethodName) prog_6_method_1_code (2 : Nat) (Option.none : Option Jvm.ClassFile.FieldType)) ∈ TBL := tb_m 116 tb_c1 (by decide +kernel) (by rfl)
theorem k_117 : (Jvm.Cond.methodLink "RainIndex$Product" (3 : Nat) ({ cls := "java/lang/Object", name := "<init>", desc := "()V" } : Jvm.MethodName)) ∈ TBL := tb_m 117 tb_c1 (by decide +kernel) (by rfl)
theorem k_118 : (Jvm.Cond.classLink "RainIndex$Product" (9 : Nat) "java/util/ArrayList") ∈ TBL := tb_m 118 tb_c1 (by decide +kernel) (by rfl)
theorem k_119 : (Jvm.Cond.methodLink "RainIndex$Product" (11 : Nat) ({ cls := "java/util/ArrayList", name := "<init>", desc := "()V" } : Jvm.MethodName)) ∈ TBL := tb_m 119 tb_c1 (by decide +kernel) (by rfl)
theorem k_120 : (Jvm.Cond.fieldLink "RainIndex$Product" (22 : Nat) "RainIndex$Product" "number" "I") ∈ TBL := tb_m 120 tb_c1 (by decide +kernel) (by rfl)
theorem k_121 : (Jvm.Cond.fieldLink "RainIndex$Cover" (69 : Nat) "RainIndex$Product" "number" "I") ∈ TBL := tb_m 121 tb_c1 (by decide +kernel) (by rfl)
theorem k_122 : (Jvm.Cond.fieldLink "RainIndex$Product" (12 : Nat) "RainIndex$Product" "phases" "Ljava/util/ArrayList;") ∈ TBL := tb_m 122 tb_c1 (by decide +kernel) (by rfl)
theorem k_123 : (Jvm.Cond.fieldLink "RainIndex" (128 : Nat) "RainIndex$Product" "phases" "Ljava/util/ArrayList;") ∈ TBL := tb_m 123 tb_c1 (by decide +kernel) (by rfl)
theorem k_124 : (Jvm.Cond.fieldLink "RainIndex$Product" (18 : Nat) "RainIndex$Product" "known" "I") ∈ TBL := tb_m 124 tb_c1 (by decide +kernel) (by rfl)
theorem k_125 : (Jvm.Cond.fieldLink "RainIndex" (147 : Nat) "RainIndex$Product" "known" "I") ∈ TBL := tb_m 125 tb_c1 (by decide +kernel) (by rfl)
theorem k_126 : (Jvm.Cond.laysFinal "RainIndex$Product" "RainIndex$Product" "number" "I") ∈ TBL := tb_m 126 tb_c1 (by decide +kernel) (by rfl)
theorem k_128 : (Jvm.Cond.laysFinal "RainIndex$Product" "RainIndex$Product" "phases" "Ljava/util/ArrayList;") ∈ TBL := tb_m 128 tb_c1 (by decide +kernel) (by rfl)
theorem k_130 : (Jvm.Cond.lays "RainIndex$Product" "RainIndex$Product" "known" "I") ∈ TBL := tb_m 130 tb_c1 (by decide +kernel) (by rfl)
theorem k_133 : (Jvm.Cond.methodLink "RainIndex" (69 : Nat) ({ cls := "java/util/Arrays", name := "fill", desc := "([II)V" } : Jvm.MethodName)) ∈ TBL := tb_m 133 tb_c1 (by decide +kernel) (by rfl)
theorem k_134 : (Jvm.Cond.static ({ cls := "java/util/Arrays", name := "fill", desc := "([II)V" } : Jvm.MethodName)) ∈ TBL := tb_m 134 tb_c1 (by decide +kernel) (by rfl)
theorem k_135 : (Jvm.Cond.code ({ cls := "java/util/Arrays", name := "fill", desc := "([II)V" } : Jvm.MethodName) prog_28_method_103_code (4 : Nat) (Option.none : Option Jvm.ClassFile.FieldType)) ∈ TBL := tb_m 135 tb_c1 (by decide +kernel) (by rfl)
theorem k_136 : (Jvm.Cond.fieldLink "RainIndex" (10 : Nat) "RainIndex" "weather" "LRainIndex$Weather;") ∈ TBL := tb_m 136 tb_c1 (by decide +kernel) (by rfl)
theorem k_137 : (Jvm.Cond.fieldLink "RainIndex" (19 : Nat) "RainIndex" "view" "LRainIndex$SeasonRain;") ∈ TBL := tb_m 137 tb_c1 (by decide +kernel) (by rfl)
theorem k_138 : (Jvm.Cond.fieldLink "RainIndex" (26 : Nat) "RainIndex" "products" "Ljava/util/ArrayList;") ∈ TBL := tb_m 138 tb_c1 (by decide +kernel) (by rfl)
theorem k_139 : (Jvm.Cond.fieldLink "RainIndex" (30 : Nat) "RainIndex" "farms" "Ljava/util/ArrayList;") ∈ TBL := tb_m 139 tb_c1 (by decide +kernel) (by rfl)
theorem k_140 : (Jvm.Cond.fieldLink "RainIndex" (33 : Nat) "RainIndex" "covers" "Ljava/util/ArrayList;") ∈ TBL := tb_m 140 tb_c1 (by decide +kernel) (by rfl)
theorem k_141 : (Jvm.Cond.fieldLink "RainIndex" (39 : Nat) "RainIndex" "accounts" "LRainIndex$Books;") ∈ TBL := tb_m 141 tb_c1 (by decide +kernel) (by rfl)
theorem k_142 : (Jvm.Cond.fieldLink "RainIndex" (43 : Nat) "RainIndex" "settledOn" "[I") ∈ TBL := tb_m 142 tb_c1 (by decide +kernel) (by rfl)
theorem k_143 : (Jvm.Cond.fieldLink "RainIndex" (52 : Nat) "RainIndex" "draft" "LRainIndex$Product;") ∈ TBL := tb_m 143 tb_c1 (by decide +kernel) (by rfl)
theorem k_144 : (Jvm.Cond.fieldLink "RainIndex" (56 : Nat) "RainIndex" "today" "I") ∈ TBL := tb_m 144 tb_c1 (by decide +kernel) (by rfl)
theorem k_145 : (Jvm.Cond.fieldLink "RainIndex" (60 : Nat) "RainIndex" "loadingNow" "I") ∈ TBL := tb_m 145 tb_c1 (by decide +kernel) (by rfl)
theorem k_146 : (Jvm.Cond.fieldLink "RainIndex" (63 : Nat) "RainIndex" "retentionNow" "I") ∈ TBL := tb_m 146 tb_c1 (by decide +kernel) (by rfl)
theorem k_147 : (Jvm.Cond.fieldLink "RainIndex" (66 : Nat) "RainIndex" "layerNow" "I") ∈ TBL := tb_m 147 tb_c1 (by decide +kernel) (by rfl)
theorem k_148 : (Jvm.Cond.laysFinal "RainIndex" "RainIndex" "weather" "LRainIndex$Weather;") ∈ TBL := tb_m 148 tb_c1 (by decide +kernel) (by rfl)
theorem k_150 : (Jvm.Cond.laysFinal "RainIndex" "RainIndex" "view" "LRainIndex$SeasonRain;") ∈ TBL := tb_m 150 tb_c1 (by decide +kernel) (by rfl)
theorem k_152 : (Jvm.Cond.laysFinal "RainIndex" "RainIndex" "products" "Ljava/util/ArrayList;") ∈ TBL := tb_m 152 tb_c1 (by decide +kernel) (by rfl)
theorem k_154 : (Jvm.Cond.laysFinal "RainIndex" "RainIndex" "farms" "Ljava/util/ArrayList;") ∈ TBL := tb_m 154 tb_c1 (by decide +kernel) (by rfl)
theorem k_156 : (Jvm.Cond.laysFinal "RainIndex" "RainIndex" "covers" "Ljava/util/ArrayList;") ∈ TBL := tb_m 156 tb_c1 (by decide +kernel) (by rfl)
theorem k_158 : (Jvm.Cond.laysFinal "RainIndex" "RainIndex" "accounts" "LRainIndex$Books;") ∈ TBL := tb_m 158 tb_c1 (by decide +kernel) (by rfl)
theorem k_160 : (Jvm.Cond.laysFinal "RainIndex" "RainIndex" "settledOn" "[I") ∈ TBL := tb_m 160 tb_c1 (by decide +kernel) (by rfl)
theorem k_162 : (Jvm.Cond.lays "RainIndex" "RainIndex" "draft" "LRainIndex$Product;") ∈ TBL := tb_m 162 tb_c1 (by decide +kernel) (by rfl)
theorem k_164 : (Jvm.Cond.lays "RainIndex" "RainIndex" "today" "I") ∈ TBL := tb_m 164 tb_c1 (by decide +kernel) (by rfl)
theorem k_166 : (Jvm.Cond.lays "RainIndex" "RainIndex" "loadingNow" "I") ∈ TBL := tb_m 166 tb_c1 (by decide +kernel) (by rfl)
theorem k_168 : (Jvm.Cond.lays "RainIndex" "RainIndex" "retentionNow" "I") ∈ TBL := tb_m 168 tb_c1 (by decide +kernel) (by rfl)
theorem k_170 : (Jvm.Cond.lays "RainIndex" "RainIndex" "layerNow" "I") ∈ TBL := tb_m 170 tb_c1 (by decide +kernel) (by rfl)
theorem k_173 : (Jvm.Cond.methodLink "RainIndexLaw" (140 : Nat) ({ cls := "RainIndex", name := "day", desc := "()I" } : Jvm.MethodName)) ∈ TBL := tb_m 173 tb_c1 (by decide +kernel) (by rfl)
theorem k_174 : (Jvm.Cond.instanceMethod ({ cls := "RainIndex", name := "day", desc := "()I" } : Jvm.MethodName)) ∈ TBL := tb_m 174 tb_c1 (by decide +kernel) (by rfl)
theorem k_175 : (Jvm.Cond.selects "RainIndex" ({ cls := "RainIndex", name := "day", desc := "()I" } : Jvm.MethodName) ({ cls := "RainIndex", name := "day", desc := "()I" } : Jvm.MethodName)) ∈ TBL := tb_m 175 tb_c1 (by decide +kernel) (by rfl)
theorem k_176 : (Jvm.Cond.code ({ cls := "RainIndex", name := "day", desc := "()I" } : Jvm.MethodName) prog_1_method_15_code (1 : Nat) (Option.some Jvm.ClassFile.FieldType.int)) ∈ TBL := tb_m 176 tb_c1 (by decide +kernel) (by rfl)
theorem k_177 : (Jvm.Cond.methodLink "RainIndexLaw" (90 : Nat) ({ cls := "RainIndexLaw", name := "station", desc := "(LRainIndex;II[J)I" } : Jvm.MethodName)) ∈ TBL := tb_m 177 tb_c1 (by decide +kernel) (by rfl)
theorem k_178 : (Jvm.Cond.static ({ cls := "RainIndexLaw", name := "station", desc := "(LRainIndex;II[J)I" } : Jvm.MethodName)) ∈ TBL := tb_m 178 tb_c1 (by decide +kernel) (by rfl)
theorem k_179 : (Jvm.Cond.codeWith ({ cls := "RainIndexLaw", name := "station", desc := "(LRainIndex;II[J)I" } : Jvm.MethodName) method_3_code (5 : Nat) (Option.some Jvm.ClassFile.FieldType.int) [((0 : Nat), (10 : Nat), (13 : Nat), (13 : Nat)), ((0 : Nat), (10 : Nat), (17 : Nat), (15 : Nat))]) ∈ TBL := tb_m 179 tb_c1 (by decide +kernel) (by rfl)
theorem k_180 : (Jvm.Cond.classLink "RainIndexLaw" (13 : Nat) "java/lang/IllegalArgumentException") ∈ TBL := tb_m 180 tb_c1 (by decide +kernel) (by rfl)
theorem k_181 : (Jvm.Cond.classLink "RainIndexLaw" (15 : Nat) "java/lang/IllegalStateException") ∈ TBL := tb_m 181 tb_c1 (by decide +kernel) (by rfl)
theorem k_182 : (Jvm.Cond.methodLink "RainIndexLaw" (7 : Nat) ({ cls := "RainIndex", name := "station", desc := "(II)I" } : Jvm.MethodName)) ∈ TBL := tb_m 182 tb_c1 (by decide +kernel) (by rfl)
theorem k_183 : (Jvm.Cond.instanceMethod ({ cls := "RainIndex", name := "station", desc := "(II)I" } : Jvm.MethodName)) ∈ TBL := tb_m 183 tb_c1 (by decide +kernel) (by rfl)
theorem k_184 : (Jvm.Cond.selects "RainIndex" ({ cls := "RainIndex", name := "station", desc := "(II)I" } : Jvm.MethodName) ({ cls := "RainIndex", name := "station", desc := "(II)I" } : Jvm.MethodName)) ∈ TBL := tb_m 184 tb_c1 (by decide +kernel) (by rfl)
theorem k_185 : (Jvm.Cond.code ({ cls := "RainIndex", name := "station", desc := "(II)I" } : Jvm.MethodName) prog_1_method_2_code (3 : Nat) (Option.some Jvm.ClassFile.FieldType.int)) ∈ TBL := tb_m 185 tb_c1 (by decide +kernel) (by rfl)
theorem k_186 : (Jvm.Cond.methodLink "RainIndex" (75 : Nat) ({ cls := "RainIndex", name := "testPlace", desc := "(II)V" } : Jvm.MethodName)) ∈ TBL := tb_m 186 tb_c1 (by decide +kernel) (by rfl)
theorem k_187 : (Jvm.Cond.static ({ cls := "RainIndex", name := "testPlace", desc := "(II)V" } : Jvm.MethodName)) ∈ TBL := tb_m 187 tb_c1 (by decide +kernel) (by rfl)
theorem k_188 : (Jvm.Cond.code ({ cls := "RainIndex", name := "testPlace", desc := "(II)V" } : Jvm.MethodName) prog_1_method_26_code (2 : Nat) (Option.none : Option Jvm.ClassFile.FieldType)) ∈ TBL := tb_m 188 tb_c1 (by decide +kernel) (by rfl)
theorem k_189 : (Jvm.Cond.methodLink "RainIndex" (109 : Nat) ({ cls := "RainIndex", name := "isWithin", desc := "(III)Z" } : Jvm.MethodName)) ∈ TBL := tb_m 189 tb_c1 (by decide +kernel) (by rfl)
theorem k_190 : (Jvm.Cond.static ({ cls := "RainIndex", name := "isWithin", desc := "(III)Z" } : Jvm.MethodName)) ∈ TBL := tb_m 190 tb_c1 (by decide +kernel) (by rfl)
theorem k_191 : (Jvm.Cond.code ({ cls := "RainIndex", name := "isWithin", desc := "(III)Z" } : Jvm.MethodName) prog_1_method_25_code (3 : Nat) (Option.some Jvm.ClassFile.FieldType.boolean)) ∈ TBL := tb_m 191 tb_c1 (by decide +kernel) (by rfl)
theorem k_192 : (Jvm.Cond.classLink "RainIndex" (113 : Nat) "java/lang/IllegalArgumentException") ∈ TBL := tb_m 192 tb_c1 (by decide +kernel) (by rfl)
theorem k_193 : (Jvm.Cond.instantiable "java/lang/IllegalArgumentException" (6 : Nat)) ∈ TBL := tb_m 193 tb_c1 (by decide +kernel) (by rfl)
theorem k_201 : (Jvm.Cond.selects "java/lang/IllegalArgumentException" ({ cls := "java/lang/Throwable", name := "fillInStackTrace", desc := "(I)Ljava/lang/Throwable;" } : Jvm.MethodName) ({ cls := "java/lang/Throwable", name := "fillInStackTrace", desc := "(I)Ljava/lang/Throwable;" } : Jvm.MethodName)) ∈ TBL := tb_m 201 tb_c1 (by decide +kernel) (by rfl)
theorem k_202 : (Jvm.Cond.selects "java/lang/IllegalArgumentException" ({ cls := "java/lang/Throwable", name := "fillInStackTrace", desc := "()Ljava/lang/Throwable;" } : Jvm.MethodName) ({ cls := "java/lang/Throwable", name := "fillInStackTrace", desc := "()Ljava/lang/Throwable;" } : Jvm.MethodName)) ∈ TBL := tb_m 202 tb_c1 (by decide +kernel) (by rfl)
theorem k_203 : (Jvm.Cond.lays "java/lang/IllegalArgumentException" "java/lang/Throwable" "cause" "Ljava/lang/Throwable;") ∈ TBL := tb_m 203 tb_c1 (by decide +kernel) (by rfl)
theorem k_204 : (Jvm.Cond.lays "java/lang/Throwable" "java/lang/Throwable" "cause" "Ljava/lang/Throwable;") ∈ TBL := tb_m 204 tb_c1 (by decide +kernel) (by rfl)
theorem k_205 : (Jvm.Cond.lays "java/lang/IllegalArgumentException" "java/lang/Throwable" "stackTrace" "[Ljava/lang/StackTraceElement;") ∈ TBL := tb_m 205 tb_c1 (by decide +kernel) (by rfl)
theorem k_206 : (Jvm.Cond.lays "java/lang/Throwable" "java/lang/Throwable" "stackTrace" "[Ljava/lang/StackTraceElement;") ∈ TBL := tb_m 206 tb_c1 (by decide +kernel) (by rfl)
theorem k_207 : (Jvm.Cond.lays "java/lang/IllegalArgumentException" "java/lang/Throwable" "suppressedExceptions" "Ljava/util/List;") ∈ TBL := tb_m 207 tb_c1 (by decide +kernel) (by rfl)
theorem k_208 : (Jvm.Cond.lays "java/lang/Throwable" "java/lang/Throwable" "suppressedExceptions" "Ljava/util/List;") ∈ TBL := tb_m 208 tb_c1 (by decide +kernel) (by rfl)
theorem k_209 : (Jvm.Cond.lays "java/lang/IllegalArgumentException" "java/lang/Throwable" "detailMessage" "Ljava/lang/String;") ∈ TBL := tb_m 209 tb_c1 (by decide +kernel) (by rfl)
theorem k_210 : (Jvm.Cond.lays "java/lang/Throwable" "java/lang/Throwable" "detailMessage" "Ljava/lang/String;") ∈ TBL := tb_m 210 tb_c1 (by decide +kernel) (by rfl)
theorem k_211 : (Jvm.Cond.lays "java/lang/IllegalArgumentException" "java/lang/Throwable" "backtrace" "Ljava/lang/Object;") ∈ TBL := tb_m 211 tb_c1 (by decide +kernel) (by rfl)
theorem k_212 : (Jvm.Cond.lays "java/lang/Throwable" "java/lang/Throwable" "backtrace" "Ljava/lang/Object;") ∈ TBL := tb_m 212 tb_c1 (by decide +kernel) (by rfl)
theorem k_213 : (Jvm.Cond.fieldLink "java/lang/Throwable" (198 : Nat) "java/lang/Throwable" "backtrace" "Ljava/lang/Object;") ∈ TBL := tb_m 213 tb_c1 (by decide +kernel) (by rfl)
theorem k_215 : (Jvm.Cond.instanceMethod ({ cls := "java/lang/Throwable", name := "<init>", desc := "()V" } : Jvm.MethodName)) ∈ TBL := tb_m 215 tb_c1 (by decide +kernel) (by rfl)
theorem k_216 : (Jvm.Cond.code ({ cls := "java/lang/Throwable", name := "<init>", desc := "()V" } : Jvm.MethodName) prog_24_method_1_code (1 : Nat) (Option.none : Option Jvm.ClassFile.FieldType)) ∈ TBL := tb_m 216 tb_c1 (by decide +kernel) (by rfl)
theorem k_217 : (Jvm.Cond.methodLink "java/lang/Throwable" (1 : Nat) ({ cls := "java/lang/Object", name := "<init>", desc := "()V" } : Jvm.MethodName)) ∈ TBL := tb_m 217 tb_c1 (by decide +kernel) (by rfl)
theorem k_218 : (Jvm.Cond.fieldLink "java/lang/Throwable" (13 : Nat) "java/lang/Throwable" "UNASSIGNED_STACK" "[Ljava/lang/StackTraceElement;") ∈ TBL := tb_m 218 tb_c1 (by decide +kernel) (by rfl)
theorem k_220 : (Jvm.Cond.fieldLink "java/lang/Throwable" (20 : Nat) "java/lang/Throwable" "SUPPRESSED_SENTINEL" "Ljava/util/List;") ∈ TBL := tb_m 220 tb_c1 (by decide +kernel) (by rfl)
theorem k_222 : (Jvm.Cond.methodLink "java/lang/Throwable" (27 : Nat) ({ cls := "java/lang/Throwable", name := "fillInStackTrace", desc := "()Ljava/lang/Throwable;" } : Jvm.MethodName)) ∈ TBL := tb_m 222 tb_c1 (by decide +kernel) (by rfl)
theorem k_223 : (Jvm.Cond.instanceMethod ({ cls := "java/lang/Throwable", name := "fillInStackTrace", desc := "()Ljava/lang/Throwable;" } : Jvm.MethodName)) ∈ TBL := tb_m 223 tb_c1 (by decide +kernel) (by rfl)
theorem k_225 : (Jvm.Cond.selects "java/lang/IllegalStateException" ({ cls := "java/lang/Throwable", name := "fillInStackTrace", desc := "()Ljava/lang/Throwable;" } : Jvm.MethodName) ({ cls := "java/lang/Throwable", name := "fillInStackTrace", desc := "()Ljava/lang/Throwable;" } : Jvm.MethodName)) ∈ TBL := tb_m 225 tb_c1 (by decide +kernel) (by rfl)
theorem k_226 : (Jvm.Cond.selects "java/lang/IndexOutOfBoundsException" ({ cls := "java/lang/Throwable", name := "fillInStackTrace", desc := "()Ljava/lang/Throwable;" } : Jvm.MethodName) ({ cls := "java/lang/Throwable", name := "fillInStackTrace", desc := "()Ljava/lang/Throwable;" } : Jvm.MethodName)) ∈ TBL := tb_m 226 tb_c1 (by decide +kernel) (by rfl)
theorem k_228 : (Jvm.Cond.methodLink "java/lang/Throwable" (202 : Nat) ({ cls := "java/lang/Throwable", name := "fillInStackTrace", desc := "(I)Ljava/lang/Throwable;" } : Jvm.MethodName)) ∈ TBL := tb_m 228 tb_c1 (by decide +kernel) (by rfl)
theorem k_230 : (Jvm.Cond.instanceMethod ({ cls := "java/lang/Throwable", name := "fillInStackTrace", desc := "(I)Ljava/lang/Throwable;" } : Jvm.MethodName)) ∈ TBL := tb_m 230 tb_c1 (by decide +kernel) (by rfl)
theorem k_231 : (Jvm.Cond.instantiable "java/lang/Throwable" (6 : Nat)) ∈ TBL := tb_m 231 tb_c1 (by decide +kernel) (by rfl)
theorem k_232 : (Jvm.Cond.native ({ cls := "java/lang/Throwable", name := "fillInStackTrace", desc := "(I)Ljava/lang/Throwable;" } : Jvm.MethodName)) ∈ TBL := tb_m 232 tb_c1 (by decide +kernel) (by rfl)
theorem k_234 : (Jvm.Cond.methodLink "RainIndex" (117 : Nat) ({ cls := "java/lang/IllegalArgumentException", name := "<init>", desc := "(Ljava/lang/String;)V" } : Jvm.MethodName)) ∈ TBL := tb_m 234 tb_c1 (by decide +kernel) (by rfl)
theorem k_235 : (Jvm.Cond.instanceMethod ({ cls := "java/lang/IllegalArgumentException", name := "<init>", desc := "(Ljava/lang/String;)V" } : Jvm.MethodName)) ∈ TBL := tb_m 235 tb_c1 (by decide +kernel) (by rfl)
theorem k_236 : (Jvm.Cond.code ({ cls := "java/lang/IllegalArgumentException", name := "<init>", desc := "(Ljava/lang/String;)V" } : Jvm.MethodName) prog_16_method_2_code (2 : Nat) (Option.none : Option Jvm.ClassFile.FieldType)) ∈ TBL := tb_m 236 tb_c1 (by decide +kernel) (by rfl)
theorem k_237 : (Jvm.Cond.methodLink "java/lang/IllegalArgumentException" (7 : Nat) ({ cls := "java/lang/RuntimeException", name := "<init>", desc := "(Ljava/lang/String;)V" } : Jvm.MethodName)) ∈ TBL := tb_m 237 tb_c1 (by decide +kernel) (by rfl)
theorem k_238 : (Jvm.Cond.instanceMethod ({ cls := "java/lang/RuntimeException", name := "<init>", desc := "(Ljava/lang/String;)V" } : Jvm.MethodName)) ∈ TBL := tb_m 238 tb_c1 (by decide +kernel) (by rfl)
theorem k_239 : (Jvm.Cond.code ({ cls := "java/lang/RuntimeException", name := "<init>", desc := "(Ljava/lang/String;)V" } : Jvm.MethodName) prog_21_method_2_code (2 : Nat) (Option.none : Option Jvm.ClassFile.FieldType)) ∈ TBL := tb_m 239 tb_c1 (by decide +kernel) (by rfl)
theorem k_240 : (Jvm.Cond.methodLink "java/lang/RuntimeException" (7 : Nat) ({ cls := "java/lang/Exception", name := "<init>", desc := "(Ljava/lang/String;)V" } : Jvm.MethodName)) ∈ TBL := tb_m 0 tb_c2 (by decide +kernel) (by rfl)
theorem k_241 : (Jvm.Cond.instanceMethod ({ cls := "java/lang/Exception", name := "<init>", desc := "(Ljava/lang/String;)V" } : Jvm.MethodName)) ∈ TBL := tb_m 1 tb_c2 (by decide +kernel) (by rfl)
theorem k_242 : (Jvm.Cond.code ({ cls := "java/lang/Exception", name := "<init>", desc := "(Ljava/lang/String;)V" } : Jvm.MethodName) prog_15_method_2_code (2 : Nat) (Option.none : Option Jvm.ClassFile.FieldType)) ∈ TBL := tb_m 2 tb_c2 (by decide +kernel) (by rfl)
theorem k_243 : (Jvm.Cond.methodLink "java/lang/Exception" (7 : Nat) ({ cls := "java/lang/Throwable", name := "<init>", desc := "(Ljava/lang/String;)V" } : Jvm.MethodName)) ∈ TBL := tb_m 3 tb_c2 (by decide +kernel) (by rfl)
theorem k_244 : (Jvm.Cond.instanceMethod ({ cls := "java/lang/Throwable", name := "<init>", desc := "(Ljava/lang/String;)V" } : Jvm.MethodName)) ∈ TBL := tb_m 4 tb_c2 (by decide +kernel) (by rfl)
theorem k_245 : (Jvm.Cond.code ({ cls := "java/lang/Throwable", name := "<init>", desc := "(Ljava/lang/String;)V" } : Jvm.MethodName) prog_24_method_2_code (2 : Nat) (Option.none : Option Jvm.ClassFile.FieldType)) ∈ TBL := tb_m 5 tb_c2 (by decide +kernel) (by rfl)
theorem k_246 : (Jvm.Cond.fieldLink "java/lang/Throwable" (198 : Nat) "java/lang/Throwable" "backtrace" "Ljava/lang/Object;") ∈ TBL := tb_m 6 tb_c2 (by decide +kernel) (by rfl)
theorem k_247 : (Jvm.Cond.fieldLink "java/lang/Throwable" (31 : Nat) "java/lang/Throwable" "detailMessage" "Ljava/lang/String;") ∈ TBL := tb_m 7 tb_c2 (by decide +kernel) (by rfl)
theorem k_248 : (Jvm.Cond.fieldLink "java/lang/Throwable" (7 : Nat) "java/lang/Throwable" "cause" "Ljava/lang/Throwable;") ∈ TBL := tb_m 8 tb_c2 (by decide +kernel) (by rfl)
theorem k_249 : (Jvm.Cond.fieldLink "java/lang/Throwable" (17 : Nat) "java/lang/Throwable" "stackTrace" "[Ljava/lang/StackTraceElement;") ∈ TBL := tb_m 9 tb_c2 (by decide +kernel) (by rfl)
theorem k_250 : (Jvm.Cond.fieldLink "java/lang/Throwable" (24 : Nat) "java/lang/Throwable" "suppressedExceptions" "Ljava/util/List;") ∈ TBL := tb_m 10 tb_c2 (by decide +kernel) (by rfl)
theorem k_255 : (Jvm.Cond.lays "java/lang/IllegalArgumentException" "java/lang/Throwable" "depth" "I") ∈ TBL := tb_m 15 tb_c2 (by decide +kernel) (by rfl)
theorem k_259 : (Jvm.Cond.arrayClass Jvm.ClassFile.FieldType.byte) ∈ TBL := tb_m 19 tb_c2 (by decide +kernel) (by rfl)
theorem k_260 : (Jvm.Cond.methodLink "RainIndex" (82 : Nat) ({ cls := "java/util/ArrayList", name := "size", desc := "()I" } : Jvm.MethodName)) ∈ TBL := tb_m 20 tb_c2 (by decide +kernel) (by rfl)
theorem k_261 : (Jvm.Cond.instanceMethod ({ cls := "java/util/ArrayList", name := "size", desc := "()I" } : Jvm.MethodName)) ∈ TBL := tb_m 21 tb_c2 (by decide +kernel) (by rfl)
theorem k_262 : (Jvm.Cond.selects "java/util/ArrayList" ({ cls := "java/util/ArrayList", name := "size", desc := "()I" } : Jvm.MethodName) ({ cls := "java/util/ArrayList", name := "size", desc := "()I" } : Jvm.MethodName)) ∈ TBL := tb_m 22 tb_c2 (by decide +kernel) (by rfl)
theorem k_263 : (Jvm.Cond.code ({ cls := "java/util/ArrayList", name := "size", desc := "()I" } : Jvm.MethodName) prog_27_method_8_code (1 : Nat) (Option.some Jvm.ClassFile.FieldType.int)) ∈ TBL := tb_m 23 tb_c2 (by decide +kernel) (by rfl)
theorem k_264 : (Jvm.Cond.classLink "RainIndex" (89 : Nat) "java/lang/IllegalStateException") ∈ TBL := tb_m 24 tb_c2 (by decide +kernel) (by rfl)
theorem k_265 : (Jvm.Cond.instantiable "java/lang/IllegalStateException" (6 : Nat)) ∈ TBL := tb_m 25 tb_c2 (by decide +kernel) (by rfl)
theorem k_267 : (Jvm.Cond.selects "java/lang/IllegalStateException" ({ cls := "java/lang/Throwable", name := "fillInStackTrace", desc := "(I)Ljava/lang/Throwable;" } : Jvm.MethodName) ({ cls := "java/lang/Throwable", name := "fillInStackTrace", desc := "(I)Ljava/lang/Throwable;" } : Jvm.MethodName)) ∈ TBL := tb_m 27 tb_c2 (by decide +kernel) (by rfl)
theorem k_268 : (Jvm.Cond.lays "java/lang/IllegalStateException" "java/lang/Throwable" "cause" "Ljava/lang/Throwable;") ∈ TBL := tb_m 28 tb_c2 (by decide +kernel) (by rfl)
theorem k_269 : (Jvm.Cond.lays "java/lang/IllegalStateException" "java/lang/Throwable" "stackTrace" "[Ljava/lang/StackTraceElement;") ∈ TBL := tb_m 29 tb_c2 (by decide +kernel) (by rfl)
theorem k_270 : (Jvm.Cond.lays "java/lang/IllegalStateException" "java/lang/Throwable" "suppressedExceptions" "Ljava/util/List;") ∈ TBL := tb_m 30 tb_c2 (by decide +kernel) (by rfl)
theorem k_271 : (Jvm.Cond.lays "java/lang/IllegalStateException" "java/lang/Throwable" "detailMessage" "Ljava/lang/String;") ∈ TBL := tb_m 31 tb_c2 (by decide +kernel) (by rfl)
theorem k_272 : (Jvm.Cond.lays "java/lang/IllegalStateException" "java/lang/Throwable" "backtrace" "Ljava/lang/Object;") ∈ TBL := tb_m 32 tb_c2 (by decide +kernel) (by rfl)
theorem k_274 : (Jvm.Cond.methodLink "RainIndex" (93 : Nat) ({ cls := "java/lang/IllegalStateException", name := "<init>", desc := "(Ljava/lang/String;)V" } : Jvm.MethodName)) ∈ TBL := tb_m 34 tb_c2 (by decide +kernel) (by rfl)
theorem k_275 : (Jvm.Cond.instanceMethod ({ cls := "java/lang/IllegalStateException", name := "<init>", desc := "(Ljava/lang/String;)V" } : Jvm.MethodName)) ∈ TBL := tb_m 35 tb_c2 (by decide +kernel) (by rfl)
theorem k_276 : (Jvm.Cond.code ({ cls := "java/lang/IllegalStateException", name := "<init>", desc := "(Ljava/lang/String;)V" } : Jvm.MethodName) prog_17_method_2_code (2 : Nat) (Option.none : Option Jvm.ClassFile.FieldType)) ∈ TBL := tb_m 36 tb_c2 (by decide +kernel) (by rfl)
theorem k_277 : (Jvm.Cond.methodLink "java/lang/IllegalStateException" (7 : Nat) ({ cls := "java/lang/RuntimeException", name := "<init>", desc := "(Ljava/lang/String;)V" } : Jvm.MethodName)) ∈ TBL := tb_m 37 tb_c2 (by decide +kernel) (by rfl)
theorem k_278 : (Jvm.Cond.lays "java/lang/IllegalStateException" "java/lang/Throwable" "depth" "I") ∈ TBL := tb_m 38 tb_c2 (by decide +kernel) (by rfl)
theorem k_280 : (Jvm.Cond.classLink "RainIndex" (96 : Nat) "RainIndex$Station") ∈ TBL := tb_m 40 tb_c2 (by decide +kernel) (by rfl)
theorem k_281 : (Jvm.Cond.instantiable "RainIndex$Station" (5 : Nat)) ∈ TBL := tb_m 41 tb_c2 (by decide +kernel) (by rfl)
theorem k_282 : (Jvm.Cond.methodLink "RainIndex" (98 : Nat) ({ cls := "RainIndex$Station", name := "<init>", desc := "(III)V" } : Jvm.MethodName)) ∈ TBL := tb_m 42 tb_c2 (by decide +kernel) (by rfl)
theorem k_283 : (Jvm.Cond.instanceMethod ({ cls := "RainIndex$Station", name := "<init>", desc := "(III)V" } : Jvm.MethodName)) ∈ TBL := tb_m 43 tb_c2 (by decide +kernel) (by rfl)
theorem k_284 : (Jvm.Cond.code ({ cls := "RainIndex$Station", name := "<init>", desc := "(III)V" } : Jvm.MethodName) prog_8_method_1_code (4 : Nat) (Option.none : Option Jvm.ClassFile.FieldType)) ∈ TBL := tb_m 44 tb_c2 (by decide +kernel) (by rfl)
theorem k_285 : (Jvm.Cond.methodLink "RainIndex$Station" (3 : Nat) ({ cls := "java/lang/Object", name := "<init>", desc := "()V" } : Jvm.MethodName)) ∈ TBL := tb_m 45 tb_c2 (by decide +kernel) (by rfl)
theorem k_286 : (Jvm.Cond.classLink "RainIndex$Station" (9 : Nat) "RainIndex$Telling") ∈ TBL := tb_m 46 tb_c2 (by decide +kernel) (by rfl)
theorem k_288 : (Jvm.Cond.fieldLink "RainIndex$Station" (21 : Nat) "RainIndex$Station" "number" "I") ∈ TBL := tb_m 48 tb_c2 (by decide +kernel) (by rfl)
theorem k_289 : (Jvm.Cond.fieldLink "RainIndex$Farm" (54 : Nat) "RainIndex$Station" "number" "I") ∈ TBL := tb_m 49 tb_c2 (by decide +kernel) (by rfl)
theorem k_290 : (Jvm.Cond.fieldLink "RainIndex$Station" (25 : Nat) "RainIndex$Station" "x" "I") ∈ TBL := tb_m 50 tb_c2 (by decide +kernel) (by rfl)
theorem k_291 : (Jvm.Cond.fieldLink "RainIndex$Weather" (44 : Nat) "RainIndex$Station" "x" "I") ∈ TBL := tb_m 51 tb_c2 (by decide +kernel) (by rfl)
theorem k_292 : (Jvm.Cond.fieldLink "RainIndex$Station" (28 : Nat) "RainIndex$Station" "y" "I") ∈ TBL := tb_m 52 tb_c2 (by decide +kernel) (by rfl)
theorem k_293 : (Jvm.Cond.fieldLink "RainIndex$Weather" (47 : Nat) "RainIndex$Station" "y" "I") ∈ TBL := tb_m 53 tb_c2 (by decide +kernel) (by rfl)
theorem k_294 : (Jvm.Cond.fieldLink "RainIndex$Station" (11 : Nat) "RainIndex$Station" "latest" "[LRainIndex$Telling;") ∈ TBL := tb_m 54 tb_c2 (by decide +kernel) (by rfl)
theorem k_295 : (Jvm.Cond.fieldLink "RainIndex$Station" (17 : Nat) "RainIndex$Station" "lookedAgain" "[Z") ∈ TBL := tb_m 55 tb_c2 (by decide +kernel) (by rfl)
theorem k_296 : (Jvm.Cond.fieldLink "RainIndex" (377 : Nat) "RainIndex$Station" "lookedAgain" "[Z") ∈ TBL := tb_m 56 tb_c2 (by decide +kernel) (by rfl)
theorem k_297 : (Jvm.Cond.laysFinal "RainIndex$Station" "RainIndex$Station" "number" "I") ∈ TBL := tb_m 57 tb_c2 (by decide +kernel) (by rfl)
theorem k_299 : (Jvm.Cond.laysFinal "RainIndex$Station" "RainIndex$Station" "x" "I") ∈ TBL := tb_m 59 tb_c2 (by decide +kernel) (by rfl)
theorem k_301 : (Jvm.Cond.laysFinal "RainIndex$Station" "RainIndex$Station" "y" "I") ∈ TBL := tb_m 61 tb_c2 (by decide +kernel) (by rfl)
theorem k_303 : (Jvm.Cond.laysFinal "RainIndex$Station" "RainIndex$Station" "latest" "[LRainIndex$Telling;") ∈ TBL := tb_m 63 tb_c2 (by decide +kernel) (by rfl)
theorem k_305 : (Jvm.Cond.laysFinal "RainIndex$Station" "RainIndex$Station" "lookedAgain" "[Z") ∈ TBL := tb_m 65 tb_c2 (by decide +kernel) (by rfl)
theorem k_308 : (Jvm.Cond.arrayClass Jvm.ClassFile.FieldType.boolean) ∈ TBL := tb_m 68 tb_c2 (by decide +kernel) (by rfl)
theorem k_309 : (Jvm.Cond.methodLink "RainIndex" (101 : Nat) ({ cls := "java/util/ArrayList", name := "add", desc := "(Ljava/lang/Object;)Z" } : Jvm.MethodName)) ∈ TBL := tb_m 69 tb_c2 (by decide +kernel) (by rfl)
theorem k_310 : (Jvm.Cond.instanceMethod ({ cls := "java/util/ArrayList", name := "add", desc := "(Ljava/lang/Object;)Z" } : Jvm.MethodName)) ∈ TBL := tb_m 70 tb_c2 (by decide +kernel) (by rfl)
theorem k_311 : (Jvm.Cond.selects "java/util/ArrayList" ({ cls := "java/util/ArrayList", name := "add", desc := "(Ljava/lang/Object;)Z" } : Jvm.MethodName) ({ cls := "java/util/ArrayList", name := "add", desc := "(Ljava/lang/Object;)Z" } : Jvm.MethodName)) ∈ TBL := tb_m 71 tb_c2 (by decide +kernel) (by rfl)
theorem k_312 : (Jvm.Cond.code ({ cls := "java/util/ArrayList", name := "add", desc := "(Ljava/lang/Object;)Z" } : Jvm.MethodName) prog_27_method_25_code (2 : Nat) (Option.some Jvm.ClassFile.FieldType.boolean)) ∈ TBL := tb_m 72 tb_c2 (by decide +kernel) (by rfl)
theorem k_313 : (Jvm.Cond.methodLink "java/util/ArrayList" (131 : Nat) ({ cls := "java/util/ArrayList", name := "add", desc := "(Ljava/lang/Object;[Ljava/lang/Object;I)V" } : Jvm.MethodName)) ∈ TBL := tb_m 73 tb_c2 (by decide +kernel) (by rfl)
theorem k_315 : (Jvm.Cond.instanceMethod ({ cls := "java/util/ArrayList", name := "add", desc := "(Ljava/lang/Object;[Ljava/lang/Object;I)V" } : Jvm.MethodName)) ∈ TBL := tb_m 75 tb_c2 (by decide +kernel) (by rfl)
theorem k_316 : (Jvm.Cond.code ({ cls := "java/util/ArrayList", name := "add", desc := "(Ljava/lang/Object;[Ljava/lang/Object;I)V" } : Jvm.MethodName) prog_27_method_24_code (4 : Nat) (Option.none : Option Jvm.ClassFile.FieldType)) ∈ TBL := tb_m 76 tb_c2 (by decide +kernel) (by rfl)
theorem k_317 : (Jvm.Cond.methodLink "java/util/ArrayList" (129 : Nat) ({ cls := "java/util/ArrayList", name := "grow", desc := "()[Ljava/lang/Object;" } : Jvm.MethodName)) ∈ TBL := tb_m 77 tb_c2 (by decide +kernel) (by rfl)
theorem k_319 : (Jvm.Cond.instanceMethod ({ cls := "java/util/ArrayList", name := "grow", desc := "()[Ljava/lang/Object;" } : Jvm.MethodName)) ∈ TBL := tb_m 79 tb_c2 (by decide +kernel) (by rfl)
theorem k_320 : (Jvm.Cond.code ({ cls := "java/util/ArrayList", name := "grow", desc := "()[Ljava/lang/Object;" } : Jvm.MethodName) prog_27_method_7_code (1 : Nat) (Option.some (Jvm.ClassFile.FieldType.array (Jvm.ClassFile.FieldType.object "java/lang/Object")))) ∈ TBL := tb_m 80 tb_c2 (by decide +kernel) (by rfl)
theorem k_321 : (Jvm.Cond.methodLink "java/util/ArrayList" (69 : Nat) ({ cls := "java/util/ArrayList", name := "grow", desc := "(I)[Ljava/lang/Object;" } : Jvm.MethodName)) ∈ TBL := tb_m 81 tb_c2 (by decide +kernel) (by rfl)
theorem k_323 : (Jvm.Cond.instanceMethod ({ cls := "java/util/ArrayList", name := "grow", desc := "(I)[Ljava/lang/Object;" } : Jvm.MethodName)) ∈ TBL := tb_m 83 tb_c2 (by decide +kernel) (by rfl)
theorem k_324 : (Jvm.Cond.code ({ cls := "java/util/ArrayList", name := "grow", desc := "(I)[Ljava/lang/Object;" } : Jvm.MethodName) prog_27_method_6_code (4 : Nat) (Option.some (Jvm.ClassFile.FieldType.array (Jvm.ClassFile.FieldType.object "java/lang/Object")))) ∈ TBL := tb_m 84 tb_c2 (by decide +kernel) (by rfl)
theorem k_325 : (Jvm.Cond.methodLink "java/util/ArrayList" (73 : Nat) ({ cls := "jdk/internal/util/ArraysSupport", name := "newLength", desc := "(III)I" } : Jvm.MethodName)) ∈ TBL := tb_m 85 tb_c2 (by decide +kernel) (by rfl)
theorem k_326 : (Jvm.Cond.static ({ cls := "jdk/internal/util/ArraysSupport", name := "newLength", desc := "(III)I" } : Jvm.MethodName)) ∈ TBL := tb_m 86 tb_c2 (by decide +kernel) (by rfl)
theorem k_327 : (Jvm.Cond.code ({ cls := "jdk/internal/util/ArraysSupport", name := "newLength", desc := "(III)I" } : Jvm.MethodName) prog_34_method_27_code (4 : Nat) (Option.some Jvm.ClassFile.FieldType.int)) ∈ TBL := tb_m 87 tb_c2 (by decide +kernel) (by rfl)
theorem k_328 : (Jvm.Cond.methodLink "jdk/internal/util/ArraysSupport" (194 : Nat) ({ cls := "java/lang/Math", name := "max", desc := "(II)I" } : Jvm.MethodName)) ∈ TBL := tb_m 88 tb_c2 (by decide +kernel) (by rfl)
theorem k_329 : (Jvm.Cond.static ({ cls := "java/lang/Math", name := "max", desc := "(II)I" } : Jvm.MethodName)) ∈ TBL := tb_m 89 tb_c2 (by decide +kernel) (by rfl)
theorem k_330 : (Jvm.Cond.code ({ cls := "java/lang/Math", name := "max", desc := "(II)I" } : Jvm.MethodName) prog_20_method_65_code (2 : Nat) (Option.some Jvm.ClassFile.FieldType.int)) ∈ TBL := tb_m 90 tb_c2 (by decide +kernel) (by rfl)
theorem k_331 : (Jvm.Cond.constant "jdk/internal/util/ArraysSupport" (200 : Nat) (2147483639 : Int32)) ∈ TBL := tb_m 91 tb_c2 (by decide +kernel) (by rfl)
theorem k_332 : (Jvm.Cond.methodLink "jdk/internal/util/ArraysSupport" (201 : Nat) ({ cls := "jdk/internal/util/ArraysSupport", name := "hugeLength", desc := "(II)I" } : Jvm.MethodName)) ∈ TBL := tb_m 92 tb_c2 (by decide +kernel) (by rfl)
theorem k_333 : (Jvm.Cond.static ({ cls := "jdk/internal/util/ArraysSupport", name := "hugeLength", desc := "(II)I" } : Jvm.MethodName)) ∈ TBL := tb_m 93 tb_c2 (by decide +kernel) (by rfl)
theorem k_334 : (Jvm.Cond.code ({ cls := "jdk/internal/util/ArraysSupport", name := "hugeLength", desc := "(II)I" } : Jvm.MethodName) prog_34_method_28_code (3 : Nat) (Option.some Jvm.ClassFile.FieldType.int)) ∈ TBL := tb_m 94 tb_c2 (by decide +kernel) (by rfl)
theorem k_335 : (Jvm.Cond.methodLink "java/util/ArrayList" (66 : Nat) ({ cls := "java/util/Arrays", name := "copyOf", desc := "([Ljava/lang/Object;I)[Ljava/lang/Object;" } : Jvm.MethodName)) ∈ TBL := tb_m 95 tb_c2 (by decide +kernel) (by rfl)
theorem k_336 : (Jvm.Cond.static ({ cls := "java/util/Arrays", name := "copyOf", desc := "([Ljava/lang/Object;I)[Ljava/lang/Object;" } : Jvm.MethodName)) ∈ TBL := tb_m 96 tb_c2 (by decide +kernel) (by rfl)
theorem k_337 : (Jvm.Cond.code ({ cls := "java/util/Arrays", name := "copyOf", desc := "([Ljava/lang/Object;I)[Ljava/lang/Object;" } : Jvm.MethodName) prog_28_method_119_code (2 : Nat) (Option.some (Jvm.ClassFile.FieldType.array (Jvm.ClassFile.FieldType.object "java/lang/Object")))) ∈ TBL := tb_m 97 tb_c2 (by decide +kernel) (by rfl)
theorem k_338 : (Jvm.Cond.methodLink "java/util/Arrays" (86 : Nat) ({ cls := "java/lang/Object", name := "getClass", desc := "()Ljava/lang/Class;" } : Jvm.MethodName)) ∈ TBL := tb_m 98 tb_c2 (by decide +kernel) (by rfl)
theorem k_339 : (Jvm.Cond.instanceMethod ({ cls := "java/lang/Object", name := "getClass", desc := "()Ljava/lang/Class;" } : Jvm.MethodName)) ∈ TBL := tb_m 99 tb_c2 (by decide +kernel) (by rfl)
theorem k_341 : (Jvm.Cond.selects "RainIndex" ({ cls := "java/lang/Object", name := "getClass", desc := "()Ljava/lang/Class;" } : Jvm.MethodName) ({ cls := "java/lang/Object", name := "getClass", desc := "()Ljava/lang/Class;" } : Jvm.MethodName)) ∈ TBL := tb_m 101 tb_c2 (by decide +kernel) (by rfl)
theorem k_342 : (Jvm.Cond.selects "RainIndex$Books" ({ cls := "java/lang/Object", name := "getClass", desc := "()Ljava/lang/Class;" } : Jvm.MethodName) ({ cls := "java/lang/Object", name := "getClass", desc := "()Ljava/lang/Class;" } : Jvm.MethodName)) ∈ TBL := tb_m 102 tb_c2 (by decide +kernel) (by rfl)
theorem k_343 : (Jvm.Cond.selects "RainIndex$Cover" ({ cls := "java/lang/Object", name := "getClass", desc := "()Ljava/lang/Class;" } : Jvm.MethodName) ({ cls := "java/lang/Object", name := "getClass", desc := "()Ljava/lang/Class;" } : Jvm.MethodName)) ∈ TBL := tb_m 103 tb_c2 (by decide +kernel) (by rfl)
theorem k_344 : (Jvm.Cond.selects "RainIndex$Farm" ({ cls := "java/lang/Object", name := "getClass", desc := "()Ljava/lang/Class;" } : Jvm.MethodName) ({ cls := "java/lang/Object", name := "getClass", desc := "()Ljava/lang/Class;" } : Jvm.MethodName)) ∈ TBL := tb_m 104 tb_c2 (by decide +kernel) (by rfl)
theorem k_345 : (Jvm.Cond.selects "RainIndex$Phase" ({ cls := "java/lang/Object", name := "getClass", desc := "()Ljava/lang/Class;" } : Jvm.MethodName) ({ cls := "java/lang/Object", name := "getClass", desc := "()Ljava/lang/Class;" } : Jvm.MethodName)) ∈ TBL := tb_m 105 tb_c2 (by decide +kernel) (by rfl)
theorem k_346 : (Jvm.Cond.selects "RainIndex$Product" ({ cls := "java/lang/Object", name := "getClass", desc := "()Ljava/lang/Class;" } : Jvm.MethodName) ({ cls := "java/lang/Object", name := "getClass", desc := "()Ljava/lang/Class;" } : Jvm.MethodName)) ∈ TBL := tb_m 106 tb_c2 (by decide +kernel) (by rfl)
theorem k_347 : (Jvm.Cond.selects "RainIndex$SeasonRain" ({ cls := "java/lang/Object", name := "getClass", desc := "()Ljava/lang/Class;" } : Jvm.MethodName) ({ cls := "java/lang/Object", name := "getClass", desc := "()Ljava/lang/Class;" } : Jvm.MethodName)) ∈ TBL := tb_m 107 tb_c2 (by decide +kernel) (by rfl)
theorem k_348 : (Jvm.Cond.selects "RainIndex$Station" ({ cls := "java/lang/Object", name := "getClass", desc := "()Ljava/lang/Class;" } : Jvm.MethodName) ({ cls := "java/lang/Object", name := "getClass", desc := "()Ljava/lang/Class;" } : Jvm.MethodName)) ∈ TBL := tb_m 108 tb_c2 (by decide +kernel) (by rfl)
theorem k_349 : (Jvm.Cond.selects "RainIndex$Telling" ({ cls := "java/lang/Object", name := "getClass", desc := "()Ljava/lang/Class;" } : Jvm.MethodName) ({ cls := "java/lang/Object", name := "getClass", desc := "()Ljava/lang/Class;" } : Jvm.MethodName)) ∈ TBL := tb_m 109 tb_c2 (by decide +kernel) (by rfl)
theorem k_350 : (Jvm.Cond.selects "RainIndex$Weather" ({ cls := "java/lang/Object", name := "getClass", desc := "()Ljava/lang/Class;" } : Jvm.MethodName) ({ cls := "java/lang/Object", name := "getClass", desc := "()Ljava/lang/Class;" } : Jvm.MethodName)) ∈ TBL := tb_m 110 tb_c2 (by decide +kernel) (by rfl)
theorem k_351 : (Jvm.Cond.selects "RainIndexModel" ({ cls := "java/lang/Object", name := "getClass", desc := "()Ljava/lang/Class;" } : Jvm.MethodName) ({ cls := "java/lang/Object", name := "getClass", desc := "()Ljava/lang/Class;" } : Jvm.MethodName)) ∈ TBL := tb_m 111 tb_c2 (by decide +kernel) (by rfl)
theorem k_352 : (Jvm.Cond.selects "java/lang/IllegalArgumentException" ({ cls := "java/lang/Object", name := "getClass", desc := "()Ljava/lang/Class;" } : Jvm.MethodName) ({ cls := "java/lang/Object", name := "getClass", desc := "()Ljava/lang/Class;" } : Jvm.MethodName)) ∈ TBL := tb_m 112 tb_c2 (by decide +kernel) (by rfl)
theorem k_353 : (Jvm.Cond.selects "java/lang/IllegalStateException" ({ cls := "java/lang/Object", name := "getClass", desc := "()Ljava/lang/Class;" } : Jvm.MethodName) ({ cls := "java/lang/Object", name := "getClass", desc := "()Ljava/lang/Class;" } : Jvm.MethodName)) ∈ TBL := tb_m 113 tb_c2 (by decide +kernel) (by rfl)
theorem k_354 : (Jvm.Cond.selects "java/lang/IndexOutOfBoundsException" ({ cls := "java/lang/Object", name := "getClass", desc := "()Ljava/lang/Class;" } : Jvm.MethodName) ({ cls := "java/lang/Object", name := "getClass", desc := "()Ljava/lang/Class;" } : Jvm.MethodName)) ∈ TBL := tb_m 114 tb_c2 (by decide +kernel) (by rfl)
theorem k_355 : (Jvm.Cond.selects "java/util/ArrayList" ({ cls := "java/lang/Object", name := "getClass", desc := "()Ljava/lang/Class;" } : Jvm.MethodName) ({ cls := "java/lang/Object", name := "getClass", desc := "()Ljava/lang/Class;" } : Jvm.MethodName)) ∈ TBL := tb_m 115 tb_c2 (by decide +kernel) (by rfl)
theorem k_356 : (Jvm.Cond.native ({ cls := "java/lang/Object", name := "getClass", desc := "()Ljava/lang/Class;" } : Jvm.MethodName)) ∈ TBL := tb_m 116 tb_c2 (by decide +kernel) (by rfl)
theorem k_357 : (Jvm.Cond.methodLink "java/util/Arrays" (300 : Nat) ({ cls := "java/util/Arrays", name := "copyOf", desc := "([Ljava/lang/Object;ILjava/lang/Class;)[Ljava/lang/Object;" } : Jvm.MethodName)) ∈ TBL := tb_m 117 tb_c2 (by decide +kernel) (by rfl)
theorem k_358 : (Jvm.Cond.static ({ cls := "java/util/Arrays", name := "copyOf", desc := "([Ljava/lang/Object;ILjava/lang/Class;)[Ljava/lang/Object;" } : Jvm.MethodName)) ∈ TBL := tb_m 118 tb_c2 (by decide +kernel) (by rfl)
theorem k_359 : (Jvm.Cond.code ({ cls := "java/util/Arrays", name := "copyOf", desc := "([Ljava/lang/Object;ILjava/lang/Class;)[Ljava/lang/Object;" } : Jvm.MethodName) prog_28_method_120_code (4 : Nat) (Option.some (Jvm.ClassFile.FieldType.array (Jvm.ClassFile.FieldType.object "java/lang/Object")))) ∈ TBL := tb_m 119 tb_c2 (by decide +kernel) (by rfl)
theorem k_360 : (Jvm.Cond.classLink "java/util/Arrays" (110 : Nat) "[Ljava/lang/Object;") ∈ TBL := tb_m 120 tb_c2 (by decide +kernel) (by rfl)
theorem k_362 : (Jvm.Cond.classLink "java/util/Arrays" (2 : Nat) "java/lang/Object") ∈ TBL := tb_m 122 tb_c2 (by decide +kernel) (by rfl)
theorem k_363 : (Jvm.Cond.methodLink "java/util/Arrays" (304 : Nat) ({ cls := "java/lang/Math", name := "min", desc := "(II)I" } : Jvm.MethodName)) ∈ TBL := tb_m 123 tb_c2 (by decide +kernel) (by rfl)
theorem k_364 : (Jvm.Cond.static ({ cls := "java/lang/Math", name := "min", desc := "(II)I" } : Jvm.MethodName)) ∈ TBL := tb_m 124 tb_c2 (by decide +kernel) (by rfl)
theorem k_365 : (Jvm.Cond.code ({ cls := "java/lang/Math", name := "min", desc := "(II)I" } : Jvm.MethodName) prog_20_method_69_code (2 : Nat) (Option.some Jvm.ClassFile.FieldType.int)) ∈ TBL := tb_m 125 tb_c2 (by decide +kernel) (by rfl)
theorem k_366 : (Jvm.Cond.methodLink "java/util/Arrays" (150 : Nat) ({ cls := "java/lang/System", name := "arraycopy", desc := "(Ljava/lang/Object;ILjava/lang/Object;II)V" } : Jvm.MethodName)) ∈ TBL := tb_m 126 tb_c2 (by decide +kernel) (by rfl)
theorem k_367 : (Jvm.Cond.static ({ cls := "java/lang/System", name := "arraycopy", desc := "(Ljava/lang/Object;ILjava/lang/Object;II)V" } : Jvm.MethodName)) ∈ TBL := tb_m 127 tb_c2 (by decide +kernel) (by rfl)
theorem k_368 : (Jvm.Cond.native ({ cls := "java/lang/System", name := "arraycopy", desc := "(Ljava/lang/Object;ILjava/lang/Object;II)V" } : Jvm.MethodName)) ∈ TBL := tb_m 128 tb_c2 (by decide +kernel) (by rfl)
theorem k_369 : (Jvm.Cond.methodLink "java/util/ArrayList" (79 : Nat) ({ cls := "java/lang/Math", name := "max", desc := "(II)I" } : Jvm.MethodName)) ∈ TBL := tb_m 129 tb_c2 (by decide +kernel) (by rfl)
theorem k_370 : (Jvm.Cond.classLink "java/util/ArrayList" (7 : Nat) "java/lang/Object") ∈ TBL := tb_m 130 tb_c2 (by decide +kernel) (by rfl)
theorem k_371 : (Jvm.Cond.methodLink "RainIndexLaw" (100 : Nat) ({ cls := "RainIndexLaw", name := "rain", desc := "(LRainIndex;III[J)I" } : Jvm.MethodName)) ∈ TBL := tb_m 131 tb_c2 (by decide +kernel) (by rfl)
theorem k_372 : (Jvm.Cond.static ({ cls := "RainIndexLaw", name := "rain", desc := "(LRainIndex;III[J)I" } : Jvm.MethodName)) ∈ TBL := tb_m 132 tb_c2 (by decide +kernel) (by rfl)
theorem k_373 : (Jvm.Cond.codeWith ({ cls := "RainIndexLaw", name := "rain", desc := "(LRainIndex;III[J)I" } : Jvm.MethodName) method_4_code (6 : Nat) (Option.some Jvm.ClassFile.FieldType.int) [((0 : Nat), (12 : Nat), (15 : Nat), (21 : Nat)), ((0 : Nat), (12 : Nat), (19 : Nat), (13 : Nat))]) ∈ TBL := tb_m 133 tb_c2 (by decide +kernel) (by rfl)
theorem k_374 : (Jvm.Cond.classLink "RainIndexLaw" (21 : Nat) "java/lang/IndexOutOfBoundsException") ∈ TBL := tb_m 134 tb_c2 (by decide +kernel) (by rfl)
theorem k_375 : (Jvm.Cond.methodLink "RainIndexLaw" (17 : Nat) ({ cls := "RainIndex", name := "rain", desc := "(III)I" } : Jvm.MethodName)) ∈ TBL := tb_m 135 tb_c2 (by decide +kernel) (by rfl)
theorem k_376 : (Jvm.Cond.instanceMethod ({ cls := "RainIndex", name := "rain", desc := "(III)I" } : Jvm.MethodName)) ∈ TBL := tb_m 136 tb_c2 (by decide +kernel) (by rfl)
theorem k_377 : (Jvm.Cond.selects "RainIndex" ({ cls := "RainIndex", name := "rain", desc := "(III)I" } : Jvm.MethodName) ({ cls := "RainIndex", name := "rain", desc := "(III)I" } : Jvm.MethodName)) ∈ TBL := tb_m 137 tb_c2 (by decide +kernel) (by rfl)
theorem k_378 : (Jvm.Cond.code ({ cls := "RainIndex", name := "rain", desc := "(III)I" } : Jvm.MethodName) prog_1_method_3_code (5 : Nat) (Option.some Jvm.ClassFile.FieldType.int)) ∈ TBL := tb_m 138 tb_c2 (by decide +kernel) (by rfl)
theorem k_379 : (Jvm.Cond.methodLink "RainIndex" (105 : Nat) ({ cls := "RainIndex", name := "stationNumbered", desc := "(I)LRainIndex$Station;" } : Jvm.MethodName)) ∈ TBL := tb_m 139 tb_c2 (by decide +kernel) (by rfl)
theorem k_381 : (Jvm.Cond.instanceMethod ({ cls := "RainIndex", name := "stationNumbered", desc := "(I)LRainIndex$Station;" } : Jvm.MethodName)) ∈ TBL := tb_m 141 tb_c2 (by decide +kernel) (by rfl)
theorem k_382 : (Jvm.Cond.code ({ cls := "RainIndex", name := "stationNumbered", desc := "(I)LRainIndex$Station;" } : Jvm.MethodName) prog_1_method_30_code (2 : Nat) (Option.some (Jvm.ClassFile.FieldType.object "RainIndex$Station"))) ∈ TBL := tb_m 142 tb_c2 (by decide +kernel) (by rfl)
theorem k_383 : (Jvm.Cond.classLink "RainIndex" (287 : Nat) "java/lang/IndexOutOfBoundsException") ∈ TBL := tb_m 143 tb_c2 (by decide +kernel) (by rfl)
theorem k_384 : (Jvm.Cond.instantiable "java/lang/IndexOutOfBoundsException" (6 : Nat)) ∈ TBL := tb_m 144 tb_c2 (by decide +kernel) (by rfl)
theorem k_386 : (Jvm.Cond.selects "java/lang/IndexOutOfBoundsException" ({ cls := "java/lang/Throwable", name := "fillInStackTrace", desc := "(I)Ljava/lang/Throwable;" } : Jvm.MethodName) ({ cls := "java/lang/Throwable", name := "fillInStackTrace", desc := "(I)Ljava/lang/Throwable;" } : Jvm.MethodName)) ∈ TBL := tb_m 146 tb_c2 (by decide +kernel) (by rfl)
theorem k_387 : (Jvm.Cond.lays "java/lang/IndexOutOfBoundsException" "java/lang/Throwable" "cause" "Ljava/lang/Throwable;") ∈ TBL := tb_m 147 tb_c2 (by decide +kernel) (by rfl)
theorem k_388 : (Jvm.Cond.lays "java/lang/IndexOutOfBoundsException" "java/lang/Throwable" "stackTrace" "[Ljava/lang/StackTraceElement;") ∈ TBL := tb_m 148 tb_c2 (by decide +kernel) (by rfl)
theorem k_389 : (Jvm.Cond.lays "java/lang/IndexOutOfBoundsException" "java/lang/Throwable" "suppressedExceptions" "Ljava/util/List;") ∈ TBL := tb_m 149 tb_c2 (by decide +kernel) (by rfl)
theorem k_390 : (Jvm.Cond.lays "java/lang/IndexOutOfBoundsException" "java/lang/Throwable" "detailMessage" "Ljava/lang/String;") ∈ TBL := tb_m 150 tb_c2 (by decide +kernel) (by rfl)
theorem k_391 : (Jvm.Cond.lays "java/lang/IndexOutOfBoundsException" "java/lang/Throwable" "backtrace" "Ljava/lang/Object;") ∈ TBL := tb_m 151 tb_c2 (by decide +kernel) (by rfl)
theorem k_393 : (Jvm.Cond.methodLink "RainIndex" (291 : Nat) ({ cls := "java/lang/IndexOutOfBoundsException", name := "<init>", desc := "(Ljava/lang/String;)V" } : Jvm.MethodName)) ∈ TBL := tb_m 153 tb_c2 (by decide +kernel) (by rfl)
theorem k_394 : (Jvm.Cond.instanceMethod ({ cls := "java/lang/IndexOutOfBoundsException", name := "<init>", desc := "(Ljava/lang/String;)V" } : Jvm.MethodName)) ∈ TBL := tb_m 154 tb_c2 (by decide +kernel) (by rfl)
theorem k_395 : (Jvm.Cond.code ({ cls := "java/lang/IndexOutOfBoundsException", name := "<init>", desc := "(Ljava/lang/String;)V" } : Jvm.MethodName) prog_18_method_2_code (2 : Nat) (Option.none : Option Jvm.ClassFile.FieldType)) ∈ TBL := tb_m 155 tb_c2 (by decide +kernel) (by rfl)
theorem k_396 : (Jvm.Cond.methodLink "java/lang/IndexOutOfBoundsException" (7 : Nat) ({ cls := "java/lang/RuntimeException", name := "<init>", desc := "(Ljava/lang/String;)V" } : Jvm.MethodName)) ∈ TBL := tb_m 156 tb_c2 (by decide +kernel) (by rfl)
theorem k_397 : (Jvm.Cond.lays "java/lang/IndexOutOfBoundsException" "java/lang/Throwable" "depth" "I") ∈ TBL := tb_m 157 tb_c2 (by decide +kernel) (by rfl)
theorem k_399 : (Jvm.Cond.methodLink "RainIndex" (292 : Nat) ({ cls := "java/util/ArrayList", name := "get", desc := "(I)Ljava/lang/Object;" } : Jvm.MethodName)) ∈ TBL := tb_m 159 tb_c2 (by decide +kernel) (by rfl)
theorem k_400 : (Jvm.Cond.instanceMethod ({ cls := "java/util/ArrayList", name := "get", desc := "(I)Ljava/lang/Object;" } : Jvm.MethodName)) ∈ TBL := tb_m 160 tb_c2 (by decide +kernel) (by rfl)
theorem k_401 : (Jvm.Cond.selects "java/util/ArrayList" ({ cls := "java/util/ArrayList", name := "get", desc := "(I)Ljava/lang/Object;" } : Jvm.MethodName) ({ cls := "java/util/ArrayList", name := "get", desc := "(I)Ljava/lang/Object;" } : Jvm.MethodName)) ∈ TBL := tb_m 161 tb_c2 (by decide +kernel) (by rfl)
theorem k_402 : (Jvm.Cond.code ({ cls := "java/util/ArrayList", name := "get", desc := "(I)Ljava/lang/Object;" } : Jvm.MethodName) prog_27_method_20_code (2 : Nat) (Option.some (Jvm.ClassFile.FieldType.object "java/lang/Object"))) ∈ TBL := tb_m 162 tb_c2 (by decide +kernel) (by rfl)
theorem k_403 : (Jvm.Cond.methodLink "java/util/ArrayList" (118 : Nat) ({ cls := "java/util/Objects", name := "checkIndex", desc := "(II)I" } : Jvm.MethodName)) ∈ TBL := tb_m 163 tb_c2 (by decide +kernel) (by rfl)
theorem k_404 : (Jvm.Cond.static ({ cls := "java/util/Objects", name := "checkIndex", desc := "(II)I" } : Jvm.MethodName)) ∈ TBL := tb_m 164 tb_c2 (by decide +kernel) (by rfl)
theorem k_405 : (Jvm.Cond.code ({ cls := "java/util/Objects", name := "checkIndex", desc := "(II)I" } : Jvm.MethodName) prog_31_method_17_code (2 : Nat) (Option.some Jvm.ClassFile.FieldType.int)) ∈ TBL := tb_m 165 tb_c2 (by decide +kernel) (by rfl)
theorem k_406 : (Jvm.Cond.methodLink "java/util/Objects" (105 : Nat) ({ cls := "jdk/internal/util/Preconditions", name := "checkIndex", desc := "(IILjava/util/function/BiFunction;)I" } : Jvm.MethodName)) ∈ TBL := tb_m 166 tb_c2 (by decide +kernel) (by rfl)
theorem k_407 : (Jvm.Cond.static ({ cls := "jdk/internal/util/Preconditions", name := "checkIndex", desc := "(IILjava/util/function/BiFunction;)I" } : Jvm.MethodName)) ∈ TBL := tb_m 167 tb_c2 (by decide +kernel) (by rfl)
theorem k_408 : (Jvm.Cond.code ({ cls := "jdk/internal/util/Preconditions", name := "checkIndex", desc := "(IILjava/util/function/BiFunction;)I" } : Jvm.MethodName) prog_35_method_11_code (3 : Nat) (Option.some Jvm.ClassFile.FieldType.int)) ∈ TBL := tb_m 168 tb_c2 (by decide +kernel) (by rfl)
theorem k_409 : (Jvm.Cond.methodLink "java/util/ArrayList" (123 : Nat) ({ cls := "java/util/ArrayList", name := "elementData", desc := "(I)Ljava/lang/Object;" } : Jvm.MethodName)) ∈ TBL := tb_m 169 tb_c2 (by decide +kernel) (by rfl)
theorem k_410 : (Jvm.Cond.instanceMethod ({ cls := "java/util/ArrayList", name := "elementData", desc := "(I)Ljava/lang/Object;" } : Jvm.MethodName)) ∈ TBL := tb_m 170 tb_c2 (by decide +kernel) (by rfl)
theorem k_411 : (Jvm.Cond.selects "java/util/ArrayList" ({ cls := "java/util/ArrayList", name := "elementData", desc := "(I)Ljava/lang/Object;" } : Jvm.MethodName) ({ cls := "java/util/ArrayList", name := "elementData", desc := "(I)Ljava/lang/Object;" } : Jvm.MethodName)) ∈ TBL := tb_m 171 tb_c2 (by decide +kernel) (by rfl)
theorem k_412 : (Jvm.Cond.code ({ cls := "java/util/ArrayList", name := "elementData", desc := "(I)Ljava/lang/Object;" } : Jvm.MethodName) prog_27_method_18_code (2 : Nat) (Option.some (Jvm.ClassFile.FieldType.object "java/lang/Object"))) ∈ TBL := tb_m 172 tb_c2 (by decide +kernel) (by rfl)
theorem k_414 : (Jvm.Cond.methodLink "RainIndex" (118 : Nat) ({ cls := "RainIndex$Weather", name := "tell", desc := "(LRainIndex$Station;II)I" } : Jvm.MethodName)) ∈ TBL := tb_m 174 tb_c2 (by decide +kernel) (by rfl)
theorem k_415 : (Jvm.Cond.instanceMethod ({ cls := "RainIndex$Weather", name := "tell", desc := "(LRainIndex$Station;II)I" } : Jvm.MethodName)) ∈ TBL := tb_m 175 tb_c2 (by decide +kernel) (by rfl)
theorem k_416 : (Jvm.Cond.selects "RainIndex$Weather" ({ cls := "RainIndex$Weather", name := "tell", desc := "(LRainIndex$Station;II)I" } : Jvm.MethodName) ({ cls := "RainIndex$Weather", name := "tell", desc := "(LRainIndex$Station;II)I" } : Jvm.MethodName)) ∈ TBL := tb_m 176 tb_c2 (by decide +kernel) (by rfl)
theorem k_417 : (Jvm.Cond.code ({ cls := "RainIndex$Weather", name := "tell", desc := "(LRainIndex$Station;II)I" } : Jvm.MethodName) prog_10_method_2_code (5 : Nat) (Option.some Jvm.ClassFile.FieldType.int)) ∈ TBL := tb_m 177 tb_c2 (by decide +kernel) (by rfl)
theorem k_418 : (Jvm.Cond.methodLink "RainIndex$Weather" (22 : Nat) ({ cls := "RainIndex$Station", name := "datum", desc := "(III)I" } : Jvm.MethodName)) ∈ TBL := tb_m 178 tb_c2 (by decide +kernel) (by rfl)
theorem k_419 : (Jvm.Cond.instanceMethod ({ cls := "RainIndex$Station", name := "datum", desc := "(III)I" } : Jvm.MethodName)) ∈ TBL := tb_m 179 tb_c2 (by decide +kernel) (by rfl)
theorem k_420 : (Jvm.Cond.selects "RainIndex$Station" ({ cls := "RainIndex$Station", name := "datum", desc := "(III)I" } : Jvm.MethodName) ({ cls := "RainIndex$Station", name := "datum", desc := "(III)I" } : Jvm.MethodName)) ∈ TBL := tb_m 180 tb_c2 (by decide +kernel) (by rfl)
theorem k_421 : (Jvm.Cond.code ({ cls := "RainIndex$Station", name := "datum", desc := "(III)I" } : Jvm.MethodName) prog_8_method_4_code (5 : Nat) (Option.some Jvm.ClassFile.FieldType.int)) ∈ TBL := tb_m 181 tb_c2 (by decide +kernel) (by rfl)
theorem k_422 : (Jvm.Cond.methodLink "RainIndex$Weather" (28 : Nat) ({ cls := "RainIndex$Station", name := "keep", desc := "(III)V" } : Jvm.MethodName)) ∈ TBL := tb_m 182 tb_c2 (by decide +kernel) (by rfl)
theorem k_423 : (Jvm.Cond.instanceMethod ({ cls := "RainIndex$Station", name := "keep", desc := "(III)V" } : Jvm.MethodName)) ∈ TBL := tb_m 183 tb_c2 (by decide +kernel) (by rfl)
theorem k_424 : (Jvm.Cond.selects "RainIndex$Station" ({ cls := "RainIndex$Station", name := "keep", desc := "(III)V" } : Jvm.MethodName) ({ cls := "RainIndex$Station", name := "keep", desc := "(III)V" } : Jvm.MethodName)) ∈ TBL := tb_m 184 tb_c2 (by decide +kernel) (by rfl)
theorem k_425 : (Jvm.Cond.code ({ cls := "RainIndex$Station", name := "keep", desc := "(III)V" } : Jvm.MethodName) prog_8_method_3_code (4 : Nat) (Option.none : Option Jvm.ClassFile.FieldType)) ∈ TBL := tb_m 185 tb_c2 (by decide +kernel) (by rfl)
theorem k_426 : (Jvm.Cond.instantiable "RainIndex$Telling" (4 : Nat)) ∈ TBL := tb_m 186 tb_c2 (by decide +kernel) (by rfl)
theorem k_427 : (Jvm.Cond.methodLink "RainIndex$Station" (31 : Nat) ({ cls := "RainIndex$Telling", name := "<init>", desc := "(IILRainIndex$Telling;)V" } : Jvm.MethodName)) ∈ TBL := tb_m 187 tb_c2 (by decide +kernel) (by rfl)
theorem k_428 : (Jvm.Cond.instanceMethod ({ cls := "RainIndex$Telling", name := "<init>", desc := "(IILRainIndex$Telling;)V" } : Jvm.MethodName)) ∈ TBL := tb_m 188 tb_c2 (by decide +kernel) (by rfl)
theorem k_429 : (Jvm.Cond.code ({ cls := "RainIndex$Telling", name := "<init>", desc := "(IILRainIndex$Telling;)V" } : Jvm.MethodName) prog_9_method_1_code (4 : Nat) (Option.none : Option Jvm.ClassFile.FieldType)) ∈ TBL := tb_m 189 tb_c2 (by decide +kernel) (by rfl)
theorem k_430 : (Jvm.Cond.methodLink "RainIndex$Telling" (1 : Nat) ({ cls := "java/lang/Object", name := "<init>", desc := "()V" } : Jvm.MethodName)) ∈ TBL := tb_m 190 tb_c2 (by decide +kernel) (by rfl)
theorem k_431 : (Jvm.Cond.fieldLink "RainIndex$Telling" (7 : Nat) "RainIndex$Telling" "number" "I") ∈ TBL := tb_m 191 tb_c2 (by decide +kernel) (by rfl)
theorem k_432 : (Jvm.Cond.fieldLink "RainIndex$Station" (34 : Nat) "RainIndex$Telling" "number" "I") ∈ TBL := tb_m 192 tb_c2 (by decide +kernel) (by rfl)
theorem k_433 : (Jvm.Cond.fieldLink "RainIndex$Telling" (13 : Nat) "RainIndex$Telling" "tenths" "I") ∈ TBL := tb_m 193 tb_c2 (by decide +kernel) (by rfl)
theorem k_434 : (Jvm.Cond.fieldLink "RainIndex$Station" (42 : Nat) "RainIndex$Telling" "tenths" "I") ∈ TBL := tb_m 194 tb_c2 (by decide +kernel) (by rfl)
theorem k_435 : (Jvm.Cond.fieldLink "RainIndex$Telling" (16 : Nat) "RainIndex$Telling" "first" "I") ∈ TBL := tb_m 195 tb_c2 (by decide +kernel) (by rfl)
theorem k_436 : (Jvm.Cond.fieldLink "RainIndex$Station" (39 : Nat) "RainIndex$Telling" "first" "I") ∈ TBL := tb_m 196 tb_c2 (by decide +kernel) (by rfl)
theorem k_437 : (Jvm.Cond.fieldLink "RainIndex$Telling" (19 : Nat) "RainIndex$Telling" "before" "LRainIndex$Telling;") ∈ TBL := tb_m 197 tb_c2 (by decide +kernel) (by rfl)
theorem k_438 : (Jvm.Cond.fieldLink "RainIndex$Station" (35 : Nat) "RainIndex$Telling" "before" "LRainIndex$Telling;") ∈ TBL := tb_m 198 tb_c2 (by decide +kernel) (by rfl)
theorem k_439 : (Jvm.Cond.laysFinal "RainIndex$Telling" "RainIndex$Telling" "number" "I") ∈ TBL := tb_m 199 tb_c2 (by decide +kernel) (by rfl)
theorem k_441 : (Jvm.Cond.laysFinal "RainIndex$Telling" "RainIndex$Telling" "tenths" "I") ∈ TBL := tb_m 201 tb_c2 (by decide +kernel) (by rfl)
theorem k_443 : (Jvm.Cond.laysFinal "RainIndex$Telling" "RainIndex$Telling" "first" "I") ∈ TBL := tb_m 203 tb_c2 (by decide +kernel) (by rfl)
theorem k_445 : (Jvm.Cond.laysFinal "RainIndex$Telling" "RainIndex$Telling" "before" "LRainIndex$Telling;") ∈ TBL := tb_m 205 tb_c2 (by decide +kernel) (by rfl)
theorem k_448 : (Jvm.Cond.methodLink "RainIndexLaw" (104 : Nat) ({ cls := "RainIndexLaw", name := "pass", desc := "(LRainIndex;I[J)I" } : Jvm.MethodName)) ∈ TBL := tb_m 208 tb_c2 (by decide +kernel) (by rfl)
theorem k_449 : (Jvm.Cond.static ({ cls := "RainIndexLaw", name := "pass", desc := "(LRainIndex;I[J)I" } : Jvm.MethodName)) ∈ TBL := tb_m 209 tb_c2 (by decide +kernel) (by rfl)
theorem k_450 : (Jvm.Cond.codeWith ({ cls := "RainIndexLaw", name := "pass", desc := "(LRainIndex;I[J)I" } : Jvm.MethodName) method_5_code (4 : Nat) (Option.some Jvm.ClassFile.FieldType.int) [((0 : Nat), (9 : Nat), (12 : Nat), (13 : Nat)), ((0 : Nat), (9 : Nat), (15 : Nat), (15 : Nat))]) ∈ TBL := tb_m 210 tb_c2 (by decide +kernel) (by rfl)
theorem k_451 : (Jvm.Cond.methodLink "RainIndexLaw" (23 : Nat) ({ cls := "RainIndex", name := "pass", desc := "(I)I" } : Jvm.MethodName)) ∈ TBL := tb_m 211 tb_c2 (by decide +kernel) (by rfl)
theorem k_452 : (Jvm.Cond.instanceMethod ({ cls := "RainIndex", name := "pass", desc := "(I)I" } : Jvm.MethodName)) ∈ TBL := tb_m 212 tb_c2 (by decide +kernel) (by rfl)
theorem k_453 : (Jvm.Cond.selects "RainIndex" ({ cls := "RainIndex", name := "pass", desc := "(I)I" } : Jvm.MethodName) ({ cls := "RainIndex", name := "pass", desc := "(I)I" } : Jvm.MethodName)) ∈ TBL := tb_m 213 tb_c2 (by decide +kernel) (by rfl)
theorem k_454 : (Jvm.Cond.code ({ cls := "RainIndex", name := "pass", desc := "(I)I" } : Jvm.MethodName) prog_1_method_4_code (2 : Nat) (Option.some Jvm.ClassFile.FieldType.int)) ∈ TBL := tb_m 214 tb_c2 (by decide +kernel) (by rfl)
theorem k_457 : (Jvm.Cond.methodLink "RainIndexLaw" (108 : Nat) ({ cls := "RainIndexLaw", name := "phase", desc := "(LRainIndex;IZIII[J)I" } : Jvm.MethodName)) ∈ TBL := tb_m 217 tb_c2 (by decide +kernel) (by rfl)
theorem k_458 : (Jvm.Cond.static ({ cls := "RainIndexLaw", name := "phase", desc := "(LRainIndex;IZIII[J)I" } : Jvm.MethodName)) ∈ TBL := tb_m 218 tb_c2 (by decide +kernel) (by rfl)
theorem k_459 : (Jvm.Cond.codeWith ({ cls := "RainIndexLaw", name := "phase", desc := "(LRainIndex;IZIII[J)I" } : Jvm.MethodName) method_6_code (8 : Nat) (Option.some Jvm.ClassFile.FieldType.int) [((0 : Nat), (16 : Nat), (19 : Nat), (13 : Nat)), ((0 : Nat), (16 : Nat), (23 : Nat), (15 : Nat))]) ∈ TBL := tb_m 219 tb_c2 (by decide +kernel) (by rfl)
theorem k_460 : (Jvm.Cond.methodLink "RainIndexLaw" (27 : Nat) ({ cls := "RainIndex", name := "phase", desc := "(IZIII)I" } : Jvm.MethodName)) ∈ TBL := tb_m 220 tb_c2 (by decide +kernel) (by rfl)
theorem k_461 : (Jvm.Cond.instanceMethod ({ cls := "RainIndex", name := "phase", desc := "(IZIII)I" } : Jvm.MethodName)) ∈ TBL := tb_m 221 tb_c2 (by decide +kernel) (by rfl)
theorem k_462 : (Jvm.Cond.selects "RainIndex" ({ cls := "RainIndex", name := "phase", desc := "(IZIII)I" } : Jvm.MethodName) ({ cls := "RainIndex", name := "phase", desc := "(IZIII)I" } : Jvm.MethodName)) ∈ TBL := tb_m 222 tb_c2 (by decide +kernel) (by rfl)
theorem k_463 : (Jvm.Cond.code ({ cls := "RainIndex", name := "phase", desc := "(IZIII)I" } : Jvm.MethodName) prog_1_method_5_code (6 : Nat) (Option.some Jvm.ClassFile.FieldType.int)) ∈ TBL := tb_m 223 tb_c2 (by decide +kernel) (by rfl)
theorem k_466 : (Jvm.Cond.classLink "RainIndex" (133 : Nat) "RainIndex$Phase") ∈ TBL := tb_m 226 tb_c2 (by decide +kernel) (by rfl)
theorem k_467 : (Jvm.Cond.instantiable "RainIndex$Phase" (5 : Nat)) ∈ TBL := tb_m 227 tb_c2 (by decide +kernel) (by rfl)
theorem k_468 : (Jvm.Cond.methodLink "RainIndex" (135 : Nat) ({ cls := "RainIndex$Phase", name := "<init>", desc := "(IZIII)V" } : Jvm.MethodName)) ∈ TBL := tb_m 228 tb_c2 (by decide +kernel) (by rfl)
theorem k_469 : (Jvm.Cond.instanceMethod ({ cls := "RainIndex$Phase", name := "<init>", desc := "(IZIII)V" } : Jvm.MethodName)) ∈ TBL := tb_m 229 tb_c2 (by decide +kernel) (by rfl)
theorem k_470 : (Jvm.Cond.code ({ cls := "RainIndex$Phase", name := "<init>", desc := "(IZIII)V" } : Jvm.MethodName) prog_5_method_1_code (6 : Nat) (Option.none : Option Jvm.ClassFile.FieldType)) ∈ TBL := tb_m 230 tb_c2 (by decide +kernel) (by rfl)
theorem k_471 : (Jvm.Cond.methodLink "RainIndex$Phase" (3 : Nat) ({ cls := "java/lang/Object", name := "<init>", desc := "()V" } : Jvm.MethodName)) ∈ TBL := tb_m 231 tb_c2 (by decide +kernel) (by rfl)
theorem k_472 : (Jvm.Cond.fieldLink "RainIndex$Phase" (9 : Nat) "RainIndex$Phase" "days" "I") ∈ TBL := tb_m 232 tb_c2 (by decide +kernel) (by rfl)
theorem k_473 : (Jvm.Cond.fieldLink "RainIndex$Product" (40 : Nat) "RainIndex$Phase" "days" "I") ∈ TBL := tb_m 233 tb_c2 (by decide +kernel) (by rfl)
theorem k_474 : (Jvm.Cond.fieldLink "RainIndex$Phase" (15 : Nat) "RainIndex$Phase" "isDry" "Z") ∈ TBL := tb_m 234 tb_c2 (by decide +kernel) (by rfl)
theorem k_475 : (Jvm.Cond.fieldLink "RainIndex$Phase" (19 : Nat) "RainIndex$Phase" "trigger" "I") ∈ TBL := tb_m 235 tb_c2 (by decide +kernel) (by rfl)
theorem k_476 : (Jvm.Cond.fieldLink "RainIndex$Phase" (22 : Nat) "RainIndex$Phase" "exit" "I") ∈ TBL := tb_m 236 tb_c2 (by decide +kernel) (by rfl)
theorem k_477 : (Jvm.Cond.fieldLink "RainIndex$Phase" (25 : Nat) "RainIndex$Phase" "weight" "I") ∈ TBL := tb_m 237 tb_c2 (by decide +kernel) (by rfl)
theorem k_478 : (Jvm.Cond.fieldLink "RainIndex$Product" (55 : Nat) "RainIndex$Phase" "weight" "I") ∈ TBL := tb_m 238 tb_c2 (by decide +kernel) (by rfl)
theorem k_479 : (Jvm.Cond.laysFinal "RainIndex$Phase" "RainIndex$Phase" "days" "I") ∈ TBL := tb_m 239 tb_c2 (by decide +kernel) (by rfl)
theorem k_481 : (Jvm.Cond.laysFinal "RainIndex$Phase" "RainIndex$Phase" "isDry" "Z") ∈ TBL := tb_m 1 tb_c3 (by decide +kernel) (by rfl)
theorem k_483 : (Jvm.Cond.laysFinal "RainIndex$Phase" "RainIndex$Phase" "trigger" "I") ∈ TBL := tb_m 3 tb_c3 (by decide +kernel) (by rfl)
theorem k_485 : (Jvm.Cond.laysFinal "RainIndex$Phase" "RainIndex$Phase" "exit" "I") ∈ TBL := tb_m 5 tb_c3 (by decide +kernel) (by rfl)
theorem k_487 : (Jvm.Cond.laysFinal "RainIndex$Phase" "RainIndex$Phase" "weight" "I") ∈ TBL := tb_m 7 tb_c3 (by decide +kernel) (by rfl)
theorem k_490 : (Jvm.Cond.methodLink "RainIndexLaw" (112 : Nat) ({ cls := "RainIndexLaw", name := "product", desc := "(LRainIndex;I[J)I" } : Jvm.MethodName)) ∈ TBL := tb_m 10 tb_c3 (by decide +kernel) (by rfl)
theorem k_491 : (Jvm.Cond.static ({ cls := "RainIndexLaw", name := "product", desc := "(LRainIndex;I[J)I" } : Jvm.MethodName)) ∈ TBL := tb_m 11 tb_c3 (by decide +kernel) (by rfl)
theorem k_492 : (Jvm.Cond.codeWith ({ cls := "RainIndexLaw", name := "product", desc := "(LRainIndex;I[J)I" } : Jvm.MethodName) method_7_code (4 : Nat) (Option.some Jvm.ClassFile.FieldType.int) [((0 : Nat), (9 : Nat), (12 : Nat), (13 : Nat)), ((0 : Nat), (9 : Nat), (15 : Nat), (15 : Nat))]) ∈ TBL := tb_m 12 tb_c3 (by decide +kernel) (by rfl)
theorem k_493 : (Jvm.Cond.methodLink "RainIndexLaw" (31 : Nat) ({ cls := "RainIndex", name := "product", desc := "(I)I" } : Jvm.MethodName)) ∈ TBL := tb_m 13 tb_c3 (by decide +kernel) (by rfl)
theorem k_494 : (Jvm.Cond.instanceMethod ({ cls := "RainIndex", name := "product", desc := "(I)I" } : Jvm.MethodName)) ∈ TBL := tb_m 14 tb_c3 (by decide +kernel) (by rfl)
theorem k_495 : (Jvm.Cond.selects "RainIndex" ({ cls := "RainIndex", name := "product", desc := "(I)I" } : Jvm.MethodName) ({ cls := "RainIndex", name := "product", desc := "(I)I" } : Jvm.MethodName)) ∈ TBL := tb_m 15 tb_c3 (by decide +kernel) (by rfl)
theorem k_496 : (Jvm.Cond.code ({ cls := "RainIndex", name := "product", desc := "(I)I" } : Jvm.MethodName) prog_1_method_6_code (2 : Nat) (Option.some Jvm.ClassFile.FieldType.int)) ∈ TBL := tb_m 16 tb_c3 (by decide +kernel) (by rfl)
theorem k_497 : (Jvm.Cond.methodLink "RainIndex" (138 : Nat) ({ cls := "RainIndex", name := "testKnown", desc := "(I)V" } : Jvm.MethodName)) ∈ TBL := tb_m 17 tb_c3 (by decide +kernel) (by rfl)
theorem k_498 : (Jvm.Cond.static ({ cls := "RainIndex", name := "testKnown", desc := "(I)V" } : Jvm.MethodName)) ∈ TBL := tb_m 18 tb_c3 (by decide +kernel) (by rfl)
theorem k_499 : (Jvm.Cond.code ({ cls := "RainIndex", name := "testKnown", desc := "(I)V" } : Jvm.MethodName) prog_1_method_27_code (1 : Nat) (Option.none : Option Jvm.ClassFile.FieldType)) ∈ TBL := tb_m 19 tb_c3 (by decide +kernel) (by rfl)
theorem k_501 : (Jvm.Cond.methodLink "RainIndex" (141 : Nat) ({ cls := "java/util/ArrayList", name := "isEmpty", desc := "()Z" } : Jvm.MethodName)) ∈ TBL := tb_m 21 tb_c3 (by decide +kernel) (by rfl)
theorem k_502 : (Jvm.Cond.instanceMethod ({ cls := "java/util/ArrayList", name := "isEmpty", desc := "()Z" } : Jvm.MethodName)) ∈ TBL := tb_m 22 tb_c3 (by decide +kernel) (by rfl)
theorem k_503 : (Jvm.Cond.selects "java/util/ArrayList" ({ cls := "java/util/ArrayList", name := "isEmpty", desc := "()Z" } : Jvm.MethodName) ({ cls := "java/util/ArrayList", name := "isEmpty", desc := "()Z" } : Jvm.MethodName)) ∈ TBL := tb_m 23 tb_c3 (by decide +kernel) (by rfl)
theorem k_504 : (Jvm.Cond.code ({ cls := "java/util/ArrayList", name := "isEmpty", desc := "()Z" } : Jvm.MethodName) prog_27_method_9_code (1 : Nat) (Option.some Jvm.ClassFile.FieldType.boolean)) ∈ TBL := tb_m 24 tb_c3 (by decide +kernel) (by rfl)
theorem k_506 : (Jvm.Cond.methodLink "RainIndexLaw" (115 : Nat) ({ cls := "RainIndexLaw", name := "farm", desc := "(LRainIndex;II[J)I" } : Jvm.MethodName)) ∈ TBL := tb_m 26 tb_c3 (by decide +kernel) (by rfl)
theorem k_507 : (Jvm.Cond.static ({ cls := "RainIndexLaw", name := "farm", desc := "(LRainIndex;II[J)I" } : Jvm.MethodName)) ∈ TBL := tb_m 27 tb_c3 (by decide +kernel) (by rfl)
theorem k_508 : (Jvm.Cond.codeWith ({ cls := "RainIndexLaw", name := "farm", desc := "(LRainIndex;II[J)I" } : Jvm.MethodName) method_8_code (5 : Nat) (Option.some Jvm.ClassFile.FieldType.int) [((0 : Nat), (10 : Nat), (13 : Nat), (13 : Nat)), ((0 : Nat), (10 : Nat), (17 : Nat), (15 : Nat))]) ∈ TBL := tb_m 28 tb_c3 (by decide +kernel) (by rfl)
theorem k_509 : (Jvm.Cond.methodLink "RainIndexLaw" (34 : Nat) ({ cls := "RainIndex", name := "farm", desc := "(II)I" } : Jvm.MethodName)) ∈ TBL := tb_m 29 tb_c3 (by decide +kernel) (by rfl)
theorem k_510 : (Jvm.Cond.instanceMethod ({ cls := "RainIndex", name := "farm", desc := "(II)I" } : Jvm.MethodName)) ∈ TBL := tb_m 30 tb_c3 (by decide +kernel) (by rfl)
theorem k_511 : (Jvm.Cond.selects "RainIndex" ({ cls := "RainIndex", name := "farm", desc := "(II)I" } : Jvm.MethodName) ({ cls := "RainIndex", name := "farm", desc := "(II)I" } : Jvm.MethodName)) ∈ TBL := tb_m 31 tb_c3 (by decide +kernel) (by rfl)
theorem k_512 : (Jvm.Cond.code ({ cls := "RainIndex", name := "farm", desc := "(II)I" } : Jvm.MethodName) prog_1_method_7_code (4 : Nat) (Option.some Jvm.ClassFile.FieldType.int)) ∈ TBL := tb_m 32 tb_c3 (by decide +kernel) (by rfl)
theorem k_513 : (Jvm.Cond.methodLink "RainIndex" (150 : Nat) ({ cls := "RainIndex$Weather", name := "nearestTo", desc := "(II)LRainIndex$Station;" } : Jvm.MethodName)) ∈ TBL := tb_m 33 tb_c3 (by decide +kernel) (by rfl)
theorem k_514 : (Jvm.Cond.instanceMethod ({ cls := "RainIndex$Weather", name := "nearestTo", desc := "(II)LRainIndex$Station;" } : Jvm.MethodName)) ∈ TBL := tb_m 34 tb_c3 (by decide +kernel) (by rfl)
theorem k_515 : (Jvm.Cond.selects "RainIndex$Weather" ({ cls := "RainIndex$Weather", name := "nearestTo", desc := "(II)LRainIndex$Station;" } : Jvm.MethodName) ({ cls := "RainIndex$Weather", name := "nearestTo", desc := "(II)LRainIndex$Station;" } : Jvm.MethodName)) ∈ TBL := tb_m 35 tb_c3 (by decide +kernel) (by rfl)
theorem k_516 : (Jvm.Cond.code ({ cls := "RainIndex$Weather", name := "nearestTo", desc := "(II)LRainIndex$Station;" } : Jvm.MethodName) prog_10_method_3_code (6 : Nat) (Option.some (Jvm.ClassFile.FieldType.object "RainIndex$Station"))) ∈ TBL := tb_m 36 tb_c3 (by decide +kernel) (by rfl)
theorem k_517 : (Jvm.Cond.methodLink "RainIndex$Weather" (32 : Nat) ({ cls := "java/util/ArrayList", name := "size", desc := "()I" } : Jvm.MethodName)) ∈ TBL := tb_m 37 tb_c3 (by decide +kernel) (by rfl)
theorem k_518 : (Jvm.Cond.methodLink "RainIndex$Weather" (36 : Nat) ({ cls := "java/util/ArrayList", name := "get", desc := "(I)Ljava/lang/Object;" } : Jvm.MethodName)) ∈ TBL := tb_m 38 tb_c3 (by decide +kernel) (by rfl)
theorem k_519 : (Jvm.Cond.classLink "RainIndex$Weather" (23 : Nat) "RainIndex$Station") ∈ TBL := tb_m 39 tb_c3 (by decide +kernel) (by rfl)
theorem k_520 : (Jvm.Cond.methodLink "RainIndex$Weather" (40 : Nat) ({ cls := "RainIndex$Station", name := "distanceTo", desc := "(II)I" } : Jvm.MethodName)) ∈ TBL := tb_m 40 tb_c3 (by decide +kernel) (by rfl)
theorem k_521 : (Jvm.Cond.instanceMethod ({ cls := "RainIndex$Station", name := "distanceTo", desc := "(II)I" } : Jvm.MethodName)) ∈ TBL := tb_m 41 tb_c3 (by decide +kernel) (by rfl)
theorem k_522 : (Jvm.Cond.selects "RainIndex$Station" ({ cls := "RainIndex$Station", name := "distanceTo", desc := "(II)I" } : Jvm.MethodName) ({ cls := "RainIndex$Station", name := "distanceTo", desc := "(II)I" } : Jvm.MethodName)) ∈ TBL := tb_m 42 tb_c3 (by decide +kernel) (by rfl)
theorem k_523 : (Jvm.Cond.code ({ cls := "RainIndex$Station", name := "distanceTo", desc := "(II)I" } : Jvm.MethodName) prog_8_method_2_code (3 : Nat) (Option.some Jvm.ClassFile.FieldType.int)) ∈ TBL := tb_m 43 tb_c3 (by decide +kernel) (by rfl)
theorem k_525 : (Jvm.Cond.classLink "RainIndex" (156 : Nat) "RainIndex$Farm") ∈ TBL := tb_m 45 tb_c3 (by decide +kernel) (by rfl)
theorem k_526 : (Jvm.Cond.instantiable "RainIndex$Farm" (7 : Nat)) ∈ TBL := tb_m 46 tb_c3 (by decide +kernel) (by rfl)
theorem k_527 : (Jvm.Cond.methodLink "RainIndex" (158 : Nat) ({ cls := "RainIndex$Farm", name := "<init>", desc := "(ILRainIndex$Station;)V" } : Jvm.MethodName)) ∈ TBL := tb_m 47 tb_c3 (by decide +kernel) (by rfl)
theorem k_528 : (Jvm.Cond.instanceMethod ({ cls := "RainIndex$Farm", name := "<init>", desc := "(ILRainIndex$Station;)V" } : Jvm.MethodName)) ∈ TBL := tb_m 48 tb_c3 (by decide +kernel) (by rfl)
theorem k_529 : (Jvm.Cond.code ({ cls := "RainIndex$Farm", name := "<init>", desc := "(ILRainIndex$Station;)V" } : Jvm.MethodName) prog_4_method_1_code (3 : Nat) (Option.none : Option Jvm.ClassFile.FieldType)) ∈ TBL := tb_m 49 tb_c3 (by decide +kernel) (by rfl)
theorem k_530 : (Jvm.Cond.methodLink "RainIndex$Farm" (3 : Nat) ({ cls := "java/lang/Object", name := "<init>", desc := "()V" } : Jvm.MethodName)) ∈ TBL := tb_m 50 tb_c3 (by decide +kernel) (by rfl)
theorem k_531 : (Jvm.Cond.methodLink "RainIndex$Farm" (35 : Nat) ({ cls := "java/util/Arrays", name := "fill", desc := "([II)V" } : Jvm.MethodName)) ∈ TBL := tb_m 51 tb_c3 (by decide +kernel) (by rfl)
theorem k_532 : (Jvm.Cond.fieldLink "RainIndex$Farm" (28 : Nat) "RainIndex$Farm" "number" "I") ∈ TBL := tb_m 52 tb_c3 (by decide +kernel) (by rfl)
theorem k_533 : (Jvm.Cond.fieldLink "RainIndex$Cover" (66 : Nat) "RainIndex$Farm" "number" "I") ∈ TBL := tb_m 53 tb_c3 (by decide +kernel) (by rfl)
theorem k_534 : (Jvm.Cond.fieldLink "RainIndex$Farm" (31 : Nat) "RainIndex$Farm" "station" "LRainIndex$Station;") ∈ TBL := tb_m 54 tb_c3 (by decide +kernel) (by rfl)
theorem k_535 : (Jvm.Cond.fieldLink "RainIndex$Cover" (51 : Nat) "RainIndex$Farm" "station" "LRainIndex$Station;") ∈ TBL := tb_m 55 tb_c3 (by decide +kernel) (by rfl)
theorem k_536 : (Jvm.Cond.fieldLink "RainIndex" (199 : Nat) "RainIndex$Farm" "station" "LRainIndex$Station;") ∈ TBL := tb_m 56 tb_c3 (by decide +kernel) (by rfl)
theorem k_537 : (Jvm.Cond.fieldLink "RainIndex$Farm" (9 : Nat) "RainIndex$Farm" "losses" "[I") ∈ TBL := tb_m 57 tb_c3 (by decide +kernel) (by rfl)
theorem k_538 : (Jvm.Cond.fieldLink "RainIndex" (259 : Nat) "RainIndex$Farm" "losses" "[I") ∈ TBL := tb_m 58 tb_c3 (by decide +kernel) (by rfl)
theorem k_539 : (Jvm.Cond.fieldLink "RainIndex$Farm" (15 : Nat) "RainIndex$Farm" "trust" "I") ∈ TBL := tb_m 59 tb_c3 (by decide +kernel) (by rfl)
theorem k_540 : (Jvm.Cond.fieldLink "RainIndex" (194 : Nat) "RainIndex$Farm" "trust" "I") ∈ TBL := tb_m 60 tb_c3 (by decide +kernel) (by rfl)
theorem k_541 : (Jvm.Cond.fieldLink "RainIndex$Farm" (19 : Nat) "RainIndex$Farm" "debt" "I") ∈ TBL := tb_m 61 tb_c3 (by decide +kernel) (by rfl)
theorem k_542 : (Jvm.Cond.fieldLink "RainIndex" (167 : Nat) "RainIndex$Farm" "debt" "I") ∈ TBL := tb_m 62 tb_c3 (by decide +kernel) (by rfl)
theorem k_543 : (Jvm.Cond.fieldLink "RainIndex$Farm" (22 : Nat) "RainIndex$Farm" "got" "I") ∈ TBL := tb_m 63 tb_c3 (by decide +kernel) (by rfl)
theorem k_544 : (Jvm.Cond.fieldLink "RainIndex$Cover" (63 : Nat) "RainIndex$Farm" "got" "I") ∈ TBL := tb_m 64 tb_c3 (by decide +kernel) (by rfl)
theorem k_545 : (Jvm.Cond.fieldLink "RainIndex$Farm" (25 : Nat) "RainIndex$Farm" "spent" "I") ∈ TBL := tb_m 65 tb_c3 (by decide +kernel) (by rfl)
theorem k_546 : (Jvm.Cond.fieldLink "RainIndex" (219 : Nat) "RainIndex$Farm" "spent" "I") ∈ TBL := tb_m 66 tb_c3 (by decide +kernel) (by rfl)
theorem k_547 : (Jvm.Cond.laysFinal "RainIndex$Farm" "RainIndex$Farm" "number" "I") ∈ TBL := tb_m 67 tb_c3 (by decide +kernel) (by rfl)
theorem k_549 : (Jvm.Cond.laysFinal "RainIndex$Farm" "RainIndex$Farm" "station" "LRainIndex$Station;") ∈ TBL := tb_m 69 tb_c3 (by decide +kernel) (by rfl)
theorem k_551 : (Jvm.Cond.laysFinal "RainIndex$Farm" "RainIndex$Farm" "losses" "[I") ∈ TBL := tb_m 71 tb_c3 (by decide +kernel) (by rfl)
theorem k_553 : (Jvm.Cond.lays "RainIndex$Farm" "RainIndex$Farm" "trust" "I") ∈ TBL := tb_m 73 tb_c3 (by decide +kernel) (by rfl)
theorem k_555 : (Jvm.Cond.lays "RainIndex$Farm" "RainIndex$Farm" "debt" "I") ∈ TBL := tb_m 75 tb_c3 (by decide +kernel) (by rfl)
theorem k_557 : (Jvm.Cond.lays "RainIndex$Farm" "RainIndex$Farm" "got" "I") ∈ TBL := tb_m 77 tb_c3 (by decide +kernel) (by rfl)
theorem k_559 : (Jvm.Cond.lays "RainIndex$Farm" "RainIndex$Farm" "spent" "I") ∈ TBL := tb_m 79 tb_c3 (by decide +kernel) (by rfl)
theorem k_562 : (Jvm.Cond.methodLink "RainIndexLaw" (118 : Nat) ({ cls := "RainIndexLaw", name := "lend", desc := "(LRainIndex;II[J)I" } : Jvm.MethodName)) ∈ TBL := tb_m 82 tb_c3 (by decide +kernel) (by rfl)
theorem k_563 : (Jvm.Cond.static ({ cls := "RainIndexLaw", name := "lend", desc := "(LRainIndex;II[J)I" } : Jvm.MethodName)) ∈ TBL := tb_m 83 tb_c3 (by decide +kernel) (by rfl)
theorem k_564 : (Jvm.Cond.codeWith ({ cls := "RainIndexLaw", name := "lend", desc := "(LRainIndex;II[J)I" } : Jvm.MethodName) method_9_code (5 : Nat) (Option.some Jvm.ClassFile.FieldType.int) [((0 : Nat), (10 : Nat), (13 : Nat), (21 : Nat)), ((0 : Nat), (10 : Nat), (17 : Nat), (13 : Nat)), ((0 : Nat), (10 : Nat), (21 : Nat), (15 : Nat))]) ∈ TBL := tb_m 84 tb_c3 (by decide +kernel) (by rfl)
theorem k_565 : (Jvm.Cond.methodLink "RainIndexLaw" (37 : Nat) ({ cls := "RainIndex", name := "lend", desc := "(II)I" } : Jvm.MethodName)) ∈ TBL := tb_m 85 tb_c3 (by decide +kernel) (by rfl)
theorem k_566 : (Jvm.Cond.instanceMethod ({ cls := "RainIndex", name := "lend", desc := "(II)I" } : Jvm.MethodName)) ∈ TBL := tb_m 86 tb_c3 (by decide +kernel) (by rfl)
theorem k_567 : (Jvm.Cond.selects "RainIndex" ({ cls := "RainIndex", name := "lend", desc := "(II)I" } : Jvm.MethodName) ({ cls := "RainIndex", name := "lend", desc := "(II)I" } : Jvm.MethodName)) ∈ TBL := tb_m 87 tb_c3 (by decide +kernel) (by rfl)
theorem k_568 : (Jvm.Cond.code ({ cls := "RainIndex", name := "lend", desc := "(II)I" } : Jvm.MethodName) prog_1_method_8_code (4 : Nat) (Option.some Jvm.ClassFile.FieldType.int)) ∈ TBL := tb_m 88 tb_c3 (by decide +kernel) (by rfl)
theorem k_569 : (Jvm.Cond.methodLink "RainIndex" (161 : Nat) ({ cls := "RainIndex", name := "farmNumbered", desc := "(I)LRainIndex$Farm;" } : Jvm.MethodName)) ∈ TBL := tb_m 89 tb_c3 (by decide +kernel) (by rfl)
theorem k_571 : (Jvm.Cond.instanceMethod ({ cls := "RainIndex", name := "farmNumbered", desc := "(I)LRainIndex$Farm;" } : Jvm.MethodName)) ∈ TBL := tb_m 91 tb_c3 (by decide +kernel) (by rfl)
theorem k_572 : (Jvm.Cond.code ({ cls := "RainIndex", name := "farmNumbered", desc := "(I)LRainIndex$Farm;" } : Jvm.MethodName) prog_1_method_32_code (2 : Nat) (Option.some (Jvm.ClassFile.FieldType.object "RainIndex$Farm"))) ∈ TBL := tb_m 92 tb_c3 (by decide +kernel) (by rfl)
theorem k_575 : (Jvm.Cond.constant "RainIndex" (170 : Nat) (99999 : Int32)) ∈ TBL := tb_m 95 tb_c3 (by decide +kernel) (by rfl)
theorem k_577 : (Jvm.Cond.methodLink "RainIndexLaw" (121 : Nat) ({ cls := "RainIndexLaw", name := "loading", desc := "(LRainIndex;I[J)I" } : Jvm.MethodName)) ∈ TBL := tb_m 97 tb_c3 (by decide +kernel) (by rfl)
theorem k_578 : (Jvm.Cond.static ({ cls := "RainIndexLaw", name := "loading", desc := "(LRainIndex;I[J)I" } : Jvm.MethodName)) ∈ TBL := tb_m 98 tb_c3 (by decide +kernel) (by rfl)
theorem k_579 : (Jvm.Cond.codeWith ({ cls := "RainIndexLaw", name := "loading", desc := "(LRainIndex;I[J)I" } : Jvm.MethodName) method_10_code (4 : Nat) (Option.some Jvm.ClassFile.FieldType.int) [((0 : Nat), (9 : Nat), (12 : Nat), (13 : Nat))]) ∈ TBL := tb_m 99 tb_c3 (by decide +kernel) (by rfl)
theorem k_580 : (Jvm.Cond.methodLink "RainIndexLaw" (40 : Nat) ({ cls := "RainIndex", name := "loading", desc := "(I)I" } : Jvm.MethodName)) ∈ TBL := tb_m 100 tb_c3 (by decide +kernel) (by rfl)
theorem k_581 : (Jvm.Cond.instanceMethod ({ cls := "RainIndex", name := "loading", desc := "(I)I" } : Jvm.MethodName)) ∈ TBL := tb_m 101 tb_c3 (by decide +kernel) (by rfl)
theorem k_582 : (Jvm.Cond.selects "RainIndex" ({ cls := "RainIndex", name := "loading", desc := "(I)I" } : Jvm.MethodName) ({ cls := "RainIndex", name := "loading", desc := "(I)I" } : Jvm.MethodName)) ∈ TBL := tb_m 102 tb_c3 (by decide +kernel) (by rfl)
theorem k_583 : (Jvm.Cond.code ({ cls := "RainIndex", name := "loading", desc := "(I)I" } : Jvm.MethodName) prog_1_method_9_code (3 : Nat) (Option.some Jvm.ClassFile.FieldType.int)) ∈ TBL := tb_m 103 tb_c3 (by decide +kernel) (by rfl)
theorem k_585 : (Jvm.Cond.methodLink "RainIndexLaw" (124 : Nat) ({ cls := "RainIndexLaw", name := "layer", desc := "(LRainIndex;II[J)I" } : Jvm.MethodName)) ∈ TBL := tb_m 105 tb_c3 (by decide +kernel) (by rfl)
theorem k_586 : (Jvm.Cond.static ({ cls := "RainIndexLaw", name := "layer", desc := "(LRainIndex;II[J)I" } : Jvm.MethodName)) ∈ TBL := tb_m 106 tb_c3 (by decide +kernel) (by rfl)
theorem k_587 : (Jvm.Cond.codeWith ({ cls := "RainIndexLaw", name := "layer", desc := "(LRainIndex;II[J)I" } : Jvm.MethodName) method_11_code (5 : Nat) (Option.some Jvm.ClassFile.FieldType.int) [((0 : Nat), (10 : Nat), (13 : Nat), (13 : Nat))]) ∈ TBL := tb_m 107 tb_c3 (by decide +kernel) (by rfl)
theorem k_588 : (Jvm.Cond.methodLink "RainIndexLaw" (43 : Nat) ({ cls := "RainIndex", name := "layer", desc := "(II)I" } : Jvm.MethodName)) ∈ TBL := tb_m 108 tb_c3 (by decide +kernel) (by rfl)
theorem k_589 : (Jvm.Cond.instanceMethod ({ cls := "RainIndex", name := "layer", desc := "(II)I" } : Jvm.MethodName)) ∈ TBL := tb_m 109 tb_c3 (by decide +kernel) (by rfl)
theorem k_590 : (Jvm.Cond.selects "RainIndex" ({ cls := "RainIndex", name := "layer", desc := "(II)I" } : Jvm.MethodName) ({ cls := "RainIndex", name := "layer", desc := "(II)I" } : Jvm.MethodName)) ∈ TBL := tb_m 110 tb_c3 (by decide +kernel) (by rfl)
theorem k_591 : (Jvm.Cond.code ({ cls := "RainIndex", name := "layer", desc := "(II)I" } : Jvm.MethodName) prog_1_method_10_code (4 : Nat) (Option.some Jvm.ClassFile.FieldType.int)) ∈ TBL := tb_m 111 tb_c3 (by decide +kernel) (by rfl)
theorem k_593 : (Jvm.Cond.methodLink "RainIndexLaw" (127 : Nat) ({ cls := "RainIndexLaw", name := "sell", desc := "(LRainIndex;IIII[J)I" } : Jvm.MethodName)) ∈ TBL := tb_m 113 tb_c3 (by decide +kernel) (by rfl)
theorem k_594 : (Jvm.Cond.static ({ cls := "RainIndexLaw", name := "sell", desc := "(LRainIndex;IIII[J)I" } : Jvm.MethodName)) ∈ TBL := tb_m 114 tb_c3 (by decide +kernel) (by rfl)
theorem k_595 : (Jvm.Cond.codeWith ({ cls := "RainIndexLaw", name := "sell", desc := "(LRainIndex;IIII[J)I" } : Jvm.MethodName) method_12_code (7 : Nat) (Option.some Jvm.ClassFile.FieldType.int) [((0 : Nat), (14 : Nat), (17 : Nat), (21 : Nat)), ((0 : Nat), (14 : Nat), (21 : Nat), (13 : Nat)), ((0 : Nat), (14 : Nat), (25 : Nat), (15 : Nat))]) ∈ TBL := tb_m 115 tb_c3 (by decide +kernel) (by rfl)
theorem k_596 : (Jvm.Cond.methodLink "RainIndexLaw" (46 : Nat) ({ cls := "RainIndex", name := "sell", desc := "(IIII)I" } : Jvm.MethodName)) ∈ TBL := tb_m 116 tb_c3 (by decide +kernel) (by rfl)
theorem k_597 : (Jvm.Cond.instanceMethod ({ cls := "RainIndex", name := "sell", desc := "(IIII)I" } : Jvm.MethodName)) ∈ TBL := tb_m 117 tb_c3 (by decide +kernel) (by rfl)
theorem k_598 : (Jvm.Cond.selects "RainIndex" ({ cls := "RainIndex", name := "sell", desc := "(IIII)I" } : Jvm.MethodName) ({ cls := "RainIndex", name := "sell", desc := "(IIII)I" } : Jvm.MethodName)) ∈ TBL := tb_m 118 tb_c3 (by decide +kernel) (by rfl)
theorem k_599 : (Jvm.Cond.code ({ cls := "RainIndex", name := "sell", desc := "(IIII)I" } : Jvm.MethodName) prog_1_method_11_code (9 : Nat) (Option.some Jvm.ClassFile.FieldType.int)) ∈ TBL := tb_m 119 tb_c3 (by decide +kernel) (by rfl)
theorem k_600 : (Jvm.Cond.methodLink "RainIndex" (177 : Nat) ({ cls := "RainIndex", name := "productNumbered", desc := "(I)LRainIndex$Product;" } : Jvm.MethodName)) ∈ TBL := tb_m 120 tb_c3 (by decide +kernel) (by rfl)
theorem k_602 : (Jvm.Cond.instanceMethod ({ cls := "RainIndex", name := "productNumbered", desc := "(I)LRainIndex$Product;" } : Jvm.MethodName)) ∈ TBL := tb_m 122 tb_c3 (by decide +kernel) (by rfl)
theorem k_603 : (Jvm.Cond.code ({ cls := "RainIndex", name := "productNumbered", desc := "(I)LRainIndex$Product;" } : Jvm.MethodName) prog_1_method_31_code (2 : Nat) (Option.some (Jvm.ClassFile.FieldType.object "RainIndex$Product"))) ∈ TBL := tb_m 123 tb_c3 (by decide +kernel) (by rfl)
theorem k_605 : (Jvm.Cond.methodLink "RainIndex" (181 : Nat) ({ cls := "RainIndex", name := "testSeason", desc := "(I)V" } : Jvm.MethodName)) ∈ TBL := tb_m 125 tb_c3 (by decide +kernel) (by rfl)
theorem k_606 : (Jvm.Cond.static ({ cls := "RainIndex", name := "testSeason", desc := "(I)V" } : Jvm.MethodName)) ∈ TBL := tb_m 126 tb_c3 (by decide +kernel) (by rfl)
theorem k_607 : (Jvm.Cond.code ({ cls := "RainIndex", name := "testSeason", desc := "(I)V" } : Jvm.MethodName) prog_1_method_29_code (1 : Nat) (Option.none : Option Jvm.ClassFile.FieldType)) ∈ TBL := tb_m 127 tb_c3 (by decide +kernel) (by rfl)
theorem k_610 : (Jvm.Cond.methodLink "RainIndex" (186 : Nat) ({ cls := "RainIndex", name := "isOnSale", desc := "(I)Z" } : Jvm.MethodName)) ∈ TBL := tb_m 130 tb_c3 (by decide +kernel) (by rfl)
theorem k_612 : (Jvm.Cond.instanceMethod ({ cls := "RainIndex", name := "isOnSale", desc := "(I)Z" } : Jvm.MethodName)) ∈ TBL := tb_m 132 tb_c3 (by decide +kernel) (by rfl)
theorem k_613 : (Jvm.Cond.code ({ cls := "RainIndex", name := "isOnSale", desc := "(I)Z" } : Jvm.MethodName) prog_1_method_37_code (2 : Nat) (Option.some Jvm.ClassFile.FieldType.boolean)) ∈ TBL := tb_m 133 tb_c3 (by decide +kernel) (by rfl)
theorem k_614 : (Jvm.Cond.methodLink "RainIndex" (284 : Nat) ({ cls := "RainIndex", name := "firstDay", desc := "(I)I" } : Jvm.MethodName)) ∈ TBL := tb_m 134 tb_c3 (by decide +kernel) (by rfl)
theorem k_615 : (Jvm.Cond.static ({ cls := "RainIndex", name := "firstDay", desc := "(I)I" } : Jvm.MethodName)) ∈ TBL := tb_m 135 tb_c3 (by decide +kernel) (by rfl)
theorem k_616 : (Jvm.Cond.code ({ cls := "RainIndex", name := "firstDay", desc := "(I)I" } : Jvm.MethodName) prog_1_method_34_code (1 : Nat) (Option.some Jvm.ClassFile.FieldType.int)) ∈ TBL := tb_m 136 tb_c3 (by decide +kernel) (by rfl)
theorem k_617 : (Jvm.Cond.methodLink "RainIndex" (190 : Nat) ({ cls := "RainIndex", name := "coverOf", desc := "(LRainIndex$Farm;I)LRainIndex$Cover;" } : Jvm.MethodName)) ∈ TBL := tb_m 137 tb_c3 (by decide +kernel) (by rfl)
theorem k_619 : (Jvm.Cond.instanceMethod ({ cls := "RainIndex", name := "coverOf", desc := "(LRainIndex$Farm;I)LRainIndex$Cover;" } : Jvm.MethodName)) ∈ TBL := tb_m 139 tb_c3 (by decide +kernel) (by rfl)
theorem k_620 : (Jvm.Cond.code ({ cls := "RainIndex", name := "coverOf", desc := "(LRainIndex$Farm;I)LRainIndex$Cover;" } : Jvm.MethodName) prog_1_method_42_code (5 : Nat) (Option.some (Jvm.ClassFile.FieldType.object "RainIndex$Cover"))) ∈ TBL := tb_m 140 tb_c3 (by decide +kernel) (by rfl)
theorem k_621 : (Jvm.Cond.classLink "RainIndex" (214 : Nat) "RainIndex$Cover") ∈ TBL := tb_m 141 tb_c3 (by decide +kernel) (by rfl)
theorem k_623 : (Jvm.Cond.methodLink "RainIndex" (203 : Nat) ({ cls := "RainIndex", name := "pricesRate", desc := "(LRainIndex$Station;LRainIndex$Product;)I" } : Jvm.MethodName)) ∈ TBL := tb_m 143 tb_c3 (by decide +kernel) (by rfl)
theorem k_625 : (Jvm.Cond.instanceMethod ({ cls := "RainIndex", name := "pricesRate", desc := "(LRainIndex$Station;LRainIndex$Product;)I" } : Jvm.MethodName)) ∈ TBL := tb_m 145 tb_c3 (by decide +kernel) (by rfl)
theorem k_626 : (Jvm.Cond.code ({ cls := "RainIndex", name := "pricesRate", desc := "(LRainIndex$Station;LRainIndex$Product;)I" } : Jvm.MethodName) prog_1_method_39_code (6 : Nat) (Option.some Jvm.ClassFile.FieldType.int)) ∈ TBL := tb_m 146 tb_c3 (by decide +kernel) (by rfl)
theorem k_627 : (Jvm.Cond.methodLink "RainIndex" (228 : Nat) ({ cls := "RainIndex", name := "isOver", desc := "(I)Z" } : Jvm.MethodName)) ∈ TBL := tb_m 147 tb_c3 (by decide +kernel) (by rfl)
theorem k_629 : (Jvm.Cond.instanceMethod ({ cls := "RainIndex", name := "isOver", desc := "(I)Z" } : Jvm.MethodName)) ∈ TBL := tb_m 149 tb_c3 (by decide +kernel) (by rfl)
theorem k_630 : (Jvm.Cond.code ({ cls := "RainIndex", name := "isOver", desc := "(I)Z" } : Jvm.MethodName) prog_1_method_36_code (2 : Nat) (Option.some Jvm.ClassFile.FieldType.boolean)) ∈ TBL := tb_m 150 tb_c3 (by decide +kernel) (by rfl)
theorem k_631 : (Jvm.Cond.methodLink "RainIndex" (304 : Nat) ({ cls := "RainIndex", name := "rateBy", desc := "(LRainIndex$Station;ILRainIndex$Product;I)I" } : Jvm.MethodName)) ∈ TBL := tb_m 151 tb_c3 (by decide +kernel) (by rfl)
theorem k_633 : (Jvm.Cond.instanceMethod ({ cls := "RainIndex", name := "rateBy", desc := "(LRainIndex$Station;ILRainIndex$Product;I)I" } : Jvm.MethodName)) ∈ TBL := tb_m 153 tb_c3 (by decide +kernel) (by rfl)
theorem k_634 : (Jvm.Cond.code ({ cls := "RainIndex", name := "rateBy", desc := "(LRainIndex$Station;ILRainIndex$Product;I)I" } : Jvm.MethodName) prog_1_method_38_code (5 : Nat) (Option.some Jvm.ClassFile.FieldType.int)) ∈ TBL := tb_m 154 tb_c3 (by decide +kernel) (by rfl)
theorem k_635 : (Jvm.Cond.methodLink "RainIndex" (278 : Nat) ({ cls := "RainIndex$SeasonRain", name := "fill", desc := "(LRainIndex$Weather;LRainIndex$Station;III)V" } : Jvm.MethodName)) ∈ TBL := tb_m 155 tb_c3 (by decide +kernel) (by rfl)
theorem k_636 : (Jvm.Cond.instanceMethod ({ cls := "RainIndex$SeasonRain", name := "fill", desc := "(LRainIndex$Weather;LRainIndex$Station;III)V" } : Jvm.MethodName)) ∈ TBL := tb_m 156 tb_c3 (by decide +kernel) (by rfl)
theorem k_637 : (Jvm.Cond.selects "RainIndex$SeasonRain" ({ cls := "RainIndex$SeasonRain", name := "fill", desc := "(LRainIndex$Weather;LRainIndex$Station;III)V" } : Jvm.MethodName) ({ cls := "RainIndex$SeasonRain", name := "fill", desc := "(LRainIndex$Weather;LRainIndex$Station;III)V" } : Jvm.MethodName)) ∈ TBL := tb_m 157 tb_c3 (by decide +kernel) (by rfl)
theorem k_638 : (Jvm.Cond.code ({ cls := "RainIndex$SeasonRain", name := "fill", desc := "(LRainIndex$Weather;LRainIndex$Station;III)V" } : Jvm.MethodName) prog_7_method_2_code (7 : Nat) (Option.none : Option Jvm.ClassFile.FieldType)) ∈ TBL := tb_m 158 tb_c3 (by decide +kernel) (by rfl)
theorem k_640 : (Jvm.Cond.methodLink "RainIndex$SeasonRain" (19 : Nat) ({ cls := "RainIndex$Weather", name := "rainOn", desc := "(LRainIndex$Station;III)I" } : Jvm.MethodName)) ∈ TBL := tb_m 160 tb_c3 (by decide +kernel) (by rfl)
theorem k_641 : (Jvm.Cond.instanceMethod ({ cls := "RainIndex$Weather", name := "rainOn", desc := "(LRainIndex$Station;III)I" } : Jvm.MethodName)) ∈ TBL := tb_m 161 tb_c3 (by decide +kernel) (by rfl)
theorem k_642 : (Jvm.Cond.selects "RainIndex$Weather" ({ cls := "RainIndex$Weather", name := "rainOn", desc := "(LRainIndex$Station;III)I" } : Jvm.MethodName) ({ cls := "RainIndex$Weather", name := "rainOn", desc := "(LRainIndex$Station;III)I" } : Jvm.MethodName)) ∈ TBL := tb_m 162 tb_c3 (by decide +kernel) (by rfl)
theorem k_643 : (Jvm.Cond.code ({ cls := "RainIndex$Weather", name := "rainOn", desc := "(LRainIndex$Station;III)I" } : Jvm.MethodName) prog_10_method_4_code (10 : Nat) (Option.some Jvm.ClassFile.FieldType.int)) ∈ TBL := tb_m 163 tb_c3 (by decide +kernel) (by rfl)
theorem k_644 : (Jvm.Cond.methodLink "RainIndex" (354 : Nat) ({ cls := "RainIndex$Product", name := "rateIn", desc := "(LRainIndex$SeasonRain;)I" } : Jvm.MethodName)) ∈ TBL := tb_m 164 tb_c3 (by decide +kernel) (by rfl)
theorem k_645 : (Jvm.Cond.instanceMethod ({ cls := "RainIndex$Product", name := "rateIn", desc := "(LRainIndex$SeasonRain;)I" } : Jvm.MethodName)) ∈ TBL := tb_m 165 tb_c3 (by decide +kernel) (by rfl)
theorem k_646 : (Jvm.Cond.selects "RainIndex$Product" ({ cls := "RainIndex$Product", name := "rateIn", desc := "(LRainIndex$SeasonRain;)I" } : Jvm.MethodName) ({ cls := "RainIndex$Product", name := "rateIn", desc := "(LRainIndex$SeasonRain;)I" } : Jvm.MethodName)) ∈ TBL := tb_m 166 tb_c3 (by decide +kernel) (by rfl)
theorem k_647 : (Jvm.Cond.code ({ cls := "RainIndex$Product", name := "rateIn", desc := "(LRainIndex$SeasonRain;)I" } : Jvm.MethodName) prog_6_method_3_code (6 : Nat) (Option.some Jvm.ClassFile.FieldType.int)) ∈ TBL := tb_m 167 tb_c3 (by decide +kernel) (by rfl)
theorem k_648 : (Jvm.Cond.methodLink "RainIndex$Product" (43 : Nat) ({ cls := "RainIndex$Product", name := "startOf", desc := "(ILRainIndex$SeasonRain;)I" } : Jvm.MethodName)) ∈ TBL := tb_m 168 tb_c3 (by decide +kernel) (by rfl)
theorem k_649 : (Jvm.Cond.instanceMethod ({ cls := "RainIndex$Product", name := "startOf", desc := "(ILRainIndex$SeasonRain;)I" } : Jvm.MethodName)) ∈ TBL := tb_m 169 tb_c3 (by decide +kernel) (by rfl)
theorem k_650 : (Jvm.Cond.selects "RainIndex$Product" ({ cls := "RainIndex$Product", name := "startOf", desc := "(ILRainIndex$SeasonRain;)I" } : Jvm.MethodName) ({ cls := "RainIndex$Product", name := "startOf", desc := "(ILRainIndex$SeasonRain;)I" } : Jvm.MethodName)) ∈ TBL := tb_m 170 tb_c3 (by decide +kernel) (by rfl)
theorem k_651 : (Jvm.Cond.code ({ cls := "RainIndex$Product", name := "startOf", desc := "(ILRainIndex$SeasonRain;)I" } : Jvm.MethodName) prog_6_method_2_code (6 : Nat) (Option.some Jvm.ClassFile.FieldType.int)) ∈ TBL := tb_m 171 tb_c3 (by decide +kernel) (by rfl)
theorem k_652 : (Jvm.Cond.methodLink "RainIndex$Product" (25 : Nat) ({ cls := "RainIndex$SeasonRain", name := "start", desc := "()I" } : Jvm.MethodName)) ∈ TBL := tb_m 172 tb_c3 (by decide +kernel) (by rfl)
theorem k_653 : (Jvm.Cond.instanceMethod ({ cls := "RainIndex$SeasonRain", name := "start", desc := "()I" } : Jvm.MethodName)) ∈ TBL := tb_m 173 tb_c3 (by decide +kernel) (by rfl)
theorem k_654 : (Jvm.Cond.selects "RainIndex$SeasonRain" ({ cls := "RainIndex$SeasonRain", name := "start", desc := "()I" } : Jvm.MethodName) ({ cls := "RainIndex$SeasonRain", name := "start", desc := "()I" } : Jvm.MethodName)) ∈ TBL := tb_m 174 tb_c3 (by decide +kernel) (by rfl)
theorem k_655 : (Jvm.Cond.code ({ cls := "RainIndex$SeasonRain", name := "start", desc := "()I" } : Jvm.MethodName) prog_7_method_5_code (2 : Nat) (Option.some Jvm.ClassFile.FieldType.int)) ∈ TBL := tb_m 175 tb_c3 (by decide +kernel) (by rfl)
theorem k_656 : (Jvm.Cond.methodLink "RainIndex$SeasonRain" (31 : Nat) ({ cls := "RainIndex$SeasonRain", name := "sum", desc := "(II)I" } : Jvm.MethodName)) ∈ TBL := tb_m 176 tb_c3 (by decide +kernel) (by rfl)
theorem k_657 : (Jvm.Cond.instanceMethod ({ cls := "RainIndex$SeasonRain", name := "sum", desc := "(II)I" } : Jvm.MethodName)) ∈ TBL := tb_m 177 tb_c3 (by decide +kernel) (by rfl)
theorem k_658 : (Jvm.Cond.selects "RainIndex$SeasonRain" ({ cls := "RainIndex$SeasonRain", name := "sum", desc := "(II)I" } : Jvm.MethodName) ({ cls := "RainIndex$SeasonRain", name := "sum", desc := "(II)I" } : Jvm.MethodName)) ∈ TBL := tb_m 178 tb_c3 (by decide +kernel) (by rfl)
theorem k_659 : (Jvm.Cond.code ({ cls := "RainIndex$SeasonRain", name := "sum", desc := "(II)I" } : Jvm.MethodName) prog_7_method_3_code (5 : Nat) (Option.some Jvm.ClassFile.FieldType.int)) ∈ TBL := tb_m 179 tb_c3 (by decide +kernel) (by rfl)
theorem k_660 : (Jvm.Cond.methodLink "RainIndex$SeasonRain" (25 : Nat) ({ cls := "java/lang/Math", name := "max", desc := "(II)I" } : Jvm.MethodName)) ∈ TBL := tb_m 180 tb_c3 (by decide +kernel) (by rfl)
theorem k_661 : (Jvm.Cond.methodLink "RainIndex$SeasonRain" (34 : Nat) ({ cls := "RainIndex$SeasonRain", name := "drySpell", desc := "(II)I" } : Jvm.MethodName)) ∈ TBL := tb_m 181 tb_c3 (by decide +kernel) (by rfl)
theorem k_662 : (Jvm.Cond.instanceMethod ({ cls := "RainIndex$SeasonRain", name := "drySpell", desc := "(II)I" } : Jvm.MethodName)) ∈ TBL := tb_m 182 tb_c3 (by decide +kernel) (by rfl)
theorem k_663 : (Jvm.Cond.selects "RainIndex$SeasonRain" ({ cls := "RainIndex$SeasonRain", name := "drySpell", desc := "(II)I" } : Jvm.MethodName) ({ cls := "RainIndex$SeasonRain", name := "drySpell", desc := "(II)I" } : Jvm.MethodName)) ∈ TBL := tb_m 183 tb_c3 (by decide +kernel) (by rfl)
theorem k_664 : (Jvm.Cond.code ({ cls := "RainIndex$SeasonRain", name := "drySpell", desc := "(II)I" } : Jvm.MethodName) prog_7_method_4_code (6 : Nat) (Option.some Jvm.ClassFile.FieldType.int)) ∈ TBL := tb_m 184 tb_c3 (by decide +kernel) (by rfl)
theorem k_665 : (Jvm.Cond.methodLink "RainIndex$Product" (31 : Nat) ({ cls := "java/util/ArrayList", name := "size", desc := "()I" } : Jvm.MethodName)) ∈ TBL := tb_m 185 tb_c3 (by decide +kernel) (by rfl)
theorem k_666 : (Jvm.Cond.methodLink "RainIndex$Product" (34 : Nat) ({ cls := "java/util/ArrayList", name := "get", desc := "(I)Ljava/lang/Object;" } : Jvm.MethodName)) ∈ TBL := tb_m 186 tb_c3 (by decide +kernel) (by rfl)
theorem k_667 : (Jvm.Cond.classLink "RainIndex$Product" (38 : Nat) "RainIndex$Phase") ∈ TBL := tb_m 187 tb_c3 (by decide +kernel) (by rfl)
theorem k_668 : (Jvm.Cond.methodLink "RainIndex$Product" (47 : Nat) ({ cls := "RainIndex$Phase", name := "look", desc := "(LRainIndex$SeasonRain;I)I" } : Jvm.MethodName)) ∈ TBL := tb_m 188 tb_c3 (by decide +kernel) (by rfl)
theorem k_669 : (Jvm.Cond.instanceMethod ({ cls := "RainIndex$Phase", name := "look", desc := "(LRainIndex$SeasonRain;I)I" } : Jvm.MethodName)) ∈ TBL := tb_m 189 tb_c3 (by decide +kernel) (by rfl)
theorem k_670 : (Jvm.Cond.selects "RainIndex$Phase" ({ cls := "RainIndex$Phase", name := "look", desc := "(LRainIndex$SeasonRain;I)I" } : Jvm.MethodName) ({ cls := "RainIndex$Phase", name := "look", desc := "(LRainIndex$SeasonRain;I)I" } : Jvm.MethodName)) ∈ TBL := tb_m 190 tb_c3 (by decide +kernel) (by rfl)
theorem k_671 : (Jvm.Cond.code ({ cls := "RainIndex$Phase", name := "look", desc := "(LRainIndex$SeasonRain;I)I" } : Jvm.MethodName) prog_5_method_2_code (3 : Nat) (Option.some Jvm.ClassFile.FieldType.int)) ∈ TBL := tb_m 191 tb_c3 (by decide +kernel) (by rfl)
theorem k_672 : (Jvm.Cond.methodLink "RainIndex$Phase" (28 : Nat) ({ cls := "RainIndex$SeasonRain", name := "drySpell", desc := "(II)I" } : Jvm.MethodName)) ∈ TBL := tb_m 192 tb_c3 (by decide +kernel) (by rfl)
theorem k_673 : (Jvm.Cond.methodLink "RainIndex$Phase" (34 : Nat) ({ cls := "RainIndex$SeasonRain", name := "sum", desc := "(II)I" } : Jvm.MethodName)) ∈ TBL := tb_m 193 tb_c3 (by decide +kernel) (by rfl)
theorem k_674 : (Jvm.Cond.methodLink "RainIndex$Product" (51 : Nat) ({ cls := "RainIndex$Phase", name := "pays", desc := "(I)I" } : Jvm.MethodName)) ∈ TBL := tb_m 194 tb_c3 (by decide +kernel) (by rfl)
theorem k_675 : (Jvm.Cond.instanceMethod ({ cls := "RainIndex$Phase", name := "pays", desc := "(I)I" } : Jvm.MethodName)) ∈ TBL := tb_m 195 tb_c3 (by decide +kernel) (by rfl)
theorem k_676 : (Jvm.Cond.selects "RainIndex$Phase" ({ cls := "RainIndex$Phase", name := "pays", desc := "(I)I" } : Jvm.MethodName) ({ cls := "RainIndex$Phase", name := "pays", desc := "(I)I" } : Jvm.MethodName)) ∈ TBL := tb_m 196 tb_c3 (by decide +kernel) (by rfl)
theorem k_677 : (Jvm.Cond.code ({ cls := "RainIndex$Phase", name := "pays", desc := "(I)I" } : Jvm.MethodName) prog_5_method_3_code (4 : Nat) (Option.some Jvm.ClassFile.FieldType.int)) ∈ TBL := tb_m 197 tb_c3 (by decide +kernel) (by rfl)
theorem k_678 : (Jvm.Cond.methodLink "RainIndex$Product" (58 : Nat) ({ cls := "java/lang/Math", name := "min", desc := "(II)I" } : Jvm.MethodName)) ∈ TBL := tb_m 198 tb_c3 (by decide +kernel) (by rfl)
theorem k_679 : (Jvm.Cond.methodLink "RainIndex" (207 : Nat) ({ cls := "RainIndex", name := "priceOf", desc := "(II)I" } : Jvm.MethodName)) ∈ TBL := tb_m 199 tb_c3 (by decide +kernel) (by rfl)
theorem k_681 : (Jvm.Cond.instanceMethod ({ cls := "RainIndex", name := "priceOf", desc := "(II)I" } : Jvm.MethodName)) ∈ TBL := tb_m 201 tb_c3 (by decide +kernel) (by rfl)
theorem k_682 : (Jvm.Cond.code ({ cls := "RainIndex", name := "priceOf", desc := "(II)I" } : Jvm.MethodName) prog_1_method_40_code (4 : Nat) (Option.some Jvm.ClassFile.FieldType.int)) ∈ TBL := tb_m 202 tb_c3 (by decide +kernel) (by rfl)
theorem k_683 : (Jvm.Cond.methodLink "RainIndex" (211 : Nat) ({ cls := "RainIndex", name := "stateShare", desc := "(II)I" } : Jvm.MethodName)) ∈ TBL := tb_m 203 tb_c3 (by decide +kernel) (by rfl)
theorem k_684 : (Jvm.Cond.static ({ cls := "RainIndex", name := "stateShare", desc := "(II)I" } : Jvm.MethodName)) ∈ TBL := tb_m 204 tb_c3 (by decide +kernel) (by rfl)
theorem k_685 : (Jvm.Cond.code ({ cls := "RainIndex", name := "stateShare", desc := "(II)I" } : Jvm.MethodName) prog_1_method_41_code (2 : Nat) (Option.some Jvm.ClassFile.FieldType.int)) ∈ TBL := tb_m 205 tb_c3 (by decide +kernel) (by rfl)
theorem k_686 : (Jvm.Cond.methodLink "RainIndex" (251 : Nat) ({ cls := "java/lang/Math", name := "min", desc := "(II)I" } : Jvm.MethodName)) ∈ TBL := tb_m 206 tb_c3 (by decide +kernel) (by rfl)
theorem k_687 : (Jvm.Cond.instantiable "RainIndex$Cover" (12 : Nat)) ∈ TBL := tb_m 207 tb_c3 (by decide +kernel) (by rfl)
theorem k_688 : (Jvm.Cond.methodLink "RainIndex" (216 : Nat) ({ cls := "RainIndex$Cover", name := "<init>", desc := "(LRainIndex$Farm;LRainIndex$Product;IIII)V" } : Jvm.MethodName)) ∈ TBL := tb_m 208 tb_c3 (by decide +kernel) (by rfl)
theorem k_689 : (Jvm.Cond.instanceMethod ({ cls := "RainIndex$Cover", name := "<init>", desc := "(LRainIndex$Farm;LRainIndex$Product;IIII)V" } : Jvm.MethodName)) ∈ TBL := tb_m 209 tb_c3 (by decide +kernel) (by rfl)
theorem k_690 : (Jvm.Cond.code ({ cls := "RainIndex$Cover", name := "<init>", desc := "(LRainIndex$Farm;LRainIndex$Product;IIII)V" } : Jvm.MethodName) prog_3_method_1_code (7 : Nat) (Option.none : Option Jvm.ClassFile.FieldType)) ∈ TBL := tb_m 210 tb_c3 (by decide +kernel) (by rfl)
theorem k_691 : (Jvm.Cond.methodLink "RainIndex$Cover" (3 : Nat) ({ cls := "java/lang/Object", name := "<init>", desc := "()V" } : Jvm.MethodName)) ∈ TBL := tb_m 211 tb_c3 (by decide +kernel) (by rfl)
theorem k_692 : (Jvm.Cond.fieldLink "RainIndex$Cover" (31 : Nat) "RainIndex$Cover" "farm" "LRainIndex$Farm;") ∈ TBL := tb_m 212 tb_c3 (by decide +kernel) (by rfl)
theorem k_693 : (Jvm.Cond.fieldLink "RainIndex" (320 : Nat) "RainIndex$Cover" "farm" "LRainIndex$Farm;") ∈ TBL := tb_m 213 tb_c3 (by decide +kernel) (by rfl)
theorem k_694 : (Jvm.Cond.fieldLink "RainIndex$Cover" (35 : Nat) "RainIndex$Cover" "product" "LRainIndex$Product;") ∈ TBL := tb_m 214 tb_c3 (by decide +kernel) (by rfl)
theorem k_695 : (Jvm.Cond.fieldLink "RainIndex" (327 : Nat) "RainIndex$Cover" "product" "LRainIndex$Product;") ∈ TBL := tb_m 215 tb_c3 (by decide +kernel) (by rfl)
theorem k_696 : (Jvm.Cond.fieldLink "RainIndex$Cover" (39 : Nat) "RainIndex$Cover" "sum" "I") ∈ TBL := tb_m 216 tb_c3 (by decide +kernel) (by rfl)
theorem k_697 : (Jvm.Cond.fieldLink "RainIndex$Cover" (42 : Nat) "RainIndex$Cover" "season" "I") ∈ TBL := tb_m 217 tb_c3 (by decide +kernel) (by rfl)
theorem k_698 : (Jvm.Cond.fieldLink "RainIndex" (324 : Nat) "RainIndex$Cover" "season" "I") ∈ TBL := tb_m 218 tb_c3 (by decide +kernel) (by rfl)
theorem k_699 : (Jvm.Cond.fieldLink "RainIndex$Cover" (45 : Nat) "RainIndex$Cover" "price" "I") ∈ TBL := tb_m 219 tb_c3 (by decide +kernel) (by rfl)
theorem k_700 : (Jvm.Cond.fieldLink "RainIndex$Cover" (48 : Nat) "RainIndex$Cover" "share" "I") ∈ TBL := tb_m 220 tb_c3 (by decide +kernel) (by rfl)
theorem k_701 : (Jvm.Cond.fieldLink "RainIndex$Cover" (9 : Nat) "RainIndex$Cover" "settledBy" "I") ∈ TBL := tb_m 221 tb_c3 (by decide +kernel) (by rfl)
theorem k_702 : (Jvm.Cond.fieldLink "RainIndex" (330 : Nat) "RainIndex$Cover" "settledBy" "I") ∈ TBL := tb_m 222 tb_c3 (by decide +kernel) (by rfl)
theorem k_703 : (Jvm.Cond.fieldLink "RainIndex$Cover" (15 : Nat) "RainIndex$Cover" "rate" "I") ∈ TBL := tb_m 223 tb_c3 (by decide +kernel) (by rfl)
theorem k_704 : (Jvm.Cond.fieldLink "RainIndex" (317 : Nat) "RainIndex$Cover" "rate" "I") ∈ TBL := tb_m 224 tb_c3 (by decide +kernel) (by rfl)
theorem k_705 : (Jvm.Cond.fieldLink "RainIndex$Cover" (18 : Nat) "RainIndex$Cover" "due" "I") ∈ TBL := tb_m 225 tb_c3 (by decide +kernel) (by rfl)
theorem k_706 : (Jvm.Cond.fieldLink "RainIndex" (358 : Nat) "RainIndex$Cover" "due" "I") ∈ TBL := tb_m 226 tb_c3 (by decide +kernel) (by rfl)
theorem k_707 : (Jvm.Cond.fieldLink "RainIndex$Cover" (21 : Nat) "RainIndex$Cover" "paid" "I") ∈ TBL := tb_m 227 tb_c3 (by decide +kernel) (by rfl)
theorem k_708 : (Jvm.Cond.fieldLink "RainIndex" (364 : Nat) "RainIndex$Cover" "paid" "I") ∈ TBL := tb_m 228 tb_c3 (by decide +kernel) (by rfl)
theorem k_709 : (Jvm.Cond.fieldLink "RainIndex$Cover" (24 : Nat) "RainIndex$Cover" "setOff" "I") ∈ TBL := tb_m 229 tb_c3 (by decide +kernel) (by rfl)
theorem k_710 : (Jvm.Cond.fieldLink "RainIndex" (368 : Nat) "RainIndex$Cover" "setOff" "I") ∈ TBL := tb_m 230 tb_c3 (by decide +kernel) (by rfl)
theorem k_711 : (Jvm.Cond.fieldLink "RainIndex$Cover" (27 : Nat) "RainIndex$Cover" "hasComplained" "Z") ∈ TBL := tb_m 231 tb_c3 (by decide +kernel) (by rfl)
theorem k_712 : (Jvm.Cond.fieldLink "RainIndex" (262 : Nat) "RainIndex$Cover" "hasComplained" "Z") ∈ TBL := tb_m 232 tb_c3 (by decide +kernel) (by rfl)
theorem k_713 : (Jvm.Cond.laysFinal "RainIndex$Cover" "RainIndex$Cover" "farm" "LRainIndex$Farm;") ∈ TBL := tb_m 233 tb_c3 (by decide +kernel) (by rfl)
theorem k_715 : (Jvm.Cond.laysFinal "RainIndex$Cover" "RainIndex$Cover" "product" "LRainIndex$Product;") ∈ TBL := tb_m 235 tb_c3 (by decide +kernel) (by rfl)
theorem k_717 : (Jvm.Cond.laysFinal "RainIndex$Cover" "RainIndex$Cover" "sum" "I") ∈ TBL := tb_m 237 tb_c3 (by decide +kernel) (by rfl)
theorem k_719 : (Jvm.Cond.laysFinal "RainIndex$Cover" "RainIndex$Cover" "season" "I") ∈ TBL := tb_m 239 tb_c3 (by decide +kernel) (by rfl)
theorem k_721 : (Jvm.Cond.laysFinal "RainIndex$Cover" "RainIndex$Cover" "price" "I") ∈ TBL := tb_m 1 tb_c4 (by decide +kernel) (by rfl)
theorem k_723 : (Jvm.Cond.laysFinal "RainIndex$Cover" "RainIndex$Cover" "share" "I") ∈ TBL := tb_m 3 tb_c4 (by decide +kernel) (by rfl)
theorem k_725 : (Jvm.Cond.lays "RainIndex$Cover" "RainIndex$Cover" "settledBy" "I") ∈ TBL := tb_m 5 tb_c4 (by decide +kernel) (by rfl)
theorem k_727 : (Jvm.Cond.lays "RainIndex$Cover" "RainIndex$Cover" "rate" "I") ∈ TBL := tb_m 7 tb_c4 (by decide +kernel) (by rfl)
theorem k_729 : (Jvm.Cond.lays "RainIndex$Cover" "RainIndex$Cover" "due" "I") ∈ TBL := tb_m 9 tb_c4 (by decide +kernel) (by rfl)
theorem k_731 : (Jvm.Cond.lays "RainIndex$Cover" "RainIndex$Cover" "paid" "I") ∈ TBL := tb_m 11 tb_c4 (by decide +kernel) (by rfl)
theorem k_733 : (Jvm.Cond.lays "RainIndex$Cover" "RainIndex$Cover" "setOff" "I") ∈ TBL := tb_m 13 tb_c4 (by decide +kernel) (by rfl)
theorem k_735 : (Jvm.Cond.lays "RainIndex$Cover" "RainIndex$Cover" "hasComplained" "Z") ∈ TBL := tb_m 15 tb_c4 (by decide +kernel) (by rfl)
theorem k_738 : (Jvm.Cond.methodLink "RainIndexLaw" (131 : Nat) ({ cls := "RainIndexLaw", name := "settle", desc := "(LRainIndex;I[J)I" } : Jvm.MethodName)) ∈ TBL := tb_m 18 tb_c4 (by decide +kernel) (by rfl)
theorem k_739 : (Jvm.Cond.static ({ cls := "RainIndexLaw", name := "settle", desc := "(LRainIndex;I[J)I" } : Jvm.MethodName)) ∈ TBL := tb_m 19 tb_c4 (by decide +kernel) (by rfl)
theorem k_740 : (Jvm.Cond.codeWith ({ cls := "RainIndexLaw", name := "settle", desc := "(LRainIndex;I[J)I" } : Jvm.MethodName) method_13_code (4 : Nat) (Option.some Jvm.ClassFile.FieldType.int) [((0 : Nat), (9 : Nat), (12 : Nat), (21 : Nat)), ((0 : Nat), (9 : Nat), (15 : Nat), (15 : Nat))]) ∈ TBL := tb_m 20 tb_c4 (by decide +kernel) (by rfl)
theorem k_741 : (Jvm.Cond.methodLink "RainIndexLaw" (50 : Nat) ({ cls := "RainIndex", name := "settle", desc := "(I)I" } : Jvm.MethodName)) ∈ TBL := tb_m 21 tb_c4 (by decide +kernel) (by rfl)
theorem k_742 : (Jvm.Cond.instanceMethod ({ cls := "RainIndex", name := "settle", desc := "(I)I" } : Jvm.MethodName)) ∈ TBL := tb_m 22 tb_c4 (by decide +kernel) (by rfl)
theorem k_743 : (Jvm.Cond.selects "RainIndex" ({ cls := "RainIndex", name := "settle", desc := "(I)I" } : Jvm.MethodName) ({ cls := "RainIndex", name := "settle", desc := "(I)I" } : Jvm.MethodName)) ∈ TBL := tb_m 23 tb_c4 (by decide +kernel) (by rfl)
theorem k_744 : (Jvm.Cond.code ({ cls := "RainIndex", name := "settle", desc := "(I)I" } : Jvm.MethodName) prog_1_method_12_code (3 : Nat) (Option.some Jvm.ClassFile.FieldType.int)) ∈ TBL := tb_m 24 tb_c4 (by decide +kernel) (by rfl)
theorem k_746 : (Jvm.Cond.methodLink "RainIndex" (233 : Nat) ({ cls := "RainIndex", name := "findDues", desc := "(I)I" } : Jvm.MethodName)) ∈ TBL := tb_m 26 tb_c4 (by decide +kernel) (by rfl)
theorem k_748 : (Jvm.Cond.instanceMethod ({ cls := "RainIndex", name := "findDues", desc := "(I)I" } : Jvm.MethodName)) ∈ TBL := tb_m 28 tb_c4 (by decide +kernel) (by rfl)
theorem k_749 : (Jvm.Cond.code ({ cls := "RainIndex", name := "findDues", desc := "(I)I" } : Jvm.MethodName) prog_1_method_43_code (5 : Nat) (Option.some Jvm.ClassFile.FieldType.int)) ∈ TBL := tb_m 29 tb_c4 (by decide +kernel) (by rfl)
theorem k_750 : (Jvm.Cond.methodLink "RainIndex" (333 : Nat) ({ cls := "RainIndex$Cover", name := "dueBy", desc := "(I)I" } : Jvm.MethodName)) ∈ TBL := tb_m 30 tb_c4 (by decide +kernel) (by rfl)
theorem k_751 : (Jvm.Cond.instanceMethod ({ cls := "RainIndex$Cover", name := "dueBy", desc := "(I)I" } : Jvm.MethodName)) ∈ TBL := tb_m 31 tb_c4 (by decide +kernel) (by rfl)
theorem k_752 : (Jvm.Cond.selects "RainIndex$Cover" ({ cls := "RainIndex$Cover", name := "dueBy", desc := "(I)I" } : Jvm.MethodName) ({ cls := "RainIndex$Cover", name := "dueBy", desc := "(I)I" } : Jvm.MethodName)) ∈ TBL := tb_m 32 tb_c4 (by decide +kernel) (by rfl)
theorem k_753 : (Jvm.Cond.code ({ cls := "RainIndex$Cover", name := "dueBy", desc := "(I)I" } : Jvm.MethodName) prog_3_method_3_code (2 : Nat) (Option.some Jvm.ClassFile.FieldType.int)) ∈ TBL := tb_m 33 tb_c4 (by decide +kernel) (by rfl)
theorem k_754 : (Jvm.Cond.methodLink "RainIndex" (237 : Nat) ({ cls := "RainIndex", name := "payOut", desc := "(II)I" } : Jvm.MethodName)) ∈ TBL := tb_m 34 tb_c4 (by decide +kernel) (by rfl)
theorem k_756 : (Jvm.Cond.instanceMethod ({ cls := "RainIndex", name := "payOut", desc := "(II)I" } : Jvm.MethodName)) ∈ TBL := tb_m 36 tb_c4 (by decide +kernel) (by rfl)
theorem k_757 : (Jvm.Cond.code ({ cls := "RainIndex", name := "payOut", desc := "(II)I" } : Jvm.MethodName) prog_1_method_44_code (6 : Nat) (Option.some Jvm.ClassFile.FieldType.int)) ∈ TBL := tb_m 37 tb_c4 (by decide +kernel) (by rfl)
theorem k_758 : (Jvm.Cond.methodLink "RainIndex" (361 : Nat) ({ cls := "RainIndex", name := "cutToCap", desc := "(II)I" } : Jvm.MethodName)) ∈ TBL := tb_m 38 tb_c4 (by decide +kernel) (by rfl)
theorem k_760 : (Jvm.Cond.instanceMethod ({ cls := "RainIndex", name := "cutToCap", desc := "(II)I" } : Jvm.MethodName)) ∈ TBL := tb_m 40 tb_c4 (by decide +kernel) (by rfl)
theorem k_761 : (Jvm.Cond.code ({ cls := "RainIndex", name := "cutToCap", desc := "(II)I" } : Jvm.MethodName) prog_1_method_45_code (4 : Nat) (Option.some Jvm.ClassFile.FieldType.int)) ∈ TBL := tb_m 41 tb_c4 (by decide +kernel) (by rfl)
theorem k_762 : (Jvm.Cond.methodLink "RainIndex" (365 : Nat) ({ cls := "RainIndex$Farm", name := "receive", desc := "(I)I" } : Jvm.MethodName)) ∈ TBL := tb_m 42 tb_c4 (by decide +kernel) (by rfl)
theorem k_763 : (Jvm.Cond.instanceMethod ({ cls := "RainIndex$Farm", name := "receive", desc := "(I)I" } : Jvm.MethodName)) ∈ TBL := tb_m 43 tb_c4 (by decide +kernel) (by rfl)
theorem k_764 : (Jvm.Cond.selects "RainIndex$Farm" ({ cls := "RainIndex$Farm", name := "receive", desc := "(I)I" } : Jvm.MethodName) ({ cls := "RainIndex$Farm", name := "receive", desc := "(I)I" } : Jvm.MethodName)) ∈ TBL := tb_m 44 tb_c4 (by decide +kernel) (by rfl)
theorem k_765 : (Jvm.Cond.code ({ cls := "RainIndex$Farm", name := "receive", desc := "(I)I" } : Jvm.MethodName) prog_4_method_3_code (3 : Nat) (Option.some Jvm.ClassFile.FieldType.int)) ∈ TBL := tb_m 45 tb_c4 (by decide +kernel) (by rfl)
theorem k_766 : (Jvm.Cond.methodLink "RainIndex$Farm" (41 : Nat) ({ cls := "java/lang/Math", name := "min", desc := "(II)I" } : Jvm.MethodName)) ∈ TBL := tb_m 46 tb_c4 (by decide +kernel) (by rfl)
theorem k_767 : (Jvm.Cond.methodLink "RainIndex" (371 : Nat) ({ cls := "RainIndex$Farm", name := "judge", desc := "(II)V" } : Jvm.MethodName)) ∈ TBL := tb_m 47 tb_c4 (by decide +kernel) (by rfl)
theorem k_768 : (Jvm.Cond.instanceMethod ({ cls := "RainIndex$Farm", name := "judge", desc := "(II)V" } : Jvm.MethodName)) ∈ TBL := tb_m 48 tb_c4 (by decide +kernel) (by rfl)
theorem k_769 : (Jvm.Cond.selects "RainIndex$Farm" ({ cls := "RainIndex$Farm", name := "judge", desc := "(II)V" } : Jvm.MethodName) ({ cls := "RainIndex$Farm", name := "judge", desc := "(II)V" } : Jvm.MethodName)) ∈ TBL := tb_m 49 tb_c4 (by decide +kernel) (by rfl)
theorem k_770 : (Jvm.Cond.code ({ cls := "RainIndex$Farm", name := "judge", desc := "(II)V" } : Jvm.MethodName) prog_4_method_4_code (3 : Nat) (Option.none : Option Jvm.ClassFile.FieldType)) ∈ TBL := tb_m 50 tb_c4 (by decide +kernel) (by rfl)
theorem k_771 : (Jvm.Cond.methodLink "RainIndex$Farm" (47 : Nat) ({ cls := "RainIndex$Farm", name := "lossIn", desc := "(I)I" } : Jvm.MethodName)) ∈ TBL := tb_m 51 tb_c4 (by decide +kernel) (by rfl)
theorem k_772 : (Jvm.Cond.instanceMethod ({ cls := "RainIndex$Farm", name := "lossIn", desc := "(I)I" } : Jvm.MethodName)) ∈ TBL := tb_m 52 tb_c4 (by decide +kernel) (by rfl)
theorem k_773 : (Jvm.Cond.selects "RainIndex$Farm" ({ cls := "RainIndex$Farm", name := "lossIn", desc := "(I)I" } : Jvm.MethodName) ({ cls := "RainIndex$Farm", name := "lossIn", desc := "(I)I" } : Jvm.MethodName)) ∈ TBL := tb_m 53 tb_c4 (by decide +kernel) (by rfl)
theorem k_774 : (Jvm.Cond.code ({ cls := "RainIndex$Farm", name := "lossIn", desc := "(I)I" } : Jvm.MethodName) prog_4_method_2_code (2 : Nat) (Option.some Jvm.ClassFile.FieldType.int)) ∈ TBL := tb_m 54 tb_c4 (by decide +kernel) (by rfl)
theorem k_775 : (Jvm.Cond.methodLink "RainIndex$Farm" (51 : Nat) ({ cls := "java/lang/Math", name := "max", desc := "(II)I" } : Jvm.MethodName)) ∈ TBL := tb_m 55 tb_c4 (by decide +kernel) (by rfl)
theorem k_776 : (Jvm.Cond.methodLink "RainIndex" (246 : Nat) ({ cls := "java/lang/Math", name := "max", desc := "(II)I" } : Jvm.MethodName)) ∈ TBL := tb_m 56 tb_c4 (by decide +kernel) (by rfl)
theorem k_777 : (Jvm.Cond.methodLink "RainIndexLaw" (134 : Nat) ({ cls := "RainIndexLaw", name := "loss", desc := "(LRainIndex;III[J)I" } : Jvm.MethodName)) ∈ TBL := tb_m 57 tb_c4 (by decide +kernel) (by rfl)
theorem k_778 : (Jvm.Cond.static ({ cls := "RainIndexLaw", name := "loss", desc := "(LRainIndex;III[J)I" } : Jvm.MethodName)) ∈ TBL := tb_m 58 tb_c4 (by decide +kernel) (by rfl)
theorem k_779 : (Jvm.Cond.codeWith ({ cls := "RainIndexLaw", name := "loss", desc := "(LRainIndex;III[J)I" } : Jvm.MethodName) method_14_code (6 : Nat) (Option.some Jvm.ClassFile.FieldType.int) [((0 : Nat), (12 : Nat), (15 : Nat), (21 : Nat)), ((0 : Nat), (12 : Nat), (19 : Nat), (13 : Nat)), ((0 : Nat), (12 : Nat), (23 : Nat), (15 : Nat))]) ∈ TBL := tb_m 59 tb_c4 (by decide +kernel) (by rfl)
theorem k_780 : (Jvm.Cond.methodLink "RainIndexLaw" (53 : Nat) ({ cls := "RainIndex", name := "loss", desc := "(III)I" } : Jvm.MethodName)) ∈ TBL := tb_m 60 tb_c4 (by decide +kernel) (by rfl)
theorem k_781 : (Jvm.Cond.instanceMethod ({ cls := "RainIndex", name := "loss", desc := "(III)I" } : Jvm.MethodName)) ∈ TBL := tb_m 61 tb_c4 (by decide +kernel) (by rfl)
theorem k_782 : (Jvm.Cond.selects "RainIndex" ({ cls := "RainIndex", name := "loss", desc := "(III)I" } : Jvm.MethodName) ({ cls := "RainIndex", name := "loss", desc := "(III)I" } : Jvm.MethodName)) ∈ TBL := tb_m 62 tb_c4 (by decide +kernel) (by rfl)
theorem k_783 : (Jvm.Cond.code ({ cls := "RainIndex", name := "loss", desc := "(III)I" } : Jvm.MethodName) prog_1_method_13_code (6 : Nat) (Option.some Jvm.ClassFile.FieldType.int)) ∈ TBL := tb_m 63 tb_c4 (by decide +kernel) (by rfl)
theorem k_784 : (Jvm.Cond.methodLink "RainIndex" (254 : Nat) ({ cls := "RainIndex", name := "hasBegun", desc := "(I)Z" } : Jvm.MethodName)) ∈ TBL := tb_m 64 tb_c4 (by decide +kernel) (by rfl)
theorem k_786 : (Jvm.Cond.instanceMethod ({ cls := "RainIndex", name := "hasBegun", desc := "(I)Z" } : Jvm.MethodName)) ∈ TBL := tb_m 66 tb_c4 (by decide +kernel) (by rfl)
theorem k_787 : (Jvm.Cond.code ({ cls := "RainIndex", name := "hasBegun", desc := "(I)Z" } : Jvm.MethodName) prog_1_method_35_code (2 : Nat) (Option.some Jvm.ClassFile.FieldType.boolean)) ∈ TBL := tb_m 67 tb_c4 (by decide +kernel) (by rfl)
theorem k_789 : (Jvm.Cond.methodLink "RainIndexLaw" (137 : Nat) ({ cls := "RainIndexLaw", name := "complain", desc := "(LRainIndex;II[J)I" } : Jvm.MethodName)) ∈ TBL := tb_m 69 tb_c4 (by decide +kernel) (by rfl)
theorem k_790 : (Jvm.Cond.static ({ cls := "RainIndexLaw", name := "complain", desc := "(LRainIndex;II[J)I" } : Jvm.MethodName)) ∈ TBL := tb_m 70 tb_c4 (by decide +kernel) (by rfl)
theorem k_791 : (Jvm.Cond.codeWith ({ cls := "RainIndexLaw", name := "complain", desc := "(LRainIndex;II[J)I" } : Jvm.MethodName) method_15_code (5 : Nat) (Option.some Jvm.ClassFile.FieldType.int) [((0 : Nat), (10 : Nat), (13 : Nat), (21 : Nat)), ((0 : Nat), (10 : Nat), (17 : Nat), (15 : Nat))]) ∈ TBL := tb_m 71 tb_c4 (by decide +kernel) (by rfl)
theorem k_792 : (Jvm.Cond.methodLink "RainIndexLaw" (56 : Nat) ({ cls := "RainIndex", name := "complain", desc := "(II)I" } : Jvm.MethodName)) ∈ TBL := tb_m 72 tb_c4 (by decide +kernel) (by rfl)
theorem k_793 : (Jvm.Cond.instanceMethod ({ cls := "RainIndex", name := "complain", desc := "(II)I" } : Jvm.MethodName)) ∈ TBL := tb_m 73 tb_c4 (by decide +kernel) (by rfl)
theorem k_794 : (Jvm.Cond.selects "RainIndex" ({ cls := "RainIndex", name := "complain", desc := "(II)I" } : Jvm.MethodName) ({ cls := "RainIndex", name := "complain", desc := "(II)I" } : Jvm.MethodName)) ∈ TBL := tb_m 74 tb_c4 (by decide +kernel) (by rfl)
theorem k_795 : (Jvm.Cond.code ({ cls := "RainIndex", name := "complain", desc := "(II)I" } : Jvm.MethodName) prog_1_method_14_code (5 : Nat) (Option.some Jvm.ClassFile.FieldType.int)) ∈ TBL := tb_m 75 tb_c4 (by decide +kernel) (by rfl)
theorem k_797 : (Jvm.Cond.methodLink "RainIndex" (268 : Nat) ({ cls := "RainIndex", name := "lookAgain", desc := "(LRainIndex$Station;I)I" } : Jvm.MethodName)) ∈ TBL := tb_m 77 tb_c4 (by decide +kernel) (by rfl)
theorem k_799 : (Jvm.Cond.instanceMethod ({ cls := "RainIndex", name := "lookAgain", desc := "(LRainIndex$Station;I)I" } : Jvm.MethodName)) ∈ TBL := tb_m 79 tb_c4 (by decide +kernel) (by rfl)
theorem k_800 : (Jvm.Cond.code ({ cls := "RainIndex", name := "lookAgain", desc := "(LRainIndex$Station;I)I" } : Jvm.MethodName) prog_1_method_46_code (7 : Nat) (Option.some Jvm.ClassFile.FieldType.int)) ∈ TBL := tb_m 80 tb_c4 (by decide +kernel) (by rfl)
theorem k_801 : (Jvm.Cond.methodLink "RainIndex" (374 : Nat) ({ cls := "RainIndex", name := "meanLoss", desc := "(LRainIndex$Station;I)I" } : Jvm.MethodName)) ∈ TBL := tb_m 81 tb_c4 (by decide +kernel) (by rfl)
theorem k_803 : (Jvm.Cond.instanceMethod ({ cls := "RainIndex", name := "meanLoss", desc := "(LRainIndex$Station;I)I" } : Jvm.MethodName)) ∈ TBL := tb_m 83 tb_c4 (by decide +kernel) (by rfl)
theorem k_804 : (Jvm.Cond.code ({ cls := "RainIndex", name := "meanLoss", desc := "(LRainIndex$Station;I)I" } : Jvm.MethodName) prog_1_method_47_code (7 : Nat) (Option.some Jvm.ClassFile.FieldType.int)) ∈ TBL := tb_m 84 tb_c4 (by decide +kernel) (by rfl)
theorem k_805 : (Jvm.Cond.methodLink "RainIndex" (385 : Nat) ({ cls := "RainIndex$Cover", name := "isOf", desc := "(LRainIndex$Station;I)Z" } : Jvm.MethodName)) ∈ TBL := tb_m 85 tb_c4 (by decide +kernel) (by rfl)
theorem k_806 : (Jvm.Cond.instanceMethod ({ cls := "RainIndex$Cover", name := "isOf", desc := "(LRainIndex$Station;I)Z" } : Jvm.MethodName)) ∈ TBL := tb_m 86 tb_c4 (by decide +kernel) (by rfl)
theorem k_807 : (Jvm.Cond.selects "RainIndex$Cover" ({ cls := "RainIndex$Cover", name := "isOf", desc := "(LRainIndex$Station;I)Z" } : Jvm.MethodName) ({ cls := "RainIndex$Cover", name := "isOf", desc := "(LRainIndex$Station;I)Z" } : Jvm.MethodName)) ∈ TBL := tb_m 87 tb_c4 (by decide +kernel) (by rfl)
theorem k_808 : (Jvm.Cond.code ({ cls := "RainIndex$Cover", name := "isOf", desc := "(LRainIndex$Station;I)Z" } : Jvm.MethodName) prog_3_method_2_code (3 : Nat) (Option.some Jvm.ClassFile.FieldType.boolean)) ∈ TBL := tb_m 88 tb_c4 (by decide +kernel) (by rfl)
theorem k_809 : (Jvm.Cond.methodLink "RainIndex" (391 : Nat) ({ cls := "RainIndex$Farm", name := "lossIn", desc := "(I)I" } : Jvm.MethodName)) ∈ TBL := tb_m 89 tb_c4 (by decide +kernel) (by rfl)
theorem k_810 : (Jvm.Cond.methodLink "RainIndex" (381 : Nat) ({ cls := "RainIndex", name := "mostComplained", desc := "(LRainIndex$Station;I)Z" } : Jvm.MethodName)) ∈ TBL := tb_m 90 tb_c4 (by decide +kernel) (by rfl)
theorem k_812 : (Jvm.Cond.instanceMethod ({ cls := "RainIndex", name := "mostComplained", desc := "(LRainIndex$Station;I)Z" } : Jvm.MethodName)) ∈ TBL := tb_m 92 tb_c4 (by decide +kernel) (by rfl)
theorem k_813 : (Jvm.Cond.code ({ cls := "RainIndex", name := "mostComplained", desc := "(LRainIndex$Station;I)Z" } : Jvm.MethodName) prog_1_method_48_code (7 : Nat) (Option.some Jvm.ClassFile.FieldType.boolean)) ∈ TBL := tb_m 93 tb_c4 (by decide +kernel) (by rfl)
theorem k_814 : (Jvm.Cond.methodLink "RainIndex" (388 : Nat) ({ cls := "RainIndex$Cover", name := "payMore", desc := "(I)I" } : Jvm.MethodName)) ∈ TBL := tb_m 94 tb_c4 (by decide +kernel) (by rfl)
theorem k_815 : (Jvm.Cond.instanceMethod ({ cls := "RainIndex$Cover", name := "payMore", desc := "(I)I" } : Jvm.MethodName)) ∈ TBL := tb_m 95 tb_c4 (by decide +kernel) (by rfl)
theorem k_816 : (Jvm.Cond.selects "RainIndex$Cover" ({ cls := "RainIndex$Cover", name := "payMore", desc := "(I)I" } : Jvm.MethodName) ({ cls := "RainIndex$Cover", name := "payMore", desc := "(I)I" } : Jvm.MethodName)) ∈ TBL := tb_m 96 tb_c4 (by decide +kernel) (by rfl)
theorem k_817 : (Jvm.Cond.code ({ cls := "RainIndex$Cover", name := "payMore", desc := "(I)I" } : Jvm.MethodName) prog_3_method_4_code (3 : Nat) (Option.some Jvm.ClassFile.FieldType.int)) ∈ TBL := tb_m 97 tb_c4 (by decide +kernel) (by rfl)
theorem k_818 : (Jvm.Cond.methodLink "RainIndex$Cover" (57 : Nat) ({ cls := "java/lang/Math", name := "max", desc := "(II)I" } : Jvm.MethodName)) ∈ TBL := tb_m 98 tb_c4 (by decide +kernel) (by rfl)
theorem k_819 : (Jvm.Cond.methodLink "RainIndexLaw" (144 : Nat) ({ cls := "RainIndexLaw", name := "filled", desc := "(LRainIndex;III[J)I" } : Jvm.MethodName)) ∈ TBL := tb_m 99 tb_c4 (by decide +kernel) (by rfl)
theorem k_820 : (Jvm.Cond.static ({ cls := "RainIndexLaw", name := "filled", desc := "(LRainIndex;III[J)I" } : Jvm.MethodName)) ∈ TBL := tb_m 100 tb_c4 (by decide +kernel) (by rfl)
theorem k_821 : (Jvm.Cond.codeWith ({ cls := "RainIndexLaw", name := "filled", desc := "(LRainIndex;III[J)I" } : Jvm.MethodName) method_16_code (6 : Nat) (Option.some Jvm.ClassFile.FieldType.int) [((0 : Nat), (12 : Nat), (15 : Nat), (21 : Nat)), ((0 : Nat), (12 : Nat), (19 : Nat), (13 : Nat))]) ∈ TBL := tb_m 101 tb_c4 (by decide +kernel) (by rfl)
theorem k_822 : (Jvm.Cond.methodLink "RainIndexLaw" (59 : Nat) ({ cls := "RainIndex", name := "filled", desc := "(III)I" } : Jvm.MethodName)) ∈ TBL := tb_m 102 tb_c4 (by decide +kernel) (by rfl)
theorem k_823 : (Jvm.Cond.instanceMethod ({ cls := "RainIndex", name := "filled", desc := "(III)I" } : Jvm.MethodName)) ∈ TBL := tb_m 103 tb_c4 (by decide +kernel) (by rfl)
theorem k_824 : (Jvm.Cond.selects "RainIndex" ({ cls := "RainIndex", name := "filled", desc := "(III)I" } : Jvm.MethodName) ({ cls := "RainIndex", name := "filled", desc := "(III)I" } : Jvm.MethodName)) ∈ TBL := tb_m 104 tb_c4 (by decide +kernel) (by rfl)
theorem k_825 : (Jvm.Cond.code ({ cls := "RainIndex", name := "filled", desc := "(III)I" } : Jvm.MethodName) prog_1_method_16_code (5 : Nat) (Option.some Jvm.ClassFile.FieldType.int)) ∈ TBL := tb_m 105 tb_c4 (by decide +kernel) (by rfl)
theorem k_827 : (Jvm.Cond.methodLink "RainIndex" (274 : Nat) ({ cls := "RainIndex$Weather", name := "rainOn", desc := "(LRainIndex$Station;III)I" } : Jvm.MethodName)) ∈ TBL := tb_m 107 tb_c4 (by decide +kernel) (by rfl)
theorem k_828 : (Jvm.Cond.methodLink "RainIndexLaw" (147 : Nat) ({ cls := "RainIndexLaw", name := "onset", desc := "(LRainIndex;III[J)I" } : Jvm.MethodName)) ∈ TBL := tb_m 108 tb_c4 (by decide +kernel) (by rfl)
theorem k_829 : (Jvm.Cond.static ({ cls := "RainIndexLaw", name := "onset", desc := "(LRainIndex;III[J)I" } : Jvm.MethodName)) ∈ TBL := tb_m 109 tb_c4 (by decide +kernel) (by rfl)
theorem k_830 : (Jvm.Cond.codeWith ({ cls := "RainIndexLaw", name := "onset", desc := "(LRainIndex;III[J)I" } : Jvm.MethodName) method_17_code (6 : Nat) (Option.some Jvm.ClassFile.FieldType.int) [((0 : Nat), (12 : Nat), (15 : Nat), (21 : Nat)), ((0 : Nat), (12 : Nat), (19 : Nat), (13 : Nat))]) ∈ TBL := tb_m 110 tb_c4 (by decide +kernel) (by rfl)
theorem k_831 : (Jvm.Cond.methodLink "RainIndexLaw" (62 : Nat) ({ cls := "RainIndex", name := "onset", desc := "(III)I" } : Jvm.MethodName)) ∈ TBL := tb_m 111 tb_c4 (by decide +kernel) (by rfl)
theorem k_832 : (Jvm.Cond.instanceMethod ({ cls := "RainIndex", name := "onset", desc := "(III)I" } : Jvm.MethodName)) ∈ TBL := tb_m 112 tb_c4 (by decide +kernel) (by rfl)
theorem k_833 : (Jvm.Cond.selects "RainIndex" ({ cls := "RainIndex", name := "onset", desc := "(III)I" } : Jvm.MethodName) ({ cls := "RainIndex", name := "onset", desc := "(III)I" } : Jvm.MethodName)) ∈ TBL := tb_m 113 tb_c4 (by decide +kernel) (by rfl)
theorem k_834 : (Jvm.Cond.code ({ cls := "RainIndex", name := "onset", desc := "(III)I" } : Jvm.MethodName) prog_1_method_17_code (6 : Nat) (Option.some Jvm.ClassFile.FieldType.int)) ∈ TBL := tb_m 114 tb_c4 (by decide +kernel) (by rfl)
theorem k_835 : (Jvm.Cond.methodLink "RainIndex" (281 : Nat) ({ cls := "RainIndex$SeasonRain", name := "start", desc := "()I" } : Jvm.MethodName)) ∈ TBL := tb_m 115 tb_c4 (by decide +kernel) (by rfl)
theorem k_836 : (Jvm.Cond.methodLink "RainIndexLaw" (150 : Nat) ({ cls := "RainIndexLaw", name := "index", desc := "(LRainIndex;IIII[J)I" } : Jvm.MethodName)) ∈ TBL := tb_m 116 tb_c4 (by decide +kernel) (by rfl)
theorem k_837 : (Jvm.Cond.static ({ cls := "RainIndexLaw", name := "index", desc := "(LRainIndex;IIII[J)I" } : Jvm.MethodName)) ∈ TBL := tb_m 117 tb_c4 (by decide +kernel) (by rfl)
theorem k_838 : (Jvm.Cond.codeWith ({ cls := "RainIndexLaw", name := "index", desc := "(LRainIndex;IIII[J)I" } : Jvm.MethodName) method_18_code (7 : Nat) (Option.some Jvm.ClassFile.FieldType.int) [((0 : Nat), (14 : Nat), (17 : Nat), (21 : Nat))]) ∈ TBL := tb_m 118 tb_c4 (by decide +kernel) (by rfl)
theorem k_839 : (Jvm.Cond.methodLink "RainIndexLaw" (65 : Nat) ({ cls := "RainIndex", name := "index", desc := "(IIII)I" } : Jvm.MethodName)) ∈ TBL := tb_m 119 tb_c4 (by decide +kernel) (by rfl)
theorem k_840 : (Jvm.Cond.instanceMethod ({ cls := "RainIndex", name := "index", desc := "(IIII)I" } : Jvm.MethodName)) ∈ TBL := tb_m 120 tb_c4 (by decide +kernel) (by rfl)
theorem k_841 : (Jvm.Cond.selects "RainIndex" ({ cls := "RainIndex", name := "index", desc := "(IIII)I" } : Jvm.MethodName) ({ cls := "RainIndex", name := "index", desc := "(IIII)I" } : Jvm.MethodName)) ∈ TBL := tb_m 121 tb_c4 (by decide +kernel) (by rfl)
theorem k_842 : (Jvm.Cond.code ({ cls := "RainIndex", name := "index", desc := "(IIII)I" } : Jvm.MethodName) prog_1_method_18_code (7 : Nat) (Option.some Jvm.ClassFile.FieldType.int)) ∈ TBL := tb_m 122 tb_c4 (by decide +kernel) (by rfl)
theorem k_844 : (Jvm.Cond.methodLink "RainIndex" (296 : Nat) ({ cls := "RainIndex$Product", name := "startOf", desc := "(ILRainIndex$SeasonRain;)I" } : Jvm.MethodName)) ∈ TBL := tb_m 124 tb_c4 (by decide +kernel) (by rfl)
theorem k_845 : (Jvm.Cond.methodLink "RainIndex" (300 : Nat) ({ cls := "RainIndex$Phase", name := "look", desc := "(LRainIndex$SeasonRain;I)I" } : Jvm.MethodName)) ∈ TBL := tb_m 125 tb_c4 (by decide +kernel) (by rfl)
theorem k_846 : (Jvm.Cond.methodLink "RainIndexLaw" (153 : Nat) ({ cls := "RainIndexLaw", name := "rate", desc := "(LRainIndex;III[J)I" } : Jvm.MethodName)) ∈ TBL := tb_m 126 tb_c4 (by decide +kernel) (by rfl)
theorem k_847 : (Jvm.Cond.static ({ cls := "RainIndexLaw", name := "rate", desc := "(LRainIndex;III[J)I" } : Jvm.MethodName)) ∈ TBL := tb_m 127 tb_c4 (by decide +kernel) (by rfl)
theorem k_848 : (Jvm.Cond.codeWith ({ cls := "RainIndexLaw", name := "rate", desc := "(LRainIndex;III[J)I" } : Jvm.MethodName) method_19_code (6 : Nat) (Option.some Jvm.ClassFile.FieldType.int) [((0 : Nat), (12 : Nat), (15 : Nat), (21 : Nat))]) ∈ TBL := tb_m 128 tb_c4 (by decide +kernel) (by rfl)
theorem k_849 : (Jvm.Cond.methodLink "RainIndexLaw" (68 : Nat) ({ cls := "RainIndex", name := "rate", desc := "(III)I" } : Jvm.MethodName)) ∈ TBL := tb_m 129 tb_c4 (by decide +kernel) (by rfl)
theorem k_850 : (Jvm.Cond.instanceMethod ({ cls := "RainIndex", name := "rate", desc := "(III)I" } : Jvm.MethodName)) ∈ TBL := tb_m 130 tb_c4 (by decide +kernel) (by rfl)
theorem k_851 : (Jvm.Cond.selects "RainIndex" ({ cls := "RainIndex", name := "rate", desc := "(III)I" } : Jvm.MethodName) ({ cls := "RainIndex", name := "rate", desc := "(III)I" } : Jvm.MethodName)) ∈ TBL := tb_m 131 tb_c4 (by decide +kernel) (by rfl)
theorem k_852 : (Jvm.Cond.code ({ cls := "RainIndex", name := "rate", desc := "(III)I" } : Jvm.MethodName) prog_1_method_19_code (5 : Nat) (Option.some Jvm.ClassFile.FieldType.int)) ∈ TBL := tb_m 132 tb_c4 (by decide +kernel) (by rfl)
theorem k_853 : (Jvm.Cond.methodLink "RainIndexLaw" (156 : Nat) ({ cls := "RainIndexLaw", name := "priced", desc := "(LRainIndex;II[J)I" } : Jvm.MethodName)) ∈ TBL := tb_m 133 tb_c4 (by decide +kernel) (by rfl)
theorem k_854 : (Jvm.Cond.static ({ cls := "RainIndexLaw", name := "priced", desc := "(LRainIndex;II[J)I" } : Jvm.MethodName)) ∈ TBL := tb_m 134 tb_c4 (by decide +kernel) (by rfl)
theorem k_855 : (Jvm.Cond.codeWith ({ cls := "RainIndexLaw", name := "priced", desc := "(LRainIndex;II[J)I" } : Jvm.MethodName) method_20_code (5 : Nat) (Option.some Jvm.ClassFile.FieldType.int) [((0 : Nat), (10 : Nat), (13 : Nat), (21 : Nat))]) ∈ TBL := tb_m 135 tb_c4 (by decide +kernel) (by rfl)
theorem k_856 : (Jvm.Cond.methodLink "RainIndexLaw" (71 : Nat) ({ cls := "RainIndex", name := "priced", desc := "(II)I" } : Jvm.MethodName)) ∈ TBL := tb_m 136 tb_c4 (by decide +kernel) (by rfl)
theorem k_857 : (Jvm.Cond.instanceMethod ({ cls := "RainIndex", name := "priced", desc := "(II)I" } : Jvm.MethodName)) ∈ TBL := tb_m 137 tb_c4 (by decide +kernel) (by rfl)
theorem k_858 : (Jvm.Cond.selects "RainIndex" ({ cls := "RainIndex", name := "priced", desc := "(II)I" } : Jvm.MethodName) ({ cls := "RainIndex", name := "priced", desc := "(II)I" } : Jvm.MethodName)) ∈ TBL := tb_m 138 tb_c4 (by decide +kernel) (by rfl)
theorem k_859 : (Jvm.Cond.code ({ cls := "RainIndex", name := "priced", desc := "(II)I" } : Jvm.MethodName) prog_1_method_20_code (3 : Nat) (Option.some Jvm.ClassFile.FieldType.int)) ∈ TBL := tb_m 139 tb_c4 (by decide +kernel) (by rfl)
theorem k_860 : (Jvm.Cond.methodLink "RainIndexLaw" (159 : Nat) ({ cls := "RainIndexLaw", name := "cover", desc := "(LRainIndex;II[J)I" } : Jvm.MethodName)) ∈ TBL := tb_m 140 tb_c4 (by decide +kernel) (by rfl)
theorem k_861 : (Jvm.Cond.static ({ cls := "RainIndexLaw", name := "cover", desc := "(LRainIndex;II[J)I" } : Jvm.MethodName)) ∈ TBL := tb_m 141 tb_c4 (by decide +kernel) (by rfl)
theorem k_862 : (Jvm.Cond.codeWith ({ cls := "RainIndexLaw", name := "cover", desc := "(LRainIndex;II[J)I" } : Jvm.MethodName) method_21_code (5 : Nat) (Option.some Jvm.ClassFile.FieldType.int) [((0 : Nat), (10 : Nat), (13 : Nat), (21 : Nat)), ((0 : Nat), (10 : Nat), (17 : Nat), (13 : Nat))]) ∈ TBL := tb_m 142 tb_c4 (by decide +kernel) (by rfl)
theorem k_863 : (Jvm.Cond.methodLink "RainIndexLaw" (74 : Nat) ({ cls := "RainIndex", name := "cover", desc := "(II)I" } : Jvm.MethodName)) ∈ TBL := tb_m 143 tb_c4 (by decide +kernel) (by rfl)
theorem k_864 : (Jvm.Cond.instanceMethod ({ cls := "RainIndex", name := "cover", desc := "(II)I" } : Jvm.MethodName)) ∈ TBL := tb_m 144 tb_c4 (by decide +kernel) (by rfl)
theorem k_865 : (Jvm.Cond.selects "RainIndex" ({ cls := "RainIndex", name := "cover", desc := "(II)I" } : Jvm.MethodName) ({ cls := "RainIndex", name := "cover", desc := "(II)I" } : Jvm.MethodName)) ∈ TBL := tb_m 145 tb_c4 (by decide +kernel) (by rfl)
theorem k_866 : (Jvm.Cond.code ({ cls := "RainIndex", name := "cover", desc := "(II)I" } : Jvm.MethodName) prog_1_method_21_code (4 : Nat) (Option.some Jvm.ClassFile.FieldType.int)) ∈ TBL := tb_m 146 tb_c4 (by decide +kernel) (by rfl)
theorem k_867 : (Jvm.Cond.methodLink "RainIndex" (308 : Nat) ({ cls := "RainIndex", name := "coverNumbered", desc := "(I)LRainIndex$Cover;" } : Jvm.MethodName)) ∈ TBL := tb_m 147 tb_c4 (by decide +kernel) (by rfl)
theorem k_869 : (Jvm.Cond.instanceMethod ({ cls := "RainIndex", name := "coverNumbered", desc := "(I)LRainIndex$Cover;" } : Jvm.MethodName)) ∈ TBL := tb_m 149 tb_c4 (by decide +kernel) (by rfl)
theorem k_870 : (Jvm.Cond.code ({ cls := "RainIndex", name := "coverNumbered", desc := "(I)LRainIndex$Cover;" } : Jvm.MethodName) prog_1_method_33_code (2 : Nat) (Option.some (Jvm.ClassFile.FieldType.object "RainIndex$Cover"))) ∈ TBL := tb_m 150 tb_c4 (by decide +kernel) (by rfl)
theorem k_872 : (Jvm.Cond.methodLink "RainIndex" (312 : Nat) ({ cls := "RainIndex", name := "testWhat", desc := "(II)V" } : Jvm.MethodName)) ∈ TBL := tb_m 152 tb_c4 (by decide +kernel) (by rfl)
theorem k_873 : (Jvm.Cond.static ({ cls := "RainIndex", name := "testWhat", desc := "(II)V" } : Jvm.MethodName)) ∈ TBL := tb_m 153 tb_c4 (by decide +kernel) (by rfl)
theorem k_874 : (Jvm.Cond.code ({ cls := "RainIndex", name := "testWhat", desc := "(II)V" } : Jvm.MethodName) prog_1_method_28_code (2 : Nat) (Option.none : Option Jvm.ClassFile.FieldType)) ∈ TBL := tb_m 154 tb_c4 (by decide +kernel) (by rfl)
theorem k_876 : (Jvm.Cond.methodLink "RainIndex" (315 : Nat) ({ cls := "RainIndex$Cover", name := "tell", desc := "(I)I" } : Jvm.MethodName)) ∈ TBL := tb_m 156 tb_c4 (by decide +kernel) (by rfl)
theorem k_877 : (Jvm.Cond.instanceMethod ({ cls := "RainIndex$Cover", name := "tell", desc := "(I)I" } : Jvm.MethodName)) ∈ TBL := tb_m 157 tb_c4 (by decide +kernel) (by rfl)
theorem k_878 : (Jvm.Cond.selects "RainIndex$Cover" ({ cls := "RainIndex$Cover", name := "tell", desc := "(I)I" } : Jvm.MethodName) ({ cls := "RainIndex$Cover", name := "tell", desc := "(I)I" } : Jvm.MethodName)) ∈ TBL := tb_m 158 tb_c4 (by decide +kernel) (by rfl)
theorem k_879 : (Jvm.Cond.code ({ cls := "RainIndex$Cover", name := "tell", desc := "(I)I" } : Jvm.MethodName) prog_3_method_5_code (2 : Nat) (Option.some Jvm.ClassFile.FieldType.int)) ∈ TBL := tb_m 159 tb_c4 (by decide +kernel) (by rfl)
theorem k_880 : (Jvm.Cond.methodLink "RainIndexLaw" (162 : Nat) ({ cls := "RainIndexLaw", name := "dueAnew", desc := "(LRainIndex;I[J)I" } : Jvm.MethodName)) ∈ TBL := tb_m 160 tb_c4 (by decide +kernel) (by rfl)
theorem k_881 : (Jvm.Cond.static ({ cls := "RainIndexLaw", name := "dueAnew", desc := "(LRainIndex;I[J)I" } : Jvm.MethodName)) ∈ TBL := tb_m 161 tb_c4 (by decide +kernel) (by rfl)
theorem k_882 : (Jvm.Cond.codeWith ({ cls := "RainIndexLaw", name := "dueAnew", desc := "(LRainIndex;I[J)I" } : Jvm.MethodName) method_22_code (4 : Nat) (Option.some Jvm.ClassFile.FieldType.int) [((0 : Nat), (9 : Nat), (12 : Nat), (21 : Nat))]) ∈ TBL := tb_m 162 tb_c4 (by decide +kernel) (by rfl)
theorem k_883 : (Jvm.Cond.methodLink "RainIndexLaw" (77 : Nat) ({ cls := "RainIndex", name := "dueAnew", desc := "(I)I" } : Jvm.MethodName)) ∈ TBL := tb_m 163 tb_c4 (by decide +kernel) (by rfl)
theorem k_884 : (Jvm.Cond.instanceMethod ({ cls := "RainIndex", name := "dueAnew", desc := "(I)I" } : Jvm.MethodName)) ∈ TBL := tb_m 164 tb_c4 (by decide +kernel) (by rfl)
theorem k_885 : (Jvm.Cond.selects "RainIndex" ({ cls := "RainIndex", name := "dueAnew", desc := "(I)I" } : Jvm.MethodName) ({ cls := "RainIndex", name := "dueAnew", desc := "(I)I" } : Jvm.MethodName)) ∈ TBL := tb_m 165 tb_c4 (by decide +kernel) (by rfl)
theorem k_886 : (Jvm.Cond.code ({ cls := "RainIndex", name := "dueAnew", desc := "(I)I" } : Jvm.MethodName) prog_1_method_22_code (3 : Nat) (Option.some Jvm.ClassFile.FieldType.int)) ∈ TBL := tb_m 166 tb_c4 (by decide +kernel) (by rfl)
theorem k_887 : (Jvm.Cond.methodLink "RainIndexLaw" (165 : Nat) ({ cls := "RainIndexLaw", name := "told", desc := "(LRainIndex;II[J)I" } : Jvm.MethodName)) ∈ TBL := tb_m 167 tb_c4 (by decide +kernel) (by rfl)
theorem k_888 : (Jvm.Cond.static ({ cls := "RainIndexLaw", name := "told", desc := "(LRainIndex;II[J)I" } : Jvm.MethodName)) ∈ TBL := tb_m 168 tb_c4 (by decide +kernel) (by rfl)
theorem k_889 : (Jvm.Cond.codeWith ({ cls := "RainIndexLaw", name := "told", desc := "(LRainIndex;II[J)I" } : Jvm.MethodName) method_23_code (5 : Nat) (Option.some Jvm.ClassFile.FieldType.int) [((0 : Nat), (10 : Nat), (13 : Nat), (21 : Nat)), ((0 : Nat), (10 : Nat), (17 : Nat), (13 : Nat))]) ∈ TBL := tb_m 169 tb_c4 (by decide +kernel) (by rfl)
theorem k_890 : (Jvm.Cond.methodLink "RainIndexLaw" (80 : Nat) ({ cls := "RainIndex", name := "told", desc := "(II)I" } : Jvm.MethodName)) ∈ TBL := tb_m 170 tb_c4 (by decide +kernel) (by rfl)
theorem k_891 : (Jvm.Cond.instanceMethod ({ cls := "RainIndex", name := "told", desc := "(II)I" } : Jvm.MethodName)) ∈ TBL := tb_m 171 tb_c4 (by decide +kernel) (by rfl)
theorem k_892 : (Jvm.Cond.selects "RainIndex" ({ cls := "RainIndex", name := "told", desc := "(II)I" } : Jvm.MethodName) ({ cls := "RainIndex", name := "told", desc := "(II)I" } : Jvm.MethodName)) ∈ TBL := tb_m 172 tb_c4 (by decide +kernel) (by rfl)
theorem k_893 : (Jvm.Cond.code ({ cls := "RainIndex", name := "told", desc := "(II)I" } : Jvm.MethodName) prog_1_method_23_code (4 : Nat) (Option.some Jvm.ClassFile.FieldType.int)) ∈ TBL := tb_m 173 tb_c4 (by decide +kernel) (by rfl)
theorem k_894 : (Jvm.Cond.methodLink "RainIndex" (336 : Nat) ({ cls := "RainIndex$Farm", name := "tell", desc := "(I)I" } : Jvm.MethodName)) ∈ TBL := tb_m 174 tb_c4 (by decide +kernel) (by rfl)
theorem k_895 : (Jvm.Cond.instanceMethod ({ cls := "RainIndex$Farm", name := "tell", desc := "(I)I" } : Jvm.MethodName)) ∈ TBL := tb_m 175 tb_c4 (by decide +kernel) (by rfl)
theorem k_896 : (Jvm.Cond.selects "RainIndex$Farm" ({ cls := "RainIndex$Farm", name := "tell", desc := "(I)I" } : Jvm.MethodName) ({ cls := "RainIndex$Farm", name := "tell", desc := "(I)I" } : Jvm.MethodName)) ∈ TBL := tb_m 176 tb_c4 (by decide +kernel) (by rfl)
theorem k_897 : (Jvm.Cond.code ({ cls := "RainIndex$Farm", name := "tell", desc := "(I)I" } : Jvm.MethodName) prog_4_method_5_code (2 : Nat) (Option.some Jvm.ClassFile.FieldType.int)) ∈ TBL := tb_m 177 tb_c4 (by decide +kernel) (by rfl)
theorem k_898 : (Jvm.Cond.methodLink "RainIndexLaw" (168 : Nat) ({ cls := "RainIndexLaw", name := "books", desc := "(LRainIndex;I[J)I" } : Jvm.MethodName)) ∈ TBL := tb_m 178 tb_c4 (by decide +kernel) (by rfl)
theorem k_899 : (Jvm.Cond.static ({ cls := "RainIndexLaw", name := "books", desc := "(LRainIndex;I[J)I" } : Jvm.MethodName)) ∈ TBL := tb_m 179 tb_c4 (by decide +kernel) (by rfl)
theorem k_900 : (Jvm.Cond.codeWith ({ cls := "RainIndexLaw", name := "books", desc := "(LRainIndex;I[J)I" } : Jvm.MethodName) method_24_code (4 : Nat) (Option.some Jvm.ClassFile.FieldType.int) [((0 : Nat), (9 : Nat), (12 : Nat), (13 : Nat))]) ∈ TBL := tb_m 180 tb_c4 (by decide +kernel) (by rfl)
theorem k_901 : (Jvm.Cond.methodLink "RainIndexLaw" (83 : Nat) ({ cls := "RainIndex", name := "books", desc := "(I)I" } : Jvm.MethodName)) ∈ TBL := tb_m 181 tb_c4 (by decide +kernel) (by rfl)
theorem k_902 : (Jvm.Cond.instanceMethod ({ cls := "RainIndex", name := "books", desc := "(I)I" } : Jvm.MethodName)) ∈ TBL := tb_m 182 tb_c4 (by decide +kernel) (by rfl)
theorem k_903 : (Jvm.Cond.selects "RainIndex" ({ cls := "RainIndex", name := "books", desc := "(I)I" } : Jvm.MethodName) ({ cls := "RainIndex", name := "books", desc := "(I)I" } : Jvm.MethodName)) ∈ TBL := tb_m 183 tb_c4 (by decide +kernel) (by rfl)
theorem k_904 : (Jvm.Cond.code ({ cls := "RainIndex", name := "books", desc := "(I)I" } : Jvm.MethodName) prog_1_method_24_code (2 : Nat) (Option.some Jvm.ClassFile.FieldType.int)) ∈ TBL := tb_m 184 tb_c4 (by decide +kernel) (by rfl)
theorem k_905 : (Jvm.Cond.methodLink "RainIndex" (337 : Nat) ({ cls := "RainIndex$Books", name := "tell", desc := "(I)I" } : Jvm.MethodName)) ∈ TBL := tb_m 185 tb_c4 (by decide +kernel) (by rfl)
theorem k_906 : (Jvm.Cond.instanceMethod ({ cls := "RainIndex$Books", name := "tell", desc := "(I)I" } : Jvm.MethodName)) ∈ TBL := tb_m 186 tb_c4 (by decide +kernel) (by rfl)
theorem k_907 : (Jvm.Cond.selects "RainIndex$Books" ({ cls := "RainIndex$Books", name := "tell", desc := "(I)I" } : Jvm.MethodName) ({ cls := "RainIndex$Books", name := "tell", desc := "(I)I" } : Jvm.MethodName)) ∈ TBL := tb_m 187 tb_c4 (by decide +kernel) (by rfl)
theorem k_908 : (Jvm.Cond.code ({ cls := "RainIndex$Books", name := "tell", desc := "(I)I" } : Jvm.MethodName) prog_2_method_2_code (2 : Nat) (Option.some Jvm.ClassFile.FieldType.int)) ∈ TBL := tb_m 188 tb_c4 (by decide +kernel) (by rfl)
theorem k_909 : (Jvm.Cond.classLink "RainIndexLaw" (87 : Nat) "RainIndexModel") ∈ TBL := tb_m 189 tb_c4 (by decide +kernel) (by rfl)
theorem k_910 : (Jvm.Cond.instantiable "RainIndexModel" (30 : Nat)) ∈ TBL := tb_m 190 tb_c4 (by decide +kernel) (by rfl)
theorem k_911 : (Jvm.Cond.methodLink "RainIndexLaw" (89 : Nat) ({ cls := "RainIndexModel", name := "<init>", desc := "()V" } : Jvm.MethodName)) ∈ TBL := tb_m 191 tb_c4 (by decide +kernel) (by rfl)
theorem k_912 : (Jvm.Cond.instanceMethod ({ cls := "RainIndexModel", name := "<init>", desc := "()V" } : Jvm.MethodName)) ∈ TBL := tb_m 192 tb_c4 (by decide +kernel) (by rfl)
theorem k_913 : (Jvm.Cond.code ({ cls := "RainIndexModel", name := "<init>", desc := "()V" } : Jvm.MethodName) prog_12_method_1_code (1 : Nat) (Option.none : Option Jvm.ClassFile.FieldType)) ∈ TBL := tb_m 193 tb_c4 (by decide +kernel) (by rfl)
theorem k_914 : (Jvm.Cond.methodLink "RainIndexModel" (1 : Nat) ({ cls := "java/lang/Object", name := "<init>", desc := "()V" } : Jvm.MethodName)) ∈ TBL := tb_m 194 tb_c4 (by decide +kernel) (by rfl)
theorem k_915 : (Jvm.Cond.fieldLink "RainIndexModel" (103 : Nat) "RainIndexModel" "day" "I") ∈ TBL := tb_m 195 tb_c4 (by decide +kernel) (by rfl)
theorem k_916 : (Jvm.Cond.fieldLink "RainIndexModel" (7 : Nat) "RainIndexModel" "xs" "[I") ∈ TBL := tb_m 196 tb_c4 (by decide +kernel) (by rfl)
theorem k_917 : (Jvm.Cond.fieldLink "RainIndexModel" (13 : Nat) "RainIndexModel" "ys" "[I") ∈ TBL := tb_m 197 tb_c4 (by decide +kernel) (by rfl)
theorem k_918 : (Jvm.Cond.fieldLink "RainIndexModel" (78 : Nat) "RainIndexModel" "stations" "I") ∈ TBL := tb_m 198 tb_c4 (by decide +kernel) (by rfl)
theorem k_919 : (Jvm.Cond.fieldLink "RainIndexModel" (16 : Nat) "RainIndexModel" "firsts" "[I") ∈ TBL := tb_m 199 tb_c4 (by decide +kernel) (by rfl)
theorem k_920 : (Jvm.Cond.fieldLink "RainIndexModel" (19 : Nat) "RainIndexModel" "latests" "[I") ∈ TBL := tb_m 200 tb_c4 (by decide +kernel) (by rfl)
theorem k_921 : (Jvm.Cond.fieldLink "RainIndexModel" (91 : Nat) "RainIndexModel" "hasRain" "Z") ∈ TBL := tb_m 201 tb_c4 (by decide +kernel) (by rfl)
theorem k_922 : (Jvm.Cond.fieldLink "RainIndexModel" (22 : Nat) "RainIndexModel" "phases" "[I") ∈ TBL := tb_m 202 tb_c4 (by decide +kernel) (by rfl)
theorem k_923 : (Jvm.Cond.fieldLink "RainIndexModel" (25 : Nat) "RainIndexModel" "sizes" "[I") ∈ TBL := tb_m 203 tb_c4 (by decide +kernel) (by rfl)
theorem k_924 : (Jvm.Cond.fieldLink "RainIndexModel" (28 : Nat) "RainIndexModel" "knowns" "[I") ∈ TBL := tb_m 204 tb_c4 (by decide +kernel) (by rfl)
theorem k_925 : (Jvm.Cond.fieldLink "RainIndexModel" (85 : Nat) "RainIndexModel" "products" "I") ∈ TBL := tb_m 205 tb_c4 (by decide +kernel) (by rfl)
theorem k_926 : (Jvm.Cond.fieldLink "RainIndexModel" (127 : Nat) "RainIndexModel" "drafted" "I") ∈ TBL := tb_m 206 tb_c4 (by decide +kernel) (by rfl)
theorem k_927 : (Jvm.Cond.fieldLink "RainIndexModel" (31 : Nat) "RainIndexModel" "homes" "[I") ∈ TBL := tb_m 207 tb_c4 (by decide +kernel) (by rfl)
theorem k_928 : (Jvm.Cond.fieldLink "RainIndexModel" (34 : Nat) "RainIndexModel" "trusts" "[I") ∈ TBL := tb_m 208 tb_c4 (by decide +kernel) (by rfl)
theorem k_929 : (Jvm.Cond.fieldLink "RainIndexModel" (37 : Nat) "RainIndexModel" "debts" "[I") ∈ TBL := tb_m 209 tb_c4 (by decide +kernel) (by rfl)
theorem k_930 : (Jvm.Cond.fieldLink "RainIndexModel" (40 : Nat) "RainIndexModel" "gots" "[I") ∈ TBL := tb_m 210 tb_c4 (by decide +kernel) (by rfl)
theorem k_931 : (Jvm.Cond.fieldLink "RainIndexModel" (43 : Nat) "RainIndexModel" "paids" "[I") ∈ TBL := tb_m 211 tb_c4 (by decide +kernel) (by rfl)
theorem k_932 : (Jvm.Cond.fieldLink "RainIndexModel" (88 : Nat) "RainIndexModel" "farms" "I") ∈ TBL := tb_m 212 tb_c4 (by decide +kernel) (by rfl)
theorem k_933 : (Jvm.Cond.fieldLink "RainIndexModel" (46 : Nat) "RainIndexModel" "losses" "[I") ∈ TBL := tb_m 213 tb_c4 (by decide +kernel) (by rfl)
theorem k_934 : (Jvm.Cond.fieldLink "RainIndexModel" (49 : Nat) "RainIndexModel" "complained" "[Z") ∈ TBL := tb_m 214 tb_c4 (by decide +kernel) (by rfl)
theorem k_935 : (Jvm.Cond.fieldLink "RainIndexModel" (53 : Nat) "RainIndexModel" "loading" "I") ∈ TBL := tb_m 215 tb_c4 (by decide +kernel) (by rfl)
theorem k_936 : (Jvm.Cond.fieldLink "RainIndexModel" (57 : Nat) "RainIndexModel" "retention" "I") ∈ TBL := tb_m 216 tb_c4 (by decide +kernel) (by rfl)
theorem k_937 : (Jvm.Cond.fieldLink "RainIndexModel" (60 : Nat) "RainIndexModel" "layer" "I") ∈ TBL := tb_m 217 tb_c4 (by decide +kernel) (by rfl)
theorem k_938 : (Jvm.Cond.fieldLink "RainIndexModel" (63 : Nat) "RainIndexModel" "covers" "[I") ∈ TBL := tb_m 218 tb_c4 (by decide +kernel) (by rfl)
theorem k_939 : (Jvm.Cond.fieldLink "RainIndexModel" (156 : Nat) "RainIndexModel" "many" "I") ∈ TBL := tb_m 219 tb_c4 (by decide +kernel) (by rfl)
theorem k_940 : (Jvm.Cond.fieldLink "RainIndexModel" (66 : Nat) "RainIndexModel" "settled" "[I") ∈ TBL := tb_m 220 tb_c4 (by decide +kernel) (by rfl)
theorem k_941 : (Jvm.Cond.fieldLink "RainIndexModel" (69 : Nat) "RainIndexModel" "looked" "[Z") ∈ TBL := tb_m 221 tb_c4 (by decide +kernel) (by rfl)
theorem k_942 : (Jvm.Cond.fieldLink "RainIndexModel" (164 : Nat) "RainIndexModel" "carried" "I") ∈ TBL := tb_m 222 tb_c4 (by decide +kernel) (by rfl)
theorem k_943 : (Jvm.Cond.fieldLink "RainIndexModel" (72 : Nat) "RainIndexModel" "rains" "[I") ∈ TBL := tb_m 223 tb_c4 (by decide +kernel) (by rfl)
theorem k_944 : (Jvm.Cond.fieldLink "RainIndexModel" (75 : Nat) "RainIndexModel" "last" "I") ∈ TBL := tb_m 224 tb_c4 (by decide +kernel) (by rfl)
theorem k_945 : (Jvm.Cond.lays "RainIndexModel" "RainIndexModel" "day" "I") ∈ TBL := tb_m 225 tb_c4 (by decide +kernel) (by rfl)
theorem k_947 : (Jvm.Cond.laysFinal "RainIndexModel" "RainIndexModel" "xs" "[I") ∈ TBL := tb_m 227 tb_c4 (by decide +kernel) (by rfl)
theorem k_949 : (Jvm.Cond.laysFinal "RainIndexModel" "RainIndexModel" "ys" "[I") ∈ TBL := tb_m 229 tb_c4 (by decide +kernel) (by rfl)
theorem k_951 : (Jvm.Cond.lays "RainIndexModel" "RainIndexModel" "stations" "I") ∈ TBL := tb_m 231 tb_c4 (by decide +kernel) (by rfl)
theorem k_953 : (Jvm.Cond.laysFinal "RainIndexModel" "RainIndexModel" "firsts" "[I") ∈ TBL := tb_m 233 tb_c4 (by decide +kernel) (by rfl)
theorem k_955 : (Jvm.Cond.laysFinal "RainIndexModel" "RainIndexModel" "latests" "[I") ∈ TBL := tb_m 235 tb_c4 (by decide +kernel) (by rfl)
theorem k_957 : (Jvm.Cond.lays "RainIndexModel" "RainIndexModel" "hasRain" "Z") ∈ TBL := tb_m 237 tb_c4 (by decide +kernel) (by rfl)
theorem k_959 : (Jvm.Cond.laysFinal "RainIndexModel" "RainIndexModel" "phases" "[I") ∈ TBL := tb_m 239 tb_c4 (by decide +kernel) (by rfl)
theorem k_961 : (Jvm.Cond.laysFinal "RainIndexModel" "RainIndexModel" "sizes" "[I") ∈ TBL := tb_m 1 tb_c5 (by decide +kernel) (by rfl)
theorem k_963 : (Jvm.Cond.laysFinal "RainIndexModel" "RainIndexModel" "knowns" "[I") ∈ TBL := tb_m 3 tb_c5 (by decide +kernel) (by rfl)
theorem k_965 : (Jvm.Cond.lays "RainIndexModel" "RainIndexModel" "products" "I") ∈ TBL := tb_m 5 tb_c5 (by decide +kernel) (by rfl)
theorem k_967 : (Jvm.Cond.lays "RainIndexModel" "RainIndexModel" "drafted" "I") ∈ TBL := tb_m 7 tb_c5 (by decide +kernel) (by rfl)
theorem k_969 : (Jvm.Cond.laysFinal "RainIndexModel" "RainIndexModel" "homes" "[I") ∈ TBL := tb_m 9 tb_c5 (by decide +kernel) (by rfl)
theorem k_971 : (Jvm.Cond.laysFinal "RainIndexModel" "RainIndexModel" "trusts" "[I") ∈ TBL := tb_m 11 tb_c5 (by decide +kernel) (by rfl)
theorem k_973 : (Jvm.Cond.laysFinal "RainIndexModel" "RainIndexModel" "debts" "[I") ∈ TBL := tb_m 13 tb_c5 (by decide +kernel) (by rfl)
theorem k_975 : (Jvm.Cond.laysFinal "RainIndexModel" "RainIndexModel" "gots" "[I") ∈ TBL := tb_m 15 tb_c5 (by decide +kernel) (by rfl)
theorem k_977 : (Jvm.Cond.laysFinal "RainIndexModel" "RainIndexModel" "paids" "[I") ∈ TBL := tb_m 17 tb_c5 (by decide +kernel) (by rfl)
theorem k_979 : (Jvm.Cond.lays "RainIndexModel" "RainIndexModel" "farms" "I") ∈ TBL := tb_m 19 tb_c5 (by decide +kernel) (by rfl)
theorem k_981 : (Jvm.Cond.laysFinal "RainIndexModel" "RainIndexModel" "losses" "[I") ∈ TBL := tb_m 21 tb_c5 (by decide +kernel) (by rfl)
theorem k_983 : (Jvm.Cond.laysFinal "RainIndexModel" "RainIndexModel" "complained" "[Z") ∈ TBL := tb_m 23 tb_c5 (by decide +kernel) (by rfl)
theorem k_985 : (Jvm.Cond.lays "RainIndexModel" "RainIndexModel" "loading" "I") ∈ TBL := tb_m 25 tb_c5 (by decide +kernel) (by rfl)
theorem k_987 : (Jvm.Cond.lays "RainIndexModel" "RainIndexModel" "retention" "I") ∈ TBL := tb_m 27 tb_c5 (by decide +kernel) (by rfl)
theorem k_989 : (Jvm.Cond.lays "RainIndexModel" "RainIndexModel" "layer" "I") ∈ TBL := tb_m 29 tb_c5 (by decide +kernel) (by rfl)
theorem k_991 : (Jvm.Cond.laysFinal "RainIndexModel" "RainIndexModel" "covers" "[I") ∈ TBL := tb_m 31 tb_c5 (by decide +kernel) (by rfl)
theorem k_993 : (Jvm.Cond.lays "RainIndexModel" "RainIndexModel" "many" "I") ∈ TBL := tb_m 33 tb_c5 (by decide +kernel) (by rfl)
theorem k_995 : (Jvm.Cond.laysFinal "RainIndexModel" "RainIndexModel" "settled" "[I") ∈ TBL := tb_m 35 tb_c5 (by decide +kernel) (by rfl)
theorem k_997 : (Jvm.Cond.laysFinal "RainIndexModel" "RainIndexModel" "looked" "[Z") ∈ TBL := tb_m 37 tb_c5 (by decide +kernel) (by rfl)
theorem k_999 : (Jvm.Cond.lays "RainIndexModel" "RainIndexModel" "carried" "I") ∈ TBL := tb_m 39 tb_c5 (by decide +kernel) (by rfl)
theorem k_1001 : (Jvm.Cond.laysFinal "RainIndexModel" "RainIndexModel" "rains" "[I") ∈ TBL := tb_m 41 tb_c5 (by decide +kernel) (by rfl)
theorem k_1003 : (Jvm.Cond.lays "RainIndexModel" "RainIndexModel" "last" "I") ∈ TBL := tb_m 43 tb_c5 (by decide +kernel) (by rfl)
theorem k_1006 : (Jvm.Cond.methodLink "RainIndexLaw" (96 : Nat) ({ cls := "RainIndexModel", name := "thrown", desc := "()I" } : Jvm.MethodName)) ∈ TBL := tb_m 46 tb_c5 (by decide +kernel) (by rfl)
theorem k_1007 : (Jvm.Cond.instanceMethod ({ cls := "RainIndexModel", name := "thrown", desc := "()I" } : Jvm.MethodName)) ∈ TBL := tb_m 47 tb_c5 (by decide +kernel) (by rfl)
theorem k_1008 : (Jvm.Cond.selects "RainIndexModel" ({ cls := "RainIndexModel", name := "thrown", desc := "()I" } : Jvm.MethodName) ({ cls := "RainIndexModel", name := "thrown", desc := "()I" } : Jvm.MethodName)) ∈ TBL := tb_m 48 tb_c5 (by decide +kernel) (by rfl)
theorem k_1009 : (Jvm.Cond.code ({ cls := "RainIndexModel", name := "thrown", desc := "()I" } : Jvm.MethodName) prog_12_method_2_code (1 : Nat) (Option.some Jvm.ClassFile.FieldType.int)) ∈ TBL := tb_m 49 tb_c5 (by decide +kernel) (by rfl)
theorem k_1010 : (Jvm.Cond.methodLink "RainIndexLaw" (95 : Nat) ({ cls := "RainIndexModel", name := "station", desc := "(II)I" } : Jvm.MethodName)) ∈ TBL := tb_m 50 tb_c5 (by decide +kernel) (by rfl)
theorem k_1011 : (Jvm.Cond.instanceMethod ({ cls := "RainIndexModel", name := "station", desc := "(II)I" } : Jvm.MethodName)) ∈ TBL := tb_m 51 tb_c5 (by decide +kernel) (by rfl)
theorem k_1012 : (Jvm.Cond.selects "RainIndexModel" ({ cls := "RainIndexModel", name := "station", desc := "(II)I" } : Jvm.MethodName) ({ cls := "RainIndexModel", name := "station", desc := "(II)I" } : Jvm.MethodName)) ∈ TBL := tb_m 52 tb_c5 (by decide +kernel) (by rfl)
theorem k_1013 : (Jvm.Cond.code ({ cls := "RainIndexModel", name := "station", desc := "(II)I" } : Jvm.MethodName) prog_12_method_10_code (3 : Nat) (Option.some Jvm.ClassFile.FieldType.int)) ∈ TBL := tb_m 53 tb_c5 (by decide +kernel) (by rfl)
theorem k_1014 : (Jvm.Cond.methodLink "RainIndexModel" (81 : Nat) ({ cls := "RainIndexModel", name := "in", desc := "(III)Z" } : Jvm.MethodName)) ∈ TBL := tb_m 54 tb_c5 (by decide +kernel) (by rfl)
theorem k_1015 : (Jvm.Cond.static ({ cls := "RainIndexModel", name := "in", desc := "(III)Z" } : Jvm.MethodName)) ∈ TBL := tb_m 55 tb_c5 (by decide +kernel) (by rfl)
theorem k_1016 : (Jvm.Cond.code ({ cls := "RainIndexModel", name := "in", desc := "(III)Z" } : Jvm.MethodName) prog_12_method_3_code (3 : Nat) (Option.some Jvm.ClassFile.FieldType.boolean)) ∈ TBL := tb_m 56 tb_c5 (by decide +kernel) (by rfl)
theorem k_1017 : (Jvm.Cond.methodLink "RainIndexModel" (95 : Nat) ({ cls := "RainIndexModel", name := "goes", desc := "(ZZZ)Z" } : Jvm.MethodName)) ∈ TBL := tb_m 57 tb_c5 (by decide +kernel) (by rfl)
theorem k_1019 : (Jvm.Cond.instanceMethod ({ cls := "RainIndexModel", name := "goes", desc := "(ZZZ)Z" } : Jvm.MethodName)) ∈ TBL := tb_m 59 tb_c5 (by decide +kernel) (by rfl)
theorem k_1020 : (Jvm.Cond.code ({ cls := "RainIndexModel", name := "goes", desc := "(ZZZ)Z" } : Jvm.MethodName) prog_12_method_4_code (4 : Nat) (Option.some Jvm.ClassFile.FieldType.boolean)) ∈ TBL := tb_m 60 tb_c5 (by decide +kernel) (by rfl)
theorem k_1021 : (Jvm.Cond.methodLink "RainIndexLaw" (103 : Nat) ({ cls := "RainIndexModel", name := "rain", desc := "(III)I" } : Jvm.MethodName)) ∈ TBL := tb_m 61 tb_c5 (by decide +kernel) (by rfl)
theorem k_1022 : (Jvm.Cond.instanceMethod ({ cls := "RainIndexModel", name := "rain", desc := "(III)I" } : Jvm.MethodName)) ∈ TBL := tb_m 62 tb_c5 (by decide +kernel) (by rfl)
theorem k_1023 : (Jvm.Cond.selects "RainIndexModel" ({ cls := "RainIndexModel", name := "rain", desc := "(III)I" } : Jvm.MethodName) ({ cls := "RainIndexModel", name := "rain", desc := "(III)I" } : Jvm.MethodName)) ∈ TBL := tb_m 63 tb_c5 (by decide +kernel) (by rfl)
theorem k_1024 : (Jvm.Cond.code ({ cls := "RainIndexModel", name := "rain", desc := "(III)I" } : Jvm.MethodName) prog_12_method_11_code (6 : Nat) (Option.some Jvm.ClassFile.FieldType.int)) ∈ TBL := tb_m 64 tb_c5 (by decide +kernel) (by rfl)
theorem k_1025 : (Jvm.Cond.methodLink "RainIndexModel" (99 : Nat) ({ cls := "RainIndexModel", name := "isStation", desc := "(I)Z" } : Jvm.MethodName)) ∈ TBL := tb_m 65 tb_c5 (by decide +kernel) (by rfl)
theorem k_1027 : (Jvm.Cond.instanceMethod ({ cls := "RainIndexModel", name := "isStation", desc := "(I)Z" } : Jvm.MethodName)) ∈ TBL := tb_m 67 tb_c5 (by decide +kernel) (by rfl)
theorem k_1028 : (Jvm.Cond.code ({ cls := "RainIndexModel", name := "isStation", desc := "(I)Z" } : Jvm.MethodName) prog_12_method_5_code (2 : Nat) (Option.some Jvm.ClassFile.FieldType.boolean)) ∈ TBL := tb_m 68 tb_c5 (by decide +kernel) (by rfl)
theorem k_1029 : (Jvm.Cond.methodLink "RainIndexLaw" (107 : Nat) ({ cls := "RainIndexModel", name := "pass", desc := "(I)I" } : Jvm.MethodName)) ∈ TBL := tb_m 69 tb_c5 (by decide +kernel) (by rfl)
theorem k_1030 : (Jvm.Cond.instanceMethod ({ cls := "RainIndexModel", name := "pass", desc := "(I)I" } : Jvm.MethodName)) ∈ TBL := tb_m 70 tb_c5 (by decide +kernel) (by rfl)
theorem k_1031 : (Jvm.Cond.selects "RainIndexModel" ({ cls := "RainIndexModel", name := "pass", desc := "(I)I" } : Jvm.MethodName) ({ cls := "RainIndexModel", name := "pass", desc := "(I)I" } : Jvm.MethodName)) ∈ TBL := tb_m 71 tb_c5 (by decide +kernel) (by rfl)
theorem k_1032 : (Jvm.Cond.code ({ cls := "RainIndexModel", name := "pass", desc := "(I)I" } : Jvm.MethodName) prog_12_method_12_code (3 : Nat) (Option.some Jvm.ClassFile.FieldType.int)) ∈ TBL := tb_m 72 tb_c5 (by decide +kernel) (by rfl)
theorem k_1033 : (Jvm.Cond.methodLink "RainIndexLaw" (143 : Nat) ({ cls := "RainIndexModel", name := "day", desc := "()I" } : Jvm.MethodName)) ∈ TBL := tb_m 73 tb_c5 (by decide +kernel) (by rfl)
theorem k_1034 : (Jvm.Cond.instanceMethod ({ cls := "RainIndexModel", name := "day", desc := "()I" } : Jvm.MethodName)) ∈ TBL := tb_m 74 tb_c5 (by decide +kernel) (by rfl)
theorem k_1035 : (Jvm.Cond.selects "RainIndexModel" ({ cls := "RainIndexModel", name := "day", desc := "()I" } : Jvm.MethodName) ({ cls := "RainIndexModel", name := "day", desc := "()I" } : Jvm.MethodName)) ∈ TBL := tb_m 75 tb_c5 (by decide +kernel) (by rfl)
theorem k_1036 : (Jvm.Cond.code ({ cls := "RainIndexModel", name := "day", desc := "()I" } : Jvm.MethodName) prog_12_method_13_code (1 : Nat) (Option.some Jvm.ClassFile.FieldType.int)) ∈ TBL := tb_m 76 tb_c5 (by decide +kernel) (by rfl)
theorem k_1037 : (Jvm.Cond.methodLink "RainIndexLaw" (146 : Nat) ({ cls := "RainIndexModel", name := "filled", desc := "(III)I" } : Jvm.MethodName)) ∈ TBL := tb_m 77 tb_c5 (by decide +kernel) (by rfl)
theorem k_1038 : (Jvm.Cond.instanceMethod ({ cls := "RainIndexModel", name := "filled", desc := "(III)I" } : Jvm.MethodName)) ∈ TBL := tb_m 78 tb_c5 (by decide +kernel) (by rfl)
theorem k_1039 : (Jvm.Cond.selects "RainIndexModel" ({ cls := "RainIndexModel", name := "filled", desc := "(III)I" } : Jvm.MethodName) ({ cls := "RainIndexModel", name := "filled", desc := "(III)I" } : Jvm.MethodName)) ∈ TBL := tb_m 79 tb_c5 (by decide +kernel) (by rfl)
theorem k_1040 : (Jvm.Cond.code ({ cls := "RainIndexModel", name := "filled", desc := "(III)I" } : Jvm.MethodName) prog_12_method_16_code (5 : Nat) (Option.some Jvm.ClassFile.FieldType.int)) ∈ TBL := tb_m 80 tb_c5 (by decide +kernel) (by rfl)
theorem k_1041 : (Jvm.Cond.methodLink "RainIndexModel" (110 : Nat) ({ cls := "RainIndexModel", name := "rainOn", desc := "(III)I" } : Jvm.MethodName)) ∈ TBL := tb_m 81 tb_c5 (by decide +kernel) (by rfl)
theorem k_1043 : (Jvm.Cond.instanceMethod ({ cls := "RainIndexModel", name := "rainOn", desc := "(III)I" } : Jvm.MethodName)) ∈ TBL := tb_m 83 tb_c5 (by decide +kernel) (by rfl)
theorem k_1044 : (Jvm.Cond.code ({ cls := "RainIndexModel", name := "rainOn", desc := "(III)I" } : Jvm.MethodName) prog_12_method_15_code (8 : Nat) (Option.some Jvm.ClassFile.FieldType.int)) ∈ TBL := tb_m 84 tb_c5 (by decide +kernel) (by rfl)
theorem k_1045 : (Jvm.Cond.methodLink "RainIndexModel" (106 : Nat) ({ cls := "RainIndexModel", name := "off", desc := "(III)I" } : Jvm.MethodName)) ∈ TBL := tb_m 85 tb_c5 (by decide +kernel) (by rfl)
theorem k_1047 : (Jvm.Cond.instanceMethod ({ cls := "RainIndexModel", name := "off", desc := "(III)I" } : Jvm.MethodName)) ∈ TBL := tb_m 87 tb_c5 (by decide +kernel) (by rfl)
theorem k_1048 : (Jvm.Cond.code ({ cls := "RainIndexModel", name := "off", desc := "(III)I" } : Jvm.MethodName) prog_12_method_14_code (4 : Nat) (Option.some Jvm.ClassFile.FieldType.int)) ∈ TBL := tb_m 88 tb_c5 (by decide +kernel) (by rfl)
theorem k_1049 : (Jvm.Cond.methodLink "RainIndexLaw" (149 : Nat) ({ cls := "RainIndexModel", name := "onset", desc := "(III)I" } : Jvm.MethodName)) ∈ TBL := tb_m 89 tb_c5 (by decide +kernel) (by rfl)
theorem k_1050 : (Jvm.Cond.instanceMethod ({ cls := "RainIndexModel", name := "onset", desc := "(III)I" } : Jvm.MethodName)) ∈ TBL := tb_m 90 tb_c5 (by decide +kernel) (by rfl)
theorem k_1051 : (Jvm.Cond.selects "RainIndexModel" ({ cls := "RainIndexModel", name := "onset", desc := "(III)I" } : Jvm.MethodName) ({ cls := "RainIndexModel", name := "onset", desc := "(III)I" } : Jvm.MethodName)) ∈ TBL := tb_m 91 tb_c5 (by decide +kernel) (by rfl)
theorem k_1052 : (Jvm.Cond.code ({ cls := "RainIndexModel", name := "onset", desc := "(III)I" } : Jvm.MethodName) prog_12_method_20_code (4 : Nat) (Option.some Jvm.ClassFile.FieldType.int)) ∈ TBL := tb_m 92 tb_c5 (by decide +kernel) (by rfl)
theorem k_1053 : (Jvm.Cond.methodLink "RainIndexModel" (116 : Nat) ({ cls := "RainIndexModel", name := "isSeason", desc := "(I)Z" } : Jvm.MethodName)) ∈ TBL := tb_m 93 tb_c5 (by decide +kernel) (by rfl)
theorem k_1054 : (Jvm.Cond.static ({ cls := "RainIndexModel", name := "isSeason", desc := "(I)Z" } : Jvm.MethodName)) ∈ TBL := tb_m 94 tb_c5 (by decide +kernel) (by rfl)
theorem k_1055 : (Jvm.Cond.code ({ cls := "RainIndexModel", name := "isSeason", desc := "(I)Z" } : Jvm.MethodName) prog_12_method_6_code (1 : Nat) (Option.some Jvm.ClassFile.FieldType.boolean)) ∈ TBL := tb_m 95 tb_c5 (by decide +kernel) (by rfl)
theorem k_1056 : (Jvm.Cond.methodLink "RainIndexModel" (119 : Nat) ({ cls := "RainIndexModel", name := "lays", desc := "(III)V" } : Jvm.MethodName)) ∈ TBL := tb_m 96 tb_c5 (by decide +kernel) (by rfl)
theorem k_1058 : (Jvm.Cond.instanceMethod ({ cls := "RainIndexModel", name := "lays", desc := "(III)V" } : Jvm.MethodName)) ∈ TBL := tb_m 98 tb_c5 (by decide +kernel) (by rfl)
theorem k_1059 : (Jvm.Cond.code ({ cls := "RainIndexModel", name := "lays", desc := "(III)V" } : Jvm.MethodName) prog_12_method_17_code (5 : Nat) (Option.none : Option Jvm.ClassFile.FieldType)) ∈ TBL := tb_m 99 tb_c5 (by decide +kernel) (by rfl)
theorem k_1060 : (Jvm.Cond.methodLink "RainIndexModel" (123 : Nat) ({ cls := "RainIndexModel", name := "beginning", desc := "()I" } : Jvm.MethodName)) ∈ TBL := tb_m 100 tb_c5 (by decide +kernel) (by rfl)
theorem k_1062 : (Jvm.Cond.instanceMethod ({ cls := "RainIndexModel", name := "beginning", desc := "()I" } : Jvm.MethodName)) ∈ TBL := tb_m 102 tb_c5 (by decide +kernel) (by rfl)
theorem k_1063 : (Jvm.Cond.code ({ cls := "RainIndexModel", name := "beginning", desc := "()I" } : Jvm.MethodName) prog_12_method_19_code (2 : Nat) (Option.some Jvm.ClassFile.FieldType.int)) ∈ TBL := tb_m 103 tb_c5 (by decide +kernel) (by rfl)
theorem k_1064 : (Jvm.Cond.methodLink "RainIndexModel" (113 : Nat) ({ cls := "RainIndexModel", name := "isFalse", desc := "(I)Z" } : Jvm.MethodName)) ∈ TBL := tb_m 104 tb_c5 (by decide +kernel) (by rfl)
theorem k_1066 : (Jvm.Cond.instanceMethod ({ cls := "RainIndexModel", name := "isFalse", desc := "(I)Z" } : Jvm.MethodName)) ∈ TBL := tb_m 106 tb_c5 (by decide +kernel) (by rfl)
theorem k_1067 : (Jvm.Cond.code ({ cls := "RainIndexModel", name := "isFalse", desc := "(I)Z" } : Jvm.MethodName) prog_12_method_18_code (5 : Nat) (Option.some Jvm.ClassFile.FieldType.boolean)) ∈ TBL := tb_m 107 tb_c5 (by decide +kernel) (by rfl)
theorem k_1068 : (Jvm.Cond.methodLink "RainIndexLaw" (111 : Nat) ({ cls := "RainIndexModel", name := "phase", desc := "(IZIII)I" } : Jvm.MethodName)) ∈ TBL := tb_m 108 tb_c5 (by decide +kernel) (by rfl)
theorem k_1069 : (Jvm.Cond.instanceMethod ({ cls := "RainIndexModel", name := "phase", desc := "(IZIII)I" } : Jvm.MethodName)) ∈ TBL := tb_m 109 tb_c5 (by decide +kernel) (by rfl)
theorem k_1070 : (Jvm.Cond.selects "RainIndexModel" ({ cls := "RainIndexModel", name := "phase", desc := "(IZIII)I" } : Jvm.MethodName) ({ cls := "RainIndexModel", name := "phase", desc := "(IZIII)I" } : Jvm.MethodName)) ∈ TBL := tb_m 110 tb_c5 (by decide +kernel) (by rfl)
theorem k_1071 : (Jvm.Cond.code ({ cls := "RainIndexModel", name := "phase", desc := "(IZIII)I" } : Jvm.MethodName) prog_12_method_21_code (8 : Nat) (Option.some Jvm.ClassFile.FieldType.int)) ∈ TBL := tb_m 111 tb_c5 (by decide +kernel) (by rfl)
theorem k_1072 : (Jvm.Cond.methodLink "RainIndexLaw" (114 : Nat) ({ cls := "RainIndexModel", name := "product", desc := "(I)I" } : Jvm.MethodName)) ∈ TBL := tb_m 112 tb_c5 (by decide +kernel) (by rfl)
theorem k_1073 : (Jvm.Cond.instanceMethod ({ cls := "RainIndexModel", name := "product", desc := "(I)I" } : Jvm.MethodName)) ∈ TBL := tb_m 113 tb_c5 (by decide +kernel) (by rfl)
theorem k_1074 : (Jvm.Cond.selects "RainIndexModel" ({ cls := "RainIndexModel", name := "product", desc := "(I)I" } : Jvm.MethodName) ({ cls := "RainIndexModel", name := "product", desc := "(I)I" } : Jvm.MethodName)) ∈ TBL := tb_m 114 tb_c5 (by decide +kernel) (by rfl)
theorem k_1075 : (Jvm.Cond.code ({ cls := "RainIndexModel", name := "product", desc := "(I)I" } : Jvm.MethodName) prog_12_method_22_code (3 : Nat) (Option.some Jvm.ClassFile.FieldType.int)) ∈ TBL := tb_m 115 tb_c5 (by decide +kernel) (by rfl)
theorem k_1076 : (Jvm.Cond.methodLink "RainIndexLaw" (152 : Nat) ({ cls := "RainIndexModel", name := "index", desc := "(IIII)I" } : Jvm.MethodName)) ∈ TBL := tb_m 116 tb_c5 (by decide +kernel) (by rfl)
theorem k_1077 : (Jvm.Cond.instanceMethod ({ cls := "RainIndexModel", name := "index", desc := "(IIII)I" } : Jvm.MethodName)) ∈ TBL := tb_m 117 tb_c5 (by decide +kernel) (by rfl)
theorem k_1078 : (Jvm.Cond.selects "RainIndexModel" ({ cls := "RainIndexModel", name := "index", desc := "(IIII)I" } : Jvm.MethodName) ({ cls := "RainIndexModel", name := "index", desc := "(IIII)I" } : Jvm.MethodName)) ∈ TBL := tb_m 118 tb_c5 (by decide +kernel) (by rfl)
theorem k_1079 : (Jvm.Cond.code ({ cls := "RainIndexModel", name := "index", desc := "(IIII)I" } : Jvm.MethodName) prog_12_method_26_code (6 : Nat) (Option.some Jvm.ClassFile.FieldType.int)) ∈ TBL := tb_m 119 tb_c5 (by decide +kernel) (by rfl)
theorem k_1080 : (Jvm.Cond.methodLink "RainIndexModel" (140 : Nat) ({ cls := "RainIndexModel", name := "isProduct", desc := "(I)Z" } : Jvm.MethodName)) ∈ TBL := tb_m 120 tb_c5 (by decide +kernel) (by rfl)
theorem k_1082 : (Jvm.Cond.instanceMethod ({ cls := "RainIndexModel", name := "isProduct", desc := "(I)Z" } : Jvm.MethodName)) ∈ TBL := tb_m 122 tb_c5 (by decide +kernel) (by rfl)
theorem k_1083 : (Jvm.Cond.code ({ cls := "RainIndexModel", name := "isProduct", desc := "(I)Z" } : Jvm.MethodName) prog_12_method_7_code (2 : Nat) (Option.some Jvm.ClassFile.FieldType.boolean)) ∈ TBL := tb_m 123 tb_c5 (by decide +kernel) (by rfl)
theorem k_1084 : (Jvm.Cond.methodLink "RainIndexModel" (130 : Nat) ({ cls := "RainIndexModel", name := "looksAt", desc := "(II)I" } : Jvm.MethodName)) ∈ TBL := tb_m 124 tb_c5 (by decide +kernel) (by rfl)
theorem k_1086 : (Jvm.Cond.instanceMethod ({ cls := "RainIndexModel", name := "looksAt", desc := "(II)I" } : Jvm.MethodName)) ∈ TBL := tb_m 126 tb_c5 (by decide +kernel) (by rfl)
theorem k_1087 : (Jvm.Cond.code ({ cls := "RainIndexModel", name := "looksAt", desc := "(II)I" } : Jvm.MethodName) prog_12_method_23_code (10 : Nat) (Option.some Jvm.ClassFile.FieldType.int)) ∈ TBL := tb_m 127 tb_c5 (by decide +kernel) (by rfl)
theorem k_1088 : (Jvm.Cond.methodLink "RainIndexLaw" (155 : Nat) ({ cls := "RainIndexModel", name := "rate", desc := "(III)I" } : Jvm.MethodName)) ∈ TBL := tb_m 128 tb_c5 (by decide +kernel) (by rfl)
theorem k_1089 : (Jvm.Cond.instanceMethod ({ cls := "RainIndexModel", name := "rate", desc := "(III)I" } : Jvm.MethodName)) ∈ TBL := tb_m 129 tb_c5 (by decide +kernel) (by rfl)
theorem k_1090 : (Jvm.Cond.selects "RainIndexModel" ({ cls := "RainIndexModel", name := "rate", desc := "(III)I" } : Jvm.MethodName) ({ cls := "RainIndexModel", name := "rate", desc := "(III)I" } : Jvm.MethodName)) ∈ TBL := tb_m 130 tb_c5 (by decide +kernel) (by rfl)
theorem k_1091 : (Jvm.Cond.code ({ cls := "RainIndexModel", name := "rate", desc := "(III)I" } : Jvm.MethodName) prog_12_method_27_code (4 : Nat) (Option.some Jvm.ClassFile.FieldType.int)) ∈ TBL := tb_m 131 tb_c5 (by decide +kernel) (by rfl)
theorem k_1092 : (Jvm.Cond.methodLink "RainIndexModel" (143 : Nat) ({ cls := "RainIndexModel", name := "rateOf", desc := "(III)I" } : Jvm.MethodName)) ∈ TBL := tb_m 132 tb_c5 (by decide +kernel) (by rfl)
theorem k_1094 : (Jvm.Cond.instanceMethod ({ cls := "RainIndexModel", name := "rateOf", desc := "(III)I" } : Jvm.MethodName)) ∈ TBL := tb_m 134 tb_c5 (by decide +kernel) (by rfl)
theorem k_1095 : (Jvm.Cond.code ({ cls := "RainIndexModel", name := "rateOf", desc := "(III)I" } : Jvm.MethodName) prog_12_method_25_code (6 : Nat) (Option.some Jvm.ClassFile.FieldType.int)) ∈ TBL := tb_m 135 tb_c5 (by decide +kernel) (by rfl)
theorem k_1096 : (Jvm.Cond.methodLink "RainIndexModel" (134 : Nat) ({ cls := "RainIndexModel", name := "pays", desc := "(II)I" } : Jvm.MethodName)) ∈ TBL := tb_m 136 tb_c5 (by decide +kernel) (by rfl)
theorem k_1098 : (Jvm.Cond.instanceMethod ({ cls := "RainIndexModel", name := "pays", desc := "(II)I" } : Jvm.MethodName)) ∈ TBL := tb_m 138 tb_c5 (by decide +kernel) (by rfl)
theorem k_1099 : (Jvm.Cond.code ({ cls := "RainIndexModel", name := "pays", desc := "(II)I" } : Jvm.MethodName) prog_12_method_24_code (7 : Nat) (Option.some Jvm.ClassFile.FieldType.int)) ∈ TBL := tb_m 139 tb_c5 (by decide +kernel) (by rfl)
theorem k_1100 : (Jvm.Cond.methodLink "RainIndexModel" (137 : Nat) ({ cls := "RainIndexModel", name := "lesser", desc := "(II)I" } : Jvm.MethodName)) ∈ TBL := tb_m 140 tb_c5 (by decide +kernel) (by rfl)
theorem k_1101 : (Jvm.Cond.static ({ cls := "RainIndexModel", name := "lesser", desc := "(II)I" } : Jvm.MethodName)) ∈ TBL := tb_m 141 tb_c5 (by decide +kernel) (by rfl)
theorem k_1102 : (Jvm.Cond.code ({ cls := "RainIndexModel", name := "lesser", desc := "(II)I" } : Jvm.MethodName) prog_12_method_9_code (2 : Nat) (Option.some Jvm.ClassFile.FieldType.int)) ∈ TBL := tb_m 142 tb_c5 (by decide +kernel) (by rfl)
theorem k_1103 : (Jvm.Cond.methodLink "RainIndexLaw" (158 : Nat) ({ cls := "RainIndexModel", name := "priced", desc := "(II)I" } : Jvm.MethodName)) ∈ TBL := tb_m 143 tb_c5 (by decide +kernel) (by rfl)
theorem k_1104 : (Jvm.Cond.instanceMethod ({ cls := "RainIndexModel", name := "priced", desc := "(II)I" } : Jvm.MethodName)) ∈ TBL := tb_m 144 tb_c5 (by decide +kernel) (by rfl)
theorem k_1105 : (Jvm.Cond.selects "RainIndexModel" ({ cls := "RainIndexModel", name := "priced", desc := "(II)I" } : Jvm.MethodName) ({ cls := "RainIndexModel", name := "priced", desc := "(II)I" } : Jvm.MethodName)) ∈ TBL := tb_m 145 tb_c5 (by decide +kernel) (by rfl)
theorem k_1106 : (Jvm.Cond.code ({ cls := "RainIndexModel", name := "priced", desc := "(II)I" } : Jvm.MethodName) prog_12_method_30_code (3 : Nat) (Option.some Jvm.ClassFile.FieldType.int)) ∈ TBL := tb_m 146 tb_c5 (by decide +kernel) (by rfl)
theorem k_1107 : (Jvm.Cond.methodLink "RainIndexModel" (149 : Nat) ({ cls := "RainIndexModel", name := "pricedOf", desc := "(II)I" } : Jvm.MethodName)) ∈ TBL := tb_m 147 tb_c5 (by decide +kernel) (by rfl)
theorem k_1109 : (Jvm.Cond.instanceMethod ({ cls := "RainIndexModel", name := "pricedOf", desc := "(II)I" } : Jvm.MethodName)) ∈ TBL := tb_m 149 tb_c5 (by decide +kernel) (by rfl)
theorem k_1110 : (Jvm.Cond.code ({ cls := "RainIndexModel", name := "pricedOf", desc := "(II)I" } : Jvm.MethodName) prog_12_method_29_code (6 : Nat) (Option.some Jvm.ClassFile.FieldType.int)) ∈ TBL := tb_m 150 tb_c5 (by decide +kernel) (by rfl)
theorem k_1111 : (Jvm.Cond.methodLink "RainIndexModel" (146 : Nat) ({ cls := "RainIndexModel", name := "isOver", desc := "(I)Z" } : Jvm.MethodName)) ∈ TBL := tb_m 151 tb_c5 (by decide +kernel) (by rfl)
theorem k_1113 : (Jvm.Cond.instanceMethod ({ cls := "RainIndexModel", name := "isOver", desc := "(I)Z" } : Jvm.MethodName)) ∈ TBL := tb_m 153 tb_c5 (by decide +kernel) (by rfl)
theorem k_1114 : (Jvm.Cond.code ({ cls := "RainIndexModel", name := "isOver", desc := "(I)Z" } : Jvm.MethodName) prog_12_method_28_code (2 : Nat) (Option.some Jvm.ClassFile.FieldType.boolean)) ∈ TBL := tb_m 154 tb_c5 (by decide +kernel) (by rfl)
theorem k_1115 : (Jvm.Cond.methodLink "RainIndexLaw" (117 : Nat) ({ cls := "RainIndexModel", name := "farm", desc := "(II)I" } : Jvm.MethodName)) ∈ TBL := tb_m 155 tb_c5 (by decide +kernel) (by rfl)
theorem k_1116 : (Jvm.Cond.instanceMethod ({ cls := "RainIndexModel", name := "farm", desc := "(II)I" } : Jvm.MethodName)) ∈ TBL := tb_m 156 tb_c5 (by decide +kernel) (by rfl)
theorem k_1117 : (Jvm.Cond.selects "RainIndexModel" ({ cls := "RainIndexModel", name := "farm", desc := "(II)I" } : Jvm.MethodName) ({ cls := "RainIndexModel", name := "farm", desc := "(II)I" } : Jvm.MethodName)) ∈ TBL := tb_m 157 tb_c5 (by decide +kernel) (by rfl)
theorem k_1118 : (Jvm.Cond.code ({ cls := "RainIndexModel", name := "farm", desc := "(II)I" } : Jvm.MethodName) prog_12_method_31_code (5 : Nat) (Option.some Jvm.ClassFile.FieldType.int)) ∈ TBL := tb_m 158 tb_c5 (by decide +kernel) (by rfl)
theorem k_1119 : (Jvm.Cond.methodLink "RainIndexLaw" (120 : Nat) ({ cls := "RainIndexModel", name := "lend", desc := "(II)I" } : Jvm.MethodName)) ∈ TBL := tb_m 159 tb_c5 (by decide +kernel) (by rfl)
theorem k_1120 : (Jvm.Cond.instanceMethod ({ cls := "RainIndexModel", name := "lend", desc := "(II)I" } : Jvm.MethodName)) ∈ TBL := tb_m 160 tb_c5 (by decide +kernel) (by rfl)
theorem k_1121 : (Jvm.Cond.selects "RainIndexModel" ({ cls := "RainIndexModel", name := "lend", desc := "(II)I" } : Jvm.MethodName) ({ cls := "RainIndexModel", name := "lend", desc := "(II)I" } : Jvm.MethodName)) ∈ TBL := tb_m 161 tb_c5 (by decide +kernel) (by rfl)
theorem k_1122 : (Jvm.Cond.code ({ cls := "RainIndexModel", name := "lend", desc := "(II)I" } : Jvm.MethodName) prog_12_method_32_code (5 : Nat) (Option.some Jvm.ClassFile.FieldType.int)) ∈ TBL := tb_m 162 tb_c5 (by decide +kernel) (by rfl)
theorem k_1123 : (Jvm.Cond.methodLink "RainIndexModel" (152 : Nat) ({ cls := "RainIndexModel", name := "isFarm", desc := "(I)Z" } : Jvm.MethodName)) ∈ TBL := tb_m 163 tb_c5 (by decide +kernel) (by rfl)
theorem k_1125 : (Jvm.Cond.instanceMethod ({ cls := "RainIndexModel", name := "isFarm", desc := "(I)Z" } : Jvm.MethodName)) ∈ TBL := tb_m 165 tb_c5 (by decide +kernel) (by rfl)
theorem k_1126 : (Jvm.Cond.code ({ cls := "RainIndexModel", name := "isFarm", desc := "(I)Z" } : Jvm.MethodName) prog_12_method_8_code (2 : Nat) (Option.some Jvm.ClassFile.FieldType.boolean)) ∈ TBL := tb_m 166 tb_c5 (by decide +kernel) (by rfl)
theorem k_1127 : (Jvm.Cond.constant "RainIndexModel" (155 : Nat) (99999 : Int32)) ∈ TBL := tb_m 167 tb_c5 (by decide +kernel) (by rfl)
theorem k_1128 : (Jvm.Cond.methodLink "RainIndexLaw" (123 : Nat) ({ cls := "RainIndexModel", name := "loading", desc := "(I)I" } : Jvm.MethodName)) ∈ TBL := tb_m 168 tb_c5 (by decide +kernel) (by rfl)
theorem k_1129 : (Jvm.Cond.instanceMethod ({ cls := "RainIndexModel", name := "loading", desc := "(I)I" } : Jvm.MethodName)) ∈ TBL := tb_m 169 tb_c5 (by decide +kernel) (by rfl)
theorem k_1130 : (Jvm.Cond.selects "RainIndexModel" ({ cls := "RainIndexModel", name := "loading", desc := "(I)I" } : Jvm.MethodName) ({ cls := "RainIndexModel", name := "loading", desc := "(I)I" } : Jvm.MethodName)) ∈ TBL := tb_m 170 tb_c5 (by decide +kernel) (by rfl)
theorem k_1131 : (Jvm.Cond.code ({ cls := "RainIndexModel", name := "loading", desc := "(I)I" } : Jvm.MethodName) prog_12_method_33_code (3 : Nat) (Option.some Jvm.ClassFile.FieldType.int)) ∈ TBL := tb_m 171 tb_c5 (by decide +kernel) (by rfl)
theorem k_1132 : (Jvm.Cond.methodLink "RainIndexLaw" (126 : Nat) ({ cls := "RainIndexModel", name := "layer", desc := "(II)I" } : Jvm.MethodName)) ∈ TBL := tb_m 172 tb_c5 (by decide +kernel) (by rfl)
theorem k_1133 : (Jvm.Cond.instanceMethod ({ cls := "RainIndexModel", name := "layer", desc := "(II)I" } : Jvm.MethodName)) ∈ TBL := tb_m 173 tb_c5 (by decide +kernel) (by rfl)
theorem k_1134 : (Jvm.Cond.selects "RainIndexModel" ({ cls := "RainIndexModel", name := "layer", desc := "(II)I" } : Jvm.MethodName) ({ cls := "RainIndexModel", name := "layer", desc := "(II)I" } : Jvm.MethodName)) ∈ TBL := tb_m 174 tb_c5 (by decide +kernel) (by rfl)
theorem k_1135 : (Jvm.Cond.code ({ cls := "RainIndexModel", name := "layer", desc := "(II)I" } : Jvm.MethodName) prog_12_method_34_code (4 : Nat) (Option.some Jvm.ClassFile.FieldType.int)) ∈ TBL := tb_m 175 tb_c5 (by decide +kernel) (by rfl)
theorem k_1136 : (Jvm.Cond.methodLink "RainIndexLaw" (130 : Nat) ({ cls := "RainIndexModel", name := "sell", desc := "(IIII)I" } : Jvm.MethodName)) ∈ TBL := tb_m 176 tb_c5 (by decide +kernel) (by rfl)
theorem k_1137 : (Jvm.Cond.instanceMethod ({ cls := "RainIndexModel", name := "sell", desc := "(IIII)I" } : Jvm.MethodName)) ∈ TBL := tb_m 177 tb_c5 (by decide +kernel) (by rfl)
theorem k_1138 : (Jvm.Cond.selects "RainIndexModel" ({ cls := "RainIndexModel", name := "sell", desc := "(IIII)I" } : Jvm.MethodName) ({ cls := "RainIndexModel", name := "sell", desc := "(IIII)I" } : Jvm.MethodName)) ∈ TBL := tb_m 178 tb_c5 (by decide +kernel) (by rfl)
theorem k_1139 : (Jvm.Cond.code ({ cls := "RainIndexModel", name := "sell", desc := "(IIII)I" } : Jvm.MethodName) prog_12_method_36_code (11 : Nat) (Option.some Jvm.ClassFile.FieldType.int)) ∈ TBL := tb_m 179 tb_c5 (by decide +kernel) (by rfl)
theorem k_1140 : (Jvm.Cond.methodLink "RainIndexModel" (159 : Nat) ({ cls := "RainIndexModel", name := "coverOf", desc := "(II)I" } : Jvm.MethodName)) ∈ TBL := tb_m 180 tb_c5 (by decide +kernel) (by rfl)
theorem k_1142 : (Jvm.Cond.instanceMethod ({ cls := "RainIndexModel", name := "coverOf", desc := "(II)I" } : Jvm.MethodName)) ∈ TBL := tb_m 182 tb_c5 (by decide +kernel) (by rfl)
theorem k_1143 : (Jvm.Cond.code ({ cls := "RainIndexModel", name := "coverOf", desc := "(II)I" } : Jvm.MethodName) prog_12_method_35_code (5 : Nat) (Option.some Jvm.ClassFile.FieldType.int)) ∈ TBL := tb_m 183 tb_c5 (by decide +kernel) (by rfl)
theorem k_1144 : (Jvm.Cond.methodLink "RainIndexLaw" (133 : Nat) ({ cls := "RainIndexModel", name := "settle", desc := "(I)I" } : Jvm.MethodName)) ∈ TBL := tb_m 184 tb_c5 (by decide +kernel) (by rfl)
theorem k_1145 : (Jvm.Cond.instanceMethod ({ cls := "RainIndexModel", name := "settle", desc := "(I)I" } : Jvm.MethodName)) ∈ TBL := tb_m 185 tb_c5 (by decide +kernel) (by rfl)
theorem k_1146 : (Jvm.Cond.selects "RainIndexModel" ({ cls := "RainIndexModel", name := "settle", desc := "(I)I" } : Jvm.MethodName) ({ cls := "RainIndexModel", name := "settle", desc := "(I)I" } : Jvm.MethodName)) ∈ TBL := tb_m 186 tb_c5 (by decide +kernel) (by rfl)
theorem k_1147 : (Jvm.Cond.code ({ cls := "RainIndexModel", name := "settle", desc := "(I)I" } : Jvm.MethodName) prog_12_method_38_code (12 : Nat) (Option.some Jvm.ClassFile.FieldType.int)) ∈ TBL := tb_m 187 tb_c5 (by decide +kernel) (by rfl)
theorem k_1148 : (Jvm.Cond.methodLink "RainIndexModel" (162 : Nat) ({ cls := "RainIndexModel", name := "trusts", desc := "(III)V" } : Jvm.MethodName)) ∈ TBL := tb_m 188 tb_c5 (by decide +kernel) (by rfl)
theorem k_1150 : (Jvm.Cond.instanceMethod ({ cls := "RainIndexModel", name := "trusts", desc := "(III)V" } : Jvm.MethodName)) ∈ TBL := tb_m 190 tb_c5 (by decide +kernel) (by rfl)
theorem k_1151 : (Jvm.Cond.code ({ cls := "RainIndexModel", name := "trusts", desc := "(III)V" } : Jvm.MethodName) prog_12_method_37_code (6 : Nat) (Option.none : Option Jvm.ClassFile.FieldType)) ∈ TBL := tb_m 191 tb_c5 (by decide +kernel) (by rfl)
theorem k_1152 : (Jvm.Cond.methodLink "RainIndexLaw" (136 : Nat) ({ cls := "RainIndexModel", name := "loss", desc := "(III)I" } : Jvm.MethodName)) ∈ TBL := tb_m 192 tb_c5 (by decide +kernel) (by rfl)
theorem k_1153 : (Jvm.Cond.instanceMethod ({ cls := "RainIndexModel", name := "loss", desc := "(III)I" } : Jvm.MethodName)) ∈ TBL := tb_m 193 tb_c5 (by decide +kernel) (by rfl)
theorem k_1154 : (Jvm.Cond.selects "RainIndexModel" ({ cls := "RainIndexModel", name := "loss", desc := "(III)I" } : Jvm.MethodName) ({ cls := "RainIndexModel", name := "loss", desc := "(III)I" } : Jvm.MethodName)) ∈ TBL := tb_m 194 tb_c5 (by decide +kernel) (by rfl)
theorem k_1155 : (Jvm.Cond.code ({ cls := "RainIndexModel", name := "loss", desc := "(III)I" } : Jvm.MethodName) prog_12_method_39_code (6 : Nat) (Option.some Jvm.ClassFile.FieldType.int)) ∈ TBL := tb_m 195 tb_c5 (by decide +kernel) (by rfl)
theorem k_1156 : (Jvm.Cond.methodLink "RainIndexLaw" (139 : Nat) ({ cls := "RainIndexModel", name := "complain", desc := "(II)I" } : Jvm.MethodName)) ∈ TBL := tb_m 196 tb_c5 (by decide +kernel) (by rfl)
theorem k_1157 : (Jvm.Cond.instanceMethod ({ cls := "RainIndexModel", name := "complain", desc := "(II)I" } : Jvm.MethodName)) ∈ TBL := tb_m 197 tb_c5 (by decide +kernel) (by rfl)
theorem k_1158 : (Jvm.Cond.selects "RainIndexModel" ({ cls := "RainIndexModel", name := "complain", desc := "(II)I" } : Jvm.MethodName) ({ cls := "RainIndexModel", name := "complain", desc := "(II)I" } : Jvm.MethodName)) ∈ TBL := tb_m 198 tb_c5 (by decide +kernel) (by rfl)
theorem k_1159 : (Jvm.Cond.code ({ cls := "RainIndexModel", name := "complain", desc := "(II)I" } : Jvm.MethodName) prog_12_method_42_code (5 : Nat) (Option.some Jvm.ClassFile.FieldType.int)) ∈ TBL := tb_m 199 tb_c5 (by decide +kernel) (by rfl)
theorem k_1160 : (Jvm.Cond.methodLink "RainIndexModel" (170 : Nat) ({ cls := "RainIndexModel", name := "looks", desc := "(II)I" } : Jvm.MethodName)) ∈ TBL := tb_m 200 tb_c5 (by decide +kernel) (by rfl)
theorem k_1162 : (Jvm.Cond.instanceMethod ({ cls := "RainIndexModel", name := "looks", desc := "(II)I" } : Jvm.MethodName)) ∈ TBL := tb_m 202 tb_c5 (by decide +kernel) (by rfl)
theorem k_1163 : (Jvm.Cond.code ({ cls := "RainIndexModel", name := "looks", desc := "(II)I" } : Jvm.MethodName) prog_12_method_41_code (11 : Nat) (Option.some Jvm.ClassFile.FieldType.int)) ∈ TBL := tb_m 203 tb_c5 (by decide +kernel) (by rfl)
theorem k_1164 : (Jvm.Cond.methodLink "RainIndexModel" (167 : Nat) ({ cls := "RainIndexModel", name := "isOf", desc := "(III)Z" } : Jvm.MethodName)) ∈ TBL := tb_m 204 tb_c5 (by decide +kernel) (by rfl)
theorem k_1166 : (Jvm.Cond.instanceMethod ({ cls := "RainIndexModel", name := "isOf", desc := "(III)Z" } : Jvm.MethodName)) ∈ TBL := tb_m 206 tb_c5 (by decide +kernel) (by rfl)
theorem k_1167 : (Jvm.Cond.code ({ cls := "RainIndexModel", name := "isOf", desc := "(III)Z" } : Jvm.MethodName) prog_12_method_40_code (4 : Nat) (Option.some Jvm.ClassFile.FieldType.boolean)) ∈ TBL := tb_m 207 tb_c5 (by decide +kernel) (by rfl)
theorem k_1168 : (Jvm.Cond.methodLink "RainIndexLaw" (161 : Nat) ({ cls := "RainIndexModel", name := "cover", desc := "(II)I" } : Jvm.MethodName)) ∈ TBL := tb_m 208 tb_c5 (by decide +kernel) (by rfl)
theorem k_1169 : (Jvm.Cond.instanceMethod ({ cls := "RainIndexModel", name := "cover", desc := "(II)I" } : Jvm.MethodName)) ∈ TBL := tb_m 209 tb_c5 (by decide +kernel) (by rfl)
theorem k_1170 : (Jvm.Cond.selects "RainIndexModel" ({ cls := "RainIndexModel", name := "cover", desc := "(II)I" } : Jvm.MethodName) ({ cls := "RainIndexModel", name := "cover", desc := "(II)I" } : Jvm.MethodName)) ∈ TBL := tb_m 210 tb_c5 (by decide +kernel) (by rfl)
theorem k_1171 : (Jvm.Cond.code ({ cls := "RainIndexModel", name := "cover", desc := "(II)I" } : Jvm.MethodName) prog_12_method_43_code (3 : Nat) (Option.some Jvm.ClassFile.FieldType.int)) ∈ TBL := tb_m 211 tb_c5 (by decide +kernel) (by rfl)
theorem k_1172 : (Jvm.Cond.methodLink "RainIndexLaw" (164 : Nat) ({ cls := "RainIndexModel", name := "dueAnew", desc := "(I)I" } : Jvm.MethodName)) ∈ TBL := tb_m 212 tb_c5 (by decide +kernel) (by rfl)
theorem k_1173 : (Jvm.Cond.instanceMethod ({ cls := "RainIndexModel", name := "dueAnew", desc := "(I)I" } : Jvm.MethodName)) ∈ TBL := tb_m 213 tb_c5 (by decide +kernel) (by rfl)
theorem k_1174 : (Jvm.Cond.selects "RainIndexModel" ({ cls := "RainIndexModel", name := "dueAnew", desc := "(I)I" } : Jvm.MethodName) ({ cls := "RainIndexModel", name := "dueAnew", desc := "(I)I" } : Jvm.MethodName)) ∈ TBL := tb_m 214 tb_c5 (by decide +kernel) (by rfl)
theorem k_1175 : (Jvm.Cond.code ({ cls := "RainIndexModel", name := "dueAnew", desc := "(I)I" } : Jvm.MethodName) prog_12_method_44_code (2 : Nat) (Option.some Jvm.ClassFile.FieldType.int)) ∈ TBL := tb_m 215 tb_c5 (by decide +kernel) (by rfl)
theorem k_1176 : (Jvm.Cond.methodLink "RainIndexLaw" (167 : Nat) ({ cls := "RainIndexModel", name := "told", desc := "(II)I" } : Jvm.MethodName)) ∈ TBL := tb_m 216 tb_c5 (by decide +kernel) (by rfl)
theorem k_1177 : (Jvm.Cond.instanceMethod ({ cls := "RainIndexModel", name := "told", desc := "(II)I" } : Jvm.MethodName)) ∈ TBL := tb_m 217 tb_c5 (by decide +kernel) (by rfl)
theorem k_1178 : (Jvm.Cond.selects "RainIndexModel" ({ cls := "RainIndexModel", name := "told", desc := "(II)I" } : Jvm.MethodName) ({ cls := "RainIndexModel", name := "told", desc := "(II)I" } : Jvm.MethodName)) ∈ TBL := tb_m 218 tb_c5 (by decide +kernel) (by rfl)
theorem k_1179 : (Jvm.Cond.code ({ cls := "RainIndexModel", name := "told", desc := "(II)I" } : Jvm.MethodName) prog_12_method_45_code (3 : Nat) (Option.some Jvm.ClassFile.FieldType.int)) ∈ TBL := tb_m 219 tb_c5 (by decide +kernel) (by rfl)
theorem k_1180 : (Jvm.Cond.methodLink "RainIndexLaw" (170 : Nat) ({ cls := "RainIndexModel", name := "books", desc := "(I)I" } : Jvm.MethodName)) ∈ TBL := tb_m 220 tb_c5 (by decide +kernel) (by rfl)
theorem k_1181 : (Jvm.Cond.instanceMethod ({ cls := "RainIndexModel", name := "books", desc := "(I)I" } : Jvm.MethodName)) ∈ TBL := tb_m 221 tb_c5 (by decide +kernel) (by rfl)
theorem k_1182 : (Jvm.Cond.selects "RainIndexModel" ({ cls := "RainIndexModel", name := "books", desc := "(I)I" } : Jvm.MethodName) ({ cls := "RainIndexModel", name := "books", desc := "(I)I" } : Jvm.MethodName)) ∈ TBL := tb_m 222 tb_c5 (by decide +kernel) (by rfl)
theorem k_1183 : (Jvm.Cond.code ({ cls := "RainIndexModel", name := "books", desc := "(I)I" } : Jvm.MethodName) prog_12_method_47_code (2 : Nat) (Option.some Jvm.ClassFile.FieldType.int)) ∈ TBL := tb_m 223 tb_c5 (by decide +kernel) (by rfl)
theorem k_1184 : (Jvm.Cond.methodLink "RainIndexModel" (173 : Nat) ({ cls := "RainIndexModel", name := "sumOf", desc := "(I)I" } : Jvm.MethodName)) ∈ TBL := tb_m 224 tb_c5 (by decide +kernel) (by rfl)
theorem k_1186 : (Jvm.Cond.instanceMethod ({ cls := "RainIndexModel", name := "sumOf", desc := "(I)I" } : Jvm.MethodName)) ∈ TBL := tb_m 226 tb_c5 (by decide +kernel) (by rfl)
theorem k_1187 : (Jvm.Cond.code ({ cls := "RainIndexModel", name := "sumOf", desc := "(I)I" } : Jvm.MethodName) prog_12_method_46_code (4 : Nat) (Option.some Jvm.ClassFile.FieldType.int)) ∈ TBL := tb_m 227 tb_c5 (by decide +kernel) (by rfl)
theorem k_1188 : (Jvm.Cond.arrayClass Jvm.ClassFile.FieldType.long) ∈ TBL := tb_m 228 tb_c5 (by decide +kernel) (by rfl)
theorem k_1208 : (Jvm.Cond.selects "[Ljava/lang/Object;" ({ cls := "java/lang/Object", name := "getClass", desc := "()Ljava/lang/Class;" } : Jvm.MethodName) ({ cls := "java/lang/Object", name := "getClass", desc := "()Ljava/lang/Class;" } : Jvm.MethodName)) ∈ TBL := tb_m 8 tb_c6 (by decide +kernel) (by rfl)
theorem ks_0 : Cond.selects "java/lang/Throwable" ⟨"java/lang/Throwable", "fillInStackTrace", "(I)Ljava/lang/Throwable;"⟩ ⟨"java/lang/Throwable", "fillInStackTrace", "(I)Ljava/lang/Throwable;"⟩ ∈ TBL := tb_sel (q := (⟨"java/lang/Throwable", "fillInStackTrace", "(I)Ljava/lang/Throwable;"⟩, 6)) 0 (by decide +kernel) (by rfl)
theorem ks_1 : Cond.selects "java/util/ArrayList" ⟨"java/util/ArrayList", "add", "(Ljava/lang/Object;[Ljava/lang/Object;I)V"⟩ ⟨"java/util/ArrayList", "add", "(Ljava/lang/Object;[Ljava/lang/Object;I)V"⟩ ∈ TBL := tb_sel (q := (⟨"java/util/ArrayList", "add", "(Ljava/lang/Object;[Ljava/lang/Object;I)V"⟩, 3)) 1 (by decide +kernel) (by rfl)
theorem ks_2 : Cond.selects "java/util/ArrayList" ⟨"java/util/ArrayList", "grow", "()[Ljava/lang/Object;"⟩ ⟨"java/util/ArrayList", "grow", "()[Ljava/lang/Object;"⟩ ∈ TBL := tb_sel (q := (⟨"java/util/ArrayList", "grow", "()[Ljava/lang/Object;"⟩, 3)) 2 (by decide +kernel) (by rfl)
theorem ks_3 : Cond.selects "java/util/ArrayList" ⟨"java/util/ArrayList", "grow", "(I)[Ljava/lang/Object;"⟩ ⟨"java/util/ArrayList", "grow", "(I)[Ljava/lang/Object;"⟩ ∈ TBL := tb_sel (q := (⟨"java/util/ArrayList", "grow", "(I)[Ljava/lang/Object;"⟩, 3)) 3 (by decide +kernel) (by rfl)
theorem ks_4 : Cond.selects "RainIndex" ⟨"RainIndex", "stationNumbered", "(I)LRainIndex$Station;"⟩ ⟨"RainIndex", "stationNumbered", "(I)LRainIndex$Station;"⟩ ∈ TBL := tb_sel (q := (⟨"RainIndex", "stationNumbered", "(I)LRainIndex$Station;"⟩, 12)) 4 (by decide +kernel) (by rfl)
theorem ks_5 : Cond.selects "RainIndex" ⟨"RainIndex", "farmNumbered", "(I)LRainIndex$Farm;"⟩ ⟨"RainIndex", "farmNumbered", "(I)LRainIndex$Farm;"⟩ ∈ TBL := tb_sel (q := (⟨"RainIndex", "farmNumbered", "(I)LRainIndex$Farm;"⟩, 12)) 5 (by decide +kernel) (by rfl)
theorem ks_6 : Cond.selects "RainIndex" ⟨"RainIndex", "productNumbered", "(I)LRainIndex$Product;"⟩ ⟨"RainIndex", "productNumbered", "(I)LRainIndex$Product;"⟩ ∈ TBL := tb_sel (q := (⟨"RainIndex", "productNumbered", "(I)LRainIndex$Product;"⟩, 12)) 6 (by decide +kernel) (by rfl)
theorem ks_7 : Cond.selects "RainIndex" ⟨"RainIndex", "isOnSale", "(I)Z"⟩ ⟨"RainIndex", "isOnSale", "(I)Z"⟩ ∈ TBL := tb_sel (q := (⟨"RainIndex", "isOnSale", "(I)Z"⟩, 12)) 7 (by decide +kernel) (by rfl)
theorem ks_8 : Cond.selects "RainIndex" ⟨"RainIndex", "coverOf", "(LRainIndex$Farm;I)LRainIndex$Cover;"⟩ ⟨"RainIndex", "coverOf", "(LRainIndex$Farm;I)LRainIndex$Cover;"⟩ ∈ TBL := tb_sel (q := (⟨"RainIndex", "coverOf", "(LRainIndex$Farm;I)LRainIndex$Cover;"⟩, 12)) 8 (by decide +kernel) (by rfl)
theorem ks_9 : Cond.selects "RainIndex" ⟨"RainIndex", "pricesRate", "(LRainIndex$Station;LRainIndex$Product;)I"⟩ ⟨"RainIndex", "pricesRate", "(LRainIndex$Station;LRainIndex$Product;)I"⟩ ∈ TBL := tb_sel (q := (⟨"RainIndex", "pricesRate", "(LRainIndex$Station;LRainIndex$Product;)I"⟩, 12)) 9 (by decide +kernel) (by rfl)
theorem ks_10 : Cond.selects "RainIndex" ⟨"RainIndex", "isOver", "(I)Z"⟩ ⟨"RainIndex", "isOver", "(I)Z"⟩ ∈ TBL := tb_sel (q := (⟨"RainIndex", "isOver", "(I)Z"⟩, 12)) 10 (by decide +kernel) (by rfl)
theorem ks_11 : Cond.selects "RainIndex" ⟨"RainIndex", "rateBy", "(LRainIndex$Station;ILRainIndex$Product;I)I"⟩ ⟨"RainIndex", "rateBy", "(LRainIndex$Station;ILRainIndex$Product;I)I"⟩ ∈ TBL := tb_sel (q := (⟨"RainIndex", "rateBy", "(LRainIndex$Station;ILRainIndex$Product;I)I"⟩, 12)) 11 (by decide +kernel) (by rfl)
theorem ks_12 : Cond.selects "RainIndex" ⟨"RainIndex", "priceOf", "(II)I"⟩ ⟨"RainIndex", "priceOf", "(II)I"⟩ ∈ TBL := tb_sel (q := (⟨"RainIndex", "priceOf", "(II)I"⟩, 12)) 12 (by decide +kernel) (by rfl)
theorem ks_13 : Cond.selects "RainIndex" ⟨"RainIndex", "findDues", "(I)I"⟩ ⟨"RainIndex", "findDues", "(I)I"⟩ ∈ TBL := tb_sel (q := (⟨"RainIndex", "findDues", "(I)I"⟩, 12)) 13 (by decide +kernel) (by rfl)
theorem ks_14 : Cond.selects "RainIndex" ⟨"RainIndex", "payOut", "(II)I"⟩ ⟨"RainIndex", "payOut", "(II)I"⟩ ∈ TBL := tb_sel (q := (⟨"RainIndex", "payOut", "(II)I"⟩, 12)) 14 (by decide +kernel) (by rfl)
theorem ks_15 : Cond.selects "RainIndex" ⟨"RainIndex", "cutToCap", "(II)I"⟩ ⟨"RainIndex", "cutToCap", "(II)I"⟩ ∈ TBL := tb_sel (q := (⟨"RainIndex", "cutToCap", "(II)I"⟩, 12)) 15 (by decide +kernel) (by rfl)
theorem ks_16 : Cond.selects "RainIndex" ⟨"RainIndex", "hasBegun", "(I)Z"⟩ ⟨"RainIndex", "hasBegun", "(I)Z"⟩ ∈ TBL := tb_sel (q := (⟨"RainIndex", "hasBegun", "(I)Z"⟩, 12)) 16 (by decide +kernel) (by rfl)
theorem ks_17 : Cond.selects "RainIndex" ⟨"RainIndex", "lookAgain", "(LRainIndex$Station;I)I"⟩ ⟨"RainIndex", "lookAgain", "(LRainIndex$Station;I)I"⟩ ∈ TBL := tb_sel (q := (⟨"RainIndex", "lookAgain", "(LRainIndex$Station;I)I"⟩, 12)) 17 (by decide +kernel) (by rfl)
theorem ks_18 : Cond.selects "RainIndex" ⟨"RainIndex", "meanLoss", "(LRainIndex$Station;I)I"⟩ ⟨"RainIndex", "meanLoss", "(LRainIndex$Station;I)I"⟩ ∈ TBL := tb_sel (q := (⟨"RainIndex", "meanLoss", "(LRainIndex$Station;I)I"⟩, 12)) 18 (by decide +kernel) (by rfl)
theorem ks_19 : Cond.selects "RainIndex" ⟨"RainIndex", "mostComplained", "(LRainIndex$Station;I)Z"⟩ ⟨"RainIndex", "mostComplained", "(LRainIndex$Station;I)Z"⟩ ∈ TBL := tb_sel (q := (⟨"RainIndex", "mostComplained", "(LRainIndex$Station;I)Z"⟩, 12)) 19 (by decide +kernel) (by rfl)
theorem ks_20 : Cond.selects "RainIndex" ⟨"RainIndex", "coverNumbered", "(I)LRainIndex$Cover;"⟩ ⟨"RainIndex", "coverNumbered", "(I)LRainIndex$Cover;"⟩ ∈ TBL := tb_sel (q := (⟨"RainIndex", "coverNumbered", "(I)LRainIndex$Cover;"⟩, 12)) 20 (by decide +kernel) (by rfl)
theorem ks_21 : Cond.selects "RainIndexModel" ⟨"RainIndexModel", "goes", "(ZZZ)Z"⟩ ⟨"RainIndexModel", "goes", "(ZZZ)Z"⟩ ∈ TBL := tb_sel (q := (⟨"RainIndexModel", "goes", "(ZZZ)Z"⟩, 30)) 21 (by decide +kernel) (by rfl)
theorem ks_22 : Cond.selects "RainIndexModel" ⟨"RainIndexModel", "isStation", "(I)Z"⟩ ⟨"RainIndexModel", "isStation", "(I)Z"⟩ ∈ TBL := tb_sel (q := (⟨"RainIndexModel", "isStation", "(I)Z"⟩, 30)) 22 (by decide +kernel) (by rfl)
theorem ks_23 : Cond.selects "RainIndexModel" ⟨"RainIndexModel", "rainOn", "(III)I"⟩ ⟨"RainIndexModel", "rainOn", "(III)I"⟩ ∈ TBL := tb_sel (q := (⟨"RainIndexModel", "rainOn", "(III)I"⟩, 30)) 23 (by decide +kernel) (by rfl)
theorem ks_24 : Cond.selects "RainIndexModel" ⟨"RainIndexModel", "off", "(III)I"⟩ ⟨"RainIndexModel", "off", "(III)I"⟩ ∈ TBL := tb_sel (q := (⟨"RainIndexModel", "off", "(III)I"⟩, 30)) 24 (by decide +kernel) (by rfl)
theorem ks_25 : Cond.selects "RainIndexModel" ⟨"RainIndexModel", "lays", "(III)V"⟩ ⟨"RainIndexModel", "lays", "(III)V"⟩ ∈ TBL := tb_sel (q := (⟨"RainIndexModel", "lays", "(III)V"⟩, 30)) 25 (by decide +kernel) (by rfl)
theorem ks_26 : Cond.selects "RainIndexModel" ⟨"RainIndexModel", "beginning", "()I"⟩ ⟨"RainIndexModel", "beginning", "()I"⟩ ∈ TBL := tb_sel (q := (⟨"RainIndexModel", "beginning", "()I"⟩, 30)) 26 (by decide +kernel) (by rfl)
theorem ks_27 : Cond.selects "RainIndexModel" ⟨"RainIndexModel", "isFalse", "(I)Z"⟩ ⟨"RainIndexModel", "isFalse", "(I)Z"⟩ ∈ TBL := tb_sel (q := (⟨"RainIndexModel", "isFalse", "(I)Z"⟩, 30)) 27 (by decide +kernel) (by rfl)
theorem ks_28 : Cond.selects "RainIndexModel" ⟨"RainIndexModel", "isProduct", "(I)Z"⟩ ⟨"RainIndexModel", "isProduct", "(I)Z"⟩ ∈ TBL := tb_sel (q := (⟨"RainIndexModel", "isProduct", "(I)Z"⟩, 30)) 28 (by decide +kernel) (by rfl)
theorem ks_29 : Cond.selects "RainIndexModel" ⟨"RainIndexModel", "looksAt", "(II)I"⟩ ⟨"RainIndexModel", "looksAt", "(II)I"⟩ ∈ TBL := tb_sel (q := (⟨"RainIndexModel", "looksAt", "(II)I"⟩, 30)) 29 (by decide +kernel) (by rfl)
theorem ks_30 : Cond.selects "RainIndexModel" ⟨"RainIndexModel", "rateOf", "(III)I"⟩ ⟨"RainIndexModel", "rateOf", "(III)I"⟩ ∈ TBL := tb_sel (q := (⟨"RainIndexModel", "rateOf", "(III)I"⟩, 30)) 30 (by decide +kernel) (by rfl)
theorem ks_31 : Cond.selects "RainIndexModel" ⟨"RainIndexModel", "pays", "(II)I"⟩ ⟨"RainIndexModel", "pays", "(II)I"⟩ ∈ TBL := tb_sel (q := (⟨"RainIndexModel", "pays", "(II)I"⟩, 30)) 31 (by decide +kernel) (by rfl)
theorem ks_32 : Cond.selects "RainIndexModel" ⟨"RainIndexModel", "pricedOf", "(II)I"⟩ ⟨"RainIndexModel", "pricedOf", "(II)I"⟩ ∈ TBL := tb_sel (q := (⟨"RainIndexModel", "pricedOf", "(II)I"⟩, 30)) 32 (by decide +kernel) (by rfl)
theorem ks_33 : Cond.selects "RainIndexModel" ⟨"RainIndexModel", "isOver", "(I)Z"⟩ ⟨"RainIndexModel", "isOver", "(I)Z"⟩ ∈ TBL := tb_sel (q := (⟨"RainIndexModel", "isOver", "(I)Z"⟩, 30)) 33 (by decide +kernel) (by rfl)
theorem ks_34 : Cond.selects "RainIndexModel" ⟨"RainIndexModel", "isFarm", "(I)Z"⟩ ⟨"RainIndexModel", "isFarm", "(I)Z"⟩ ∈ TBL := tb_sel (q := (⟨"RainIndexModel", "isFarm", "(I)Z"⟩, 30)) 34 (by decide +kernel) (by rfl)
theorem ks_35 : Cond.selects "RainIndexModel" ⟨"RainIndexModel", "coverOf", "(II)I"⟩ ⟨"RainIndexModel", "coverOf", "(II)I"⟩ ∈ TBL := tb_sel (q := (⟨"RainIndexModel", "coverOf", "(II)I"⟩, 30)) 35 (by decide +kernel) (by rfl)
theorem ks_36 : Cond.selects "RainIndexModel" ⟨"RainIndexModel", "trusts", "(III)V"⟩ ⟨"RainIndexModel", "trusts", "(III)V"⟩ ∈ TBL := tb_sel (q := (⟨"RainIndexModel", "trusts", "(III)V"⟩, 30)) 36 (by decide +kernel) (by rfl)
theorem ks_37 : Cond.selects "RainIndexModel" ⟨"RainIndexModel", "looks", "(II)I"⟩ ⟨"RainIndexModel", "looks", "(II)I"⟩ ∈ TBL := tb_sel (q := (⟨"RainIndexModel", "looks", "(II)I"⟩, 30)) 37 (by decide +kernel) (by rfl)
theorem ks_38 : Cond.selects "RainIndexModel" ⟨"RainIndexModel", "isOf", "(III)Z"⟩ ⟨"RainIndexModel", "isOf", "(III)Z"⟩ ∈ TBL := tb_sel (q := (⟨"RainIndexModel", "isOf", "(III)Z"⟩, 30)) 38 (by decide +kernel) (by rfl)
theorem ks_39 : Cond.selects "RainIndexModel" ⟨"RainIndexModel", "sumOf", "(I)I"⟩ ⟨"RainIndexModel", "sumOf", "(I)I"⟩ ∈ TBL := tb_sel (q := (⟨"RainIndexModel", "sumOf", "(I)I"⟩, 30)) 39 (by decide +kernel) (by rfl)
def ClsOk (ci : Nat) (Cn : String) (T : u_T) (N : Nat) (ty0 : Nat → FieldType) : Prop := vwCl[ci]? = some (Cn, T, N) ∧ (∀ w ∈ u_ws Cn T N, w ∈ TBL) ∧ (∀ k, k < N → parseFieldDescriptor (T k).2.2.1 = some (ty0 k)) ∧ (∀ a, a < N → ∀ b, b < N → a ≠ b → (T a).2.1 ≠ (T b).2.1)
theorem tb_ws {Cn : String} {T : u_T} {N : Nat} (h : ∀ k, k < N → u_lay Cn T k ∈ TBL) : ∀ w ∈ u_ws Cn T N, w ∈ TBL := by
  intro w hw
  obtain ⟨k, hk, rfl⟩ := List.mem_map.mp hw
  exact h k (List.mem_range.mp hk)
theorem lay_0 : ∀ k, k < 3 → u_lay RJx4a65c TJx4a65c k ∈ TBL := fun k hk => match k, hk with
  | 0, _ => k_64
  | 1, _ => k_60
  | 2, _ => k_62
  | n + 3, h => absurd h (by omega)
theorem cls_0 : ClsOk 0 RJx4a65c TJx4a65c 3 tyJx4a65c := ⟨rfl, tb_ws lay_0, tyJx4a65c_ok, nmJx4a65c⟩
theorem lay_1 : ∀ k, k < 4 → u_lay RX0 TX0 k ∈ TBL := fun k hk => match k, hk with
  | 0, _ => k_103
  | 1, _ => k_105
  | 2, _ => k_107
  | 3, _ => k_109
  | n + 4, h => absurd h (by omega)
theorem cls_1 : ClsOk 1 RX0 TX0 4 tyX0 := ⟨rfl, tb_ws lay_1, tyX0_ok, nmX0⟩
theorem lay_2 : ∀ k, k < 12 → u_lay RX1 TX1 k ∈ TBL := fun k hk => match k, hk with
  | 0, _ => k_713
  | 1, _ => k_715
  | 2, _ => k_717
  | 3, _ => k_719
  | 4, _ => k_721
  | 5, _ => k_723
  | 6, _ => k_725
  | 7, _ => k_727
  | 8, _ => k_729
  | 9, _ => k_731
  | 10, _ => k_733
  | 11, _ => k_735
  | n + 12, h => absurd h (by omega)
theorem cls_2 : ClsOk 2 RX1 TX1 12 tyX1 := ⟨rfl, tb_ws lay_2, tyX1_ok, nmX1⟩
theorem lay_3 : ∀ k, k < 7 → u_lay RX2 TX2 k ∈ TBL := fun k hk => match k, hk with
  | 0, _ => k_547
  | 1, _ => k_549
  | 2, _ => k_551
  | 3, _ => k_553
  | 4, _ => k_555
  | 5, _ => k_557
  | 6, _ => k_559
  | n + 7, h => absurd h (by omega)
theorem cls_3 : ClsOk 3 RX2 TX2 7 tyX2 := ⟨rfl, tb_ws lay_3, tyX2_ok, nmX2⟩
theorem lay_4 : ∀ k, k < 5 → u_lay RX3 TX3 k ∈ TBL := fun k hk => match k, hk with
  | 0, _ => k_479
  | 1, _ => k_481
  | 2, _ => k_483
  | 3, _ => k_485
  | 4, _ => k_487
  | n + 5, h => absurd h (by omega)
theorem cls_4 : ClsOk 4 RX3 TX3 5 tyX3 := ⟨rfl, tb_ws lay_4, tyX3_ok, nmX3⟩
theorem lay_5 : ∀ k, k < 3 → u_lay RX4 TX4 k ∈ TBL := fun k hk => match k, hk with
  | 0, _ => k_126
  | 1, _ => k_128
  | 2, _ => k_130
  | n + 3, h => absurd h (by omega)
theorem cls_5 : ClsOk 5 RX4 TX4 3 tyX4 := ⟨rfl, tb_ws lay_5, tyX4_ok, nmX4⟩
theorem lay_6 : ∀ k, k < 1 → u_lay RX5 TX5 k ∈ TBL := fun k hk => match k, hk with
  | 0, _ => k_83
  | n + 1, h => absurd h (by omega)
theorem cls_6 : ClsOk 6 RX5 TX5 1 tyX5 := ⟨rfl, tb_ws lay_6, tyX5_ok, nmX5⟩
theorem lay_7 : ∀ k, k < 5 → u_lay RX6 TX6 k ∈ TBL := fun k hk => match k, hk with
  | 0, _ => k_297
  | 1, _ => k_299
  | 2, _ => k_301
  | 3, _ => k_303
  | 4, _ => k_305
  | n + 5, h => absurd h (by omega)
theorem cls_7 : ClsOk 7 RX6 TX6 5 tyX6 := ⟨rfl, tb_ws lay_7, tyX6_ok, nmX6⟩
theorem lay_8 : ∀ k, k < 4 → u_lay RX7 TX7 k ∈ TBL := fun k hk => match k, hk with
  | 0, _ => k_439
  | 1, _ => k_441
  | 2, _ => k_443
  | 3, _ => k_445
  | n + 4, h => absurd h (by omega)
theorem cls_8 : ClsOk 8 RX7 TX7 4 tyX7 := ⟨rfl, tb_ws lay_8, tyX7_ok, nmX7⟩
theorem lay_9 : ∀ k, k < 2 → u_lay RX8 TX8 k ∈ TBL := fun k hk => match k, hk with
  | 0, _ => k_71
  | 1, _ => k_73
  | n + 2, h => absurd h (by omega)
theorem cls_9 : ClsOk 9 RX8 TX8 2 tyX8 := ⟨rfl, tb_ws lay_9, tyX8_ok, nmX8⟩
theorem lay_10 : ∀ k, k < 12 → u_lay RX9 TX9 k ∈ TBL := fun k hk => match k, hk with
  | 0, _ => k_148
  | 1, _ => k_150
  | 2, _ => k_152
  | 3, _ => k_154
  | 4, _ => k_156
  | 5, _ => k_158
  | 6, _ => k_160
  | 7, _ => k_162
  | 8, _ => k_164
  | 9, _ => k_166
  | 10, _ => k_168
  | 11, _ => k_170
  | n + 12, h => absurd h (by omega)
theorem cls_10 : ClsOk 10 RX9 TX9 12 tyX9 := ⟨rfl, tb_ws lay_10, tyX9_ok, nmX9⟩
theorem lay_11 : ∀ k, k < 30 → u_lay RX10 TX10 k ∈ TBL := fun k hk => match k, hk with
  | 0, _ => k_945
  | 1, _ => k_947
  | 2, _ => k_949
  | 3, _ => k_951
  | 4, _ => k_953
  | 5, _ => k_955
  | 6, _ => k_957
  | 7, _ => k_959
  | 8, _ => k_961
  | 9, _ => k_963
  | 10, _ => k_965
  | 11, _ => k_967
  | 12, _ => k_969
  | 13, _ => k_971
  | 14, _ => k_973
  | 15, _ => k_975
  | 16, _ => k_977
  | 17, _ => k_979
  | 18, _ => k_981
  | 19, _ => k_983
  | 20, _ => k_985
  | 21, _ => k_987
  | 22, _ => k_989
  | 23, _ => k_991
  | 24, _ => k_993
  | 25, _ => k_995
  | 26, _ => k_997
  | 27, _ => k_999
  | 28, _ => k_1001
  | 29, _ => k_1003
  | n + 30, h => absurd h (by omega)
theorem cls_11 : ClsOk 11 RX10 TX10 30 tyX10 := ⟨rfl, tb_ws lay_11, tyX10_ok, nmX10⟩
end TBLS
end
section
section BASE
/-! worlds: every cell by the kind of its address; objects: kind K < 1000, class (K-1)%20 of vwCl; arrays: kind K >= 1000, sort K%10 -/
abbrev Wd : Type := (Nat → Nat) × (Nat → Nat → Nat → Int32) × (Nat → Nat → Nat → Option Nat) × (Nat → Nat) × (Nat → Nat → Nat → Int32) × (Nat → Nat → Nat → Option Nat) × (Nat → Nat → Nat → Int64)
def kd (w : Wd) (a : Nat) : Nat := w.1 a
def fI (w : Wd) (K k a : Nat) : Int32 := w.2.1 K k a
def fR (w : Wd) (K k a : Nat) : Option Nat := w.2.2.1 K k a
def aL (w : Wd) (a : Nat) : Nat := w.2.2.2.1 a
def aI (w : Wd) (K a j : Nat) : Int32 := w.2.2.2.2.1 K a j
def aR (w : Wd) (K a j : Nat) : Option Nat := w.2.2.2.2.2.1 K a j
def aJ (w : Wd) (K a j : Nat) : Int64 := w.2.2.2.2.2.2 K a j
def up3 {α : Type} (f : Nat → Nat → Nat → α) (x y z : Nat) (v : α) : Nat → Nat → Nat → α := fun x' y' z' => if x' = x ∧ y' = y ∧ z' = z then v else f x' y' z'
def pI (w : Wd) (K k a : Nat) (v : Int32) : Wd := (w.1, up3 w.2.1 K k a v, w.2.2)
def pR (w : Wd) (K k a : Nat) (v : Option Nat) : Wd := (w.1, w.2.1, up3 w.2.2.1 K k a v, w.2.2.2)
def pAI (w : Wd) (K a j : Nat) (v : Int32) : Wd := (w.1, w.2.1, w.2.2.1, w.2.2.2.1, up3 w.2.2.2.2.1 K a j v, w.2.2.2.2.2)
def pAR (w : Wd) (K a j : Nat) (v : Option Nat) : Wd := (w.1, w.2.1, w.2.2.1, w.2.2.2.1, w.2.2.2.2.1, up3 w.2.2.2.2.2.1 K a j v, w.2.2.2.2.2.2)
def pAJ (w : Wd) (K a j : Nat) (v : Int64) : Wd := (w.1, w.2.1, w.2.2.1, w.2.2.2.1, w.2.2.2.2.1, w.2.2.2.2.2.1, up3 w.2.2.2.2.2.2 K a j v)
/-- a new cell at a, of kind K, all zero; n: its length, if it is an array -/
def nw (w : Wd) (a K n : Nat) : Wd := (va_up w.1 a K, (fun x y z => if z = a then 0 else w.2.1 x y z), (fun x y z => if z = a then none else w.2.2.1 x y z), va_up w.2.2.2.1 a n,
  (fun x y z => if y = a then 0 else w.2.2.2.2.1 x y z), (fun x y z => if y = a then none else w.2.2.2.2.2.1 x y z), (fun x y z => if y = a then 0 else w.2.2.2.2.2.2 x y z))
def nFl : Nat → Nat
  | 0 => 3 | 1 => 4 | 2 => 12 | 3 => 7 | 4 => 5 | 5 => 3 | 6 => 1 | 7 => 5 | 8 => 4 | 9 => 2 | 10 => 12 | 11 => 30 | _ => 0
def rfl_ : Nat → List Nat
  | 0 => [1] | 2 => [0, 1] | 3 => [1, 2] | 5 => [1] | 6 => [0] | 7 => [3, 4] | 8 => [3] | 9 => [0] | 10 => [0, 1, 2, 3, 4, 5, 6, 7]
  | 11 => [1, 2, 4, 5, 7, 8, 9, 12, 13, 14, 15, 16, 18, 19, 23, 25, 26, 28] | _ => []
def isRf (ci k : Nat) : Bool := (rfl_ ci).contains k
def fval (w : Wd) (K a k : Nat) : Value := if isRf ((K - 1) % 20) k then va_rf (fR w K k a) else .int (fI w K k a)
def flds (w : Wd) (K a : Nat) : List Value := (List.range (nFl ((K - 1) % 20))).map (fval w K a)
def arrE (cy : Nat → ClassId) (w : Wd) (K a : Nat) : va_E :=
  if K % 10 = 0 then .inl (cy 0, aL w a, .inl (aI w K a)) else if K % 10 = 1 then .inl (cy 1, aL w a, .inl (aI w K a))
  else if K % 10 = 2 then .inl (cy 2, aL w a, .inr (.inr (.inr (.inr (aR w K a))))) else if K % 10 = 3 then .inl (cy 3, aL w a, .inr (.inr (.inr (.inr (aR w K a)))))
  else .inl (cy 4, aL w a, .inr (.inl (aJ w K a)))
def cellE (cy : Nat → ClassId) (w : Wd) (a : Nat) : va_E := if kd w a < 1000 then .inr ((kd w a - 1) % 20, flds w (kd w a) a) else arrE cy w (kd w a) a
def HH (D : va_G) (cy : Nat → ClassId) (z : Nat) (w : Wd) (H : Heap) : Prop := ∀ a, kd w a ≠ 0 → z ≤ a ∧ va_at D vwCl (a, cellE cy w a) H
def wsO (cy : Nat → ClassId) (w : Wd) (n : Nat) : va_W := ((List.range n).filter (fun a => decide (kd w a ≠ 0))).map (fun a => (a, cellE cy w a))
variable {D : va_G} {cy : Nat → ClassId} {z : Nat} {w w' : Wd} {H H1 : Heap} {a : Nat}
theorem wsO_get {n : Nat} (h : kd w a ≠ 0) (hn : a < n) : ∃ q0 : Nat, (wsO cy w n)[q0]? = some (a, cellE cy w a) :=
  List.getElem?_of_mem (List.mem_map.mpr ⟨a, List.mem_filter.mpr ⟨List.mem_range.mpr hn, by simpa using h⟩, rfl⟩)
theorem wsO_of {n k : Nat} {q : Nat × va_E} (h : (wsO cy w n)[k]? = some q) : q.1 < n ∧ kd w q.1 ≠ 0 ∧ q.2 = cellE cy w q.1 := by
  obtain ⟨b, hb, rfl⟩ := List.mem_map.mp (List.mem_of_getElem? h)
  obtain ⟨h1, h2⟩ := List.mem_filter.mp hb
  exact ⟨List.mem_range.mp h1, by simpa using h2, rfl⟩
theorem wsO_inj {n i j : Nat} {p q : Nat × va_E} (hi : (wsO cy w n)[i]? = some p) (hj : (wsO cy w n)[j]? = some q) (h : p.1 = q.1) : i = j := by
  have hn : ((List.range n).filter (fun a => decide (kd w a ≠ 0))).Nodup := List.Pairwise.filter _ List.nodup_range
  unfold wsO at hi hj
  rw [List.getElem?_map] at hi hj
  obtain ⟨x, hx, rfl⟩ := Option.map_eq_some_iff.mp hi
  obtain ⟨y, hy, rfl⟩ := Option.map_eq_some_iff.mp hj
  have e : x = y := h
  subst e
  have hl : i < ((List.range n).filter (fun a => decide (kd w a ≠ 0))).length := (List.getElem?_eq_some_iff.mp hx).1
  exact (List.getElem?_inj hl hn).mp (hx.trans hy.symm)
theorem HH.lt (h : HH D cy z w H) (ha : kd w a ≠ 0) : a < H.size := (h a ha).2.lt
theorem HH.P (h : HH D cy z w H) : va_P D vwCl (wsO cy w H.size) H := by
  intro k q hk
  obtain ⟨h1, h2, h3⟩ := wsO_of hk
  obtain ⟨b, e⟩ := q
  have h3 : e = cellE cy w b := h3
  subst h3
  exact (h b h2).2
theorem HH.dj (h : HH D cy z w H) : va_D (fun q => z ≤ q) (wsO cy w H.size) :=
  ⟨fun _ _ _ _ hi hj e => wsO_inj hi hj e, fun _ q hk => (h q.1 (wsO_of hk).2.1).1⟩
theorem HH.get (h : HH D cy z w H) (ha : kd w a ≠ 0) : ∃ q0 : Nat, (wsO cy w H.size)[q0]? = some (a, cellE cy w a) := wsO_get ha (h.lt ha)
theorem HH.set {q0 : Nat} {e e' : va_E} (h : HH D cy z w H) (h0 : (wsO cy w H.size)[q0]? = some (a, e)) (hP : va_P D vwCl ((wsO cy w H.size).set q0 (a, e')) H1) (hc : cellE cy w' a = e')
    (ho : ∀ b, b ≠ a → kd w' b ≠ 0 → kd w b ≠ 0 ∧ cellE cy w' b = cellE cy w b) : HH D cy z w' H1 := by
  have hl := (List.getElem?_eq_some_iff.mp h0).1
  intro b hb
  by_cases e1 : b = a
  · subst e1
    refine ⟨(h b (wsO_of h0).2.1).1, ?_⟩
    rw [hc]
    exact hP q0 _ (List.getElem?_set_self hl)
  · obtain ⟨h1, h2⟩ := ho b e1 hb
    obtain ⟨q1, hq⟩ := h.get h1
    refine ⟨(h b h1).1, ?_⟩
    rw [h2]
    refine hP q1 _ ?_
    rw [List.getElem?_set_ne]
    · exact hq
    · intro e2
      subst e2
      rw [h0] at hq
      exact e1 (congrArg Prod.fst (Option.some.inj hq)).symm
theorem HH.new {q : Nat} {e : va_E} (h : HH D cy z w H) (hP : va_P D vwCl (wsO cy w H.size ++ [(q, e)]) H1) (hD : va_D (fun q => z ≤ q) (wsO cy w H.size ++ [(q, e)])) (hc : cellE cy w' q = e)
    (ho : ∀ b, b ≠ q → kd w' b ≠ 0 → kd w b ≠ 0 ∧ cellE cy w' b = cellE cy w b) : HH D cy z w' H1 ∧ kd w q = 0 ∧ z ≤ q := by
  have hq : (wsO cy w H.size ++ [(q, e)])[(wsO cy w H.size).length]? = some (q, e) := by simp
  refine ⟨?_, ?_, hD.2 _ _ hq⟩
  · intro b hb
    by_cases e1 : b = q
    · subst e1
      refine ⟨hD.2 _ _ hq, ?_⟩
      rw [hc]
      exact hP _ _ hq
    · obtain ⟨h1, h2⟩ := ho b e1 hb
      obtain ⟨q1, hq1⟩ := h.get h1
      refine ⟨(h b h1).1, ?_⟩
      rw [h2]
      exact hP q1 _ (by rw [List.getElem?_append_left (List.getElem?_eq_some_iff.mp hq1).1]; exact hq1)
  · by_cases e1 : kd w q = 0
    · exact e1
    · obtain ⟨q1, hq1⟩ := h.get e1
      have hl := (List.getElem?_eq_some_iff.mp hq1).1
      have := hD.1 q1 (wsO cy w H.size).length (q, cellE cy w q) (q, e) (by rw [List.getElem?_append_left hl]; exact hq1) hq rfl
      omega
theorem flds_get {K k : Nat} (hk : k < nFl ((K - 1) % 20)) : (flds w K a)[k]? = some (fval w K a k) := by
  unfold flds
  rw [List.getElem?_map, List.getElem?_range hk]
  rfl
theorem flds_len {K : Nat} : (flds w K a).length = nFl ((K - 1) % 20) := by simp [flds]
theorem flds_set {K k : Nat} {v : Value} (hk : k < nFl ((K - 1) % 20)) (h1 : fval w' K a k = v) (h2 : ∀ j, j ≠ k → fval w' K a j = fval w K a j) : flds w' K a = (flds w K a).set k v := by
  apply List.ext_getElem?
  intro j
  by_cases hj : j = k
  · subst hj
    rw [List.getElem?_set_self (by rw [flds_len]; exact hk), flds_get hk, h1]
  · rw [List.getElem?_set_ne (Ne.symm hj)]
    unfold flds
    rw [List.getElem?_map, List.getElem?_map]
    by_cases hl : j < nFl ((K - 1) % 20)
    · rw [List.getElem?_range hl]
      show some (fval w' K a j) = some (fval w K a j)
      rw [h2 j hj]
    · rw [List.getElem?_eq_none (by simpa using hl)]
      rfl
theorem cell_obj {K : Nat} (h : kd w a = K) (hK : K < 1000) : cellE cy w a = .inr ((K - 1) % 20, flds w K a) := by
  unfold cellE
  rw [h, if_pos hK]
theorem cell_arr {K : Nat} (h : kd w a = K) (hK : ¬ K < 1000) : cellE cy w a = arrE cy w K a := by
  unfold cellE
  rw [h, if_neg hK]
/-- cells are the same where kinds, fields, lengths and rows are -/
theorem cell_same {b : Nat} (h1 : kd w' b = kd w b) (h2 : ∀ K k, fI w' K k b = fI w K k b) (h3 : ∀ K k, fR w' K k b = fR w K k b) (h4 : aL w' b = aL w b) (h5 : ∀ K, aI w' K b = aI w K b) (h6 : ∀ K, aR w' K b = aR w K b) (h7 : ∀ K, aJ w' K b = aJ w K b) : cellE cy w' b = cellE cy w b := by
  have e : ∀ K, flds w' K b = flds w K b := fun K => by
    unfold flds
    exact congrArg (fun g => List.map g _) (funext fun k => by unfold fval; rw [h2, h3])
  unfold cellE arrE
  rw [h1, e, h4, h5, h6, h7]
theorem up3_same {α : Type} {f : Nat → Nat → Nat → α} {x y z : Nat} {v : α} : up3 f x y z v x y z = v := by simp [up3]
theorem up3_z {α : Type} {f : Nat → Nat → Nat → α} {x y z x' y' z' : Nat} {v : α} (h : z' ≠ z) : up3 f x y z v x' y' z' = f x' y' z' := by simp [up3, h]
theorem up3_y {α : Type} {f : Nat → Nat → Nat → α} {x y z x' y' z' : Nat} {v : α} (h : y' ≠ y) : up3 f x y z v x' y' z' = f x' y' z' := by simp [up3, h]
theorem up3_x {α : Type} {f : Nat → Nat → Nat → α} {x y z x' y' z' : Nat} {v : α} (h : x' ≠ x) : up3 f x y z v x' y' z' = f x' y' z' := by simp [up3, h]
end BASE
end
section
section JUDGE
/-! the judgement: the method's frame at pc, with locals lv and operand stack st, in a heap that holds the world w, comes to Q -/
def tysC (cy : Nat → ClassId) : List (ClassId × FieldType) := [(cy 0, .int), (cy 1, .boolean), (cy 2, .object "RainIndex$Telling"), (cy 3, .object "java/lang/Object"), (cy 4, .long)]
def isCN (w : Cond) : Bool := match w with
  | .castable _ _ => true
  | .methodLinkNest _ _ _ _ => true
  | .declares _ => true
  | _ => false
/-- what is known of the launch's own cells and classes, all outside the addresses from z on -/
def strs : List (String × Nat × String) := [("RainIndex", 338, "x or y is out of range"), ("RainIndex", 91, "there are 5 stations, or rain was told"), ("RainIndex", 346, "no such station"), ("RainIndex", 115, "day or tenths is out of range"), ("RainIndex", 122, "days is out of range"), ("RainIndex", 124, "the day would be above 1199"), ("RainIndex", 126, "an argument is out of range"), ("RainIndex", 131, "the product has 3 phases"), ("RainIndex", 340, "known is out of range"), ("RainIndex", 145, "the product has no phase, or there are 6"), ("RainIndex", 154, "there are 16 farms, or there is no station"), ("RainIndex", 350, "no such farm"), ("RainIndex", 165, "amount is out of range"), ("RainIndex", 171, "the debt would be above 99999"), ("RainIndex", 173, "hundredths is out of range"), ("RainIndex", 175, "retention or layer is out of range"), ("RainIndex", 348, "no such product"), ("RainIndex", 344, "no such season"), ("RainIndex", 184, "sum is out of range"), ("RainIndex", 197, "there are 60 covers, or this one can't be sold now"), ("RainIndex", 231, "the season is not over, or settled"), ("RainIndex", 257, "the season has not begun"), ("RainIndex", 266, "the farm can't complain about that season, or no more"), ("RainIndex", 272, "day is out of range"), ("RainIndex", 289, "no such phase"), ("RainIndex", 352, "no such cover"), ("RainIndex", 342, "what is out of range")]
def Envf (cy : Nat → ClassId) (z de : Nat) (U : State) (H : Heap) : Prop :=
  (∀ w ∈ lw_tbl, isCN w = true → va_Nw w U) ∧ va_AO "RainIndex$Telling" U ∧ va_AO "java/lang/Object" U ∧ va_Dc U ∧ (∃ mi : Nat, va_Mi "[Ljava/lang/Object;" mi U) ∧
  vx_Zq Bundle.tN "UNASSIGNED_STACK" Bundle.steD (fun q => z ≤ q) U H ∧ vx_Zq Bundle.tN "SUPPRESSED_SENTINEL" Bundle.listD (fun q => z ≤ q) U H ∧
  (va_Z "java/util/ArrayList" "DEFAULTCAPACITY_EMPTY_ELEMENTDATA" "[Ljava/lang/Object;" (.ref de) (fun q => z ≤ q) U H ∧ de < z ∧ H[de]? = some (vp_cell (cy 3) (0, .inr (.inr (.inr (.inr (fun _ => none))))))) ∧
  ∀ q ∈ strs, ∃ sa : Nat, vk_R q.1 q.2.1 q.2.2 sa U
theorem Envf.go {cy : Nat → ClassId} {z de : Nat} {s U : State} {H0 H : Heap} (h : Envf cy z de s H0) (hW : s.WarmedH U.vm) (hq : ∀ a : Nat, a < H0.size → ¬ z ≤ a → H[a]? = H0[a]?) : Envf cy z de U H := by
  obtain ⟨h1, h2, h3, h4, ⟨mi, h5⟩, h6, h7, ⟨h8, h9, h10⟩, h11⟩ := h
  refine ⟨fun w hw hc => ?_, va_AO.moved hW.alike h2, va_AO.moved hW.alike h3, va_Dc.moved hW.alike h4, ⟨mi, va_Mi.moved hW.alike h5⟩, (h6.moved hW.alike).kept hq, (h7.moved hW.alike).kept hq, ⟨(va_Z.moved hW.alike h8).kept hq, h9, ?_⟩, fun q hq => ?_⟩
  · have := h1 w hw hc
    cases w <;> first | exact va_Nw.warmC hW this | exact va_Nw.warmM hW this | exact va_Nw.warmD hW this | cases hc
  · rw [hq de (Array.getElem?_eq_some_iff.mp h10).1 (by omega)]; exact h10
  · obtain ⟨sa, hs⟩ := h11 q hq
    exact ⟨sa, vk_R.warm hW hs⟩
/-- the state of a heap with the world w in it -/
def Hd (D : va_G) (cy : Nat → ClassId) (z de : Nat) (w : Wd) (U : State) (H : Heap) : Prop := HH D cy z w H ∧ va_K D vwCl (tysC cy) U ∧ Envf cy z de U H ∧ z ≤ H.size
variable {p : Program} {l : Launch} {e : Env} {R : Room} {s : State} {m : MethodId} {args : Array Value} {below : List Frame} {meth : Method} {c : Code} {D : va_G} {cy : Nat → ClassId} {z : Nat}
/-- a method's own: its code, locals, class, the tables' words, its room -/
def Cx (p : Program) (l : Launch) (R : Room) (s : State) (m : MethodId) (args : Array Value) (meth : Method) (c : Code) (D : va_G) (cy : Nat → ClassId) (z : Nat) (cc : ByteArray) (own : String) (nL : Nat) (ret : Option FieldType) (fr lo mc ms de : Nat) : Prop :=
  p.tables.exec = Jvm.exec ∧ c.code = cc ∧ c.maxLocals = nL ∧ s.vm.findClass own = some m.cls ∧ (∀ w ∈ TBL, w.before args s = true) ∧ meth.locks = false ∧ meth.sig.returnType = ret ∧ va_K D vwCl (tysC cy) s ∧ Envf cy z de s s.heap ∧ R = { frames := fr, cells := mc, slots := ms, locals := lo } ∧ z ≤ s.heap.size ∧ l.stackTraces = false
def lvg : List (Nat × Value) → Nat → Option Value
  | [], _ => none
  | q :: l, i => bif Nat.beq q.1 i then some q.2 else lvg l i
def lvs (l : List (Nat × Value)) (i : Nat) (v : Value) : List (Nat × Value) := (i, v) :: l.filter (fun q => !(q.1 == i) && !(q.1 + 1 == i && q.2.category == 2))
theorem lvg_mem : ∀ {l : List (Nat × Value)} {i : Nat} {v : Value}, lvg l i = some v → (i, v) ∈ l
  | [], _, _, h => by cases h
  | q :: l, i, v, h => by
    unfold lvg at h
    cases hb : Nat.beq q.1 i with
    | true =>
      rw [hb] at h
      have e1 := Nat.eq_of_beq_eq_true hb
      have e2 : q.2 = v := Option.some.inj h
      subst e1; subst e2
      exact List.mem_cons_self
    | false =>
      rw [hb] at h
      exact List.mem_cons_of_mem _ (lvg_mem h)
def G (p : Program) (l : Launch) (e : Env) (R : Room) (s : State) (m : MethodId) (args : Array Value) (below : List Frame) (meth : Method) (c : Code) (D : va_G) (cy : Nat → ClassId) (z nL : Nat) (w : Wd) (kc ns pc : Nat) (lv : List (Nat × Value)) (st : List Value) (Q : State → Prop) : Prop :=
  ∀ (H : Heap) (locs : List Loc) (ls : Array Slot), HH D cy z w H → va_S (fun q => z ≤ q) s.heap H locs → lv_has ls nL lv → W p l e R s m args below meth c H locs kc ns Q (F0 m pc ls st)
variable {cc : ByteArray} {own : String} {nL : Nat} {ret : Option FieldType} {fr lo mc ms de : Nat} {w : Wd} {kc ns pc : Nat} {lv : List (Nat × Value)} {st : List Value} {Q : State → Prop}
theorem g_wid (k n : Nat) (h1 : kc ≤ k) (h2 : ns ≤ n) (h : G p l e R s m args below meth c D cy z nL w k n pc lv st Q) : G p l e R s m args below meth c D cy z nL w kc ns pc lv st Q := fun H locs ls hH hS hl => W.widen h1 h2 (h H locs ls hH hS hl)
/-- the same locals, listed anew -/
theorem g_lv (lv' : List (Nat × Value)) (h : ∀ q ∈ lv', lvg lv q.1 = some q.2) (k : G p l e R s m args below meth c D cy z nL w kc ns pc lv' st Q) : G p l e R s m args below meth c D cy z nL w kc ns pc lv st Q :=
  fun H locs ls hH hS hl => k H locs ls hH hS ⟨hl.1, hl.2.1, fun q hq => hl.2.2 (q.1, q.2) (lvg_mem (h q hq))⟩
theorem g_eq {pc' : Nat} {st' : List Value} {w' : Wd} (h1 : pc = pc') (h2 : st = st') (h3 : w = w') (k : G p l e R s m args below meth c D cy z nL w' kc ns pc' lv st' Q) : G p l e R s m args below meth c D cy z nL w kc ns pc lv st Q := by
  subst h1; subst h2; subst h3; exact k
theorem g_iconst (C : Cx p l R s m args meth c D cy z cc own nL ret fr lo mc ms de) {n : Int} (v : Int32) (hdg : decode cc pc = .ok (.iconst n, 1)) (hv : Int32.ofInt n = v) (k : G p l e R s m args below meth c D cy z nL w kc ns (pc + 1) lv (.int v :: st) Q) : G p l e R s m args below meth c D cy z nL w kc ns pc lv st Q := fun H locs ls hH hS hl => lv_iconst C.1 C.2.1 hdg hv (k H locs ls hH hS hl)
theorem g_bipush (C : Cx p l R s m args meth c D cy z cc own nL ret fr lo mc ms de) {n : Int} (v : Int32) (hdg : decode cc pc = .ok (.bipush n, 2)) (hv : (Int8.ofInt n).toInt32 = v) (k : G p l e R s m args below meth c D cy z nL w kc ns (pc + 2) lv (.int v :: st) Q) : G p l e R s m args below meth c D cy z nL w kc ns pc lv st Q := fun H locs ls hH hS hl => lv_bipush C.1 C.2.1 hdg hv (k H locs ls hH hS hl)
theorem g_sipush (C : Cx p l R s m args meth c D cy z cc own nL ret fr lo mc ms de) {n : Int} (v : Int32) (hdg : decode cc pc = .ok (.sipush n, 3)) (hv : (Int16.ofInt n).toInt32 = v) (k : G p l e R s m args below meth c D cy z nL w kc ns (pc + 3) lv (.int v :: st) Q) : G p l e R s m args below meth c D cy z nL w kc ns pc lv st Q := fun H locs ls hH hS hl => lv_sipush C.1 C.2.1 hdg hv (k H locs ls hH hS hl)
theorem g_lconst (C : Cx p l R s m args meth c D cy z cc own nL ret fr lo mc ms de) {n : Fin 2} (v : Int64) (hdg : decode cc pc = .ok (.lconst n, 1)) (hv : Int64.ofNat (n : Nat) = v) (k : G p l e R s m args below meth c D cy z nL w kc ns (pc + 1) lv (.long v :: st) Q) : G p l e R s m args below meth c D cy z nL w kc ns pc lv st Q := fun H locs ls hH hS hl => lv_lconst C.1 C.2.1 hdg hv (k H locs ls hH hS hl)
theorem g_ldc (C : Cx p l R s m args meth c D cy z cc own nL ret fr lo mc ms de) {index : Nat} {v : Int32} (hk : Cond.constant own index v ∈ TBL) (hdg : decode cc pc = .ok (.ldc index, 2)) (k : G p l e R s m args below meth c D cy z nL w kc ns (pc + 2) lv (.int v :: st) Q) : G p l e R s m args below meth c D cy z nL w kc ns pc lv st Q := fun H locs ls hH hS hl => lv_ldc C.1 C.2.1 C.2.2.2.1 (C.2.2.2.2.1 _ hk) hdg (k H locs ls hH hS hl)
theorem g_iload_n (C : Cx p l R s m args meth c D cy z cc own nL ret fr lo mc ms de) {i : Fin 4} {x : Int32} (hdg : decode cc pc = .ok (.iload_n i, 1)) (hl0 : lvg lv (i : Nat) = some (.int x)) (k : G p l e R s m args below meth c D cy z nL w kc ns (pc + 1) lv (.int x :: st) Q) : G p l e R s m args below meth c D cy z nL w kc ns pc lv st Q := fun H locs ls hH hS hl => lv_iload_n C.1 C.2.1 hdg rfl (hl.2.2 _ (lvg_mem hl0)) (k H locs ls hH hS hl)
theorem g_iload (C : Cx p l R s m args meth c D cy z cc own nL ret fr lo mc ms de) {i : Nat} {x : Int32} (hdg : decode cc pc = .ok (.iload i, 2)) (hl0 : lvg lv i = some (.int x)) (k : G p l e R s m args below meth c D cy z nL w kc ns (pc + 2) lv (.int x :: st) Q) : G p l e R s m args below meth c D cy z nL w kc ns pc lv st Q := fun H locs ls hH hS hl => lv_iload C.1 C.2.1 hdg (hl.2.2 _ (lvg_mem hl0)) (k H locs ls hH hS hl)
theorem g_lload_n (C : Cx p l R s m args meth c D cy z cc own nL ret fr lo mc ms de) {i : Fin 4} {x : Int64} (hdg : decode cc pc = .ok (.lload_n i, 1)) (hl0 : lvg lv (i : Nat) = some (.long x)) (k : G p l e R s m args below meth c D cy z nL w kc ns (pc + 1) lv (.long x :: st) Q) : G p l e R s m args below meth c D cy z nL w kc ns pc lv st Q := fun H locs ls hH hS hl => lv_lload_n C.1 C.2.1 hdg rfl (hl.2.2 _ (lvg_mem hl0)) (k H locs ls hH hS hl)
theorem g_lload (C : Cx p l R s m args meth c D cy z cc own nL ret fr lo mc ms de) {i : Nat} {x : Int64} (hdg : decode cc pc = .ok (.lload i, 2)) (hl0 : lvg lv i = some (.long x)) (k : G p l e R s m args below meth c D cy z nL w kc ns (pc + 2) lv (.long x :: st) Q) : G p l e R s m args below meth c D cy z nL w kc ns pc lv st Q := fun H locs ls hH hS hl => lv_lload C.1 C.2.1 hdg (hl.2.2 _ (lvg_mem hl0)) (k H locs ls hH hS hl)
theorem g_aload_n (C : Cx p l R s m args meth c D cy z cc own nL ret fr lo mc ms de) {i : Fin 4} {x : Nat} (hdg : decode cc pc = .ok (.aload_n i, 1)) (hl0 : lvg lv (i : Nat) = some (.ref x)) (k : G p l e R s m args below meth c D cy z nL w kc ns (pc + 1) lv (.ref x :: st) Q) : G p l e R s m args below meth c D cy z nL w kc ns pc lv st Q := fun H locs ls hH hS hl => lv_aload_n C.1 C.2.1 hdg rfl (hl.2.2 _ (lvg_mem hl0)) (k H locs ls hH hS hl)
theorem g_aload (C : Cx p l R s m args meth c D cy z cc own nL ret fr lo mc ms de) {i : Nat} {x : Nat} (hdg : decode cc pc = .ok (.aload i, 2)) (hl0 : lvg lv i = some (.ref x)) (k : G p l e R s m args below meth c D cy z nL w kc ns (pc + 2) lv (.ref x :: st) Q) : G p l e R s m args below meth c D cy z nL w kc ns pc lv st Q := fun H locs ls hH hS hl => lv_aload C.1 C.2.1 hdg (hl.2.2 _ (lvg_mem hl0)) (k H locs ls hH hS hl)
theorem g_istore_n (C : Cx p l R s m args meth c D cy z cc own nL ret fr lo mc ms de) {i : Fin 4} {x : Int32} (hdg : decode cc pc = .ok (.istore_n i, 1)) (hn : (i : Nat) < nL) (k : G p l e R s m args below meth c D cy z nL w kc ns (pc + 1) (lvs lv (i : Nat) (.int x)) st Q) : G p l e R s m args below meth c D cy z nL w kc ns pc lv (.int x :: st) Q := fun H locs ls hH hS hl => lv_istore_n C.1 C.2.1 hdg rfl hl hn rfl (fun ls' hl' => k H locs ls' hH hS hl')
theorem g_istore (C : Cx p l R s m args meth c D cy z cc own nL ret fr lo mc ms de) {i : Nat} {x : Int32} (hdg : decode cc pc = .ok (.istore i, 2)) (hn : i < nL) (k : G p l e R s m args below meth c D cy z nL w kc ns (pc + 2) (lvs lv i (.int x)) st Q) : G p l e R s m args below meth c D cy z nL w kc ns pc lv (.int x :: st) Q := fun H locs ls hH hS hl => lv_istore C.1 C.2.1 hdg hl hn rfl (fun ls' hl' => k H locs ls' hH hS hl')
theorem g_astore_n (C : Cx p l R s m args meth c D cy z cc own nL ret fr lo mc ms de) {i : Fin 4} {x : Nat} (hdg : decode cc pc = .ok (.astore_n i, 1)) (hn : (i : Nat) < nL) (k : G p l e R s m args below meth c D cy z nL w kc ns (pc + 1) (lvs lv (i : Nat) (.ref x)) st Q) : G p l e R s m args below meth c D cy z nL w kc ns pc lv (.ref x :: st) Q := fun H locs ls hH hS hl => lv_astore_n C.1 C.2.1 hdg rfl hl hn rfl (fun ls' hl' => k H locs ls' hH hS hl')
theorem g_astore (C : Cx p l R s m args meth c D cy z cc own nL ret fr lo mc ms de) {i : Nat} {x : Nat} (hdg : decode cc pc = .ok (.astore i, 2)) (hn : i < nL) (k : G p l e R s m args below meth c D cy z nL w kc ns (pc + 2) (lvs lv i (.ref x)) st Q) : G p l e R s m args below meth c D cy z nL w kc ns pc lv (.ref x :: st) Q := fun H locs ls hH hS hl => lv_astore C.1 C.2.1 hdg hl hn rfl (fun ls' hl' => k H locs ls' hH hS hl')
theorem lv_inc_at {l : List (Nat × Value)} {i : Nat} {x : Int32} (h : lvg l i = some (.int x)) : ∃ k : Nat, l[k]? = some (i, .int x) := List.getElem?_of_mem (lvg_mem h)
theorem g_iinc (C : Cx p l R s m args meth c D cy z cc own nL ret fr lo mc ms de) {i : Nat} {n : Int} {x v : Int32} (hdg : decode cc pc = .ok (.iinc i n, 3)) (hl0 : lvg lv i = some (.int x)) (hv : x + Int32.ofInt n = v) (hn : i < nL) (k : G p l e R s m args below meth c D cy z nL w kc ns (pc + 3) (lvs lv i (.int v)) st Q) : G p l e R s m args below meth c D cy z nL w kc ns pc lv st Q := fun H locs ls hH hS hl => by
  obtain ⟨j, hj⟩ := lv_inc_at hl0
  exact lv_iinc C.1 C.2.1 hdg hl hj hv hn rfl (fun ls' hl' => k H locs ls' hH hS hl')
theorem g_iadd (C : Cx p l R s m args meth c D cy z cc own nL ret fr lo mc ms de) {x y : Int32} (hdg : decode cc pc = .ok (.iadd, 1)) (k : G p l e R s m args below meth c D cy z nL w kc ns (pc + 1) lv (.int (x + y) :: st) Q) : G p l e R s m args below meth c D cy z nL w kc ns pc lv (.int y :: .int x :: st) Q := fun H locs ls hH hS hl => lv_iadd C.1 C.2.1 hdg (k H locs ls hH hS hl)
theorem g_isub (C : Cx p l R s m args meth c D cy z cc own nL ret fr lo mc ms de) {x y : Int32} (hdg : decode cc pc = .ok (.isub, 1)) (k : G p l e R s m args below meth c D cy z nL w kc ns (pc + 1) lv (.int (x - y) :: st) Q) : G p l e R s m args below meth c D cy z nL w kc ns pc lv (.int y :: .int x :: st) Q := fun H locs ls hH hS hl => lv_isub C.1 C.2.1 hdg (k H locs ls hH hS hl)
theorem g_imul (C : Cx p l R s m args meth c D cy z cc own nL ret fr lo mc ms de) {x y : Int32} (hdg : decode cc pc = .ok (.imul, 1)) (k : G p l e R s m args below meth c D cy z nL w kc ns (pc + 1) lv (.int (x * y) :: st) Q) : G p l e R s m args below meth c D cy z nL w kc ns pc lv (.int y :: .int x :: st) Q := fun H locs ls hH hS hl => lv_imul C.1 C.2.1 hdg (k H locs ls hH hS hl)
theorem g_iand (C : Cx p l R s m args meth c D cy z cc own nL ret fr lo mc ms de) {x y : Int32} (hdg : decode cc pc = .ok (.iand, 1)) (k : G p l e R s m args below meth c D cy z nL w kc ns (pc + 1) lv (.int (x &&& y) :: st) Q) : G p l e R s m args below meth c D cy z nL w kc ns pc lv (.int y :: .int x :: st) Q := fun H locs ls hH hS hl => lv_iand C.1 C.2.1 hdg (k H locs ls hH hS hl)
theorem g_ladd (C : Cx p l R s m args meth c D cy z cc own nL ret fr lo mc ms de) {x y : Int64} (hdg : decode cc pc = .ok (.ladd, 1)) (k : G p l e R s m args below meth c D cy z nL w kc ns (pc + 1) lv (.long (x + y) :: st) Q) : G p l e R s m args below meth c D cy z nL w kc ns pc lv (.long y :: .long x :: st) Q := fun H locs ls hH hS hl => lv_ladd C.1 C.2.1 hdg (k H locs ls hH hS hl)
theorem g_lmul (C : Cx p l R s m args meth c D cy z cc own nL ret fr lo mc ms de) {x y : Int64} (hdg : decode cc pc = .ok (.lmul, 1)) (k : G p l e R s m args below meth c D cy z nL w kc ns (pc + 1) lv (.long (x * y) :: st) Q) : G p l e R s m args below meth c D cy z nL w kc ns pc lv (.long y :: .long x :: st) Q := fun H locs ls hH hS hl => lv_lmul C.1 C.2.1 hdg (k H locs ls hH hS hl)
theorem g_ishr (C : Cx p l R s m args meth c D cy z cc own nL ret fr lo mc ms de) {x y : Int32} (hdg : decode cc pc = .ok (.ishr, 1)) (k : G p l e R s m args below meth c D cy z nL w kc ns (pc + 1) lv (.int (x >>> (y &&& 31)) :: st) Q) : G p l e R s m args below meth c D cy z nL w kc ns pc lv (.int y :: .int x :: st) Q := fun H locs ls hH hS hl => lv_ishr C.1 C.2.1 hdg (k H locs ls hH hS hl)
theorem g_idiv (C : Cx p l R s m args meth c D cy z cc own nL ret fr lo mc ms de) {x y : Int32} (hdg : decode cc pc = .ok (.idiv, 1)) (hne : ¬ y = 0) (k : G p l e R s m args below meth c D cy z nL w kc ns (pc + 1) lv (.int (x / y) :: st) Q) : G p l e R s m args below meth c D cy z nL w kc ns pc lv (.int y :: .int x :: st) Q := fun H locs ls hH hS hl => lv_idiv C.1 C.2.1 hdg hne (k H locs ls hH hS hl)
theorem g_ldiv (C : Cx p l R s m args meth c D cy z cc own nL ret fr lo mc ms de) {x y : Int64} (hdg : decode cc pc = .ok (.ldiv, 1)) (hne : ¬ y = 0) (k : G p l e R s m args below meth c D cy z nL w kc ns (pc + 1) lv (.long (x / y) :: st) Q) : G p l e R s m args below meth c D cy z nL w kc ns pc lv (.long y :: .long x :: st) Q := fun H locs ls hH hS hl => lv_ldiv C.1 C.2.1 hdg hne (k H locs ls hH hS hl)
theorem g_i2l (C : Cx p l R s m args meth c D cy z cc own nL ret fr lo mc ms de) {x : Int32} (hdg : decode cc pc = .ok (.i2l, 1)) (k : G p l e R s m args below meth c D cy z nL w kc ns (pc + 1) lv (.long x.toInt64 :: st) Q) : G p l e R s m args below meth c D cy z nL w kc ns pc lv (.int x :: st) Q := fun H locs ls hH hS hl => lv_i2l C.1 C.2.1 hdg rfl (k H locs ls hH hS hl)
theorem g_l2i (C : Cx p l R s m args meth c D cy z cc own nL ret fr lo mc ms de) {x : Int64} (hdg : decode cc pc = .ok (.l2i, 1)) (k : G p l e R s m args below meth c D cy z nL w kc ns (pc + 1) lv (.int x.toInt32 :: st) Q) : G p l e R s m args below meth c D cy z nL w kc ns pc lv (.long x :: st) Q := fun H locs ls hH hS hl => lv_l2i C.1 C.2.1 hdg rfl (k H locs ls hH hS hl)
theorem g_lcmp (C : Cx p l R s m args meth c D cy z cc own nL ret fr lo mc ms de) {x y : Int64} (hdg : decode cc pc = .ok (.lcmp, 1)) (k : G p l e R s m args below meth c D cy z nL w kc ns (pc + 1) lv (.int (lg_cmp x y) :: st) Q) : G p l e R s m args below meth c D cy z nL w kc ns pc lv (.long y :: .long x :: st) Q := fun H locs ls hH hS hl => W.lcmp C.1 C.2.1 hdg (k H locs ls hH hS hl)
theorem g_dup (C : Cx p l R s m args meth c D cy z cc own nL ret fr lo mc ms de) {v : Value} (hdg : decode cc pc = .ok (.dup, 1)) (hv : v.category = 1) (k : G p l e R s m args below meth c D cy z nL w kc ns (pc + 1) lv (v :: v :: st) Q) : G p l e R s m args below meth c D cy z nL w kc ns pc lv (v :: st) Q := fun H locs ls hH hS hl => lv_dup C.1 C.2.1 hdg hv (k H locs ls hH hS hl)
theorem g_pop (C : Cx p l R s m args meth c D cy z cc own nL ret fr lo mc ms de) {v : Value} (hdg : decode cc pc = .ok (.pop, 1)) (hv : v.category = 1) (k : G p l e R s m args below meth c D cy z nL w kc ns (pc + 1) lv st Q) : G p l e R s m args below meth c D cy z nL w kc ns pc lv (v :: st) Q := fun H locs ls hH hS hl => lv_pop C.1 C.2.1 hdg hv (k H locs ls hH hS hl)
theorem g_dup_x1 (C : Cx p l R s m args meth c D cy z cc own nL ret fr lo mc ms de) {v u : Value} (hdg : decode cc pc = .ok (.dup_x1, 1)) (hv : v.category = 1) (hu : u.category = 1) (k : G p l e R s m args below meth c D cy z nL w kc ns (pc + 1) lv (v :: u :: v :: st) Q) : G p l e R s m args below meth c D cy z nL w kc ns pc lv (v :: u :: st) Q := fun H locs ls hH hS hl => lv_dup_x1 C.1 C.2.1 hdg hv hu (k H locs ls hH hS hl)
theorem g_dup2 (C : Cx p l R s m args meth c D cy z cc own nL ret fr lo mc ms de) {v u : Value} (hdg : decode cc pc = .ok (.dup2, 1)) (hv : v.category = 1) (hu : u.category = 1) (k : G p l e R s m args below meth c D cy z nL w kc ns (pc + 1) lv (v :: u :: v :: u :: st) Q) : G p l e R s m args below meth c D cy z nL w kc ns pc lv (v :: u :: st) Q := fun H locs ls hH hS hl => lv_dup2_11 C.1 C.2.1 hdg hv hu (k H locs ls hH hS hl)
theorem g_goto (C : Cx p l R s m args meth c D cy z cc own nL ret fr lo mc ms de) {off : Int} (tgt : Nat) (hdg : decode cc pc = .ok (.goto off, 3)) (ht : (pc : Int) + off = (tgt : Int)) (k : G p l e R s m args below meth c D cy z nL w kc ns tgt lv st Q) : G p l e R s m args below meth c D cy z nL w kc ns pc lv st Q := fun H locs ls hH hS hl => lv_goto C.1 C.2.1 hdg ht (k H locs ls hH hS hl)
theorem g_if_eq (C : Cx p l R s m args meth c D cy z cc own nL ret fr lo mc ms de) {x : Int32} {off : Int} (tgt : Nat) (hdg : decode cc pc = .ok (.ifCond .eq off, 3)) (ht : (pc : Int) + off = (tgt : Int)) (kt : x = 0 → G p l e R s m args below meth c D cy z nL w kc ns tgt lv st Q) (kf : ¬ x = 0 → G p l e R s m args below meth c D cy z nL w kc ns (pc + 3) lv st Q) : G p l e R s m args below meth c D cy z nL w kc ns pc lv (.int x :: st) Q := fun H locs ls hH hS hl => lv_if_eq C.1 C.2.1 hdg ht (fun h => kt h H locs ls hH hS hl) (fun h => kf h H locs ls hH hS hl)
theorem g_icmp_eq (C : Cx p l R s m args meth c D cy z cc own nL ret fr lo mc ms de) {x y : Int32} {off : Int} (tgt : Nat) (hdg : decode cc pc = .ok (.if_icmp .eq off, 3)) (ht : (pc : Int) + off = (tgt : Int)) (kt : x = y → G p l e R s m args below meth c D cy z nL w kc ns tgt lv st Q) (kf : ¬ x = y → G p l e R s m args below meth c D cy z nL w kc ns (pc + 3) lv st Q) : G p l e R s m args below meth c D cy z nL w kc ns pc lv (.int y :: .int x :: st) Q := fun H locs ls hH hS hl => lv_icmp_eq C.1 C.2.1 hdg ht (fun h => kt h H locs ls hH hS hl) (fun h => kf h H locs ls hH hS hl)
theorem g_if_ne (C : Cx p l R s m args meth c D cy z cc own nL ret fr lo mc ms de) {x : Int32} {off : Int} (tgt : Nat) (hdg : decode cc pc = .ok (.ifCond .ne off, 3)) (ht : (pc : Int) + off = (tgt : Int)) (kt : ¬ x = 0 → G p l e R s m args below meth c D cy z nL w kc ns tgt lv st Q) (kf : x = 0 → G p l e R s m args below meth c D cy z nL w kc ns (pc + 3) lv st Q) : G p l e R s m args below meth c D cy z nL w kc ns pc lv (.int x :: st) Q := fun H locs ls hH hS hl => lv_if_ne C.1 C.2.1 hdg ht (fun h => kt h H locs ls hH hS hl) (fun h => kf h H locs ls hH hS hl)
theorem g_icmp_ne (C : Cx p l R s m args meth c D cy z cc own nL ret fr lo mc ms de) {x y : Int32} {off : Int} (tgt : Nat) (hdg : decode cc pc = .ok (.if_icmp .ne off, 3)) (ht : (pc : Int) + off = (tgt : Int)) (kt : ¬ x = y → G p l e R s m args below meth c D cy z nL w kc ns tgt lv st Q) (kf : x = y → G p l e R s m args below meth c D cy z nL w kc ns (pc + 3) lv st Q) : G p l e R s m args below meth c D cy z nL w kc ns pc lv (.int y :: .int x :: st) Q := fun H locs ls hH hS hl => lv_icmp_ne C.1 C.2.1 hdg ht (fun h => kt h H locs ls hH hS hl) (fun h => kf h H locs ls hH hS hl)
theorem g_if_lt (C : Cx p l R s m args meth c D cy z cc own nL ret fr lo mc ms de) {x : Int32} {off : Int} (tgt : Nat) (hdg : decode cc pc = .ok (.ifCond .lt off, 3)) (ht : (pc : Int) + off = (tgt : Int)) (kt : x < 0 → G p l e R s m args below meth c D cy z nL w kc ns tgt lv st Q) (kf : ¬ x < 0 → G p l e R s m args below meth c D cy z nL w kc ns (pc + 3) lv st Q) : G p l e R s m args below meth c D cy z nL w kc ns pc lv (.int x :: st) Q := fun H locs ls hH hS hl => lv_if_lt C.1 C.2.1 hdg ht (fun h => kt h H locs ls hH hS hl) (fun h => kf h H locs ls hH hS hl)
theorem g_icmp_lt (C : Cx p l R s m args meth c D cy z cc own nL ret fr lo mc ms de) {x y : Int32} {off : Int} (tgt : Nat) (hdg : decode cc pc = .ok (.if_icmp .lt off, 3)) (ht : (pc : Int) + off = (tgt : Int)) (kt : x < y → G p l e R s m args below meth c D cy z nL w kc ns tgt lv st Q) (kf : ¬ x < y → G p l e R s m args below meth c D cy z nL w kc ns (pc + 3) lv st Q) : G p l e R s m args below meth c D cy z nL w kc ns pc lv (.int y :: .int x :: st) Q := fun H locs ls hH hS hl => lv_icmp_lt C.1 C.2.1 hdg ht (fun h => kt h H locs ls hH hS hl) (fun h => kf h H locs ls hH hS hl)
theorem g_if_ge (C : Cx p l R s m args meth c D cy z cc own nL ret fr lo mc ms de) {x : Int32} {off : Int} (tgt : Nat) (hdg : decode cc pc = .ok (.ifCond .ge off, 3)) (ht : (pc : Int) + off = (tgt : Int)) (kt : 0 ≤ x → G p l e R s m args below meth c D cy z nL w kc ns tgt lv st Q) (kf : ¬ 0 ≤ x → G p l e R s m args below meth c D cy z nL w kc ns (pc + 3) lv st Q) : G p l e R s m args below meth c D cy z nL w kc ns pc lv (.int x :: st) Q := fun H locs ls hH hS hl => lv_if_ge C.1 C.2.1 hdg ht (fun h => kt h H locs ls hH hS hl) (fun h => kf h H locs ls hH hS hl)
theorem g_icmp_ge (C : Cx p l R s m args meth c D cy z cc own nL ret fr lo mc ms de) {x y : Int32} {off : Int} (tgt : Nat) (hdg : decode cc pc = .ok (.if_icmp .ge off, 3)) (ht : (pc : Int) + off = (tgt : Int)) (kt : y ≤ x → G p l e R s m args below meth c D cy z nL w kc ns tgt lv st Q) (kf : ¬ y ≤ x → G p l e R s m args below meth c D cy z nL w kc ns (pc + 3) lv st Q) : G p l e R s m args below meth c D cy z nL w kc ns pc lv (.int y :: .int x :: st) Q := fun H locs ls hH hS hl => lv_icmp_ge C.1 C.2.1 hdg ht (fun h => kt h H locs ls hH hS hl) (fun h => kf h H locs ls hH hS hl)
theorem g_if_gt (C : Cx p l R s m args meth c D cy z cc own nL ret fr lo mc ms de) {x : Int32} {off : Int} (tgt : Nat) (hdg : decode cc pc = .ok (.ifCond .gt off, 3)) (ht : (pc : Int) + off = (tgt : Int)) (kt : 0 < x → G p l e R s m args below meth c D cy z nL w kc ns tgt lv st Q) (kf : ¬ 0 < x → G p l e R s m args below meth c D cy z nL w kc ns (pc + 3) lv st Q) : G p l e R s m args below meth c D cy z nL w kc ns pc lv (.int x :: st) Q := fun H locs ls hH hS hl => lv_if_gt C.1 C.2.1 hdg ht (fun h => kt h H locs ls hH hS hl) (fun h => kf h H locs ls hH hS hl)
theorem g_icmp_gt (C : Cx p l R s m args meth c D cy z cc own nL ret fr lo mc ms de) {x y : Int32} {off : Int} (tgt : Nat) (hdg : decode cc pc = .ok (.if_icmp .gt off, 3)) (ht : (pc : Int) + off = (tgt : Int)) (kt : y < x → G p l e R s m args below meth c D cy z nL w kc ns tgt lv st Q) (kf : ¬ y < x → G p l e R s m args below meth c D cy z nL w kc ns (pc + 3) lv st Q) : G p l e R s m args below meth c D cy z nL w kc ns pc lv (.int y :: .int x :: st) Q := fun H locs ls hH hS hl => lv_icmp_gt C.1 C.2.1 hdg ht (fun h => kt h H locs ls hH hS hl) (fun h => kf h H locs ls hH hS hl)
theorem g_if_le (C : Cx p l R s m args meth c D cy z cc own nL ret fr lo mc ms de) {x : Int32} {off : Int} (tgt : Nat) (hdg : decode cc pc = .ok (.ifCond .le off, 3)) (ht : (pc : Int) + off = (tgt : Int)) (kt : x ≤ 0 → G p l e R s m args below meth c D cy z nL w kc ns tgt lv st Q) (kf : ¬ x ≤ 0 → G p l e R s m args below meth c D cy z nL w kc ns (pc + 3) lv st Q) : G p l e R s m args below meth c D cy z nL w kc ns pc lv (.int x :: st) Q := fun H locs ls hH hS hl => lv_if_le C.1 C.2.1 hdg ht (fun h => kt h H locs ls hH hS hl) (fun h => kf h H locs ls hH hS hl)
theorem g_icmp_le (C : Cx p l R s m args meth c D cy z cc own nL ret fr lo mc ms de) {x y : Int32} {off : Int} (tgt : Nat) (hdg : decode cc pc = .ok (.if_icmp .le off, 3)) (ht : (pc : Int) + off = (tgt : Int)) (kt : x ≤ y → G p l e R s m args below meth c D cy z nL w kc ns tgt lv st Q) (kf : ¬ x ≤ y → G p l e R s m args below meth c D cy z nL w kc ns (pc + 3) lv st Q) : G p l e R s m args below meth c D cy z nL w kc ns pc lv (.int y :: .int x :: st) Q := fun H locs ls hH hS hl => lv_icmp_le C.1 C.2.1 hdg ht (fun h => kt h H locs ls hH hS hl) (fun h => kf h H locs ls hH hS hl)
theorem g_acmp_eq (C : Cx p l R s m args meth c D cy z cc own nL ret fr lo mc ms de) {rx ry : Option Nat} {off : Int} (tgt : Nat) (hdg : decode cc pc = .ok (.if_acmp .eq off, 3)) (ht : (pc : Int) + off = (tgt : Int)) (kt : rx = ry → G p l e R s m args below meth c D cy z nL w kc ns tgt lv st Q) (kf : ¬ rx = ry → G p l e R s m args below meth c D cy z nL w kc ns (pc + 3) lv st Q) : G p l e R s m args below meth c D cy z nL w kc ns pc lv (va_rf ry :: va_rf rx :: st) Q := fun H locs ls hH hS hl => lv_acmp_eq C.1 C.2.1 hdg ht (fun h => kt h H locs ls hH hS hl) (fun h => kf h H locs ls hH hS hl)
theorem g_acmp_ne (C : Cx p l R s m args meth c D cy z cc own nL ret fr lo mc ms de) {rx ry : Option Nat} {off : Int} (tgt : Nat) (hdg : decode cc pc = .ok (.if_acmp .ne off, 3)) (ht : (pc : Int) + off = (tgt : Int)) (kt : ¬ rx = ry → G p l e R s m args below meth c D cy z nL w kc ns tgt lv st Q) (kf : rx = ry → G p l e R s m args below meth c D cy z nL w kc ns (pc + 3) lv st Q) : G p l e R s m args below meth c D cy z nL w kc ns pc lv (va_rf ry :: va_rf rx :: st) Q := fun H locs ls hH hS hl => lv_acmp_ne C.1 C.2.1 hdg ht (fun h => kt h H locs ls hH hS hl) (fun h => kf h H locs ls hH hS hl)
theorem g_null (C : Cx p l R s m args meth c D cy z cc own nL ret fr lo mc ms de) (hdg : decode cc pc = .ok (.aconst_null, 1)) (k : G p l e R s m args below meth c D cy z nL w kc ns (pc + 1) lv (.null :: st) Q) : G p l e R s m args below meth c D cy z nL w kc ns pc lv st Q := fun H locs ls hH hS hl => lv_null C.1 C.2.1 hdg (k H locs ls hH hS hl)
theorem g_aloadN (C : Cx p l R s m args meth c D cy z cc own nL ret fr lo mc ms de) {i : Nat} (hdg : decode cc pc = .ok (.aload i, 2)) (hl0 : lvg lv i = some .null) (k : G p l e R s m args below meth c D cy z nL w kc ns (pc + 2) lv (.null :: st) Q) : G p l e R s m args below meth c D cy z nL w kc ns pc lv st Q := fun H locs ls hH hS hl => lv_aloadN C.1 C.2.1 hdg (hl.2.2 _ (lvg_mem hl0)) (k H locs ls hH hS hl)
theorem g_aload_nN (C : Cx p l R s m args meth c D cy z cc own nL ret fr lo mc ms de) {i : Fin 4} (hdg : decode cc pc = .ok (.aload_n i, 1)) (hl0 : lvg lv (i : Nat) = some .null) (k : G p l e R s m args below meth c D cy z nL w kc ns (pc + 1) lv (.null :: st) Q) : G p l e R s m args below meth c D cy z nL w kc ns pc lv st Q := fun H locs ls hH hS hl => lv_aload_nN C.1 C.2.1 hdg rfl (hl.2.2 _ (lvg_mem hl0)) (k H locs ls hH hS hl)
theorem g_astoreN (C : Cx p l R s m args meth c D cy z cc own nL ret fr lo mc ms de) {i : Nat} (hdg : decode cc pc = .ok (.astore i, 2)) (hn : i < nL) (k : G p l e R s m args below meth c D cy z nL w kc ns (pc + 2) (lvs lv i .null) st Q) : G p l e R s m args below meth c D cy z nL w kc ns pc lv (.null :: st) Q := fun H locs ls hH hS hl => lv_astoreN C.1 C.2.1 hdg hl hn rfl (fun ls' hl' => k H locs ls' hH hS hl')
theorem g_astore_nN (C : Cx p l R s m args meth c D cy z cc own nL ret fr lo mc ms de) {i : Fin 4} (hdg : decode cc pc = .ok (.astore_n i, 1)) (hn : (i : Nat) < nL) (k : G p l e R s m args below meth c D cy z nL w kc ns (pc + 1) (lvs lv (i : Nat) .null) st Q) : G p l e R s m args below meth c D cy z nL w kc ns pc lv (.null :: st) Q := fun H locs ls hH hS hl => lv_astore_nN C.1 C.2.1 hdg rfl hl hn rfl (fun ls' hl' => k H locs ls' hH hS hl')
theorem g_ifnullN (C : Cx p l R s m args meth c D cy z cc own nL ret fr lo mc ms de) {off : Int} (tgt : Nat) (hdg : decode cc pc = .ok (.ifnull off, 3)) (ht : (pc : Int) + off = (tgt : Int)) (k : G p l e R s m args below meth c D cy z nL w kc ns tgt lv st Q) : G p l e R s m args below meth c D cy z nL w kc ns pc lv (.null :: st) Q := fun H locs ls hH hS hl => lv_ifnullN C.1 C.2.1 hdg ht (k H locs ls hH hS hl)
theorem g_ifnull (C : Cx p l R s m args meth c D cy z cc own nL ret fr lo mc ms de) {off : Int} {x : Nat} (hdg : decode cc pc = .ok (.ifnull off, 3)) (k : G p l e R s m args below meth c D cy z nL w kc ns (pc + 3) lv st Q) : G p l e R s m args below meth c D cy z nL w kc ns pc lv (.ref x :: st) Q := fun H locs ls hH hS hl => lv_ifnull C.1 C.2.1 hdg (k H locs ls hH hS hl)
theorem g_ifnonnull (C : Cx p l R s m args meth c D cy z cc own nL ret fr lo mc ms de) {off : Int} {x : Nat} (tgt : Nat) (hdg : decode cc pc = .ok (.ifnonnull off, 3)) (ht : (pc : Int) + off = (tgt : Int)) (k : G p l e R s m args below meth c D cy z nL w kc ns tgt lv st Q) : G p l e R s m args below meth c D cy z nL w kc ns pc lv (.ref x :: st) Q := fun H locs ls hH hS hl => lv_ifnonnull C.1 C.2.1 hdg ht (k H locs ls hH hS hl)
theorem g_ifnonnullN (C : Cx p l R s m args meth c D cy z cc own nL ret fr lo mc ms de) {off : Int} (hdg : decode cc pc = .ok (.ifnonnull off, 3)) (k : G p l e R s m args below meth c D cy z nL w kc ns (pc + 3) lv st Q) : G p l e R s m args below meth c D cy z nL w kc ns pc lv (.null :: st) Q := fun H locs ls hH hS hl => lv_ifnonnullN C.1 C.2.1 hdg (k H locs ls hH hS hl)
end JUDGE
end
section
section HEAPOPS
variable {p : Program} {l : Launch} {e : Env} {R : Room} {s : State} {m : MethodId} {args : Array Value} {below : List Frame} {meth : Method} {c : Code} {D : va_G} {cy : Nat → ClassId} {z : Nat}
variable {cc : ByteArray} {own : String} {nL : Nat} {ret : Option FieldType} {fr lo mc ms de : Nat} {w w' : Wd} {kc ns pc : Nat} {lv : List (Nat × Value)} {st : List Value} {Q : State → Prop}
/-- kind K is of objects of class ci, which has N fields; k is one of them, of int sort (b = false) or a reference (b = true) -/
def okF (ci N K k : Nat) (b : Bool) : Bool := Nat.ble 1 K && Nat.ble K 999 && Nat.beq ((K - 1) % 20) ci && Nat.ble (k + 1) N && Nat.beq (nFl ci) N && (isRf ci k == b)
theorem okF_spec {ci N K k : Nat} {b : Bool} (h : okF ci N K k b = true) : K ≠ 0 ∧ K < 1000 ∧ (K - 1) % 20 = ci ∧ k < N ∧ nFl ci = N ∧ isRf ci k = b := by
  simp only [okF, Bool.and_eq_true, beq_iff_eq, Nat.ble_eq, Nat.beq_eq] at h
  obtain ⟨⟨⟨⟨⟨h1, h2⟩, h3⟩, h4⟩, h5⟩, h6⟩ := h
  exact ⟨by omega, by omega, h3, by omega, h5, h6⟩
theorem g_getV (C : Cx p l R s m args meth c D cy z cc own nL ret fr lo mc ms de) {ci N : Nat} {Cn : String} {T : u_T} {ty0 : Nat → FieldType} (hcl : ClsOk ci Cn T N ty0) {K k a index : Nat} {b : Bool} {ref : String} (hk : kd w a = K) (hK : okF ci N K k b = true)
    (hlink : Cond.fieldLink own index ref (T k).2.1 (T k).2.2.1 ∈ TBL) (hsame : ∀ x, s.fieldFound? (T k).1 (T k).2.1 (T k).2.2.1 = some x → s.fieldFound? ref (T k).2.1 (T k).2.2.1 = some x) (hdg : decode cc pc = .ok (.getfield index, 3))
    (kk : G p l e R s m args below meth c D cy z nL w kc ns (pc + 3) lv (fval w K a k :: st) Q) : G p l e R s m args below meth c D cy z nL w kc ns pc lv (.ref a :: st) Q := by
  obtain ⟨h1, h2, h3, h4, h5, h6⟩ := okF_spec hK
  intro H locs ls hH hS hl
  obtain ⟨q0, hq⟩ := hH.get (a := a) (by rw [hk]; exact h1)
  rw [cell_obj hk h2, h3] at hq
  exact va_get C.1 C.2.1 C.2.2.2.2.1 hcl.2.1 C.2.2.2.1 C.2.2.2.2.2.2.2.1 hH.P q0 hq hcl.1 k h4 (C.2.2.2.2.1 _ hlink) hsame (flds_get (by rw [h3, h5]; exact h4)) hdg (kk H locs ls hH hS hl)
theorem fval_I {w : Wd} {K a k : Nat} (h : isRf ((K - 1) % 20) k = false) : fval w K a k = .int (fI w K k a) := by unfold fval; rw [h]; rfl
theorem fval_R {w : Wd} {K a k : Nat} (h : isRf ((K - 1) % 20) k = true) : fval w K a k = va_rf (fR w K k a) := by unfold fval; rw [h]; rfl
theorem g_getI (C : Cx p l R s m args meth c D cy z cc own nL ret fr lo mc ms de) {ci N : Nat} {Cn : String} {T : u_T} {ty0 : Nat → FieldType} (hcl : ClsOk ci Cn T N ty0) (K k : Nat) {a index : Nat} (hk : kd w a = K) (hK : okF ci N K k false = true)
    (hlink : Cond.fieldLink own index (T k).1 (T k).2.1 (T k).2.2.1 ∈ TBL) (hdg : decode cc pc = .ok (.getfield index, 3))
    (kk : G p l e R s m args below meth c D cy z nL w kc ns (pc + 3) lv (.int (fI w K k a) :: st) Q) : G p l e R s m args below meth c D cy z nL w kc ns pc lv (.ref a :: st) Q := by
  obtain ⟨h1, h2, h3, h4, h5, h6⟩ := okF_spec hK
  refine g_getV C hcl hk hK hlink (fun _ h => h) hdg ?_
  rw [fval_I (by rw [h3]; exact h6)]
  exact kk
theorem g_getR (C : Cx p l R s m args meth c D cy z cc own nL ret fr lo mc ms de) {ci N : Nat} {Cn : String} {T : u_T} {ty0 : Nat → FieldType} (hcl : ClsOk ci Cn T N ty0) (K k : Nat) {a index b : Nat} (hk : kd w a = K) (hb : fR w K k a = some b) (hK : okF ci N K k true = true)
    (hlink : Cond.fieldLink own index (T k).1 (T k).2.1 (T k).2.2.1 ∈ TBL) (hdg : decode cc pc = .ok (.getfield index, 3))
    (kk : G p l e R s m args below meth c D cy z nL w kc ns (pc + 3) lv (.ref b :: st) Q) : G p l e R s m args below meth c D cy z nL w kc ns pc lv (.ref a :: st) Q := by
  obtain ⟨h1, h2, h3, h4, h5, h6⟩ := okF_spec hK
  refine g_getV C hcl hk hK hlink (fun _ h => h) hdg ?_
  rw [fval_R (by rw [h3]; exact h6), hb]
  exact kk
theorem g_getN (C : Cx p l R s m args meth c D cy z cc own nL ret fr lo mc ms de) {ci N : Nat} {Cn : String} {T : u_T} {ty0 : Nat → FieldType} (hcl : ClsOk ci Cn T N ty0) (K k : Nat) {a index : Nat} (hk : kd w a = K) (hb : fR w K k a = none) (hK : okF ci N K k true = true)
    (hlink : Cond.fieldLink own index (T k).1 (T k).2.1 (T k).2.2.1 ∈ TBL) (hdg : decode cc pc = .ok (.getfield index, 3))
    (kk : G p l e R s m args below meth c D cy z nL w kc ns (pc + 3) lv (.null :: st) Q) : G p l e R s m args below meth c D cy z nL w kc ns pc lv (.ref a :: st) Q := by
  obtain ⟨h1, h2, h3, h4, h5, h6⟩ := okF_spec hK
  refine g_getV C hcl hk hK hlink (fun _ h => h) hdg ?_
  rw [fval_R (by rw [h3]; exact h6), hb]
  exact kk
/-- a field may be written: it isn't final, or this is the constructor of its class -/
def finOk (T : u_T) (k : Nat) (own nm : String) : Prop := (T k).2.2.2 = false ∨ ((T k).2.2.2 = true ∧ nm = "<init>" ∧ (T k).1 = own)
theorem g_putV (C : Cx p l R s m args meth c D cy z cc own nL ret fr lo mc ms de) {ci N : Nat} {Cn : String} {T : u_T} {ty0 : Nat → FieldType} (hcl : ClsOk ci Cn T N ty0) {K k a index : Nat} {b : Bool} {v : Value} {ref : String} (hk : kd w a = K) (hK : okF ci N K k b = true) (hfin : finOk T k own meth.name)
    (hn : narrow (ty0 k) v = v) (hfit : fits (ty0 k) v = true) (hlink : Cond.fieldLink own index ref (T k).2.1 (T k).2.2.1 ∈ TBL) (hsame : ∀ x, s.fieldFound? (T k).1 (T k).2.1 (T k).2.2.1 = some x → s.fieldFound? ref (T k).2.1 (T k).2.2.1 = some x) (hdg : decode cc pc = .ok (.putfield index, 3))
    (hkd : ∀ b, kd w' b = kd w b) (hv : fval w' K a k = v) (ho : ∀ j, j ≠ k → fval w' K a j = fval w K a j) (hc : ∀ b, b ≠ a → cellE cy w' b = cellE cy w b)
    (kk : G p l e R s m args below meth c D cy z nL w' kc ns (pc + 3) lv st Q) : G p l e R s m args below meth c D cy z nL w kc ns pc lv (v :: .ref a :: st) Q := by
  obtain ⟨h1, h2, h3, h4, h5, h6⟩ := okF_spec hK
  intro H locs ls hH hS hl
  obtain ⟨q0, hq⟩ := hH.get (a := a) (by rw [hk]; exact h1)
  rw [cell_obj hk h2, h3] at hq
  have hE : cellE cy w' a = .inr (ci, (flds w K a).set k v) := by
    rw [cell_obj ((hkd a).trans hk) h2, h3, flds_set (w := w) (by rw [h3, h5]; exact h4) hv ho]
  have fin : ∀ (H1 : Heap) (locs1 : List Loc), va_P D vwCl ((wsO cy w H.size).set q0 (a, .inr (ci, (flds w K a).set k v))) H1 → va_D (fun q => z ≤ q) ((wsO cy w H.size).set q0 (a, .inr (ci, (flds w K a).set k v))) → va_S (fun q => z ≤ q) s.heap H1 locs1 → W p l e R s m args below meth c H1 locs1 kc ns Q (F0 m (pc + 3) ls st) := fun H1 locs1 hP _ hS1 =>
    kk H1 locs1 ls (hH.set hq hP hE (fun b hb hb2 => ⟨by rw [← hkd b]; exact hb2, hc b hb⟩)) hS1 hl
  have hlen : k < (flds w K a).length := by rw [flds_len, h3, h5]; exact h4
  rcases hfin with f1 | ⟨f1, f2, f3⟩
  · exact va_put C.1 C.2.1 C.2.2.2.2.1 hcl.2.1 ty0 hcl.2.2.1 hcl.2.2.2 C.2.2.2.1 C.2.2.2.2.2.2.2.1 hH.P hH.dj hS q0 hq hcl.1 k h4 (C.2.2.2.2.1 _ hlink) hsame f1 (hcl.2.2.1 k h4) hn hfit hlen hdg fin
  · exact va_putF C.1 C.2.1 C.2.2.2.2.1 hcl.2.1 ty0 hcl.2.2.1 hcl.2.2.2 C.2.2.2.1 C.2.2.2.2.2.2.2.1 hH.P hH.dj hS q0 hq hcl.1 k h4 (C.2.2.2.2.1 _ hlink) hsame f1 f2 f3 (hcl.2.2.1 k h4) hn hfit hlen hdg fin
theorem g_putI (C : Cx p l R s m args meth c D cy z cc own nL ret fr lo mc ms de) {ci N : Nat} {Cn : String} {T : u_T} {ty0 : Nat → FieldType} (hcl : ClsOk ci Cn T N ty0) (K k : Nat) {a index : Nat} {v : Int32} (hk : kd w a = K) (hK : okF ci N K k false = true) (hfin : finOk T k own meth.name)
    (hn : narrow (ty0 k) (.int v) = .int v) (hfit : fits (ty0 k) (.int v) = true) (hlink : Cond.fieldLink own index (T k).1 (T k).2.1 (T k).2.2.1 ∈ TBL) (hdg : decode cc pc = .ok (.putfield index, 3))
    (kk : G p l e R s m args below meth c D cy z nL (pI w K k a v) kc ns (pc + 3) lv st Q) : G p l e R s m args below meth c D cy z nL w kc ns pc lv (.int v :: .ref a :: st) Q := by
  obtain ⟨h1, h2, h3, h4, h5, h6⟩ := okF_spec hK
  refine g_putV (w' := pI w K k a v) C hcl hk hK hfin hn hfit hlink (fun _ h => h) hdg (fun _ => rfl) ?_ (fun j hj => ?_) (fun b hb => ?_) kk
  · rw [fval_I (by rw [h3]; exact h6)]
    exact congrArg Value.int up3_same
  · unfold fval
    rw [show fI (pI w K k a v) K j a = fI w K j a from up3_y hj]
    rfl
  · exact cell_same rfl (fun _ _ => up3_z hb) (fun _ _ => rfl) rfl (fun _ => rfl) (fun _ => rfl) (fun _ => rfl)
/-- the same, by a name that an heir gives the field -/
theorem g_getI2 (C : Cx p l R s m args meth c D cy z cc own nL ret fr lo mc ms de) {ci N : Nat} {Cn : String} {T : u_T} {ty0 : Nat → FieldType} (hcl : ClsOk ci Cn T N ty0) (K k : Nat) {a index : Nat} {ref : String} (hk : kd w a = K) (hK : okF ci N K k false = true)
    (hsf : Cond.sameField ref (T k).1 (T k).2.1 (T k).2.2.1 ∈ TBL) (hlink : Cond.fieldLink own index ref (T k).2.1 (T k).2.2.1 ∈ TBL) (hdg : decode cc pc = .ok (.getfield index, 3))
    (kk : G p l e R s m args below meth c D cy z nL w kc ns (pc + 3) lv (.int (fI w K k a) :: st) Q) : G p l e R s m args below meth c D cy z nL w kc ns pc lv (.ref a :: st) Q := by
  obtain ⟨h1, h2, h3, h4, h5, h6⟩ := okF_spec hK
  refine g_getV C hcl hk hK hlink (fun x hx => u_same (C.2.2.2.2.1 _ hsf) x hx) hdg ?_
  rw [fval_I (by rw [h3]; exact h6)]
  exact kk
theorem g_putI2 (C : Cx p l R s m args meth c D cy z cc own nL ret fr lo mc ms de) {ci N : Nat} {Cn : String} {T : u_T} {ty0 : Nat → FieldType} (hcl : ClsOk ci Cn T N ty0) (K k : Nat) {a index : Nat} {v : Int32} {ref : String} (hk : kd w a = K) (hK : okF ci N K k false = true) (hfin : finOk T k own meth.name)
    (hn : narrow (ty0 k) (.int v) = .int v) (hfit : fits (ty0 k) (.int v) = true) (hsf : Cond.sameField ref (T k).1 (T k).2.1 (T k).2.2.1 ∈ TBL) (hlink : Cond.fieldLink own index ref (T k).2.1 (T k).2.2.1 ∈ TBL) (hdg : decode cc pc = .ok (.putfield index, 3))
    (kk : G p l e R s m args below meth c D cy z nL (pI w K k a v) kc ns (pc + 3) lv st Q) : G p l e R s m args below meth c D cy z nL w kc ns pc lv (.int v :: .ref a :: st) Q := by
  obtain ⟨h1, h2, h3, h4, h5, h6⟩ := okF_spec hK
  refine g_putV (w' := pI w K k a v) C hcl hk hK hfin hn hfit hlink (fun x hx => u_same (C.2.2.2.2.1 _ hsf) x hx) hdg (fun _ => rfl) ?_ (fun j hj => ?_) (fun b hb => ?_) kk
  · rw [fval_I (by rw [h3]; exact h6)]
    exact congrArg Value.int up3_same
  · unfold fval
    rw [show fI (pI w K k a v) K j a = fI w K j a from up3_y hj]
    rfl
  · exact cell_same rfl (fun _ _ => up3_z hb) (fun _ _ => rfl) rfl (fun _ => rfl) (fun _ => rfl) (fun _ => rfl)
theorem g_putR (C : Cx p l R s m args meth c D cy z cc own nL ret fr lo mc ms de) {ci N : Nat} {Cn : String} {T : u_T} {ty0 : Nat → FieldType} (hcl : ClsOk ci Cn T N ty0) (K k : Nat) {a index : Nat} (v : Option Nat) {vv : Value} (hvv : vv = va_rf v) (hk : kd w a = K) (hK : okF ci N K k true = true) (hfin : finOk T k own meth.name)
    (hn : narrow (ty0 k) vv = vv) (hfit : fits (ty0 k) vv = true) (hlink : Cond.fieldLink own index (T k).1 (T k).2.1 (T k).2.2.1 ∈ TBL) (hdg : decode cc pc = .ok (.putfield index, 3))
    (kk : G p l e R s m args below meth c D cy z nL (pR w K k a v) kc ns (pc + 3) lv st Q) : G p l e R s m args below meth c D cy z nL w kc ns pc lv (vv :: .ref a :: st) Q := by
  obtain ⟨h1, h2, h3, h4, h5, h6⟩ := okF_spec hK
  refine g_putV (w' := pR w K k a v) C hcl hk hK hfin hn hfit hlink (fun _ h => h) hdg (fun _ => rfl) ?_ (fun j hj => ?_) (fun b hb => ?_) kk
  · rw [fval_R (by rw [h3]; exact h6), hvv]
    exact congrArg va_rf up3_same
  · unfold fval
    rw [show fR (pR w K k a v) K j a = fR w K j a from up3_y hj]
    rfl
  · exact cell_same rfl (fun _ _ => rfl) (fun _ _ => up3_z hb) rfl (fun _ => rfl) (fun _ => rfl) (fun _ => rfl)
/-- kind K is of arrays of sort t -/
def okA (K t : Nat) : Bool := Nat.ble 1000 K && Nat.beq (K % 10) t
theorem okA_spec {K t : Nat} (h : okA K t = true) : K ≠ 0 ∧ ¬ K < 1000 ∧ K % 10 = t := by
  simp only [okA, Bool.and_eq_true, Nat.ble_eq, Nat.beq_eq] at h
  exact ⟨by omega, by omega, h.2⟩
theorem arr_0 {K a : Nat} (h : kd w a = K) (hK : okA K 0 = true) : cellE cy w a = .inl (cy 0, aL w a, .inl (aI w K a)) := by
  obtain ⟨h1, h2, h3⟩ := okA_spec hK
  rw [cell_arr h h2]; unfold arrE; rw [if_pos h3]
theorem arr_1 {K a : Nat} (h : kd w a = K) (hK : okA K 1 = true) : cellE cy w a = .inl (cy 1, aL w a, .inl (aI w K a)) := by
  obtain ⟨h1, h2, h3⟩ := okA_spec hK
  rw [cell_arr h h2]; unfold arrE; rw [if_neg (by omega), if_pos h3]
theorem arr_2 {K a : Nat} (h : kd w a = K) (hK : okA K 2 = true) : cellE cy w a = .inl (cy 2, aL w a, .inr (.inr (.inr (.inr (aR w K a))))) := by
  obtain ⟨h1, h2, h3⟩ := okA_spec hK
  rw [cell_arr h h2]; unfold arrE; rw [if_neg (by omega), if_neg (by omega), if_pos h3]
theorem arr_3 {K a : Nat} (h : kd w a = K) (hK : okA K 3 = true) : cellE cy w a = .inl (cy 3, aL w a, .inr (.inr (.inr (.inr (aR w K a))))) := by
  obtain ⟨h1, h2, h3⟩ := okA_spec hK
  rw [cell_arr h h2]; unfold arrE; rw [if_neg (by omega), if_neg (by omega), if_neg (by omega), if_pos h3]
theorem arr_4 {K a : Nat} (h : kd w a = K) (hK : okA K 4 = true) : cellE cy w a = .inl (cy 4, aL w a, .inr (.inl (aJ w K a))) := by
  obtain ⟨h1, h2, h3⟩ := okA_spec hK
  rw [cell_arr h h2]; unfold arrE; rw [if_neg (by omega), if_neg (by omega), if_neg (by omega), if_neg (by omega)]
theorem g_iald (C : Cx p l R s m args meth c D cy z cc own nL ret fr lo mc ms de) (K : Nat) {a : Nat} {i : Int32} (hk : kd w a = K) (hK : okA K 0 = true) (hin : vp_in i (aL w a)) (hdg : decode cc pc = .ok (.iaload, 1))
    (kk : G p l e R s m args below meth c D cy z nL w kc ns (pc + 1) lv (.int (aI w K a i.toNatClampNeg) :: st) Q) : G p l e R s m args below meth c D cy z nL w kc ns pc lv (.int i :: .ref a :: st) Q := by
  intro H locs ls hH hS hl
  obtain ⟨q0, hq⟩ := hH.get (a := a) (by rw [hk]; exact (okA_spec hK).1)
  rw [arr_0 hk hK] at hq
  exact va_iald C.1 C.2.1 C.2.2.2.2.2.2.2.1 hH.P q0 0 hq rfl hin hdg (kk H locs ls hH hS hl)
theorem g_zald (C : Cx p l R s m args meth c D cy z cc own nL ret fr lo mc ms de) (K : Nat) {a : Nat} {i : Int32} (hk : kd w a = K) (hK : okA K 1 = true) (hin : vp_in i (aL w a)) (hdg : decode cc pc = .ok (.baload, 1))
    (kk : G p l e R s m args below meth c D cy z nL w kc ns (pc + 1) lv (.int (aI w K a i.toNatClampNeg) :: st) Q) : G p l e R s m args below meth c D cy z nL w kc ns pc lv (.int i :: .ref a :: st) Q := by
  intro H locs ls hH hS hl
  obtain ⟨q0, hq⟩ := hH.get (a := a) (by rw [hk]; exact (okA_spec hK).1)
  rw [arr_1 hk hK] at hq
  exact va_zald C.1 C.2.1 C.2.2.2.2.2.2.2.1 hH.P q0 1 hq rfl hin hdg (kk H locs ls hH hS hl)
theorem g_lald (C : Cx p l R s m args meth c D cy z cc own nL ret fr lo mc ms de) (K : Nat) {a : Nat} {i : Int32} (hk : kd w a = K) (hK : okA K 4 = true) (hin : vp_in i (aL w a)) (hdg : decode cc pc = .ok (.laload, 1))
    (kk : G p l e R s m args below meth c D cy z nL w kc ns (pc + 1) lv (.long (aJ w K a i.toNatClampNeg) :: st) Q) : G p l e R s m args below meth c D cy z nL w kc ns pc lv (.int i :: .ref a :: st) Q := by
  intro H locs ls hH hS hl
  obtain ⟨q0, hq⟩ := hH.get (a := a) (by rw [hk]; exact (okA_spec hK).1)
  rw [arr_4 hk hK] at hq
  exact va_lald C.1 C.2.1 C.2.2.2.2.2.2.2.1 hH.P q0 4 hq rfl hin hdg (kk H locs ls hH hS hl)
theorem g_aald (C : Cx p l R s m args meth c D cy z cc own nL ret fr lo mc ms de) (K : Nat) {a : Nat} {i : Int32} (r : Option Nat) (hk : kd w a = K) (hK : okA K 2 = true ∨ okA K 3 = true) (hin : vp_in i (aL w a)) (hr : aR w K a i.toNatClampNeg = r) (hdg : decode cc pc = .ok (.aaload, 1))
    (kk : G p l e R s m args below meth c D cy z nL w kc ns (pc + 1) lv (va_rf r :: st) Q) : G p l e R s m args below meth c D cy z nL w kc ns pc lv (.int i :: .ref a :: st) Q := by
  intro H locs ls hH hS hl
  subst hr
  rcases hK with hK | hK
  · obtain ⟨q0, hq⟩ := hH.get (a := a) (by rw [hk]; exact (okA_spec hK).1)
    rw [arr_2 hk hK] at hq
    exact va_aldq C.1 C.2.1 C.2.2.2.2.2.2.2.1 hH.P q0 2 hq rfl hin hdg (kk H locs ls hH hS hl)
  · obtain ⟨q0, hq⟩ := hH.get (a := a) (by rw [hk]; exact (okA_spec hK).1)
    rw [arr_3 hk hK] at hq
    exact va_aldq C.1 C.2.1 C.2.2.2.2.2.2.2.1 hH.P q0 3 hq rfl hin hdg (kk H locs ls hH hS hl)
theorem upd_eq {w : Wd} {K a j : Nat} {v : Int32} : upd (aI w K a) j v = aI (pAI w K a j v) K a := by
  funext i
  show _ = up3 w.2.2.2.2.1 K a j v K a i
  simp [upd, up3, aI]
theorem pAI_cell {K a j : Nat} {v : Int32} {b : Nat} (hb : b ≠ a) : cellE cy (pAI w K a j v) b = cellE cy w b :=
  cell_same rfl (fun _ _ => rfl) (fun _ _ => rfl) rfl (fun _ => funext fun _ => up3_y hb) (fun _ => rfl) (fun _ => rfl)
theorem g_iast (C : Cx p l R s m args meth c D cy z cc own nL ret fr lo mc ms de) (K : Nat) {a : Nat} {i v : Int32} (hk : kd w a = K) (hK : okA K 0 = true) (hin : vp_in i (aL w a)) (hdg : decode cc pc = .ok (.iastore, 1))
    (kk : G p l e R s m args below meth c D cy z nL (pAI w K a i.toNatClampNeg v) kc ns (pc + 1) lv st Q) : G p l e R s m args below meth c D cy z nL w kc ns pc lv (.int v :: .int i :: .ref a :: st) Q := by
  intro H locs ls hH hS hl
  obtain ⟨q0, hq⟩ := hH.get (a := a) (by rw [hk]; exact (okA_spec hK).1)
  rw [arr_0 hk hK] at hq
  refine va_iast C.1 C.2.1 C.2.2.2.2.2.2.2.1 hH.P hH.dj hS q0 0 hq rfl hin hdg (fun H1 locs1 hP _ hS1 => kk H1 locs1 ls (hH.set hq hP ?_ (fun b hb hb2 => ⟨hb2, pAI_cell hb⟩)) hS1 hl)
  rw [arr_0 (w := pAI w K a i.toNatClampNeg v) (K := K) hk hK, upd_eq]
  rfl
theorem g_zast (C : Cx p l R s m args meth c D cy z cc own nL ret fr lo mc ms de) (K : Nat) {a : Nat} {i v : Int32} (hk : kd w a = K) (hK : okA K 1 = true) (hin : vp_in i (aL w a)) (hv : vp_nar .boolean v = v) (hdg : decode cc pc = .ok (.bastore, 1))
    (kk : G p l e R s m args below meth c D cy z nL (pAI w K a i.toNatClampNeg v) kc ns (pc + 1) lv st Q) : G p l e R s m args below meth c D cy z nL w kc ns pc lv (.int v :: .int i :: .ref a :: st) Q := by
  intro H locs ls hH hS hl
  obtain ⟨q0, hq⟩ := hH.get (a := a) (by rw [hk]; exact (okA_spec hK).1)
  rw [arr_1 hk hK] at hq
  refine va_zast C.1 C.2.1 C.2.2.2.2.2.2.2.1 hH.P hH.dj hS q0 1 hq rfl hin hdg (fun H1 locs1 hP _ hS1 => kk H1 locs1 ls (hH.set hq hP ?_ (fun b hb hb2 => ⟨hb2, pAI_cell hb⟩)) hS1 hl)
  rw [arr_1 (w := pAI w K a i.toNatClampNeg v) (K := K) hk hK, hv, upd_eq]
  rfl
theorem g_last (C : Cx p l R s m args meth c D cy z cc own nL ret fr lo mc ms de) (K : Nat) {a : Nat} {i : Int32} {v : Int64} (hk : kd w a = K) (hK : okA K 4 = true) (hin : vp_in i (aL w a)) (hdg : decode cc pc = .ok (.lastore, 1))
    (kk : G p l e R s m args below meth c D cy z nL (pAJ w K a i.toNatClampNeg v) kc ns (pc + 1) lv st Q) : G p l e R s m args below meth c D cy z nL w kc ns pc lv (.long v :: .int i :: .ref a :: st) Q := by
  intro H locs ls hH hS hl
  obtain ⟨q0, hq⟩ := hH.get (a := a) (by rw [hk]; exact (okA_spec hK).1)
  rw [arr_4 hk hK] at hq
  refine va_last C.1 C.2.1 C.2.2.2.2.2.2.2.1 hH.P hH.dj hS q0 4 hq rfl hin hdg (fun H1 locs1 hP _ hS1 => kk H1 locs1 ls (hH.set hq hP ?_ (fun b hb hb2 => ⟨hb2, cell_same rfl (fun _ _ => rfl) (fun _ _ => rfl) rfl (fun _ => rfl) (fun _ => rfl) (fun _ => funext fun _ => up3_y hb)⟩)) hS1 hl)
  rw [arr_4 (w := pAJ w K a i.toNatClampNeg v) (K := K) hk hK]
  refine congrArg (fun f => Sum.inl (cy 4, aL w a, Sum.inr (Sum.inl f))) (funext fun j => ?_)
  show up3 w.2.2.2.2.2.2 K a i.toNatClampNeg v K a j = vp_updL (aJ w K a) i.toNatClampNeg v j
  simp [vp_updL, up3, aJ]
theorem pAR_cell {K a j : Nat} {v : Option Nat} {b : Nat} (hb : b ≠ a) : cellE cy (pAR w K a j v) b = cellE cy w b :=
  cell_same rfl (fun _ _ => rfl) (fun _ _ => rfl) rfl (fun _ => rfl) (fun _ => funext fun _ => up3_y hb) (fun _ => rfl)
theorem vaup_eq {w : Wd} {K a j : Nat} {v : Option Nat} : va_up (aR w K a) j v = aR (pAR w K a j v) K a := by
  funext i
  show _ = up3 w.2.2.2.2.2.1 K a j v K a i
  simp [va_up, up3, aR]
/-- a Telling into a row of them -/
theorem g_aast2 (C : Cx p l R s m args meth c D cy z cc own nL ret fr lo mc ms de) (K K2 : Nat) {a v : Nat} {i : Int32} (hk : kd w a = K) (hK : okA K 2 = true) (hv : kd w v = K2) (hK2 : okF 8 4 K2 0 false = true) (hin : vp_in i (aL w a)) (hdg : decode cc pc = .ok (.aastore, 1))
    (kk : G p l e R s m args below meth c D cy z nL (pAR w K a i.toNatClampNeg (some v)) kc ns (pc + 1) lv st Q) : G p l e R s m args below meth c D cy z nL w kc ns pc lv (.ref v :: .int i :: .ref a :: st) Q := by
  obtain ⟨h1, h2, h3, -⟩ := okF_spec hK2
  intro H locs ls hH hS hl
  obtain ⟨q0, hq⟩ := hH.get (a := a) (by rw [hk]; exact (okA_spec hK).1)
  rw [arr_2 hk hK] at hq
  obtain ⟨q1, hq1⟩ := hH.get (a := v) (by rw [hv]; exact h1)
  rw [cell_obj hv h2, h3] at hq1
  refine va_astq C.1 C.2.1 C.2.2.2.2.2.2.2.1 hH.P hH.dj hS q0 2 q1 8 (r := (RX7, TX7, 4)) hq rfl hq1 rfl hin hdg (fun H1 locs1 hP _ hS1 => kk H1 locs1 ls (hH.set hq hP ?_ (fun b hb hb2 => ⟨hb2, pAR_cell hb⟩)) hS1 hl)
  rw [arr_2 (w := pAR w K a i.toNatClampNeg (some v)) (K := K) hk hK, vaup_eq]
  rfl
/-- an object into a row of Object -/
theorem g_aast3 (C : Cx p l R s m args meth c D cy z cc own nL ret fr lo mc ms de) {ci N : Nat} {Cn : String} {T : u_T} {ty0 : Nat → FieldType} (hcl : ClsOk ci Cn T N ty0) (hca : Cond.castable Cn "java/lang/Object" ∈ lw_tbl) (K K2 : Nat) {a v : Nat} {i : Int32} (hk : kd w a = K) (hK : okA K 3 = true) (hv : kd w v = K2) (hK2 : 0 < K2 ∧ K2 < 1000 ∧ (K2 - 1) % 20 = ci) (hin : vp_in i (aL w a)) (hdg : decode cc pc = .ok (.aastore, 1))
    (kk : G p l e R s m args below meth c D cy z nL (pAR w K a i.toNatClampNeg (some v)) kc ns (pc + 1) lv st Q) : G p l e R s m args below meth c D cy z nL w kc ns pc lv (.ref v :: .int i :: .ref a :: st) Q := by
  obtain ⟨h1, h2, h3⟩ := hK2
  intro H locs ls hH hS hl
  obtain ⟨q0, hq⟩ := hH.get (a := a) (by rw [hk]; exact (okA_spec hK).1)
  rw [arr_3 hk hK] at hq
  obtain ⟨q1, hq1⟩ := hH.get (a := v) (by rw [hv]; omega)
  rw [cell_obj hv h2, h3] at hq1
  refine va_astqO C.1 C.2.1 C.2.2.2.2.2.2.2.1 hH.P hH.dj hS q0 3 q1 ci (r := (Cn, T, N)) hq rfl (C.2.2.2.2.2.2.2.2.1.1 _ hca rfl) hq1 hcl.1 hin hdg (fun H1 locs1 hP _ hS1 => kk H1 locs1 ls (hH.set hq hP ?_ (fun b hb hb2 => ⟨hb2, pAR_cell hb⟩)) hS1 hl)
  rw [arr_3 (w := pAR w K a i.toNatClampNeg (some v)) (K := K) hk hK, vaup_eq]
  rfl
theorem g_alen (C : Cx p l R s m args meth c D cy z cc own nL ret fr lo mc ms de) (K t : Nat) {a : Nat} (hk : kd w a = K) (hK : okA K t = true) (ht : t < 5) (hdg : decode cc pc = .ok (.arraylength, 1))
    (kk : G p l e R s m args below meth c D cy z nL w kc ns (pc + 1) lv (.int (Int32.ofNat (aL w a)) :: st) Q) : G p l e R s m args below meth c D cy z nL w kc ns pc lv (.ref a :: st) Q := by
  intro H locs ls hH hS hl
  obtain ⟨q0, hq⟩ := hH.get (a := a) (by rw [hk]; exact (okA_spec hK).1)
  have hK' := C.2.2.2.2.2.2.2.1
  rcases (show t = 0 ∨ t = 1 ∨ t = 2 ∨ t = 3 ∨ t = 4 by omega) with rfl | rfl | rfl | rfl | rfl
  · rw [arr_0 hk hK] at hq
    exact va_alen C.1 C.2.1 hK' hH.P q0 0 hq (ty := .int) rfl rfl hdg (kk H locs ls hH hS hl)
  · rw [arr_1 hk hK] at hq
    exact va_alen C.1 C.2.1 hK' hH.P q0 1 hq (ty := .boolean) rfl rfl hdg (kk H locs ls hH hS hl)
  · rw [arr_2 hk hK] at hq
    exact va_alen C.1 C.2.1 hK' hH.P q0 2 hq (ty := .object "RainIndex$Telling") rfl rfl hdg (kk H locs ls hH hS hl)
  · rw [arr_3 hk hK] at hq
    exact va_alen C.1 C.2.1 hK' hH.P q0 3 hq (ty := .object "java/lang/Object") rfl rfl hdg (kk H locs ls hH hS hl)
  · rw [arr_4 hk hK] at hq
    exact va_alen C.1 C.2.1 hK' hH.P q0 4 hq (ty := .long) rfl rfl hdg (kk H locs ls hH hS hl)
theorem nw_other {w : Wd} {q K n b : Nat} (hb : b ≠ q) : cellE cy (nw w q K n) b = cellE cy w b :=
  cell_same (va_up_ne _ _ hb) (fun x y => show (if b = q then 0 else w.2.1 x y b) = w.2.1 x y b from if_neg hb) (fun x y => show (if b = q then none else w.2.2.1 x y b) = w.2.2.1 x y b from if_neg hb) (va_up_ne _ _ hb)
    (fun x => funext fun i => show (if b = q then 0 else w.2.2.2.2.1 x b i) = w.2.2.2.2.1 x b i from if_neg hb) (fun x => funext fun i => show (if b = q then none else w.2.2.2.2.2.1 x b i) = w.2.2.2.2.2.1 x b i from if_neg hb) (fun x => funext fun i => show (if b = q then 0 else w.2.2.2.2.2.2 x b i) = w.2.2.2.2.2.2 x b i from if_neg hb)
theorem nw_kd {w : Wd} {q K n b : Nat} (hb : b ≠ q) : kd (nw w q K n) b = kd w b := va_up_ne _ _ hb
theorem nw_kd0 {w : Wd} {q K n : Nat} : kd (nw w q K n) q = K := va_up_self _ _ _
theorem nw_aL0 {w : Wd} {q K n : Nat} : aL (nw w q K n) q = n := va_up_self _ _ _
theorem nw_aI0 {w : Wd} {q K n : Nat} : aI (nw w q K n) K q = fun _ => 0 := funext fun _ => if_pos rfl
theorem nw_aR0 {w : Wd} {q K n : Nat} : aR (nw w q K n) K q = fun _ => none := funext fun _ => if_pos rfl
theorem nw_aJ0 {w : Wd} {q K n : Nat} : aJ (nw w q K n) K q = fun _ => 0 := funext fun _ => if_pos rfl
theorem ra_prim {U : State} {c1 c2 : ClassId} {ty : FieldType} (h : ∀ C, ty ≠ .object C) (h1 : va_RA U c1 ty) (h2 : va_RA U c2 ty) : c1 = c2 := by
  cases ty <;> first | exact absurd rfl (h _) | exact Option.some.inj (h1.symm.trans h2)
theorem ra_obj {U : State} {c1 c2 : ClassId} {C : String} (h1 : va_RA U c1 (.object C)) (h2 : va_RA U c2 (.object C)) : c1 = c2 := by
  obtain ⟨_, _, _, _, _, a⟩ := h1
  obtain ⟨_, _, _, _, _, b⟩ := h2
  exact Option.some.inj (a.symm.trans b)
theorem A_new {w : Wd} (C : Cx p l R s m args meth c D cy z cc own nL ret fr lo mc ms de) : ∀ q : Nat, s.heap.size ≤ q → (fun q => z ≤ q) q := fun q h => Nat.le_trans C.2.2.2.2.2.2.2.2.2.2.1 h
theorem g_newI (C : Cx p l R s m args meth c D cy z cc own nL ret fr lo mc ms de) (K N : Nat) {n : Int32} (hK : okA K 0 = true) (harr : Cond.arrayClass .int ∈ TBL) (hn : ¬ n < 0) (hN : n.toNatClampNeg = N) (hb : N * 4 ≤ 536870912) (h1 : kc + 1 ≤ mc) (h2 : ns + N ≤ ms) (hdg : decode cc pc = .ok (.newarray .int, 2))
    (kk : ∀ q : Nat, kd w q = 0 → q ≠ de → G p l e R s m args below meth c D cy z nL (nw w q K N) (kc + 1) (ns + N) (pc + 2) lv (.ref q :: st) Q) : G p l e R s m args below meth c D cy z nL w kc ns pc lv (.int n :: st) Q := by
  intro H locs ls hH hS hl
  have hR := C.2.2.2.2.2.2.2.2.2.1
  refine va_newa (atype := .int) (ty := .int) C.1 C.2.1 (C.2.2.2.2.1 _ harr) rfl C.2.2.2.2.2.2.2.1 hH.P hH.dj hS (A_new (w := w) C) (a0 := (N, .inl (fun _ => 0))) (fun cA => rfl) hn hN hb (by rw [hR]; exact h1) (by rw [hR]; exact h2) hdg (fun q cA H1 hK1 hP hD hS1 => ?_)
  have e1 : cA = cy 0 := ra_prim (fun _ h => by cases h) (hK1.2 5 (cA, .int) rfl).2 (hK1.2 0 (cy 0, .int) rfl).2
  subst e1
  obtain ⟨hH1, hq0, hqz⟩ := hH.new (w' := nw w q K N) hP hD (by rw [arr_0 nw_kd0 hK, nw_aL0, nw_aI0]) (fun b hb hb2 => ⟨by rw [← nw_kd (w := w) (K := K) (n := N) hb]; exact hb2, nw_other hb⟩)
  exact kk q hq0 (fun h9 => by have := C.2.2.2.2.2.2.2.2.1.2.2.2.2.2.2.2.1.2.1; omega) H1 locs ls hH1 hS1 hl
theorem g_newZ (C : Cx p l R s m args meth c D cy z cc own nL ret fr lo mc ms de) (K N : Nat) {n : Int32} (hK : okA K 1 = true) (harr : Cond.arrayClass .boolean ∈ TBL) (hn : ¬ n < 0) (hN : n.toNatClampNeg = N) (hb : N * componentBytes .boolean ≤ 536870912) (h1 : kc + 1 ≤ mc) (h2 : ns + N ≤ ms) (hdg : decode cc pc = .ok (.newarray .boolean, 2))
    (kk : ∀ q : Nat, kd w q = 0 → q ≠ de → G p l e R s m args below meth c D cy z nL (nw w q K N) (kc + 1) (ns + N) (pc + 2) lv (.ref q :: st) Q) : G p l e R s m args below meth c D cy z nL w kc ns pc lv (.int n :: st) Q := by
  intro H locs ls hH hS hl
  have hR := C.2.2.2.2.2.2.2.2.2.1
  refine va_newa (atype := .boolean) (ty := .boolean) C.1 C.2.1 (C.2.2.2.2.1 _ harr) rfl C.2.2.2.2.2.2.2.1 hH.P hH.dj hS (A_new (w := w) C) (a0 := (N, .inl (fun _ => 0))) (fun cA => rfl) hn hN hb (by rw [hR]; exact h1) (by rw [hR]; exact h2) hdg (fun q cA H1 hK1 hP hD hS1 => ?_)
  have e1 : cA = cy 1 := ra_prim (fun _ h => by cases h) (hK1.2 5 (cA, .boolean) rfl).2 (hK1.2 1 (cy 1, .boolean) rfl).2
  subst e1
  obtain ⟨hH1, hq0, hqz⟩ := hH.new (w' := nw w q K N) hP hD (by rw [arr_1 nw_kd0 hK, nw_aL0, nw_aI0]) (fun b hb hb2 => ⟨by rw [← nw_kd (w := w) (K := K) (n := N) hb]; exact hb2, nw_other hb⟩)
  exact kk q hq0 (fun h9 => by have := C.2.2.2.2.2.2.2.2.1.2.2.2.2.2.2.2.1.2.1; omega) H1 locs ls hH1 hS1 hl
theorem g_newJ (C : Cx p l R s m args meth c D cy z cc own nL ret fr lo mc ms de) (K N : Nat) {n : Int32} (hK : okA K 4 = true) (harr : Cond.arrayClass .long ∈ TBL) (hn : ¬ n < 0) (hN : n.toNatClampNeg = N) (hb : N * componentBytes .long ≤ 536870912) (h1 : kc + 1 ≤ mc) (h2 : ns + N ≤ ms) (hdg : decode cc pc = .ok (.newarray .long, 2))
    (kk : ∀ q : Nat, kd w q = 0 → q ≠ de → G p l e R s m args below meth c D cy z nL (nw w q K N) (kc + 1) (ns + N) (pc + 2) lv (.ref q :: st) Q) : G p l e R s m args below meth c D cy z nL w kc ns pc lv (.int n :: st) Q := by
  intro H locs ls hH hS hl
  have hR := C.2.2.2.2.2.2.2.2.2.1
  refine va_newa (atype := .long) (ty := .long) C.1 C.2.1 (C.2.2.2.2.1 _ harr) rfl C.2.2.2.2.2.2.2.1 hH.P hH.dj hS (A_new (w := w) C) (a0 := (N, .inr (.inl (fun _ => 0)))) (fun cA => rfl) hn hN hb (by rw [hR]; exact h1) (by rw [hR]; exact h2) hdg (fun q cA H1 hK1 hP hD hS1 => ?_)
  have e1 : cA = cy 4 := ra_prim (fun _ h => by cases h) (hK1.2 5 (cA, .long) rfl).2 (hK1.2 4 (cy 4, .long) rfl).2
  subst e1
  obtain ⟨hH1, hq0, hqz⟩ := hH.new (w' := nw w q K N) hP hD (by rw [arr_4 nw_kd0 hK, nw_aL0, nw_aJ0]) (fun b hb hb2 => ⟨by rw [← nw_kd (w := w) (K := K) (n := N) hb]; exact hb2, nw_other hb⟩)
  exact kk q hq0 (fun h9 => by have := C.2.2.2.2.2.2.2.2.1.2.2.2.2.2.2.2.1.2.1; omega) H1 locs ls hH1 hS1 hl
theorem g_newT (C : Cx p l R s m args meth c D cy z cc own nL ret fr lo mc ms de) (K N : Nat) {n : Int32} {index : Nat} (hK : okA K 2 = true) (hlink : Cond.classLink own index "RainIndex$Telling" ∈ TBL) (hn : ¬ n < 0) (hN : n.toNatClampNeg = N) (hb : N * 4 ≤ 536870912) (h1 : kc + 1 ≤ mc) (h2 : ns + N ≤ ms) (hdg : decode cc pc = .ok (.anewarray index, 3))
    (kk : ∀ q : Nat, kd w q = 0 → q ≠ de → G p l e R s m args below meth c D cy z nL (nw w q K N) (kc + 1) (ns + N) (pc + 3) lv (.ref q :: st) Q) : G p l e R s m args below meth c D cy z nL w kc ns pc lv (.int n :: st) Q := by
  intro H locs ls hH hS hl
  have hR := C.2.2.2.2.2.2.2.2.2.1
  refine va_newq C.1 C.2.1 C.2.2.2.1 (C.2.2.2.2.1 _ hlink) C.2.2.2.2.2.2.2.2.1.2.1 C.2.2.2.2.2.2.2.1 hH.P hH.dj hS (A_new (w := w) C) hn hN hb (by rw [hR]; exact h1) (by rw [hR]; exact h2) hdg (fun q cA H1 hK1 hP hD hS1 => ?_)
  have e1 : cA = cy 2 := ra_obj (hK1.2 5 (cA, .object "RainIndex$Telling") rfl).2 (hK1.2 2 (cy 2, .object "RainIndex$Telling") rfl).2
  subst e1
  obtain ⟨hH1, hq0, hqz⟩ := hH.new (w' := nw w q K N) hP hD (by rw [arr_2 nw_kd0 hK, nw_aL0, nw_aR0]) (fun b hb hb2 => ⟨by rw [← nw_kd (w := w) (K := K) (n := N) hb]; exact hb2, nw_other hb⟩)
  exact kk q hq0 (fun h9 => by have := C.2.2.2.2.2.2.2.2.1.2.2.2.2.2.2.2.1.2.1; omega) H1 locs ls hH1 hS1 hl
theorem g_newO (C : Cx p l R s m args meth c D cy z cc own nL ret fr lo mc ms de) (K N : Nat) {n : Int32} {index : Nat} (hK : okA K 3 = true) (hlink : Cond.classLink own index "java/lang/Object" ∈ TBL) (hn : ¬ n < 0) (hN : n.toNatClampNeg = N) (hb : N * 4 ≤ 536870912) (h1 : kc + 1 ≤ mc) (h2 : ns + N ≤ ms) (hdg : decode cc pc = .ok (.anewarray index, 3))
    (kk : ∀ q : Nat, kd w q = 0 → q ≠ de → G p l e R s m args below meth c D cy z nL (nw w q K N) (kc + 1) (ns + N) (pc + 3) lv (.ref q :: st) Q) : G p l e R s m args below meth c D cy z nL w kc ns pc lv (.int n :: st) Q := by
  intro H locs ls hH hS hl
  have hR := C.2.2.2.2.2.2.2.2.2.1
  refine va_newq C.1 C.2.1 C.2.2.2.1 (C.2.2.2.2.1 _ hlink) C.2.2.2.2.2.2.2.2.1.2.2.1 C.2.2.2.2.2.2.2.1 hH.P hH.dj hS (A_new (w := w) C) hn hN hb (by rw [hR]; exact h1) (by rw [hR]; exact h2) hdg (fun q cA H1 hK1 hP hD hS1 => ?_)
  have e1 : cA = cy 3 := ra_obj (hK1.2 5 (cA, .object "java/lang/Object") rfl).2 (hK1.2 3 (cy 3, .object "java/lang/Object") rfl).2
  subst e1
  obtain ⟨hH1, hq0, hqz⟩ := hH.new (w' := nw w q K N) hP hD (by rw [arr_3 nw_kd0 hK, nw_aL0, nw_aR0]) (fun b hb hb2 => ⟨by rw [← nw_kd (w := w) (K := K) (n := N) hb]; exact hb2, nw_other hb⟩)
  exact kk q hq0 (fun h9 => by have := C.2.2.2.2.2.2.2.2.1.2.2.2.2.2.2.2.1.2.1; omega) H1 locs ls hH1 hS1 hl
/-- the types of a class's fields are those of isRf: references where it says so, whole numbers elsewhere -/
def tyOk (ci N : Nat) (ty0 : Nat → FieldType) : Bool := (List.range N).all (fun k => if isRf ci k then defaultValue (ty0 k) == Value.null else defaultValue (ty0 k) == Value.int 0)
theorem g_new (C : Cx p l R s m args meth c D cy z cc own nL ret fr lo mc ms de) {ci N : Nat} {Cn : String} {T : u_T} {ty0 : Nat → FieldType} (hcl : ClsOk ci Cn T N ty0) (hty : ∀ k, k < N → defaultValue (ty0 k) = if isRf ci k then Value.null else Value.int 0) (K : Nat) {index : Nat} (hK : okF ci N K 0 (isRf ci 0) = true)
    (hlink : Cond.classLink own index Cn ∈ TBL) (hins : Cond.instantiable Cn N ∈ TBL) (hini : Cond.initialized Cn ∈ TBL) (h1 : kc + 1 ≤ mc) (h2 : ns + N ≤ ms) (hdg : decode cc pc = .ok (.new index, 3))
    (kk : ∀ q : Nat, kd w q = 0 → q ≠ de → G p l e R s m args below meth c D cy z nL (nw w q K 0) (kc + 1) (ns + N) (pc + 3) lv (.ref q :: st) Q) : G p l e R s m args below meth c D cy z nL w kc ns pc lv st Q := by
  obtain ⟨g1, g2, g3, g4, g5, g6⟩ := okF_spec hK
  intro H locs ls hH hS hl
  have hR := C.2.2.2.2.2.2.2.2.2.1
  have hts := C.2.2.2.2.1
  have hf : ∀ q j, j < N → vp_V (flds (nw w q K 0) K q) j = if isRf ci j then Value.null else Value.int 0 := by
    intro q j hj
    unfold vp_V
    rw [List.getD_eq_getElem?_getD, flds_get (by rw [g3, g5]; exact hj)]
    show fval (nw w q K 0) K q j = _
    unfold fval
    rw [g3, show fR (nw w q K 0) K j q = none from if_pos rfl, show fI (nw w q K 0) K j q = 0 from if_pos rfl]
    cases isRf ci j <;> rfl
  obtain ⟨q9, hq9⟩ : ∃ q : Nat, q = H.size := ⟨_, rfl⟩
  refine va_new C.1 C.2.1 hts hcl.2.1 ty0 hcl.2.2.1 C.2.2.2.1 (hts _ hlink) (hts _ hins) (hts _ hini) C.2.2.2.2.2.2.2.1 hH.P hH.dj hS (A_new (w := w) C) hcl.1 (fs := flds (nw w q9 K 0) K q9) (fun j hj => by rw [hf q9 j hj]; exact hty j hj) (by rw [hR]; exact h1) (by rw [hR]; exact h2) hdg (fun q H1 hP hD hS1 => ?_)
  have ef : flds (nw w q9 K 0) K q9 = flds (nw w q K 0) K q := by
    unfold flds
    refine List.map_congr_left (fun j hj => ?_)
    unfold fval
    rw [show fR (nw w q9 K 0) K j q9 = none from if_pos rfl, show fI (nw w q9 K 0) K j q9 = 0 from if_pos rfl, show fR (nw w q K 0) K j q = none from if_pos rfl, show fI (nw w q K 0) K j q = 0 from if_pos rfl]
  rw [ef] at hP hD
  obtain ⟨hH1, hq0, hqz⟩ := hH.new (w' := nw w q K 0) hP hD (by rw [cell_obj nw_kd0 g2, g3]) (fun b hb hb2 => ⟨by rw [← nw_kd (w := w) (K := K) (n := 0) hb]; exact hb2, nw_other hb⟩)
  exact kk q hq0 (fun h9 => by have := C.2.2.2.2.2.2.2.2.1.2.2.2.2.2.2.2.1.2.1; omega) H1 locs ls hH1 hS1 hl
theorem recv {K ci N a : Nat} {Cn : String} {T : u_T} {ty0 : Nat → FieldType} (C : Cx p l R s m args meth c D cy z cc own nL ret fr lo mc ms de) (hcl : ClsOk ci Cn T N ty0) (hk : kd w a = K) (hK : 0 < K ∧ K < 1000 ∧ (K - 1) % 20 = ci) {H : Heap} (hH : HH D cy z w H) : ∃ cell : Cell, H[a]? = some cell ∧ cell.vm.isStatics = false ∧ s.vm.findClass Cn = some cell.cls := by
  obtain ⟨q0, hq⟩ := hH.get (a := a) (by rw [hk]; omega)
  rw [cell_obj hk hK.2.1, hK.2.2] at hq
  exact va_recv C.2.2.2.2.2.2.2.1 hH.P hcl.1 hq
theorem g_cast (C : Cx p l R s m args meth c D cy z cc own nL ret fr lo mc ms de) {ci N : Nat} {Cn : String} {T : u_T} {ty0 : Nat → FieldType} (hcl : ClsOk ci Cn T N ty0) (K : Nat) {a index : Nat} (hk : kd w a = K) (hK : 0 < K ∧ K < 1000 ∧ (K - 1) % 20 = ci) (hlink : Cond.classLink own index Cn ∈ TBL) (hdg : decode cc pc = .ok (.checkcast index, 3))
    (kk : G p l e R s m args below meth c D cy z nL w kc ns (pc + 3) lv (.ref a :: st) Q) : G p l e R s m args below meth c D cy z nL w kc ns pc lv (.ref a :: st) Q := fun H locs ls hH hS hl =>
  va_castS C.1 C.2.1 C.2.2.2.1 (C.2.2.2.2.1 _ hlink) (C.2.2.2.2.2.2.2.1.1 ci (Cn, T, N) hcl.1).2 (recv C hcl hk hK hH) hdg (kk H locs ls hH hS hl)
end HEAPOPS
end
section
section CALLS9
/-! contracts: what a method asks of its arguments and world, what it leaves -/
def CtQ (D : va_G) (cy : Nat → ClassId) (z : Nat) (Post : Option Value → Wd → Prop) : Array Value → State → Outcome → State → Prop := fun _ st o t => (∃ (r : Option Value) (w' : Wd), o = .returned r ∧ Post r w' ∧ HH D cy z w' t.heap) ∧ va_F (fun q => z ≤ q) st t
def CtX (D : va_G) (cy : Nat → ClassId) (z : Nat) (PX : String → Wd → Prop) : String → State → State → Prop := fun E st t => (∃ w' : Wd, PX E w' ∧ HH D cy z w' t.heap) ∧ va_F (fun q => z ≤ q) st t
def CtP (D : va_G) (cy : Nat → ClassId) (z de : Nat) (av : List Value) (w : Wd) : Array Value → State → Prop := va_Pc av (fun U => Hd D cy z de w U U.heap)
/-- a method that always returns -/
def Ct (y : MethodName) (cc : ByteArray) (nL : Nat) (ret : Option FieldType) (fr lo mc ms de : Nat) (av : List Value) (w : Wd) (Post : Option Value → Wd → Prop) : Prop :=
  ∀ (l : Launch) (D : va_G) (cy : Nat → ClassId) (z : Nat), l.stackTraces = false → Met l y (.code y cc nL ret :: TBL) { frames := fr, cells := mc, slots := ms, locals := lo } (CtP D cy z de av w) (CtQ D cy z Post) mc ms (fun q => z ≤ q)
/-- a method that may throw -/
def Cw (y : MethodName) (cc : ByteArray) (nL : Nat) (ret : Option FieldType) (fr lo mc ms de : Nat) (av : List Value) (w : Wd) (Post : Option Value → Wd → Prop) (PX : String → Wd → Prop) : Prop :=
  ∀ (l : Launch) (D : va_G) (cy : Nat → ClassId) (z : Nat), l.stackTraces = false → vx_Met l y (.code y cc nL ret :: TBL) { frames := fr, cells := mc, slots := ms, locals := lo } (CtP D cy z de av w) (CtQ D cy z Post) (CtX D cy z PX) mc ms (fun q => z ≤ q)
theorem tb_good {w : Cond} (h : w ∈ TBL) : goodWord w = true := (List.mem_filter.mp h).2
theorem tb_in {w : Cond} (h : w ∈ TBL) : w ∈ lw_tbl := (List.mem_filter.mp h).1
theorem tb_GoodIn {w0 : Cond} (h : w0 ∈ TBL) : GoodIn TBL (w0 :: TBL) := fun w hw => by
  rcases List.mem_cons.mp hw with rfl | hw
  · exact ⟨h, good_of_word (tb_good h)⟩
  · exact ⟨hw, good_of_word (tb_good hw)⟩
/-- the tables' words of a method that is called -/
def MthB (y : MethodName) (cc : ByteArray) (nL : Nat) (ret : Option FieldType) (n : Nat) : Prop :=
  Cond.code y cc nL ret ∈ TBL ∧ Cond.initialized y.cls ∈ TBL ∧ (y.cls ≠ "java/lang/invoke/MethodHandle" ∧ y.cls ≠ "java/lang/invoke/VarHandle" ∧ (parseMethodDescriptor y.desc).map (fun d => d.parameters.length) = some n)
def MthV (y : MethodName) (cc : ByteArray) (nL : Nat) (ret : Option FieldType) (n : Nat) : Prop := MthB y cc nL ret n ∧ Cond.instanceMethod y ∈ TBL ∧ Cond.selects y.cls y y ∈ TBL
def MthS (y : MethodName) (cc : ByteArray) (nL : Nat) (ret : Option FieldType) (n : Nat) : Prop := MthB y cc nL ret n ∧ Cond.static y ∈ TBL
def MthI (y : MethodName) (cc : ByteArray) (nL : Nat) (n : Nat) : Prop := MthB y cc nL none n ∧ Cond.instanceMethod y ∈ TBL ∧ y.name = "<init>"
variable {p : Program} {l : Launch} {e : Env} {R : Room} {s : State} {m : MethodId} {args : Array Value} {below : List Frame} {meth : Method} {c : Code} {D : va_G} {cy : Nat → ClassId} {z : Nat}
variable {cc : ByteArray} {own : String} {nL : Nat} {ret : Option FieldType} {fr lo mc ms de : Nat} {w w' : Wd} {kc ns pc : Nat} {lv : List (Nat × Value)} {st rest : List Value} {Q : State → Prop}
variable {y : MethodName} {cc' : ByteArray} {nL' : Nat} {ret' : Option FieldType} {fr' lo' mc' ms' : Nat} {Post : Option Value → Wd → Prop} {PX : String → Wd → Prop}
theorem blind {de : Nat} {av : List Value} : FrameBlind (CtP D cy z de av w) := fun a U g mk h => ⟨h.1, h.2.1, va_K.moved (Vm.Alike.refl U.vm) h.2.2.1, Envf.go h.2.2.2.1 (State.WarmedH.refl U) (fun _ _ _ => rfl), h.2.2.2.2⟩
theorem Cx.pre {av : List Value} (C : Cx p l R s m args meth c D cy z cc own nL ret fr lo mc ms de) {H : Heap} {locs : List Loc} (hH : HH D cy z w H) (hS : va_S (fun q => z ≤ q) s.heap H locs) : ∀ U : State, U.heap = H → s.WarmedH U.vm → CtP D cy z de av w av.toArray U := fun U hU hW =>
  ⟨rfl, by rw [hU]; exact hH, va_K.moved hW.alike C.2.2.2.2.2.2.2.1, by rw [hU]; exact C.2.2.2.2.2.2.2.2.1.go hW hS.2.1, by rw [hU]; exact Nat.le_trans C.2.2.2.2.2.2.2.2.2.2.1 hS.1⟩
theorem Cx.fix (C : Cx p l R s m args meth c D cy z cc own nL ret fr lo mc ms de) : CallFix p m c cc nL s args TBL own := ⟨C.1, C.2.1, C.2.2.1, C.2.2.2.1, C.2.2.2.2.1⟩
theorem Cx.callB (C : Cx p l R s m args meth c D cy z cc own nL ret fr lo mc ms de) {n index : Nat} (hM : MthB y cc' nL' ret' n) (hlink : Cond.methodLink own index y ∈ TBL) (hfr : fr' + 1 ≤ fr) (hlo : 8 + (nL' + 11) + lo' ≤ lo) :
    CallB R s args own index y cc' nL' ret' (.code y cc' nL' ret' :: TBL) { frames := fr', cells := mc', slots := ms', locals := lo' } mc' ms' n :=
  callB_of n C.2.2.2.2.1 (tb_GoodIn hM.1) rfl rfl rfl (C.2.2.2.2.1 _ hM.2.1) (C.2.2.2.2.1 _ hlink) hM.2.2 (by rw [C.2.2.2.2.2.2.2.2.2.1]; exact ⟨hfr, hlo⟩)
theorem run_ok {ls : Array Slot} {H : Heap} {locs : List Loc} {a : Array Value} (hl : lv_has ls nL lv) (hS : va_S (fun q => z ≤ q) s.heap H locs)
    (hr : va_Run p l e R s m args below meth c H locs kc ns mc' ms' (F0 m pc ls st) rest (CtQ D cy z Post a) (fun q => z ≤ q))
    (kk : ∀ (r : Option Value) (w' : Wd), Post r w' → G p l e R s m args below meth c D cy z nL w' (kc + mc') (ns + ms') (pc + 3) lv (r.toList ++ rest) Q) : W p l e R s m args below meth c H locs kc ns Q (F0 m pc ls st) := by
  intro T hT X
  obtain ⟨v, st₀, t, T', L, h0, X', hL, e1, e2, ⟨⟨r, w', hv, hp, hb⟩, hz, hk⟩, stp⟩ := hr T hT X
  cases hv
  rw [h0] at hz hk
  obtain ⟨t2, a1, b1⟩ := kk v w' hp T'.heap (locs ++ L) ls (by rw [e1]; exact hb)
    ⟨Nat.le_trans hS.1 (by rw [e1]; exact hz), fun q h1 h2 => by rw [e1, hk q (Nat.lt_of_lt_of_le h1 hS.1) h2]; exact hS.2.1 q h1 h2, fun q hq => by
      rcases List.mem_append.mp hq with h | h
      · exact hS.2.2 q h
      · exact hL q h⟩ hl T' rfl X'
  exact ⟨t2, stp t2 a1, b1⟩
/-- the frame at pc, an exception of class E thrown over it -/
def GX (p : Program) (l : Launch) (e : Env) (R : Room) (s : State) (m : MethodId) (args : Array Value) (below : List Frame) (meth : Method) (c : Code) (D : va_G) (cy : Nat → ClassId) (z nL : Nat) (w : Wd) (kc ns pc : Nat) (lv : List (Nat × Value)) (st : List Value) (Q : State → Prop) (E : String) : Prop :=
  ∀ (H : Heap) (locs : List Loc) (ls : Array Slot) (q : Addr) (ce : Cell), HH D cy z w H → va_S (fun q => z ≤ q) s.heap H locs → lv_has ls nL lv → H[q]? = some ce → ce.vm = .none → s.vm.findClass E = some ce.cls → vx_W p l e R s m args below meth c H locs kc ns Q (F0 m pc ls st) q
theorem runx_ok {ls : Array Slot} {H : Heap} {locs : List Loc} {a : Array Value} (hl : lv_has ls nL lv) (hS : va_S (fun q => z ≤ q) s.heap H locs)
    (hr : vx_Run p l e R s m args below meth c H locs kc ns mc' ms' (F0 m pc ls st) rest (CtQ D cy z Post a) (CtX D cy z PX) (fun q => z ≤ q))
    (kx : ∀ (E : String) (w' : Wd), PX E w' → GX p l e R s m args below meth c D cy z nL w' (kc + mc') (ns + ms') pc lv rest Q E)
    (kk : ∀ (r : Option Value) (w' : Wd), Post r w' → G p l e R s m args below meth c D cy z nL w' (kc + mc') (ns + ms') (pc + 3) lv (r.toList ++ rest) Q) : W p l e R s m args below meth c H locs kc ns Q (F0 m pc ls st) := by
  intro T hT X
  rcases hr T hT X with ⟨v, st₀, t, T', L, h0, X', hL, e1, e2, ⟨⟨r, w', hv, hp, hb⟩, hF⟩, stp⟩ | ⟨q, st₀, t, T', L, E, ce, h0, X', hL, e1, e2, ⟨⟨w', hp, hb⟩, hF⟩, hce, hcv, hcl, stp⟩
  · cases hv
    obtain ⟨k1, k2, k3⟩ := vx_keep h0 e1 hS (fun _ _ h => h) (fun _ h => h) hL hF
    obtain ⟨t2, a1, b1⟩ := kk v w' hp T'.heap (locs ++ L) ls (by rw [e1]; exact hb) k3 hl T' rfl X'
    exact ⟨t2, stp t2 a1, b1⟩
  · obtain ⟨k1, k2, k3⟩ := vx_keep h0 e1 hS (fun _ _ h => h) (fun _ h => h) hL hF
    obtain ⟨t2, a1, b1⟩ := kx E w' hp T'.heap (locs ++ L) ls q ce (by rw [e1]; exact hb) k3 hl (by rw [e1]; exact hce) hcv hcl T' rfl X'
    exact ⟨t2, stp.trans a1, b1⟩
theorem Cx.room (C : Cx p l R s m args meth c D cy z cc own nL ret fr lo mc ms de) (h1 : kc + mc' ≤ mc) (h2 : ns + ms' ≤ ms) : kc + mc' ≤ R.cells ∧ ns + ms' ≤ R.slots := by rw [C.2.2.2.2.2.2.2.2.2.1]; exact ⟨h1, h2⟩
theorem g_callV (C : Cx p l R s m args meth c D cy z cc own nL ret fr lo mc ms de) {ci N n : Nat} {T : u_T} {ty0 : Nat → FieldType} (hcl : ClsOk ci y.cls T N ty0) (K : Nat) {b index : Nat} (hM : MthV y cc' nL' ret' n) (As : List Value) (hCt : Ct y cc' nL' ret' fr' lo' mc' ms' de (.ref b :: As) w Post)
    (hk : kd w b = K) (hK : 0 < K ∧ K < 1000 ∧ (K - 1) % 20 = ci) (hlink : Cond.methodLink own index y ∈ TBL) (hn : As.length = n) (hst : st = As.reverse ++ .ref b :: rest) (hw8 : (rest.map fun v => v.category).sum ≤ 8) (hfr : fr' + 1 ≤ fr) (hlo : 8 + (nL' + 11) + lo' ≤ lo) (h1 : kc + mc' ≤ mc) (h2 : ns + ms' ≤ ms) (hdg : decode cc pc = .ok (.invokevirtual index, 3))
    (kk : ∀ (r : Option Value) (w' : Wd), Post r w' → G p l e R s m args below meth c D cy z nL w' (kc + mc') (ns + ms') (pc + 3) lv (r.toList ++ rest) Q) : G p l e R s m args below meth c D cy z nL w kc ns pc lv st Q := by
  intro H locs ls hH hS hl
  subst hst
  exact run_ok hl hS (va_runV (C := y.cls) C.fix (hCt l D cy z C.2.2.2.2.2.2.2.2.2.2.2) ⟨C.callB hM.1 hlink hfr hlo, C.2.2.2.2.1 _ hM.2.1, C.2.2.2.2.1 _ hM.2.2⟩ ⟨blind, recv C hcl hk hK hH, C.pre hH hS⟩ rfl hn hl.1 rfl (lv_room hw8) hdg (C.room h1 h2)) kk
theorem g_callS (C : Cx p l R s m args meth c D cy z cc own nL ret fr lo mc ms de) {n : Nat} {index : Nat} (hM : MthS y cc' nL' ret' n) (As : List Value) (hCt : Ct y cc' nL' ret' fr' lo' mc' ms' de As w Post)
    (hlink : Cond.methodLink own index y ∈ TBL) (hn : As.length = n) (hst : st = As.reverse ++ rest) (hw8 : (rest.map fun v => v.category).sum ≤ 8) (hfr : fr' + 1 ≤ fr) (hlo : 8 + (nL' + 11) + lo' ≤ lo) (h1 : kc + mc' ≤ mc) (h2 : ns + ms' ≤ ms) (hdg : decode cc pc = .ok (.invokestatic index, 3))
    (kk : ∀ (r : Option Value) (w' : Wd), Post r w' → G p l e R s m args below meth c D cy z nL w' (kc + mc') (ns + ms') (pc + 3) lv (r.toList ++ rest) Q) : G p l e R s m args below meth c D cy z nL w kc ns pc lv st Q := by
  intro H locs ls hH hS hl
  subst hst
  exact run_ok hl hS (va_runS C.fix (hCt l D cy z C.2.2.2.2.2.2.2.2.2.2.2) ⟨C.callB hM.1 hlink hfr hlo, C.2.2.2.2.1 _ hM.2⟩ ⟨blind, C.pre hH hS⟩ rfl hn hl.1 rfl (lv_room hw8) hdg (C.room h1 h2)) kk
theorem g_callI (C : Cx p l R s m args meth c D cy z cc own nL ret fr lo mc ms de) {n : Nat} {b index : Nat} (hM : MthI y cc' nL' n) (As : List Value) (hCt : Ct y cc' nL' none fr' lo' mc' ms' de (.ref b :: As) w Post)
    (hlink : Cond.methodLink own index y ∈ TBL) (hn : As.length = n) (hst : st = As.reverse ++ .ref b :: rest) (hw8 : (rest.map fun v => v.category).sum ≤ 8) (hfr : fr' + 1 ≤ fr) (hlo : 8 + (nL' + 11) + lo' ≤ lo) (h1 : kc + mc' ≤ mc) (h2 : ns + ms' ≤ ms) (hdg : decode cc pc = .ok (.invokespecial index, 3))
    (kk : ∀ (r : Option Value) (w' : Wd), Post r w' → G p l e R s m args below meth c D cy z nL w' (kc + mc') (ns + ms') (pc + 3) lv (r.toList ++ rest) Q) : G p l e R s m args below meth c D cy z nL w kc ns pc lv st Q := by
  intro H locs ls hH hS hl
  subst hst
  exact run_ok hl hS (va_runI C.fix (hCt l D cy z C.2.2.2.2.2.2.2.2.2.2.2) ⟨C.callB hM.1 hlink hfr hlo, hM.2.2, C.2.2.2.2.1 _ hM.2.1⟩ ⟨blind, C.pre hH hS⟩ rfl hn hl.1 rfl (lv_room hw8) hdg (C.room h1 h2)) kk
/-- a nest mate's private method, by its own link -/
theorem Cx.callN (C : Cx p l R s m args meth c D cy z cc own nL ret fr lo mc ms de) {n index : Nat} {host : String} (hM : MthB y cc' nL' ret' n) (hlink : Cond.methodLinkNest own index y host ∈ lw_tbl) (hfr : fr' + 1 ≤ fr) (hlo : 8 + (nL' + 11) + lo' ≤ lo) :
    va_CN R s args own index y host cc' nL' ret' (.code y cc' nL' ret' :: TBL) { frames := fr', cells := mc', slots := ms', locals := lo' } mc' ms' n :=
  va_cnB n C.2.2.2.2.1 (tb_GoodIn hM.1) rfl rfl rfl (C.2.2.2.2.2.2.2.2.1.1 _ hlink rfl) (C.2.2.2.2.1 _ hM.2.1) hM.2.2 (by rw [C.2.2.2.2.2.2.2.2.2.1]; exact ⟨hfr, hlo⟩)
theorem g_callSN (C : Cx p l R s m args meth c D cy z cc own nL ret fr lo mc ms de) {n : Nat} {index : Nat} {host : String} (hM : MthS y cc' nL' ret' n) (As : List Value) (hCt : Ct y cc' nL' ret' fr' lo' mc' ms' de As w Post)
    (hlink : Cond.methodLinkNest own index y host ∈ lw_tbl) (hn : As.length = n) (hst : st = As.reverse ++ rest) (hw8 : (rest.map fun v => v.category).sum ≤ 8) (hfr : fr' + 1 ≤ fr) (hlo : 8 + (nL' + 11) + lo' ≤ lo) (h1 : kc + mc' ≤ mc) (h2 : ns + ms' ≤ ms) (hdg : decode cc pc = .ok (.invokestatic index, 3))
    (kk : ∀ (r : Option Value) (w' : Wd), Post r w' → G p l e R s m args below meth c D cy z nL w' (kc + mc') (ns + ms') (pc + 3) lv (r.toList ++ rest) Q) : G p l e R s m args below meth c D cy z nL w kc ns pc lv st Q := by
  intro H locs ls hH hS hl
  subst hst
  exact run_ok hl hS (va_runSN C.fix (hCt l D cy z C.2.2.2.2.2.2.2.2.2.2.2) ⟨C.callN hM.1 hlink hfr hlo, C.2.2.2.2.1 _ hM.2, trivial⟩ ⟨blind, C.pre hH hS⟩ rfl hn hl.1 rfl (lv_room hw8) hdg (C.room h1 h2)) kk
theorem g_callIN (C : Cx p l R s m args meth c D cy z cc own nL ret fr lo mc ms de) {n : Nat} {b index : Nat} {host : String} (hM : MthI y cc' nL' n) (As : List Value) (hCt : Ct y cc' nL' none fr' lo' mc' ms' de (.ref b :: As) w Post)
    (hlink : Cond.methodLinkNest own index y host ∈ lw_tbl) (hn : As.length = n) (hst : st = As.reverse ++ .ref b :: rest) (hw8 : (rest.map fun v => v.category).sum ≤ 8) (hfr : fr' + 1 ≤ fr) (hlo : 8 + (nL' + 11) + lo' ≤ lo) (h1 : kc + mc' ≤ mc) (h2 : ns + ms' ≤ ms) (hdg : decode cc pc = .ok (.invokespecial index, 3))
    (kk : ∀ (r : Option Value) (w' : Wd), Post r w' → G p l e R s m args below meth c D cy z nL w' (kc + mc') (ns + ms') (pc + 3) lv (r.toList ++ rest) Q) : G p l e R s m args below meth c D cy z nL w kc ns pc lv st Q := by
  intro H locs ls hH hS hl
  subst hst
  exact run_ok hl hS (va_runIN C.fix (hCt l D cy z C.2.2.2.2.2.2.2.2.2.2.2) ⟨C.callN hM.1 hlink hfr hlo, hM.2.2, C.2.2.2.2.1 _ hM.2.1⟩ ⟨blind, C.pre hH hS⟩ rfl hn hl.1 rfl (lv_room hw8) hdg (C.room h1 h2)) kk
theorem gx_callV (C : Cx p l R s m args meth c D cy z cc own nL ret fr lo mc ms de) {ci N n : Nat} {T : u_T} {ty0 : Nat → FieldType} (hcl : ClsOk ci y.cls T N ty0) (K : Nat) {b index : Nat} (hM : MthV y cc' nL' ret' n) (As : List Value) (hCt : Cw y cc' nL' ret' fr' lo' mc' ms' de (.ref b :: As) w Post PX)
    (hk : kd w b = K) (hK : 0 < K ∧ K < 1000 ∧ (K - 1) % 20 = ci) (hlink : Cond.methodLink own index y ∈ TBL) (hn : As.length = n) (hst : st = As.reverse ++ .ref b :: rest) (hw8 : (rest.map fun v => v.category).sum ≤ 8) (hfr : fr' + 1 ≤ fr) (hlo : 8 + (nL' + 11) + lo' ≤ lo) (h1 : kc + mc' ≤ mc) (h2 : ns + ms' ≤ ms) (hdg : decode cc pc = .ok (.invokevirtual index, 3))
    (kx : ∀ (E : String) (w' : Wd), PX E w' → GX p l e R s m args below meth c D cy z nL w' (kc + mc') (ns + ms') pc lv rest Q E)
    (kk : ∀ (r : Option Value) (w' : Wd), Post r w' → G p l e R s m args below meth c D cy z nL w' (kc + mc') (ns + ms') (pc + 3) lv (r.toList ++ rest) Q) : G p l e R s m args below meth c D cy z nL w kc ns pc lv st Q := by
  intro H locs ls hH hS hl
  subst hst
  exact runx_ok hl hS (vx_runV (C := y.cls) C.fix (hCt l D cy z C.2.2.2.2.2.2.2.2.2.2.2) ⟨C.callB hM.1 hlink hfr hlo, C.2.2.2.2.1 _ hM.2.1, C.2.2.2.2.1 _ hM.2.2⟩ ⟨blind, recv C hcl hk hK hH, C.pre hH hS⟩ rfl hn hl.1 rfl (lv_room hw8) hdg (C.room h1 h2)) kx kk
theorem gx_callS (C : Cx p l R s m args meth c D cy z cc own nL ret fr lo mc ms de) {n : Nat} {index : Nat} (hM : MthS y cc' nL' ret' n) (As : List Value) (hCt : Cw y cc' nL' ret' fr' lo' mc' ms' de As w Post PX)
    (hlink : Cond.methodLink own index y ∈ TBL) (hn : As.length = n) (hst : st = As.reverse ++ rest) (hw8 : (rest.map fun v => v.category).sum ≤ 8) (hfr : fr' + 1 ≤ fr) (hlo : 8 + (nL' + 11) + lo' ≤ lo) (h1 : kc + mc' ≤ mc) (h2 : ns + ms' ≤ ms) (hdg : decode cc pc = .ok (.invokestatic index, 3))
    (kx : ∀ (E : String) (w' : Wd), PX E w' → GX p l e R s m args below meth c D cy z nL w' (kc + mc') (ns + ms') pc lv rest Q E)
    (kk : ∀ (r : Option Value) (w' : Wd), Post r w' → G p l e R s m args below meth c D cy z nL w' (kc + mc') (ns + ms') (pc + 3) lv (r.toList ++ rest) Q) : G p l e R s m args below meth c D cy z nL w kc ns pc lv st Q := by
  intro H locs ls hH hS hl
  subst hst
  exact runx_ok hl hS (vx_runS C.fix (hCt l D cy z C.2.2.2.2.2.2.2.2.2.2.2) ⟨C.callB hM.1 hlink hfr hlo, C.2.2.2.2.1 _ hM.2⟩ ⟨blind, C.pre hH hS⟩ rfl hn hl.1 rfl (lv_room hw8) hdg (C.room h1 h2)) kx kk
theorem g_objInit (C : Cx p l R s m args meth c D cy z cc own nL ret fr lo mc ms de) {index a : Nat} (hlink : Cond.methodLink own index objectInit ∈ TBL) (h1 : Cond.instanceMethod objectInit ∈ TBL) (h2 : Cond.code objectInit ⟨#[0xb1]⟩ 1 none ∈ TBL) (hw8 : (st.map fun v => v.category).sum + 12 ≤ lo) (hfr : 1 ≤ fr) (hdg : decode cc pc = .ok (.invokespecial index, 3))
    (kk : G p l e R s m args below meth c D cy z nL w kc ns (pc + 3) lv st Q) : G p l e R s m args below meth c D cy z nL w kc ns pc lv (.ref a :: st) Q := by
  intro H locs ls hH hS hl
  have hR := C.2.2.2.2.2.2.2.2.2.1
  refine W.objInit C.1 C.2.1 C.2.2.2.1 (C.2.2.2.2.1 _ hlink) (C.2.2.2.2.1 _ h1) (C.2.2.2.2.1 _ h2) rfl (by rw [C.2.2.1]; exact hl.1) rfl hdg (by rw [hR]; exact hfr) (by rw [hR]; show 2 * 0 + _ + 12 ≤ lo; omega) ?_
  exact kk H locs ls hH hS hl
theorem g_max (C : Cx p l R s m args meth c D cy z cc own nL ret fr lo mc ms de) {index : Nat} {x y : Int32} (hlink : Cond.methodLink own index Lib.Math.max.name ∈ TBL) (h1 : Cond.static Lib.Math.max.name ∈ TBL) (h2 : Cond.initialized "java/lang/Math" ∈ TBL) (h3 : Cond.code Lib.Math.max.name Lib.Math.max.code 2 (some .int) ∈ TBL) (hfr : 1 ≤ fr) (hw8 : (st.map fun v => v.category).sum + 13 ≤ lo) (hc : kc ≤ mc) (hs : ns ≤ ms) (hdg : decode cc pc = .ok (.invokestatic index, 3))
    (kk : G p l e R s m args below meth c D cy z nL w kc ns (pc + 3) lv (.int (if x < y then y else x) :: st) Q) : G p l e R s m args below meth c D cy z nL w kc ns pc lv (.int y :: .int x :: st) Q := by
  intro H locs ls hH hS hl
  have hR := C.2.2.2.2.2.2.2.2.2.1
  exact va_mmax C.1 C.2.1 (by rw [C.2.2.1]; exact hl.1.symm) C.2.2.2.1 (C.2.2.2.2.1 _ hlink) (C.2.2.2.2.1 _ h1) (C.2.2.2.2.1 _ h2) (C.2.2.2.2.1 _ h3) (by rw [hR]; exact hfr) (by rw [hR]; exact hw8) (by rw [hR]; exact hc) (by rw [hR]; exact hs) hdg (kk H locs ls hH hS hl)
theorem g_min (C : Cx p l R s m args meth c D cy z cc own nL ret fr lo mc ms de) {index : Nat} {x y : Int32} (hlink : Cond.methodLink own index Lib.Math.min.name ∈ TBL) (h1 : Cond.static Lib.Math.min.name ∈ TBL) (h2 : Cond.initialized "java/lang/Math" ∈ TBL) (h3 : Cond.code Lib.Math.min.name Lib.Math.min.code 2 (some .int) ∈ TBL) (hfr : 1 ≤ fr) (hw8 : (st.map fun v => v.category).sum + 13 ≤ lo) (hc : kc ≤ mc) (hs : ns ≤ ms) (hdg : decode cc pc = .ok (.invokestatic index, 3))
    (kk : G p l e R s m args below meth c D cy z nL w kc ns (pc + 3) lv (.int (if y < x then y else x) :: st) Q) : G p l e R s m args below meth c D cy z nL w kc ns pc lv (.int y :: .int x :: st) Q := by
  intro H locs ls hH hS hl
  have hR := C.2.2.2.2.2.2.2.2.2.1
  exact va_mmin C.1 C.2.1 (by rw [C.2.2.1]; exact hl.1.symm) C.2.2.2.1 (C.2.2.2.2.1 _ hlink) (C.2.2.2.2.1 _ h1) (C.2.2.2.2.1 _ h2) (C.2.2.2.2.1 _ h3) (by rw [hR]; exact hfr) (by rw [hR]; exact hw8) (by rw [hR]; exact hc) (by rw [hR]; exact hs) hdg (kk H locs ls hH hS hl)
/-- what a body owes at its end -/
def QM (below : List Frame) (args : Array Value) (s : State) (D : va_G) (cy : Nat → ClassId) (z : Nat) (Post : Option Value → Wd → Prop) (mc ms : Nat) : State → Prop := MQ below (CtQ D cy z Post) args s mc ms (fun q => z ≤ q)
def QX (below : List Frame) (args : Array Value) (s : State) (D : va_G) (cy : Nat → ClassId) (z : Nat) (Post : Option Value → Wd → Prop) (PX : String → Wd → Prop) (mc ms : Nat) : State → Prop := vx_MQ below (CtQ D cy z Post) (CtX D cy z PX) args s mc ms (fun q => z ≤ q)
theorem Ct.mk {av : List Value} (hy : plainName y.cls = true) (lv : List (Nat × Value)) (hlv : lv_args 0 av = lv) (hlen : (lg_sl av).length ≤ nL)
    (body : ∀ (p : Program) (l : Launch) (e : Env) (R : Room) (s : State) (m : MethodId) (args : Array Value) (below : List Frame) (meth : Method) (c : Code) (D : va_G) (cy : Nat → ClassId) (z : Nat), Cx p l R s m args meth c D cy z cc y.cls nL ret fr lo mc ms de → meth.name = y.name → G p l e R s m args below meth c D cy z nL w 0 0 0 lv [] (QM below args s D cy z Post mc ms)) :
    Ct y cc nL ret fr lo mc ms de av w Post := by
  intro l D cy z hl
  refine Met.ofW (cc := cc) (maxL := nL) (ret := ret) hy rfl ?_
  intro p e s m args below meth c s₁ B hml hv
  obtain ⟨rfl, hH, hK, hE, hz⟩ := hv
  have hts := atoms_spec (ws := Cond.code y cc nL ret :: TBL) B.pre
  have C : Cx p l (headSpec (Cond.code y cc nL ret :: TBL) { frames := fr, cells := mc, slots := ms, locals := lo }).room s m av.toArray meth c D cy z cc y.cls nL ret fr lo mc ms de :=
    ⟨B.exec, B.bytes, hml, findClass_of_methodNamed B.named, fun w hw => hts w (List.mem_cons_of_mem _ hw), B.notSynchronized, B.returns, hK, hE, rfl, hz, hl⟩
  rw [lg_entry_eq]
  exact body p l e _ s m _ below meth c D cy z C (name_of_methodNamed B.named B.method).1 s.heap [] _ hH va_S.rf (hlv ▸ lv_entry av hlen)
theorem Cw.mk {av : List Value} (hy : plainName y.cls = true) (lv : List (Nat × Value)) (hlv : lv_args 0 av = lv) (hlen : (lg_sl av).length ≤ nL)
    (body : ∀ (p : Program) (l : Launch) (e : Env) (R : Room) (s : State) (m : MethodId) (args : Array Value) (below : List Frame) (meth : Method) (c : Code) (D : va_G) (cy : Nat → ClassId) (z : Nat), Cx p l R s m args meth c D cy z cc y.cls nL ret fr lo mc ms de → (∀ x ∈ c.exceptionTable.toList, False) → G p l e R s m args below meth c D cy z nL w 0 0 0 lv [] (QX below args s D cy z Post PX mc ms)) :
    Cw y cc nL ret fr lo mc ms de av w Post PX := by
  intro l D cy z hl
  refine vx_ofW (cc := cc) (maxL := nL) (ret := ret) hy rfl ?_
  intro p e s m args below meth c s₁ B hml ht hv
  obtain ⟨rfl, hH, hK, hE, hz⟩ := hv
  have hts := atoms_spec (ws := Cond.code y cc nL ret :: TBL) B.pre
  have C : Cx p l (headSpec (Cond.code y cc nL ret :: TBL) { frames := fr, cells := mc, slots := ms, locals := lo }).room s m av.toArray meth c D cy z cc y.cls nL ret fr lo mc ms de :=
    ⟨B.exec, B.bytes, hml, findClass_of_methodNamed B.named, fun w hw => hts w (List.mem_cons_of_mem _ hw), B.notSynchronized, B.returns, hK, hE, rfl, hz, hl⟩
  rw [lg_entry_eq]
  exact body p l e _ s m _ below meth c D cy z C ht s.heap [] _ hH va_S.rf (hlv ▸ lv_entry av hlen)
theorem g_iret (C : Cx p l R s m args meth c D cy z cc own nL ret fr lo mc ms de) {v : Int32} {ty : FieldType} (hr : ret = some ty) (hn : narrow ty (.int v) = .int v) (h1 : kc ≤ mc) (h2 : ns ≤ ms) (hdg : decode cc pc = .ok (.ireturn, 1)) (hp : Post (some (.int v)) w) : G p l e R s m args below meth c D cy z nL w kc ns pc lv [.int v] (QM below args s D cy z Post mc ms) := fun H locs ls hH hS hl =>
  W.widen h1 h2 (W.zret (ty := ty) C.1 C.2.1 (C.2.2.2.2.2.2.1.trans hr) hn (fun t ht _ => ⟨⟨_, w, rfl, hp, by rw [ht]; exact hH⟩, hS.F ht⟩) hS.2.2 hdg C.2.2.2.2.2.1)
theorem g_vret (C : Cx p l R s m args meth c D cy z cc own nL ret fr lo mc ms de) (hr : ret = none) (h1 : kc ≤ mc) (h2 : ns ≤ ms) (hdg : decode cc pc = .ok (.return_, 1)) (hp : Post none w) : G p l e R s m args below meth c D cy z nL w kc ns pc lv [] (QM below args s D cy z Post mc ms) := fun H locs ls hH hS hl =>
  W.widen h1 h2 (W.vret C.1 C.2.1 (C.2.2.2.2.2.2.1.trans hr) (fun t ht _ => ⟨⟨_, w, rfl, hp, by rw [ht]; exact hH⟩, hS.F ht⟩) hS.2.2 hdg C.2.2.2.2.2.1)
theorem g_aret (C : Cx p l R s m args meth c D cy z cc own nL ret fr lo mc ms de) {v : Value} {rt : FieldType} (hr : ret = some rt) (hrt : (∃ n, rt = .object n) ∨ ∃ t, rt = .array t) (hv : v = .null ∨ ∃ a, v = .ref a) (h1 : kc ≤ mc) (h2 : ns ≤ ms) (hdg : decode cc pc = .ok (.areturn, 1)) (hp : Post (some v) w) : G p l e R s m args below meth c D cy z nL w kc ns pc lv [v] (QM below args s D cy z Post mc ms) := fun H locs ls hH hS hl =>
  W.widen h1 h2 (W.aret C.1 C.2.1 (C.2.2.2.2.2.2.1.trans hr) hrt hv (fun t ht _ => ⟨⟨_, w, rfl, hp, by rw [ht]; exact hH⟩, hS.F ht⟩) hS.2.2 hdg C.2.2.2.2.2.1)
/-- a body that may throw, where it doesn't -/
theorem gx_ret (k : G p l e R s m args below meth c D cy z nL w kc ns pc lv st (QM below args s D cy z Post mc ms)) : G p l e R s m args below meth c D cy z nL w kc ns pc lv st (QX below args s D cy z Post PX mc ms) := fun H locs ls hH hS hl => vx_ret (k H locs ls hH hS hl)
theorem gx_out (C : Cx p l R s m args meth c D cy z cc own nL ret fr lo mc ms de) (ht : ∀ x ∈ c.exceptionTable.toList, False) {E : String} (h1 : kc ≤ mc) (h2 : ns ≤ ms) (hp : PX E w) : GX p l e R s m args below meth c D cy z nL w kc ns pc lv st (QX below args s D cy z Post PX mc ms) E := fun H locs ls q ce hH hS hl hq hv hc =>
  vx_out (fun x hx => (ht x hx).elim) C.2.2.2.2.2.1 hq hv hc (fun t e1 _ => ⟨⟨w, hp, by rw [e1]; exact hH⟩, hS.F e1⟩) hS.2.2 h1 h2
/-- the words of a throw of cls from class own by the link ic -/
def ThOk (own : String) (ic : Nat) (cls : String) (names : List String) : Prop := Bundle.fit cls = true ∧ (∀ n ∈ names, Bundle.fit n = true) ∧ (∀ w ∈ vx_atS own ic cls names, w ∈ lw_tbl ∧ vx_ot w = true ∧ (goodWord w = true ∨ isCN w = true))
theorem ThOk.of {own : String} {ic : Nat} {cls : String} {names : List String} (h1 : Bundle.fit cls = true) (h2 : names.all Bundle.fit = true) (h3 : (vx_atS own ic cls names).all (fun w => lw_tbl.contains w && vx_ot w && (goodWord w || isCN w)) = true) : ThOk own ic cls names := by
  refine ⟨h1, fun n hn => List.all_eq_true.mp h2 n hn, fun w hw => ?_⟩
  have h := List.all_eq_true.mp h3 w hw
  simp only [Bool.and_eq_true, Bool.or_eq_true, List.contains_iff_mem] at h
  exact ⟨h.1.1, h.1.2, h.2⟩
theorem gx_throw (C : Cx p l R s m args meth c D cy z cc own nL ret fr lo mc ms de) (ht : ∀ x ∈ c.exceptionTable.toList, False) {cls text : String} {names : List String} {ik is ic : Nat} (hT : ThOk own ic cls names) (hk : Cond.classLink own ik cls ∈ TBL) (hini : Cond.initialized cls ∈ TBL) (hs : (own, is, text) ∈ strs)
    (d0 : decode cc pc = .ok (.new ik, 3)) (d3 : decode cc (pc + 3) = .ok (.dup, 1)) (d4 : decode cc (pc + 4) = .ok (.ldc is, 2)) (d6 : decode cc (pc + 6) = .ok (.invokespecial ic, 3)) (d9 : decode cc (pc + 9) = .ok (.athrow, 1))
    (hfr : names.length + 3 < fr) (hlo : (st.map fun v => v.category).sum + (13 * (names.length + 1) + 43) ≤ lo) (h1 : kc + 1 ≤ mc) (h2 : ns + 6 ≤ ms) (hp : PX cls w) : G p l e R s m args below meth c D cy z nL w kc ns pc lv st (QX below args s D cy z Post PX mc ms) := by
  intro H locs ls hH hS hl
  have hR := C.2.2.2.2.2.2.2.2.2.1
  have hE := C.2.2.2.2.2.2.2.2.1
  have hts := C.2.2.2.2.1
  obtain ⟨sa, hsa⟩ := hE.2.2.2.2.2.2.2.2 _ hs
  refine vx_throwS (A := fun q => z ≤ q) C.1 C.2.1 C.2.2.2.2.2.2.2.2.2.2.2 C.2.2.2.1 hT.1 hT.2.1 (hts _ hk) (hts _ hini) hsa (fun w hw => ?_) (fun w hw => ?_) hE.2.2.2.2.2.1 hE.2.2.2.2.2.2.1 hS (by rw [C.2.2.1]; exact hl.1) d0 d3 d4 d6 d9 (fun x hx => (ht x hx).elim) (by rw [hR]; exact hfr) (by rw [hR]; exact hlo) (by rw [hR]; exact h1) (by rw [hR]; exact h2) C.2.2.2.2.2.1
    (fun t _ hz hq => ⟨⟨w, hp, fun a ha => ⟨(hH a ha).1, (hH a ha).2.kept (hq a (hH.lt ha))⟩⟩, Nat.le_trans hS.1 hz, fun q h3 h4 => by rw [hq q (Nat.lt_of_lt_of_le h3 hS.1)]; exact hS.2.1 q h3 h4⟩) hS.2.2 h1 h2
  · obtain ⟨g1, g2, g3⟩ := hT.2.2 w hw
    rcases g3 with g3 | g3
    · exact hts w (List.mem_filter.mpr ⟨g1, g3⟩)
    · cases w <;> first | exact va_Nw.use rfl (hE.1 _ g1 g3) | cases g3
  · rcases List.mem_cons.mp hw with rfl | hw
    · unfold vx_ot; rw [tb_good hk, Bool.or_true]
    · rcases List.mem_cons.mp hw with rfl | hw
      · unfold vx_ot; rw [tb_good hini, Bool.or_true]
      · exact (hT.2.2 w hw).2.1
theorem gx_throwW (C : Cx p l R s m args meth c D cy z cc own nL ret fr lo mc ms de) (ht : ∀ x ∈ c.exceptionTable.toList, False) {cls text : String} {names : List String} {ik is ic : Nat} (hT : ThOk own ic cls names) (hk : Cond.classLink own ik cls ∈ TBL) (hini : Cond.initialized cls ∈ TBL) (hs : (own, is, text) ∈ strs)
    (d0 : decode cc pc = .ok (.new ik, 3)) (d3 : decode cc (pc + 3) = .ok (.dup, 1)) (d4 : decode cc (pc + 4) = .ok (.ldc_w is, 3)) (d6 : decode cc (pc + 7) = .ok (.invokespecial ic, 3)) (d9 : decode cc (pc + 10) = .ok (.athrow, 1))
    (hfr : names.length + 3 < fr) (hlo : (st.map fun v => v.category).sum + (13 * (names.length + 1) + 43) ≤ lo) (h1 : kc + 1 ≤ mc) (h2 : ns + 6 ≤ ms) (hp : PX cls w) : G p l e R s m args below meth c D cy z nL w kc ns pc lv st (QX below args s D cy z Post PX mc ms) := by
  intro H locs ls hH hS hl
  have hR := C.2.2.2.2.2.2.2.2.2.1
  have hE := C.2.2.2.2.2.2.2.2.1
  have hts := C.2.2.2.2.1
  obtain ⟨sa, hsa⟩ := hE.2.2.2.2.2.2.2.2 _ hs
  refine vx_throwSW (A := fun q => z ≤ q) C.1 C.2.1 C.2.2.2.2.2.2.2.2.2.2.2 C.2.2.2.1 hT.1 hT.2.1 (hts _ hk) (hts _ hini) hsa (fun w hw => ?_) (fun w hw => ?_) hE.2.2.2.2.2.1 hE.2.2.2.2.2.2.1 hS (by rw [C.2.2.1]; exact hl.1) d0 d3 d4 d6 d9 (fun x hx => (ht x hx).elim) (by rw [hR]; exact hfr) (by rw [hR]; exact hlo) (by rw [hR]; exact h1) (by rw [hR]; exact h2) C.2.2.2.2.2.1
    (fun t _ hz hq => ⟨⟨w, hp, fun a ha => ⟨(hH a ha).1, (hH a ha).2.kept (hq a (hH.lt ha))⟩⟩, Nat.le_trans hS.1 hz, fun q h3 h4 => by rw [hq q (Nat.lt_of_lt_of_le h3 hS.1)]; exact hS.2.1 q h3 h4⟩) hS.2.2 h1 h2
  · obtain ⟨g1, g2, g3⟩ := hT.2.2 w hw
    rcases g3 with g3 | g3
    · exact hts w (List.mem_filter.mpr ⟨g1, g3⟩)
    · cases w <;> first | exact va_Nw.use rfl (hE.1 _ g1 g3) | cases g3
  · rcases List.mem_cons.mp hw with rfl | hw
    · unfold vx_ot; rw [tb_good hk, Bool.or_true]
    · rcases List.mem_cons.mp hw with rfl | hw
      · unfold vx_ot; rw [tb_good hini, Bool.or_true]
      · exact (hT.2.2 w hw).2.1
end CALLS9
end
section
section TOOLS9
theorem kn_1195 : (Jvm.Cond.castable "RainIndex$Books" "java/lang/Object") ∈ lw_tbl := List.mem_append_right _ (tb_c5 _ (List.mem_of_getElem? (i := 235) (by decide +kernel)))
theorem kn_1204 : (Jvm.Cond.castable "RainIndex$Cover" "java/lang/Object") ∈ lw_tbl := List.mem_append_right _ (tb_c6 _ (List.mem_of_getElem? (i := 4) (by decide +kernel)))
theorem kn_1203 : (Jvm.Cond.castable "RainIndex$Farm" "java/lang/Object") ∈ lw_tbl := List.mem_append_right _ (tb_c6 _ (List.mem_of_getElem? (i := 3) (by decide +kernel)))
theorem kn_1202 : (Jvm.Cond.castable "RainIndex$Phase" "java/lang/Object") ∈ lw_tbl := List.mem_append_right _ (tb_c6 _ (List.mem_of_getElem? (i := 2) (by decide +kernel)))
theorem kn_1196 : (Jvm.Cond.castable "RainIndex$Product" "java/lang/Object") ∈ lw_tbl := List.mem_append_right _ (tb_c5 _ (List.mem_of_getElem? (i := 236) (by decide +kernel)))
theorem kn_1194 : (Jvm.Cond.castable "RainIndex$SeasonRain" "java/lang/Object") ∈ lw_tbl := List.mem_append_right _ (tb_c5 _ (List.mem_of_getElem? (i := 234) (by decide +kernel)))
theorem kn_1200 : (Jvm.Cond.castable "RainIndex$Station" "java/lang/Object") ∈ lw_tbl := List.mem_append_right _ (tb_c6 _ (List.mem_of_getElem? (i := 0) (by decide +kernel)))
theorem kn_1190 : (Jvm.Cond.castable "RainIndex$Telling" "java/lang/Object") ∈ lw_tbl := List.mem_append_right _ (tb_c5 _ (List.mem_of_getElem? (i := 230) (by decide +kernel)))
theorem kn_1192 : (Jvm.Cond.castable "RainIndex$Weather" "java/lang/Object") ∈ lw_tbl := List.mem_append_right _ (tb_c5 _ (List.mem_of_getElem? (i := 232) (by decide +kernel)))
theorem kn_1191 : (Jvm.Cond.castable "RainIndex" "java/lang/Object") ∈ lw_tbl := List.mem_append_right _ (tb_c5 _ (List.mem_of_getElem? (i := 231) (by decide +kernel)))
theorem kn_1197 : (Jvm.Cond.castable "RainIndexModel" "java/lang/Object") ∈ lw_tbl := List.mem_append_right _ (tb_c5 _ (List.mem_of_getElem? (i := 237) (by decide +kernel)))
theorem kn_1211 : (Jvm.Cond.castable "[B" "java/lang/Object") ∈ lw_tbl := List.mem_append_right _ (tb_c6 _ (List.mem_of_getElem? (i := 11) (by decide +kernel)))
theorem kn_1210 : (Jvm.Cond.castable "[I" "java/lang/Object") ∈ lw_tbl := List.mem_append_right _ (tb_c6 _ (List.mem_of_getElem? (i := 10) (by decide +kernel)))
theorem kn_1215 : (Jvm.Cond.castable "[J" "java/lang/Object") ∈ lw_tbl := List.mem_append_right _ (tb_c6 _ (List.mem_of_getElem? (i := 15) (by decide +kernel)))
theorem kn_1212 : (Jvm.Cond.castable "[LRainIndex$Telling;" "java/lang/Object") ∈ lw_tbl := List.mem_append_right _ (tb_c6 _ (List.mem_of_getElem? (i := 12) (by decide +kernel)))
theorem kn_1214 : (Jvm.Cond.castable "[Ljava/lang/Object;" "java/lang/Object") ∈ lw_tbl := List.mem_append_right _ (tb_c6 _ (List.mem_of_getElem? (i := 14) (by decide +kernel)))
theorem kn_1213 : (Jvm.Cond.castable "[Z" "java/lang/Object") ∈ lw_tbl := List.mem_append_right _ (tb_c6 _ (List.mem_of_getElem? (i := 13) (by decide +kernel)))
theorem kn_194 : (Jvm.Cond.castable "java/lang/IllegalArgumentException" "java/lang/IllegalArgumentException") ∈ lw_tbl := List.mem_append_right _ (tb_c1 _ (List.mem_of_getElem? (i := 194) (by decide +kernel)))
theorem kn_1198 : (Jvm.Cond.castable "java/lang/IllegalArgumentException" "java/lang/Object") ∈ lw_tbl := List.mem_append_right _ (tb_c5 _ (List.mem_of_getElem? (i := 238) (by decide +kernel)))
theorem kn_266 : (Jvm.Cond.castable "java/lang/IllegalStateException" "java/lang/IllegalStateException") ∈ lw_tbl := List.mem_append_right _ (tb_c2 _ (List.mem_of_getElem? (i := 26) (by decide +kernel)))
theorem kn_1199 : (Jvm.Cond.castable "java/lang/IllegalStateException" "java/lang/Object") ∈ lw_tbl := List.mem_append_right _ (tb_c5 _ (List.mem_of_getElem? (i := 239) (by decide +kernel)))
theorem kn_385 : (Jvm.Cond.castable "java/lang/IndexOutOfBoundsException" "java/lang/IndexOutOfBoundsException") ∈ lw_tbl := List.mem_append_right _ (tb_c2 _ (List.mem_of_getElem? (i := 145) (by decide +kernel)))
theorem kn_1201 : (Jvm.Cond.castable "java/lang/IndexOutOfBoundsException" "java/lang/Object") ∈ lw_tbl := List.mem_append_right _ (tb_c6 _ (List.mem_of_getElem? (i := 1) (by decide +kernel)))
theorem kn_1206 : (Jvm.Cond.castable "java/lang/String" "java/lang/Object") ∈ lw_tbl := List.mem_append_right _ (tb_c6 _ (List.mem_of_getElem? (i := 6) (by decide +kernel)))
theorem kn_1205 : (Jvm.Cond.castable "java/lang/Throwable" "java/lang/Object") ∈ lw_tbl := List.mem_append_right _ (tb_c6 _ (List.mem_of_getElem? (i := 5) (by decide +kernel)))
theorem kn_1193 : (Jvm.Cond.castable "java/util/ArrayList" "java/lang/Object") ∈ lw_tbl := List.mem_append_right _ (tb_c5 _ (List.mem_of_getElem? (i := 233) (by decide +kernel)))
theorem kn_639 : (Jvm.Cond.methodLinkNest "RainIndex$SeasonRain" (15 : Nat) ({ cls := "RainIndex", name := "firstDay", desc := "(I)I" } : Jvm.MethodName) "RainIndex") ∈ lw_tbl := List.mem_append_right _ (tb_c3 _ (List.mem_of_getElem? (i := 159) (by decide +kernel)))
theorem kn_78 : (Jvm.Cond.methodLinkNest "RainIndex" (18 : Nat) ({ cls := "RainIndex$SeasonRain", name := "<init>", desc := "()V" } : Jvm.MethodName) "RainIndex") ∈ lw_tbl := List.mem_append_right _ (tb_c1 _ (List.mem_of_getElem? (i := 78) (by decide +kernel)))
theorem kn_91 : (Jvm.Cond.methodLinkNest "RainIndex" (38 : Nat) ({ cls := "RainIndex$Books", name := "<init>", desc := "()V" } : Jvm.MethodName) "RainIndex") ∈ lw_tbl := List.mem_append_right _ (tb_c1 _ (List.mem_of_getElem? (i := 91) (by decide +kernel)))
theorem kn_37 : (Jvm.Cond.methodLinkNest "RainIndex" (9 : Nat) ({ cls := "RainIndex$Weather", name := "<init>", desc := "()V" } : Jvm.MethodName) "RainIndex") ∈ lw_tbl := List.mem_append_right _ (tb_c1 _ (List.mem_of_getElem? (i := 37) (by decide +kernel)))
theorem dv_0 : ∀ k, k < 3 → defaultValue (tyJx4a65c k) = if isRf 0 k then Value.null else Value.int 0 := by decide +kernel
theorem dv_1 : ∀ k, k < 4 → defaultValue (tyX0 k) = if isRf 1 k then Value.null else Value.int 0 := by decide +kernel
theorem dv_2 : ∀ k, k < 12 → defaultValue (tyX1 k) = if isRf 2 k then Value.null else Value.int 0 := by decide +kernel
theorem dv_3 : ∀ k, k < 7 → defaultValue (tyX2 k) = if isRf 3 k then Value.null else Value.int 0 := by decide +kernel
theorem dv_4 : ∀ k, k < 5 → defaultValue (tyX3 k) = if isRf 4 k then Value.null else Value.int 0 := by decide +kernel
theorem dv_5 : ∀ k, k < 3 → defaultValue (tyX4 k) = if isRf 5 k then Value.null else Value.int 0 := by decide +kernel
theorem dv_6 : ∀ k, k < 1 → defaultValue (tyX5 k) = if isRf 6 k then Value.null else Value.int 0 := by decide +kernel
theorem dv_7 : ∀ k, k < 5 → defaultValue (tyX6 k) = if isRf 7 k then Value.null else Value.int 0 := by decide +kernel
theorem dv_8 : ∀ k, k < 4 → defaultValue (tyX7 k) = if isRf 8 k then Value.null else Value.int 0 := by decide +kernel
theorem dv_9 : ∀ k, k < 2 → defaultValue (tyX8 k) = if isRf 9 k then Value.null else Value.int 0 := by decide +kernel
theorem dv_10 : ∀ k, k < 12 → defaultValue (tyX9 k) = if isRf 10 k then Value.null else Value.int 0 := by decide +kernel
theorem dv_11 : ∀ k, k < 30 → defaultValue (tyX10 k) = if isRf 11 k then Value.null else Value.int 0 := by decide +kernel
theorem mt_X0_init : MthI yX0_init cX0_init 1 0 := ⟨⟨k_93, k_7, by decide, by decide, by decide +kernel⟩, k_92, rfl⟩
theorem mt_X0_tell : MthV yX0_tell cX0_tell 2 (some .int) 1 := ⟨⟨k_908, k_7, by decide, by decide, by decide +kernel⟩, k_906, k_907⟩
theorem mt_X1_init : MthI yX1_init cX1_init 7 6 := ⟨⟨k_690, k_26, by decide, by decide, by decide +kernel⟩, k_689, rfl⟩
theorem mt_X1_isOf : MthV yX1_isOf cX1_isOf 3 (some .boolean) 2 := ⟨⟨k_808, k_26, by decide, by decide, by decide +kernel⟩, k_806, k_807⟩
theorem mt_X1_dueBy : MthV yX1_dueBy cX1_dueBy 2 (some .int) 1 := ⟨⟨k_753, k_26, by decide, by decide, by decide +kernel⟩, k_751, k_752⟩
theorem mt_X1_payMore : MthV yX1_payMore cX1_payMore 3 (some .int) 1 := ⟨⟨k_817, k_26, by decide, by decide, by decide +kernel⟩, k_815, k_816⟩
theorem mt_X1_tell : MthV yX1_tell cX1_tell 2 (some .int) 1 := ⟨⟨k_879, k_26, by decide, by decide, by decide +kernel⟩, k_877, k_878⟩
theorem mt_X2_init : MthI yX2_init cX2_init 3 2 := ⟨⟨k_529, k_25, by decide, by decide, by decide +kernel⟩, k_528, rfl⟩
theorem mt_X2_lossIn : MthV yX2_lossIn cX2_lossIn 2 (some .int) 1 := ⟨⟨k_774, k_25, by decide, by decide, by decide +kernel⟩, k_772, k_773⟩
theorem mt_X2_receive : MthV yX2_receive cX2_receive 3 (some .int) 1 := ⟨⟨k_765, k_25, by decide, by decide, by decide +kernel⟩, k_763, k_764⟩
theorem mt_X2_judge : MthV yX2_judge cX2_judge 3 none 2 := ⟨⟨k_770, k_25, by decide, by decide, by decide +kernel⟩, k_768, k_769⟩
theorem mt_X2_tell : MthV yX2_tell cX2_tell 2 (some .int) 1 := ⟨⟨k_897, k_25, by decide, by decide, by decide +kernel⟩, k_895, k_896⟩
theorem mt_X3_init : MthI yX3_init cX3_init 6 5 := ⟨⟨k_470, k_24, by decide, by decide, by decide +kernel⟩, k_469, rfl⟩
theorem mt_X3_look : MthV yX3_look cX3_look 3 (some .int) 2 := ⟨⟨k_671, k_24, by decide, by decide, by decide +kernel⟩, k_669, k_670⟩
theorem mt_X3_pays : MthV yX3_pays cX3_pays 4 (some .int) 1 := ⟨⟨k_677, k_24, by decide, by decide, by decide +kernel⟩, k_675, k_676⟩
theorem mt_X4_init : MthI yX4_init cX4_init 2 1 := ⟨⟨k_116, k_8, by decide, by decide, by decide +kernel⟩, k_115, rfl⟩
theorem mt_X4_startOf : MthV yX4_startOf cX4_startOf 6 (some .int) 2 := ⟨⟨k_651, k_8, by decide, by decide, by decide +kernel⟩, k_649, k_650⟩
theorem mt_X4_rateIn : MthV yX4_rateIn cX4_rateIn 6 (some .int) 1 := ⟨⟨k_647, k_8, by decide, by decide, by decide +kernel⟩, k_645, k_646⟩
theorem mt_X5_init : MthI yX5_init cX5_init 1 0 := ⟨⟨k_80, k_6, by decide, by decide, by decide +kernel⟩, k_79, rfl⟩
theorem mt_X5_fill : MthV yX5_fill cX5_fill 7 none 5 := ⟨⟨k_638, k_6, by decide, by decide, by decide +kernel⟩, k_636, k_637⟩
theorem mt_X5_sum : MthV yX5_sum cX5_sum 5 (some .int) 2 := ⟨⟨k_659, k_6, by decide, by decide, by decide +kernel⟩, k_657, k_658⟩
theorem mt_X5_drySpell : MthV yX5_drySpell cX5_drySpell 6 (some .int) 2 := ⟨⟨k_664, k_6, by decide, by decide, by decide +kernel⟩, k_662, k_663⟩
theorem mt_X5_start : MthV yX5_start cX5_start 2 (some .int) 0 := ⟨⟨k_655, k_6, by decide, by decide, by decide +kernel⟩, k_653, k_654⟩
theorem mt_X6_init : MthI yX6_init cX6_init 4 3 := ⟨⟨k_284, k_16, by decide, by decide, by decide +kernel⟩, k_283, rfl⟩
theorem mt_X6_distanceTo : MthV yX6_distanceTo cX6_distanceTo 3 (some .int) 2 := ⟨⟨k_523, k_16, by decide, by decide, by decide +kernel⟩, k_521, k_522⟩
theorem mt_X6_keep : MthV yX6_keep cX6_keep 4 none 3 := ⟨⟨k_425, k_16, by decide, by decide, by decide +kernel⟩, k_423, k_424⟩
theorem mt_X6_datum : MthV yX6_datum cX6_datum 5 (some .int) 3 := ⟨⟨k_421, k_16, by decide, by decide, by decide +kernel⟩, k_419, k_420⟩
theorem mt_X7_init : MthI yX7_init cX7_init 4 3 := ⟨⟨k_429, k_23, by decide, by decide, by decide +kernel⟩, k_428, rfl⟩
theorem mt_X8_init : MthI yX8_init cX8_init 1 0 := ⟨⟨k_39, k_2, by decide, by decide, by decide +kernel⟩, k_38, rfl⟩
theorem mt_X8_tell : MthV yX8_tell cX8_tell 5 (some .int) 3 := ⟨⟨k_417, k_2, by decide, by decide, by decide +kernel⟩, k_415, k_416⟩
theorem mt_X8_nearestTo : MthV yX8_nearestTo cX8_nearestTo 6 (some (.object "RainIndex$Station")) 2 := ⟨⟨k_516, k_2, by decide, by decide, by decide +kernel⟩, k_514, k_515⟩
theorem mt_X8_rainOn : MthV yX8_rainOn cX8_rainOn 10 (some .int) 4 := ⟨⟨k_643, k_2, by decide, by decide, by decide +kernel⟩, k_641, k_642⟩
theorem mt_X9_init : MthI yX9_init cX9_init 1 0 := ⟨⟨k_31, k_1, by decide, by decide, by decide +kernel⟩, k_30, rfl⟩
theorem mt_X9_station : MthV yX9_station cX9_station 3 (some .int) 2 := ⟨⟨k_185, k_1, by decide, by decide, by decide +kernel⟩, k_183, k_184⟩
theorem mt_X9_rain : MthV yX9_rain cX9_rain 5 (some .int) 3 := ⟨⟨k_378, k_1, by decide, by decide, by decide +kernel⟩, k_376, k_377⟩
theorem mt_X9_pass : MthV yX9_pass cX9_pass 2 (some .int) 1 := ⟨⟨k_454, k_1, by decide, by decide, by decide +kernel⟩, k_452, k_453⟩
theorem mt_X9_phase : MthV yX9_phase cX9_phase 6 (some .int) 5 := ⟨⟨k_463, k_1, by decide, by decide, by decide +kernel⟩, k_461, k_462⟩
theorem mt_X9_product : MthV yX9_product cX9_product 2 (some .int) 1 := ⟨⟨k_496, k_1, by decide, by decide, by decide +kernel⟩, k_494, k_495⟩
theorem mt_X9_farm : MthV yX9_farm cX9_farm 4 (some .int) 2 := ⟨⟨k_512, k_1, by decide, by decide, by decide +kernel⟩, k_510, k_511⟩
theorem mt_X9_lend : MthV yX9_lend cX9_lend 4 (some .int) 2 := ⟨⟨k_568, k_1, by decide, by decide, by decide +kernel⟩, k_566, k_567⟩
theorem mt_X9_loading : MthV yX9_loading cX9_loading 3 (some .int) 1 := ⟨⟨k_583, k_1, by decide, by decide, by decide +kernel⟩, k_581, k_582⟩
theorem mt_X9_layer : MthV yX9_layer cX9_layer 4 (some .int) 2 := ⟨⟨k_591, k_1, by decide, by decide, by decide +kernel⟩, k_589, k_590⟩
theorem mt_X9_sell : MthV yX9_sell cX9_sell 9 (some .int) 4 := ⟨⟨k_599, k_1, by decide, by decide, by decide +kernel⟩, k_597, k_598⟩
theorem mt_X9_settle : MthV yX9_settle cX9_settle 3 (some .int) 1 := ⟨⟨k_744, k_1, by decide, by decide, by decide +kernel⟩, k_742, k_743⟩
theorem mt_X9_loss : MthV yX9_loss cX9_loss 6 (some .int) 3 := ⟨⟨k_783, k_1, by decide, by decide, by decide +kernel⟩, k_781, k_782⟩
theorem mt_X9_complain : MthV yX9_complain cX9_complain 5 (some .int) 2 := ⟨⟨k_795, k_1, by decide, by decide, by decide +kernel⟩, k_793, k_794⟩
theorem mt_X9_day : MthV yX9_day cX9_day 1 (some .int) 0 := ⟨⟨k_176, k_1, by decide, by decide, by decide +kernel⟩, k_174, k_175⟩
theorem mt_X9_filled : MthV yX9_filled cX9_filled 5 (some .int) 3 := ⟨⟨k_825, k_1, by decide, by decide, by decide +kernel⟩, k_823, k_824⟩
theorem mt_X9_onset : MthV yX9_onset cX9_onset 6 (some .int) 3 := ⟨⟨k_834, k_1, by decide, by decide, by decide +kernel⟩, k_832, k_833⟩
theorem mt_X9_index : MthV yX9_index cX9_index 7 (some .int) 4 := ⟨⟨k_842, k_1, by decide, by decide, by decide +kernel⟩, k_840, k_841⟩
theorem mt_X9_rate : MthV yX9_rate cX9_rate 5 (some .int) 3 := ⟨⟨k_852, k_1, by decide, by decide, by decide +kernel⟩, k_850, k_851⟩
theorem mt_X9_priced : MthV yX9_priced cX9_priced 3 (some .int) 2 := ⟨⟨k_859, k_1, by decide, by decide, by decide +kernel⟩, k_857, k_858⟩
theorem mt_X9_cover : MthV yX9_cover cX9_cover 4 (some .int) 2 := ⟨⟨k_866, k_1, by decide, by decide, by decide +kernel⟩, k_864, k_865⟩
theorem mt_X9_dueAnew : MthV yX9_dueAnew cX9_dueAnew 3 (some .int) 1 := ⟨⟨k_886, k_1, by decide, by decide, by decide +kernel⟩, k_884, k_885⟩
theorem mt_X9_told : MthV yX9_told cX9_told 4 (some .int) 2 := ⟨⟨k_893, k_1, by decide, by decide, by decide +kernel⟩, k_891, k_892⟩
theorem mt_X9_books : MthV yX9_books cX9_books 2 (some .int) 1 := ⟨⟨k_904, k_1, by decide, by decide, by decide +kernel⟩, k_902, k_903⟩
theorem mt_X9_isWithin : MthS yX9_isWithin cX9_isWithin 3 (some .boolean) 3 := ⟨⟨k_191, k_1, by decide, by decide, by decide +kernel⟩, k_190⟩
theorem mt_X9_testPlace : MthS yX9_testPlace cX9_testPlace 2 none 2 := ⟨⟨k_188, k_1, by decide, by decide, by decide +kernel⟩, k_187⟩
theorem mt_X9_testKnown : MthS yX9_testKnown cX9_testKnown 1 none 1 := ⟨⟨k_499, k_1, by decide, by decide, by decide +kernel⟩, k_498⟩
theorem mt_X9_testWhat : MthS yX9_testWhat cX9_testWhat 2 none 2 := ⟨⟨k_874, k_1, by decide, by decide, by decide +kernel⟩, k_873⟩
theorem mt_X9_testSeason : MthS yX9_testSeason cX9_testSeason 1 none 1 := ⟨⟨k_607, k_1, by decide, by decide, by decide +kernel⟩, k_606⟩
theorem mt_X9_stationNumbered : MthV yX9_stationNumbered cX9_stationNumbered 2 (some (.object "RainIndex$Station")) 1 := ⟨⟨k_382, k_1, by decide, by decide, by decide +kernel⟩, k_381, ks_4⟩
theorem mt_X9_productNumbered : MthV yX9_productNumbered cX9_productNumbered 2 (some (.object "RainIndex$Product")) 1 := ⟨⟨k_603, k_1, by decide, by decide, by decide +kernel⟩, k_602, ks_6⟩
theorem mt_X9_farmNumbered : MthV yX9_farmNumbered cX9_farmNumbered 2 (some (.object "RainIndex$Farm")) 1 := ⟨⟨k_572, k_1, by decide, by decide, by decide +kernel⟩, k_571, ks_5⟩
theorem mt_X9_coverNumbered : MthV yX9_coverNumbered cX9_coverNumbered 2 (some (.object "RainIndex$Cover")) 1 := ⟨⟨k_870, k_1, by decide, by decide, by decide +kernel⟩, k_869, ks_20⟩
theorem mt_X9_firstDay : MthS yX9_firstDay cX9_firstDay 1 (some .int) 1 := ⟨⟨k_616, k_1, by decide, by decide, by decide +kernel⟩, k_615⟩
theorem mt_X9_hasBegun : MthV yX9_hasBegun cX9_hasBegun 2 (some .boolean) 1 := ⟨⟨k_787, k_1, by decide, by decide, by decide +kernel⟩, k_786, ks_16⟩
theorem mt_X9_isOver : MthV yX9_isOver cX9_isOver 2 (some .boolean) 1 := ⟨⟨k_630, k_1, by decide, by decide, by decide +kernel⟩, k_629, ks_10⟩
theorem mt_X9_isOnSale : MthV yX9_isOnSale cX9_isOnSale 2 (some .boolean) 1 := ⟨⟨k_613, k_1, by decide, by decide, by decide +kernel⟩, k_612, ks_7⟩
theorem mt_X9_rateBy : MthV yX9_rateBy cX9_rateBy 5 (some .int) 4 := ⟨⟨k_634, k_1, by decide, by decide, by decide +kernel⟩, k_633, ks_11⟩
theorem mt_X9_pricesRate : MthV yX9_pricesRate cX9_pricesRate 6 (some .int) 2 := ⟨⟨k_626, k_1, by decide, by decide, by decide +kernel⟩, k_625, ks_9⟩
theorem mt_X9_priceOf : MthV yX9_priceOf cX9_priceOf 4 (some .int) 2 := ⟨⟨k_682, k_1, by decide, by decide, by decide +kernel⟩, k_681, ks_12⟩
theorem mt_X9_stateShare : MthS yX9_stateShare cX9_stateShare 2 (some .int) 2 := ⟨⟨k_685, k_1, by decide, by decide, by decide +kernel⟩, k_684⟩
theorem mt_X9_coverOf : MthV yX9_coverOf cX9_coverOf 5 (some (.object "RainIndex$Cover")) 2 := ⟨⟨k_620, k_1, by decide, by decide, by decide +kernel⟩, k_619, ks_8⟩
theorem mt_X9_findDues : MthV yX9_findDues cX9_findDues 5 (some .int) 1 := ⟨⟨k_749, k_1, by decide, by decide, by decide +kernel⟩, k_748, ks_13⟩
theorem mt_X9_payOut : MthV yX9_payOut cX9_payOut 6 (some .int) 2 := ⟨⟨k_757, k_1, by decide, by decide, by decide +kernel⟩, k_756, ks_14⟩
theorem mt_X9_cutToCap : MthV yX9_cutToCap cX9_cutToCap 4 (some .int) 2 := ⟨⟨k_761, k_1, by decide, by decide, by decide +kernel⟩, k_760, ks_15⟩
theorem mt_X9_lookAgain : MthV yX9_lookAgain cX9_lookAgain 7 (some .int) 2 := ⟨⟨k_800, k_1, by decide, by decide, by decide +kernel⟩, k_799, ks_17⟩
theorem mt_X9_meanLoss : MthV yX9_meanLoss cX9_meanLoss 7 (some .int) 2 := ⟨⟨k_804, k_1, by decide, by decide, by decide +kernel⟩, k_803, ks_18⟩
theorem mt_X9_mostComplained : MthV yX9_mostComplained cX9_mostComplained 7 (some .boolean) 2 := ⟨⟨k_813, k_1, by decide, by decide, by decide +kernel⟩, k_812, ks_19⟩
theorem mt_X10_init : MthI yX10_init cX10_init 1 0 := ⟨⟨k_913, k_10, by decide, by decide, by decide +kernel⟩, k_912, rfl⟩
theorem mt_X10_thrown : MthV yX10_thrown cX10_thrown 1 (some .int) 0 := ⟨⟨k_1009, k_10, by decide, by decide, by decide +kernel⟩, k_1007, k_1008⟩
theorem mt_X10_in : MthS yX10_in cX10_in 3 (some .boolean) 3 := ⟨⟨k_1016, k_10, by decide, by decide, by decide +kernel⟩, k_1015⟩
theorem mt_X10_goes : MthV yX10_goes cX10_goes 4 (some .boolean) 3 := ⟨⟨k_1020, k_10, by decide, by decide, by decide +kernel⟩, k_1019, ks_21⟩
theorem mt_X10_isStation : MthV yX10_isStation cX10_isStation 2 (some .boolean) 1 := ⟨⟨k_1028, k_10, by decide, by decide, by decide +kernel⟩, k_1027, ks_22⟩
theorem mt_X10_isSeason : MthS yX10_isSeason cX10_isSeason 1 (some .boolean) 1 := ⟨⟨k_1055, k_10, by decide, by decide, by decide +kernel⟩, k_1054⟩
theorem mt_X10_isProduct : MthV yX10_isProduct cX10_isProduct 2 (some .boolean) 1 := ⟨⟨k_1083, k_10, by decide, by decide, by decide +kernel⟩, k_1082, ks_28⟩
theorem mt_X10_isFarm : MthV yX10_isFarm cX10_isFarm 2 (some .boolean) 1 := ⟨⟨k_1126, k_10, by decide, by decide, by decide +kernel⟩, k_1125, ks_34⟩
theorem mt_X10_lesser : MthS yX10_lesser cX10_lesser 2 (some .int) 2 := ⟨⟨k_1102, k_10, by decide, by decide, by decide +kernel⟩, k_1101⟩
theorem mt_X10_station : MthV yX10_station cX10_station 3 (some .int) 2 := ⟨⟨k_1013, k_10, by decide, by decide, by decide +kernel⟩, k_1011, k_1012⟩
theorem mt_X10_rain : MthV yX10_rain cX10_rain 6 (some .int) 3 := ⟨⟨k_1024, k_10, by decide, by decide, by decide +kernel⟩, k_1022, k_1023⟩
theorem mt_X10_pass : MthV yX10_pass cX10_pass 3 (some .int) 1 := ⟨⟨k_1032, k_10, by decide, by decide, by decide +kernel⟩, k_1030, k_1031⟩
theorem mt_X10_day : MthV yX10_day cX10_day 1 (some .int) 0 := ⟨⟨k_1036, k_10, by decide, by decide, by decide +kernel⟩, k_1034, k_1035⟩
theorem mt_X10_off : MthV yX10_off cX10_off 4 (some .int) 3 := ⟨⟨k_1048, k_10, by decide, by decide, by decide +kernel⟩, k_1047, ks_24⟩
theorem mt_X10_rainOn : MthV yX10_rainOn cX10_rainOn 8 (some .int) 3 := ⟨⟨k_1044, k_10, by decide, by decide, by decide +kernel⟩, k_1043, ks_23⟩
theorem mt_X10_filled : MthV yX10_filled cX10_filled 5 (some .int) 3 := ⟨⟨k_1040, k_10, by decide, by decide, by decide +kernel⟩, k_1038, k_1039⟩
theorem mt_X10_lays : MthV yX10_lays cX10_lays 5 none 3 := ⟨⟨k_1059, k_10, by decide, by decide, by decide +kernel⟩, k_1058, ks_25⟩
theorem mt_X10_isFalse : MthV yX10_isFalse cX10_isFalse 5 (some .boolean) 1 := ⟨⟨k_1067, k_10, by decide, by decide, by decide +kernel⟩, k_1066, ks_27⟩
theorem mt_X10_beginning : MthV yX10_beginning cX10_beginning 2 (some .int) 0 := ⟨⟨k_1063, k_10, by decide, by decide, by decide +kernel⟩, k_1062, ks_26⟩
theorem mt_X10_onset : MthV yX10_onset cX10_onset 4 (some .int) 3 := ⟨⟨k_1052, k_10, by decide, by decide, by decide +kernel⟩, k_1050, k_1051⟩
theorem mt_X10_phase : MthV yX10_phase cX10_phase 8 (some .int) 5 := ⟨⟨k_1071, k_10, by decide, by decide, by decide +kernel⟩, k_1069, k_1070⟩
theorem mt_X10_product : MthV yX10_product cX10_product 3 (some .int) 1 := ⟨⟨k_1075, k_10, by decide, by decide, by decide +kernel⟩, k_1073, k_1074⟩
theorem mt_X10_looksAt : MthV yX10_looksAt cX10_looksAt 10 (some .int) 2 := ⟨⟨k_1087, k_10, by decide, by decide, by decide +kernel⟩, k_1086, ks_29⟩
theorem mt_X10_pays : MthV yX10_pays cX10_pays 7 (some .int) 2 := ⟨⟨k_1099, k_10, by decide, by decide, by decide +kernel⟩, k_1098, ks_31⟩
theorem mt_X10_rateOf : MthV yX10_rateOf cX10_rateOf 6 (some .int) 3 := ⟨⟨k_1095, k_10, by decide, by decide, by decide +kernel⟩, k_1094, ks_30⟩
theorem mt_X10_index : MthV yX10_index cX10_index 6 (some .int) 4 := ⟨⟨k_1079, k_10, by decide, by decide, by decide +kernel⟩, k_1077, k_1078⟩
theorem mt_X10_rate : MthV yX10_rate cX10_rate 4 (some .int) 3 := ⟨⟨k_1091, k_10, by decide, by decide, by decide +kernel⟩, k_1089, k_1090⟩
theorem mt_X10_isOver : MthV yX10_isOver cX10_isOver 2 (some .boolean) 1 := ⟨⟨k_1114, k_10, by decide, by decide, by decide +kernel⟩, k_1113, ks_33⟩
theorem mt_X10_pricedOf : MthV yX10_pricedOf cX10_pricedOf 6 (some .int) 2 := ⟨⟨k_1110, k_10, by decide, by decide, by decide +kernel⟩, k_1109, ks_32⟩
theorem mt_X10_priced : MthV yX10_priced cX10_priced 3 (some .int) 2 := ⟨⟨k_1106, k_10, by decide, by decide, by decide +kernel⟩, k_1104, k_1105⟩
theorem mt_X10_farm : MthV yX10_farm cX10_farm 5 (some .int) 2 := ⟨⟨k_1118, k_10, by decide, by decide, by decide +kernel⟩, k_1116, k_1117⟩
theorem mt_X10_lend : MthV yX10_lend cX10_lend 5 (some .int) 2 := ⟨⟨k_1122, k_10, by decide, by decide, by decide +kernel⟩, k_1120, k_1121⟩
theorem mt_X10_loading : MthV yX10_loading cX10_loading 3 (some .int) 1 := ⟨⟨k_1131, k_10, by decide, by decide, by decide +kernel⟩, k_1129, k_1130⟩
theorem mt_X10_layer : MthV yX10_layer cX10_layer 4 (some .int) 2 := ⟨⟨k_1135, k_10, by decide, by decide, by decide +kernel⟩, k_1133, k_1134⟩
theorem mt_X10_coverOf : MthV yX10_coverOf cX10_coverOf 5 (some .int) 2 := ⟨⟨k_1143, k_10, by decide, by decide, by decide +kernel⟩, k_1142, ks_35⟩
theorem mt_X10_sell : MthV yX10_sell cX10_sell 11 (some .int) 4 := ⟨⟨k_1139, k_10, by decide, by decide, by decide +kernel⟩, k_1137, k_1138⟩
theorem mt_X10_trusts : MthV yX10_trusts cX10_trusts 6 none 3 := ⟨⟨k_1151, k_10, by decide, by decide, by decide +kernel⟩, k_1150, ks_36⟩
theorem mt_X10_settle : MthV yX10_settle cX10_settle 12 (some .int) 1 := ⟨⟨k_1147, k_10, by decide, by decide, by decide +kernel⟩, k_1145, k_1146⟩
theorem mt_X10_loss : MthV yX10_loss cX10_loss 6 (some .int) 3 := ⟨⟨k_1155, k_10, by decide, by decide, by decide +kernel⟩, k_1153, k_1154⟩
theorem mt_X10_isOf : MthV yX10_isOf cX10_isOf 4 (some .boolean) 3 := ⟨⟨k_1167, k_10, by decide, by decide, by decide +kernel⟩, k_1166, ks_38⟩
theorem mt_X10_looks : MthV yX10_looks cX10_looks 11 (some .int) 2 := ⟨⟨k_1163, k_10, by decide, by decide, by decide +kernel⟩, k_1162, ks_37⟩
theorem mt_X10_complain : MthV yX10_complain cX10_complain 5 (some .int) 2 := ⟨⟨k_1159, k_10, by decide, by decide, by decide +kernel⟩, k_1157, k_1158⟩
theorem mt_X10_cover : MthV yX10_cover cX10_cover 3 (some .int) 2 := ⟨⟨k_1171, k_10, by decide, by decide, by decide +kernel⟩, k_1169, k_1170⟩
theorem mt_X10_dueAnew : MthV yX10_dueAnew cX10_dueAnew 2 (some .int) 1 := ⟨⟨k_1175, k_10, by decide, by decide, by decide +kernel⟩, k_1173, k_1174⟩
theorem mt_X10_told : MthV yX10_told cX10_told 3 (some .int) 2 := ⟨⟨k_1179, k_10, by decide, by decide, by decide +kernel⟩, k_1177, k_1178⟩
theorem mt_X10_sumOf : MthV yX10_sumOf cX10_sumOf 4 (some .int) 1 := ⟨⟨k_1187, k_10, by decide, by decide, by decide +kernel⟩, k_1186, ks_39⟩
theorem mt_X10_books : MthV yX10_books cX10_books 2 (some .int) 1 := ⟨⟨k_1183, k_10, by decide, by decide, by decide +kernel⟩, k_1181, k_1182⟩
theorem mt_Jxa1e45_init_da8c8 : MthI yJxa1e45_init_da8c8 cJxa1e45_init_da8c8 1 0 := ⟨⟨k_51, k_3, by decide, by decide, by decide +kernel⟩, k_50, rfl⟩
theorem mt_Jxc12de_init_da8c8 : MthI yJxc12de_init_da8c8 cJxc12de_init_da8c8 1 0 := ⟨⟨k_48, k_4, by decide, by decide, by decide +kernel⟩, k_47, rfl⟩
theorem mt_Jx4a65c_init_da8c8 : MthI yJx4a65c_init_da8c8 cJx4a65c_init_da8c8 1 0 := ⟨⟨k_45, k_5, by decide, by decide, by decide +kernel⟩, k_44, rfl⟩
theorem mt_Jx4a65c_grow_92f84 : MthV yJx4a65c_grow_92f84 cJx4a65c_grow_92f84 4 (some (.array (.object "java/lang/Object"))) 1 := ⟨⟨k_324, k_5, by decide, by decide, by decide +kernel⟩, k_323, ks_3⟩
theorem mt_Jx4a65c_grow_d5877 : MthV yJx4a65c_grow_d5877 cJx4a65c_grow_d5877 1 (some (.array (.object "java/lang/Object"))) 0 := ⟨⟨k_320, k_5, by decide, by decide, by decide +kernel⟩, k_319, ks_2⟩
theorem mt_Jx4a65c_size_8abf5 : MthV yJx4a65c_size_8abf5 cJx4a65c_size_8abf5 1 (some .int) 0 := ⟨⟨k_263, k_5, by decide, by decide, by decide +kernel⟩, k_261, k_262⟩
theorem mt_Jx4a65c_isEmpty_aae02 : MthV yJx4a65c_isEmpty_aae02 cJx4a65c_isEmpty_aae02 1 (some .boolean) 0 := ⟨⟨k_504, k_5, by decide, by decide, by decide +kernel⟩, k_502, k_503⟩
theorem mt_Jx4a65c_elementData_915e3 : MthV yJx4a65c_elementData_915e3 cJx4a65c_elementData_915e3 2 (some (.object "java/lang/Object")) 1 := ⟨⟨k_412, k_5, by decide, by decide, by decide +kernel⟩, k_410, k_411⟩
theorem mt_Jx4a65c_get_915e3 : MthV yJx4a65c_get_915e3 cJx4a65c_get_915e3 2 (some (.object "java/lang/Object")) 1 := ⟨⟨k_402, k_5, by decide, by decide, by decide +kernel⟩, k_400, k_401⟩
theorem mt_Jx4a65c_add_72be8 : MthV yJx4a65c_add_72be8 cJx4a65c_add_72be8 4 none 3 := ⟨⟨k_316, k_5, by decide, by decide, by decide +kernel⟩, k_315, ks_1⟩
theorem mt_Jx4a65c_add_9ea2d : MthV yJx4a65c_add_9ea2d cJx4a65c_add_9ea2d 2 (some .boolean) 1 := ⟨⟨k_312, k_5, by decide, by decide, by decide +kernel⟩, k_310, k_311⟩
theorem mt_J7_fill_53178 : MthS yJ7_fill_53178 cJ7_fill_53178 4 none 2 := ⟨⟨k_135, k_9, by decide, by decide, by decide +kernel⟩, k_134⟩
theorem mt_J7_copyOf_1904c : MthS yJ7_copyOf_1904c cJ7_copyOf_1904c 2 (some (.array (.object "java/lang/Object"))) 2 := ⟨⟨k_337, k_9, by decide, by decide, by decide +kernel⟩, k_336⟩
theorem mt_J7_copyOf_6403c : MthS yJ7_copyOf_6403c cJ7_copyOf_6403c 4 (some (.array (.object "java/lang/Object"))) 3 := ⟨⟨k_359, k_9, by decide, by decide, by decide +kernel⟩, k_358⟩
theorem mt_J15_checkIndex_7cf53 : MthS yJ15_checkIndex_7cf53 cJ15_checkIndex_7cf53 2 (some .int) 2 := ⟨⟨k_405, k_21, by decide, by decide, by decide +kernel⟩, k_404⟩
theorem mt_J8_newLength_cabcc : MthS yJ8_newLength_cabcc cJ8_newLength_cabcc 4 (some .int) 3 := ⟨⟨k_327, k_17, by decide, by decide, by decide +kernel⟩, k_326⟩
theorem mt_J8_hugeLength_7cf53 : MthS yJ8_hugeLength_7cf53 cJ8_hugeLength_7cf53 3 (some .int) 2 := ⟨⟨k_334, k_17, by decide, by decide, by decide +kernel⟩, k_333⟩
theorem mt_J3_checkIndex_8e157 : MthS yJ3_checkIndex_8e157 cJ3_checkIndex_8e157 3 (some .int) 3 := ⟨⟨k_408, k_22, by decide, by decide, by decide +kernel⟩, k_407⟩
theorem th_X9_93 : ThOk RX9 93 "java/lang/IllegalStateException" ["java/lang/RuntimeException", "java/lang/Exception"] := ThOk.of (by decide +kernel) (by decide +kernel) (by decide +kernel)
theorem th_X9_117 : ThOk RX9 117 "java/lang/IllegalArgumentException" ["java/lang/RuntimeException", "java/lang/Exception"] := ThOk.of (by decide +kernel) (by decide +kernel) (by decide +kernel)
theorem th_X9_291 : ThOk RX9 291 "java/lang/IndexOutOfBoundsException" ["java/lang/RuntimeException", "java/lang/Exception"] := ThOk.of (by decide +kernel) (by decide +kernel) (by decide +kernel)
def bI (b : Bool) : Int32 := if b then 1 else 0
theorem bI_t : bI true = 1 := rfl
theorem bI_f : bI false = 0 := rfl
theorem bI_0 {b : Bool} : bI b = 0 ↔ b = false := by cases b <;> simp [bI]
theorem bI_n0 {b : Bool} : ¬ bI b = 0 ↔ b = true := by cases b <;> simp [bI]
theorem bI_nar (b : Bool) : narrow .boolean (.int (bI b)) = .int (bI b) := by cases b <;> rfl
theorem bI_fit (b : Bool) : fits .boolean (.int (bI b)) = true := by cases b <;> rfl
theorem bI_vp (b : Bool) : vp_nar .boolean (bI b) = bI b := by cases b <;> rfl
def inR (n lo hi : Int32) : Bool := decide (lo ≤ n) && decide (n ≤ hi)
theorem g_lv2 {p : Program} {l : Launch} {e : Env} {R : Room} {s : State} {m : MethodId} {args : Array Value} {below : List Frame} {meth : Method} {c : Code} {D : va_G} {cy : Nat → ClassId} {z nL : Nat} {w : Wd} {kc ns pc : Nat} {lv : List (Nat × Value)} {st : List Value} {Q : State → Prop} (lv' : List (Nat × Value)) (h : lv'.map (fun q => lvg lv q.1) = lv'.map (fun q => some q.2)) (k : G p l e R s m args below meth c D cy z nL w kc ns pc lv' st Q) : G p l e R s m args below meth c D cy z nL w kc ns pc lv st Q := by
  refine g_lv lv' (fun q hq => ?_) k
  obtain ⟨i, hi⟩ := List.getElem?_of_mem hq
  have h2 := congrArg (fun l => l[i]?) h
  simp only [List.getElem?_map, hi, Option.map_some] at h2
  exact Option.some.inj h2
theorem g_tabIn {p : Program} {l : Launch} {e : Env} {R : Room} {s : State} {m : MethodId} {args : Array Value} {below : List Frame} {meth : Method} {c : Code} {D : va_G} {cy : Nat → ClassId} {z : Nat} {cc : ByteArray} {own : String} {nL : Nat} {ret : Option FieldType} {fr lo mc ms de : Nat} {w : Wd} {kc ns pc : Nat} {lv : List (Nat × Value)} {st : List Value} {Q : State → Prop} (C : Cx p l R s m args meth c D cy z cc own nL ret fr lo mc ms de) {dflt tlo thi : Int} {offs : Array Int} {len : Nat} {x : Int32} {off : Int} (tgt : Nat) {v : Int} (hdg : decode cc pc = .ok (.tableswitch dflt tlo thi offs, len)) (hx : x.toInt = v) (h1 : ¬ v < tlo) (h2 : ¬ thi < v) (ho : offs[(v - tlo).toNat]? = some off) (ht : (pc : Int) + off = (tgt : Int)) (k : G p l e R s m args below meth c D cy z nL w kc ns tgt lv st Q) : G p l e R s m args below meth c D cy z nL w kc ns pc lv (.int x :: st) Q := fun H locs ls hH hS hl => lv_tableIn C.1 C.2.1 hdg (by rw [hx]; exact h1) (by rw [hx]; exact h2) (by rw [hx]; exact ho) ht (k H locs ls hH hS hl)
theorem g_tabOut {p : Program} {l : Launch} {e : Env} {R : Room} {s : State} {m : MethodId} {args : Array Value} {below : List Frame} {meth : Method} {c : Code} {D : va_G} {cy : Nat → ClassId} {z : Nat} {cc : ByteArray} {own : String} {nL : Nat} {ret : Option FieldType} {fr lo mc ms de : Nat} {w : Wd} {kc ns pc : Nat} {lv : List (Nat × Value)} {st : List Value} {Q : State → Prop} (C : Cx p l R s m args meth c D cy z cc own nL ret fr lo mc ms de) {dflt tlo thi : Int} {offs : Array Int} {len : Nat} {x : Int32} (tgt : Nat) (hdg : decode cc pc = .ok (.tableswitch dflt tlo thi offs, len)) (h : x.toInt < tlo ∨ thi < x.toInt) (ht : (pc : Int) + dflt = (tgt : Int)) (k : G p l e R s m args below meth c D cy z nL w kc ns tgt lv st Q) : G p l e R s m args below meth c D cy z nL w kc ns pc lv (.int x :: st) Q := fun H locs ls hH hS hl => lv_tableOut C.1 C.2.1 hdg h ht (k H locs ls hH hS hl)
theorem g_astoreR {p : Program} {l : Launch} {e : Env} {R : Room} {s : State} {m : MethodId} {args : Array Value} {below : List Frame} {meth : Method} {c : Code} {D : va_G} {cy : Nat → ClassId} {z : Nat} {cc : ByteArray} {own : String} {nL : Nat} {ret : Option FieldType} {fr lo mc ms de : Nat} {w : Wd} {kc ns pc : Nat} {lv : List (Nat × Value)} {st : List Value} {Q : State → Prop} (C : Cx p l R s m args meth c D cy z cc own nL ret fr lo mc ms de) {i : Nat} {r : Option Nat} (hdg : decode cc pc = .ok (.astore i, 2)) (hn : i < nL) (k : G p l e R s m args below meth c D cy z nL w kc ns (pc + 2) (lvs lv i (va_rf r)) st Q) : G p l e R s m args below meth c D cy z nL w kc ns pc lv (va_rf r :: st) Q := by
  cases r with
  | none => exact g_astoreN C hdg hn k
  | some x => exact g_astore C hdg hn k
theorem g_astore_nR {p : Program} {l : Launch} {e : Env} {R : Room} {s : State} {m : MethodId} {args : Array Value} {below : List Frame} {meth : Method} {c : Code} {D : va_G} {cy : Nat → ClassId} {z : Nat} {cc : ByteArray} {own : String} {nL : Nat} {ret : Option FieldType} {fr lo mc ms de : Nat} {w : Wd} {kc ns pc : Nat} {lv : List (Nat × Value)} {st : List Value} {Q : State → Prop} (C : Cx p l R s m args meth c D cy z cc own nL ret fr lo mc ms de) {i : Fin 4} {r : Option Nat} (hdg : decode cc pc = .ok (.astore_n i, 1)) (hn : (i : Nat) < nL) (k : G p l e R s m args below meth c D cy z nL w kc ns (pc + 1) (lvs lv (i : Nat) (va_rf r)) st Q) : G p l e R s m args below meth c D cy z nL w kc ns pc lv (va_rf r :: st) Q := by
  cases r with
  | none => exact g_astore_nN C hdg hn k
  | some x => exact g_astore_n C hdg hn k
theorem g_aloadR {p : Program} {l : Launch} {e : Env} {R : Room} {s : State} {m : MethodId} {args : Array Value} {below : List Frame} {meth : Method} {c : Code} {D : va_G} {cy : Nat → ClassId} {z : Nat} {cc : ByteArray} {own : String} {nL : Nat} {ret : Option FieldType} {fr lo mc ms de : Nat} {w : Wd} {kc ns pc : Nat} {lv : List (Nat × Value)} {st : List Value} {Q : State → Prop} (C : Cx p l R s m args meth c D cy z cc own nL ret fr lo mc ms de) {i : Nat} {r : Option Nat} (hdg : decode cc pc = .ok (.aload i, 2)) (hl0 : lvg lv i = some (va_rf r)) (k : G p l e R s m args below meth c D cy z nL w kc ns (pc + 2) lv (va_rf r :: st) Q) : G p l e R s m args below meth c D cy z nL w kc ns pc lv st Q := by
  cases r with
  | none => exact g_aloadN C hdg hl0 k
  | some x => exact g_aload C hdg hl0 k
theorem g_aload_nR {p : Program} {l : Launch} {e : Env} {R : Room} {s : State} {m : MethodId} {args : Array Value} {below : List Frame} {meth : Method} {c : Code} {D : va_G} {cy : Nat → ClassId} {z : Nat} {cc : ByteArray} {own : String} {nL : Nat} {ret : Option FieldType} {fr lo mc ms de : Nat} {w : Wd} {kc ns pc : Nat} {lv : List (Nat × Value)} {st : List Value} {Q : State → Prop} (C : Cx p l R s m args meth c D cy z cc own nL ret fr lo mc ms de) {i : Fin 4} {r : Option Nat} (hdg : decode cc pc = .ok (.aload_n i, 1)) (hl0 : lvg lv (i : Nat) = some (va_rf r)) (k : G p l e R s m args below meth c D cy z nL w kc ns (pc + 1) lv (va_rf r :: st) Q) : G p l e R s m args below meth c D cy z nL w kc ns pc lv st Q := by
  cases r with
  | none => exact g_aload_nN C hdg hl0 k
  | some x => exact g_aload_n C hdg hl0 k
theorem g_getO {p : Program} {l : Launch} {e : Env} {R : Room} {s : State} {m : MethodId} {args : Array Value} {below : List Frame} {meth : Method} {c : Code} {D : va_G} {cy : Nat → ClassId} {z : Nat} {cc : ByteArray} {own : String} {nL : Nat} {ret : Option FieldType} {fr lo mc ms de : Nat} {w : Wd} {kc ns pc : Nat} {lv : List (Nat × Value)} {st : List Value} {Q : State → Prop} (C : Cx p l R s m args meth c D cy z cc own nL ret fr lo mc ms de) {ci N : Nat} {Cn : String} {T : u_T} {ty0 : Nat → FieldType} (hcl : ClsOk ci Cn T N ty0) (K k : Nat) {a index : Nat} (hk : kd w a = K) (hK : okF ci N K k true = true)
    (hlink : Cond.fieldLink own index (T k).1 (T k).2.1 (T k).2.2.1 ∈ TBL) (hdg : decode cc pc = .ok (.getfield index, 3))
    (kk : G p l e R s m args below meth c D cy z nL w kc ns (pc + 3) lv (va_rf (fR w K k a) :: st) Q) : G p l e R s m args below meth c D cy z nL w kc ns pc lv (.ref a :: st) Q := by
  obtain ⟨h1, h2, h3, h4, h5, h6⟩ := okF_spec hK
  refine g_getV C hcl hk hK hlink (fun _ h => h) hdg ?_
  rw [fval_R (by rw [h3]; exact h6)]
  exact kk
/-- what a new cell leaves as it was -/
theorem nw_ne {w : Wd} {q a K : Nat} (h : kd w a = K) (hK : K ≠ 0) (hq : kd w q = 0) : a ≠ q := fun e => hK (by rw [← h, e, hq])
theorem kd_nw {w : Wd} {q a K K' n : Nat} (h : kd w a = K) (hK : K ≠ 0) (hq : kd w q = 0) : kd (nw w q K' n) a = K := (nw_kd (nw_ne h hK hq)).trans h
theorem fI_nw {w : Wd} {q a K' n K k : Nat} (h : a ≠ q) : fI (nw w q K' n) K k a = fI w K k a := if_neg h
theorem fR_nw {w : Wd} {q a K' n K k : Nat} (h : a ≠ q) : fR (nw w q K' n) K k a = fR w K k a := if_neg h
theorem aL_nw {w : Wd} {q a K' n : Nat} (h : a ≠ q) : aL (nw w q K' n) a = aL w a := va_up_ne _ _ h
theorem aI_nw {w : Wd} {q a K' n K : Nat} (h : a ≠ q) : aI (nw w q K' n) K a = aI w K a := funext fun _ => if_neg h
theorem aR_nw {w : Wd} {q a K' n K : Nat} (h : a ≠ q) : aR (nw w q K' n) K a = aR w K a := funext fun _ => if_neg h
theorem aJ_nw {w : Wd} {q a K' n K : Nat} (h : a ≠ q) : aJ (nw w q K' n) K a = aJ w K a := funext fun _ => if_neg h
/-- the cell at a is as it was -/
def SmA (w w' : Wd) (a : Nat) : Prop := kd w' a = kd w a ∧ aL w' a = aL w a ∧ (∀ K k, fI w' K k a = fI w K k a) ∧ (∀ K k, fR w' K k a = fR w K k a) ∧ (∀ K, aI w' K a = aI w K a) ∧ (∀ K, aR w' K a = aR w K a) ∧ ∀ K, aJ w' K a = aJ w K a
/-- all cells but those of X are as they were -/
def Fr (w w' : Wd) (X : Nat → Prop) : Prop := ∀ a, kd w a ≠ 0 → ¬ X a → SmA w w' a
theorem SmA.rf {w : Wd} {a : Nat} : SmA w w a := ⟨rfl, rfl, fun _ _ => rfl, fun _ _ => rfl, fun _ => rfl, fun _ => rfl, fun _ => rfl⟩
theorem SmA.tr {w w1 w2 : Wd} {a : Nat} (h : SmA w w1 a) (k : SmA w1 w2 a) : SmA w w2 a := ⟨k.1.trans h.1, k.2.1.trans h.2.1, fun K j => (k.2.2.1 K j).trans (h.2.2.1 K j), fun K j => (k.2.2.2.1 K j).trans (h.2.2.2.1 K j), fun K => (k.2.2.2.2.1 K).trans (h.2.2.2.2.1 K), fun K => (k.2.2.2.2.2.1 K).trans (h.2.2.2.2.2.1 K), fun K => (k.2.2.2.2.2.2 K).trans (h.2.2.2.2.2.2 K)⟩
theorem SmA.nw {w : Wd} {q a K n : Nat} (h : a ≠ q) : SmA w (nw w q K n) a := ⟨nw_kd h, aL_nw h, fun _ _ => fI_nw h, fun _ _ => fR_nw h, fun _ => aI_nw h, fun _ => aR_nw h, fun _ => aJ_nw h⟩
theorem SmA.pI {w : Wd} {K k b a : Nat} {v : Int32} (h : a ≠ b) : SmA w (pI w K k b v) a := ⟨rfl, rfl, fun _ _ => up3_z h, fun _ _ => rfl, fun _ => rfl, fun _ => rfl, fun _ => rfl⟩
theorem SmA.pR {w : Wd} {K k b a : Nat} {v : Option Nat} (h : a ≠ b) : SmA w (pR w K k b v) a := ⟨rfl, rfl, fun _ _ => rfl, fun _ _ => up3_z h, fun _ => rfl, fun _ => rfl, fun _ => rfl⟩
theorem SmA.pAI {w : Wd} {K j b a : Nat} {v : Int32} (h : a ≠ b) : SmA w (pAI w K b j v) a := ⟨rfl, rfl, fun _ _ => rfl, fun _ _ => rfl, fun _ => funext fun _ => up3_y h, fun _ => rfl, fun _ => rfl⟩
theorem SmA.pAR {w : Wd} {K j b a : Nat} {v : Option Nat} (h : a ≠ b) : SmA w (pAR w K b j v) a := ⟨rfl, rfl, fun _ _ => rfl, fun _ _ => rfl, fun _ => rfl, fun _ => funext fun _ => up3_y h, fun _ => rfl⟩
theorem SmA.pAJ {w : Wd} {K j b a : Nat} {v : Int64} (h : a ≠ b) : SmA w (pAJ w K b j v) a := ⟨rfl, rfl, fun _ _ => rfl, fun _ _ => rfl, fun _ => rfl, fun _ => rfl, fun _ => funext fun _ => up3_y h⟩
theorem Fr.rf {w : Wd} {X : Nat → Prop} : Fr w w X := fun _ _ _ => SmA.rf
theorem Fr.tr {w w1 w2 : Wd} {X : Nat → Prop} (h : Fr w w1 X) (k : Fr w1 w2 X) : Fr w w2 X := fun a ha hX => (h a ha hX).tr (k a (by rw [(h a ha hX).1]; exact ha) hX)
theorem Fr.mono {w w1 : Wd} {X Y : Nat → Prop} (h : Fr w w1 X) (hXY : ∀ a, kd w a ≠ 0 → X a → Y a) : Fr w w1 Y := fun a ha hY => h a ha (fun hx => hY (hXY a ha hx))
end TOOLS9
end
section
section LEAF8
theorem i32_lt {a b : Int32} : a < b ↔ a.toInt < b.toInt := Int32.lt_iff_toInt_lt
theorem i32_le {a b : Int32} : a ≤ b ↔ a.toInt ≤ b.toInt := Int32.le_iff_toInt_le
theorem i32_eq {a b : Int32} : a = b ↔ a.toInt = b.toInt := Int32.toInt_inj.symm
theorem inR_iff {n lo hi : Int32} : inR n lo hi = true ↔ lo.toInt ≤ n.toInt ∧ n.toInt ≤ hi.toInt := by simp [inR, i32_le]
theorem inR_T {n lo hi : Int32} (h1 : ¬ n < lo) (h2 : ¬ hi < n) : (1 : Int32) = bI (inR n lo hi) := by
  rw [i32_lt] at h1 h2
  rw [inR_iff.mpr ⟨by omega, by omega⟩]
  rfl
theorem inR_F {n lo hi : Int32} (h : inR n lo hi = false) : (0 : Int32) = bI (inR n lo hi) := by rw [h]; rfl
theorem inR_F1 {n lo hi : Int32} (h1 : n < lo) : (0 : Int32) = bI (inR n lo hi) := inR_F (by
  rw [i32_lt] at h1
  rw [← Bool.not_eq_true, inR_iff]
  omega)
theorem inR_F2 {n lo hi : Int32} (h1 : hi < n) : (0 : Int32) = bI (inR n lo hi) := inR_F (by
  rw [i32_lt] at h1
  rw [← Bool.not_eq_true, inR_iff]
  omega)
theorem i32_less1 {x y : Int32} (h : y ≤ x) : y = if x < y then x else y := by
  rw [if_neg (by rw [i32_lt]; rw [i32_le] at h; omega)]
theorem i32_less2 {x y : Int32} (h : ¬ y ≤ x) : x = if x < y then x else y := by
  rw [if_pos (by rw [i32_lt]; rw [i32_le] at h; omega)]
theorem inR19 {x : Int32} (h1 : ¬ x < 0) (h2 : x < 20) : inR x 0 19 = true := by
  rw [i32_lt] at h1 h2
  rw [inR_iff]
  simp at h1 h2 ⊢
  omega
theorem inR19n {x : Int32} (h : x < 0 ∨ ¬ x < 20) : inR x 0 19 = false := by
  rw [i32_lt, i32_lt] at h
  rw [← Bool.not_eq_true, inR_iff]
  simp at h ⊢
  omega
theorem dX9_isWithin_0 : decode cX9_isWithin 0 = .ok (.iload_n 0, 1) := by decide +kernel
theorem dX9_isWithin_1 : decode cX9_isWithin 1 = .ok (.iload_n 1, 1) := by decide +kernel
theorem dX9_isWithin_2 : decode cX9_isWithin 2 = .ok (.if_icmp .lt 12, 3) := by decide +kernel
theorem dX9_isWithin_5 : decode cX9_isWithin 5 = .ok (.iload_n 0, 1) := by decide +kernel
theorem dX9_isWithin_6 : decode cX9_isWithin 6 = .ok (.iload_n 2, 1) := by decide +kernel
theorem dX9_isWithin_7 : decode cX9_isWithin 7 = .ok (.if_icmp .gt 7, 3) := by decide +kernel
theorem dX9_isWithin_10 : decode cX9_isWithin 10 = .ok (.iconst 1, 1) := by decide +kernel
theorem dX9_isWithin_11 : decode cX9_isWithin 11 = .ok (.goto 4, 3) := by decide +kernel
theorem dX9_isWithin_14 : decode cX9_isWithin 14 = .ok (.iconst 0, 1) := by decide +kernel
theorem dX9_isWithin_15 : decode cX9_isWithin 15 = .ok (.ireturn, 1) := by decide +kernel
set_option maxHeartbeats 4000000 in
set_option maxRecDepth 100000 in
theorem c_X9_isWithin (de : Nat) (w : Wd) (n lo hi : Int32) : Ct yX9_isWithin cX9_isWithin 3 (some .boolean) 0 0 0 0 de [.int n, .int lo, .int hi] w (fun r w' => r = some (.int (bI (inR n lo hi))) ∧ w = w') := by
  refine Ct.mk (by decide +kernel) [(0, .int n), (1, .int lo), (2, .int hi)] rfl (Nat.le_of_ble_eq_true rfl) ?_
  intro p l e R s m args below meth c D cy z C hnm
  refine g_iload_n C dX9_isWithin_0 rfl ?_
  refine g_iload_n C dX9_isWithin_1 rfl ?_
  refine g_icmp_lt C 14 dX9_isWithin_2 (by decide) (fun c_2 => ?_) (fun c_2 => ?_)
  · refine g_iconst C 0 dX9_isWithin_14 (by rfl) ?_
    refine g_iret C rfl rfl (by decide) (by decide) dX9_isWithin_15 ?_
    exact ⟨congrArg (fun v => some (Value.int v)) (by first | exact inR_T c_2 c_7 | exact inR_F1 c_2 | exact inR_F2 c_7), rfl⟩
  · refine g_iload_n C dX9_isWithin_5 rfl ?_
    refine g_iload_n C dX9_isWithin_6 rfl ?_
    refine g_icmp_gt C 14 dX9_isWithin_7 (by decide) (fun c_7 => ?_) (fun c_7 => ?_)
    · refine g_iconst C 0 dX9_isWithin_14 (by rfl) ?_
      refine g_iret C rfl rfl (by decide) (by decide) dX9_isWithin_15 ?_
      exact ⟨congrArg (fun v => some (Value.int v)) (by first | exact inR_T c_2 c_7 | exact inR_F1 c_2 | exact inR_F2 c_7), rfl⟩
    · refine g_iconst C 1 dX9_isWithin_10 (by rfl) ?_
      refine g_goto C 15 dX9_isWithin_11 (by decide) ?_
      refine g_iret C rfl rfl (by decide) (by decide) dX9_isWithin_15 ?_
      exact ⟨congrArg (fun v => some (Value.int v)) (by first | exact inR_T c_2 c_7 | exact inR_F1 c_2 | exact inR_F2 c_7), rfl⟩
theorem dX10_in_0 : decode cX10_in 0 = .ok (.iload_n 0, 1) := by decide +kernel
theorem dX10_in_1 : decode cX10_in 1 = .ok (.iload_n 1, 1) := by decide +kernel
theorem dX10_in_2 : decode cX10_in 2 = .ok (.if_icmp .lt 12, 3) := by decide +kernel
theorem dX10_in_5 : decode cX10_in 5 = .ok (.iload_n 0, 1) := by decide +kernel
theorem dX10_in_6 : decode cX10_in 6 = .ok (.iload_n 2, 1) := by decide +kernel
theorem dX10_in_7 : decode cX10_in 7 = .ok (.if_icmp .gt 7, 3) := by decide +kernel
theorem dX10_in_10 : decode cX10_in 10 = .ok (.iconst 1, 1) := by decide +kernel
theorem dX10_in_11 : decode cX10_in 11 = .ok (.goto 4, 3) := by decide +kernel
theorem dX10_in_14 : decode cX10_in 14 = .ok (.iconst 0, 1) := by decide +kernel
theorem dX10_in_15 : decode cX10_in 15 = .ok (.ireturn, 1) := by decide +kernel
set_option maxHeartbeats 4000000 in
set_option maxRecDepth 100000 in
theorem c_X10_in (de : Nat) (w : Wd) (n lo hi : Int32) : Ct yX10_in cX10_in 3 (some .boolean) 0 0 0 0 de [.int n, .int lo, .int hi] w (fun r w' => r = some (.int (bI (inR n lo hi))) ∧ w = w') := by
  refine Ct.mk (by decide +kernel) [(0, .int n), (1, .int lo), (2, .int hi)] rfl (Nat.le_of_ble_eq_true rfl) ?_
  intro p l e R s m args below meth c D cy z C hnm
  refine g_iload_n C dX10_in_0 rfl ?_
  refine g_iload_n C dX10_in_1 rfl ?_
  refine g_icmp_lt C 14 dX10_in_2 (by decide) (fun c_2 => ?_) (fun c_2 => ?_)
  · refine g_iconst C 0 dX10_in_14 (by rfl) ?_
    refine g_iret C rfl rfl (by decide) (by decide) dX10_in_15 ?_
    exact ⟨congrArg (fun v => some (Value.int v)) (by first | exact inR_T c_2 c_7 | exact inR_F1 c_2 | exact inR_F2 c_7), rfl⟩
  · refine g_iload_n C dX10_in_5 rfl ?_
    refine g_iload_n C dX10_in_6 rfl ?_
    refine g_icmp_gt C 14 dX10_in_7 (by decide) (fun c_7 => ?_) (fun c_7 => ?_)
    · refine g_iconst C 0 dX10_in_14 (by rfl) ?_
      refine g_iret C rfl rfl (by decide) (by decide) dX10_in_15 ?_
      exact ⟨congrArg (fun v => some (Value.int v)) (by first | exact inR_T c_2 c_7 | exact inR_F1 c_2 | exact inR_F2 c_7), rfl⟩
    · refine g_iconst C 1 dX10_in_10 (by rfl) ?_
      refine g_goto C 15 dX10_in_11 (by decide) ?_
      refine g_iret C rfl rfl (by decide) (by decide) dX10_in_15 ?_
      exact ⟨congrArg (fun v => some (Value.int v)) (by first | exact inR_T c_2 c_7 | exact inR_F1 c_2 | exact inR_F2 c_7), rfl⟩
theorem dX10_lesser_0 : decode cX10_lesser 0 = .ok (.iload_n 0, 1) := by decide +kernel
theorem dX10_lesser_1 : decode cX10_lesser 1 = .ok (.iload_n 1, 1) := by decide +kernel
theorem dX10_lesser_2 : decode cX10_lesser 2 = .ok (.if_icmp .ge 7, 3) := by decide +kernel
theorem dX10_lesser_5 : decode cX10_lesser 5 = .ok (.iload_n 0, 1) := by decide +kernel
theorem dX10_lesser_6 : decode cX10_lesser 6 = .ok (.goto 4, 3) := by decide +kernel
theorem dX10_lesser_9 : decode cX10_lesser 9 = .ok (.iload_n 1, 1) := by decide +kernel
theorem dX10_lesser_10 : decode cX10_lesser 10 = .ok (.ireturn, 1) := by decide +kernel
set_option maxHeartbeats 4000000 in
set_option maxRecDepth 100000 in
theorem c_X10_lesser (de : Nat) (w : Wd) (x y : Int32) : Ct yX10_lesser cX10_lesser 2 (some .int) 0 0 0 0 de [.int x, .int y] w (fun r w' => r = some (.int (if x < y then x else y)) ∧ w = w') := by
  refine Ct.mk (by decide +kernel) [(0, .int x), (1, .int y)] rfl (Nat.le_of_ble_eq_true rfl) ?_
  intro p l e R s m args below meth c D cy z C hnm
  refine g_iload_n C dX10_lesser_0 rfl ?_
  refine g_iload_n C dX10_lesser_1 rfl ?_
  refine g_icmp_ge C 9 dX10_lesser_2 (by decide) (fun c_2 => ?_) (fun c_2 => ?_)
  · refine g_iload_n C dX10_lesser_9 rfl ?_
    refine g_iret C rfl rfl (by decide) (by decide) dX10_lesser_10 ?_
    exact ⟨congrArg (fun v => some (Value.int v)) (by first | exact i32_less1 c_2 | exact i32_less2 c_2), rfl⟩
  · refine g_iload_n C dX10_lesser_5 rfl ?_
    refine g_goto C 10 dX10_lesser_6 (by decide) ?_
    refine g_iret C rfl rfl (by decide) (by decide) dX10_lesser_10 ?_
    exact ⟨congrArg (fun v => some (Value.int v)) (by first | exact i32_less1 c_2 | exact i32_less2 c_2), rfl⟩
theorem dX9_firstDay_0 : decode cX9_firstDay 0 = .ok (.iload_n 0, 1) := by decide +kernel
theorem dX9_firstDay_1 : decode cX9_firstDay 1 = .ok (.bipush 60, 2) := by decide +kernel
theorem dX9_firstDay_3 : decode cX9_firstDay 3 = .ok (.imul, 1) := by decide +kernel
theorem dX9_firstDay_4 : decode cX9_firstDay 4 = .ok (.ireturn, 1) := by decide +kernel
set_option maxHeartbeats 4000000 in
set_option maxRecDepth 100000 in
theorem c_X9_firstDay (de : Nat) (w : Wd) (x : Int32) : Ct yX9_firstDay cX9_firstDay 1 (some .int) 0 0 0 0 de [.int x] w (fun r w' => r = some (.int (x * 60)) ∧ w = w') := by
  refine Ct.mk (by decide +kernel) [(0, .int x)] rfl (Nat.le_of_ble_eq_true rfl) ?_
  intro p l e R s m args below meth c D cy z C hnm
  refine g_iload_n C dX9_firstDay_0 rfl ?_
  refine g_bipush C 60 dX9_firstDay_1 (by rfl) ?_
  refine g_imul C dX9_firstDay_3 ?_
  refine g_iret C rfl rfl (by decide) (by decide) dX9_firstDay_4 ?_
  exact ⟨rfl, rfl⟩
theorem dX9_testPlace_0 : decode cX9_testPlace 0 = .ok (.iload_n 0, 1) := by decide +kernel
theorem dX9_testPlace_1 : decode cX9_testPlace 1 = .ok (.iconst 0, 1) := by decide +kernel
theorem dX9_testPlace_2 : decode cX9_testPlace 2 = .ok (.bipush 9, 2) := by decide +kernel
theorem dX9_testPlace_4 : decode cX9_testPlace 4 = .ok (.invokestatic 109, 3) := by decide +kernel
theorem dX9_testPlace_7 : decode cX9_testPlace 7 = .ok (.ifCond .eq 13, 3) := by decide +kernel
theorem dX9_testPlace_10 : decode cX9_testPlace 10 = .ok (.iload_n 1, 1) := by decide +kernel
theorem dX9_testPlace_11 : decode cX9_testPlace 11 = .ok (.iconst 0, 1) := by decide +kernel
theorem dX9_testPlace_12 : decode cX9_testPlace 12 = .ok (.bipush 9, 2) := by decide +kernel
theorem dX9_testPlace_14 : decode cX9_testPlace 14 = .ok (.invokestatic 109, 3) := by decide +kernel
theorem dX9_testPlace_17 : decode cX9_testPlace 17 = .ok (.ifCond .ne 14, 3) := by decide +kernel
theorem dX9_testPlace_20 : decode cX9_testPlace 20 = .ok (.new 113, 3) := by decide +kernel
theorem dX9_testPlace_23 : decode cX9_testPlace 23 = .ok (.dup, 1) := by decide +kernel
theorem dX9_testPlace_24 : decode cX9_testPlace 24 = .ok (.ldc_w 338, 3) := by decide +kernel
theorem dX9_testPlace_27 : decode cX9_testPlace 27 = .ok (.invokespecial 117, 3) := by decide +kernel
theorem dX9_testPlace_30 : decode cX9_testPlace 30 = .ok (.athrow, 1) := by decide +kernel
theorem dX9_testPlace_31 : decode cX9_testPlace 31 = .ok (.return_, 1) := by decide +kernel
set_option maxHeartbeats 4000000 in
set_option maxRecDepth 100000 in
theorem c_X9_testPlace (de : Nat) (w : Wd) (x y : Int32) : Cw yX9_testPlace cX9_testPlace 2 none 6 90 1 6 de [.int x, .int y] w (fun r w' => r = none ∧ w = w' ∧ (inR x 0 9 && inR y 0 9) = true) (fun E w' => E = "java/lang/IllegalArgumentException" ∧ w = w' ∧ (inR x 0 9 && inR y 0 9) = false) := by
  refine Cw.mk (by decide +kernel) [(0, .int x), (1, .int y)] rfl (Nat.le_of_ble_eq_true rfl) ?_
  intro p l e R s m args below meth c D cy z C ht
  refine g_iload_n C dX9_testPlace_0 rfl ?_
  refine g_iconst C 0 dX9_testPlace_1 (by rfl) ?_
  refine g_bipush C 9 dX9_testPlace_2 (by rfl) ?_
  refine g_callS C mt_X9_isWithin [.int x, .int 0, .int 9] (c_X9_isWithin de w x 0 9) k_189 rfl rfl (Nat.le_of_ble_eq_true rfl) (by decide) (by decide) (by decide) (by decide) dX9_testPlace_4 (fun r_4 w_4 hp_4 => ?_)
  obtain ⟨rfl, rfl⟩ := hp_4
  refine g_if_eq C 20 dX9_testPlace_7 (by decide) (fun c_7 => ?_) (fun c_7 => ?_)
  · exact gx_throwW C ht th_X9_117 k_192 k_14 (is := 338) (text := "x or y is out of range") (by decide) dX9_testPlace_20 dX9_testPlace_23 dX9_testPlace_24 dX9_testPlace_27 dX9_testPlace_30 (by decide) (Nat.le_of_ble_eq_true rfl) (by decide) (by decide) ⟨rfl, rfl, by simp_all [bI_0, bI_n0]⟩
  · refine g_iload_n C dX9_testPlace_10 rfl ?_
    refine g_iconst C 0 dX9_testPlace_11 (by rfl) ?_
    refine g_bipush C 9 dX9_testPlace_12 (by rfl) ?_
    refine g_callS C mt_X9_isWithin [.int y, .int 0, .int 9] (c_X9_isWithin de w y 0 9) k_189 rfl rfl (Nat.le_of_ble_eq_true rfl) (by decide) (by decide) (by decide) (by decide) dX9_testPlace_14 (fun r_14 w_14 hp_14 => ?_)
    obtain ⟨rfl, rfl⟩ := hp_14
    refine g_if_ne C 31 dX9_testPlace_17 (by decide) (fun c_17 => ?_) (fun c_17 => ?_)
    · refine gx_ret <| g_vret C rfl (by decide) (by decide) dX9_testPlace_31 ?_
      exact ⟨rfl, rfl, by simp_all [bI_0, bI_n0]⟩
    · exact gx_throwW C ht th_X9_117 k_192 k_14 (is := 338) (text := "x or y is out of range") (by decide) dX9_testPlace_20 dX9_testPlace_23 dX9_testPlace_24 dX9_testPlace_27 dX9_testPlace_30 (by decide) (Nat.le_of_ble_eq_true rfl) (by decide) (by decide) ⟨rfl, rfl, by simp_all [bI_0, bI_n0]⟩
theorem dX9_testKnown_0 : decode cX9_testKnown 0 = .ok (.iload_n 0, 1) := by decide +kernel
theorem dX9_testKnown_1 : decode cX9_testKnown 1 = .ok (.ifCond .eq 19, 3) := by decide +kernel
theorem dX9_testKnown_4 : decode cX9_testKnown 4 = .ok (.iload_n 0, 1) := by decide +kernel
theorem dX9_testKnown_5 : decode cX9_testKnown 5 = .ok (.iconst 1, 1) := by decide +kernel
theorem dX9_testKnown_6 : decode cX9_testKnown 6 = .ok (.if_icmp .eq 14, 3) := by decide +kernel
theorem dX9_testKnown_9 : decode cX9_testKnown 9 = .ok (.new 113, 3) := by decide +kernel
theorem dX9_testKnown_12 : decode cX9_testKnown 12 = .ok (.dup, 1) := by decide +kernel
theorem dX9_testKnown_13 : decode cX9_testKnown 13 = .ok (.ldc_w 340, 3) := by decide +kernel
theorem dX9_testKnown_16 : decode cX9_testKnown 16 = .ok (.invokespecial 117, 3) := by decide +kernel
theorem dX9_testKnown_19 : decode cX9_testKnown 19 = .ok (.athrow, 1) := by decide +kernel
theorem dX9_testKnown_20 : decode cX9_testKnown 20 = .ok (.return_, 1) := by decide +kernel
set_option maxHeartbeats 4000000 in
set_option maxRecDepth 100000 in
theorem c_X9_testKnown (de : Nat) (w : Wd) (k : Int32) : Cw yX9_testKnown cX9_testKnown 1 none 6 90 1 6 de [.int k] w (fun r w' => r = none ∧ w = w' ∧ (k = 0 ∨ k = 1)) (fun E w' => E = "java/lang/IllegalArgumentException" ∧ w = w' ∧ ¬ (k = 0 ∨ k = 1)) := by
  refine Cw.mk (by decide +kernel) [(0, .int k)] rfl (Nat.le_of_ble_eq_true rfl) ?_
  intro p l e R s m args below meth c D cy z C ht
  refine g_iload_n C dX9_testKnown_0 rfl ?_
  refine g_if_eq C 20 dX9_testKnown_1 (by decide) (fun c_1 => ?_) (fun c_1 => ?_)
  · refine gx_ret <| g_vret C rfl (by decide) (by decide) dX9_testKnown_20 ?_
    exact ⟨rfl, rfl, by first | exact Or.inl c_1 | exact Or.inr c_6⟩
  · refine g_iload_n C dX9_testKnown_4 rfl ?_
    refine g_iconst C 1 dX9_testKnown_5 (by rfl) ?_
    refine g_icmp_eq C 20 dX9_testKnown_6 (by decide) (fun c_6 => ?_) (fun c_6 => ?_)
    · refine gx_ret <| g_vret C rfl (by decide) (by decide) dX9_testKnown_20 ?_
      exact ⟨rfl, rfl, by first | exact Or.inl c_1 | exact Or.inr c_6⟩
    · exact gx_throwW C ht th_X9_117 k_192 k_14 (is := 340) (text := "known is out of range") (by decide) dX9_testKnown_9 dX9_testKnown_12 dX9_testKnown_13 dX9_testKnown_16 dX9_testKnown_19 (by decide) (Nat.le_of_ble_eq_true rfl) (by decide) (by decide) ⟨rfl, rfl, fun h9 => h9.elim c_1 c_6⟩
theorem dX9_testWhat_0 : decode cX9_testWhat 0 = .ok (.iload_n 0, 1) := by decide +kernel
theorem dX9_testWhat_1 : decode cX9_testWhat 1 = .ok (.iconst 0, 1) := by decide +kernel
theorem dX9_testWhat_2 : decode cX9_testWhat 2 = .ok (.iload_n 1, 1) := by decide +kernel
theorem dX9_testWhat_3 : decode cX9_testWhat 3 = .ok (.invokestatic 109, 3) := by decide +kernel
theorem dX9_testWhat_6 : decode cX9_testWhat 6 = .ok (.ifCond .ne 14, 3) := by decide +kernel
theorem dX9_testWhat_9 : decode cX9_testWhat 9 = .ok (.new 113, 3) := by decide +kernel
theorem dX9_testWhat_12 : decode cX9_testWhat 12 = .ok (.dup, 1) := by decide +kernel
theorem dX9_testWhat_13 : decode cX9_testWhat 13 = .ok (.ldc_w 342, 3) := by decide +kernel
theorem dX9_testWhat_16 : decode cX9_testWhat 16 = .ok (.invokespecial 117, 3) := by decide +kernel
theorem dX9_testWhat_19 : decode cX9_testWhat 19 = .ok (.athrow, 1) := by decide +kernel
theorem dX9_testWhat_20 : decode cX9_testWhat 20 = .ok (.return_, 1) := by decide +kernel
set_option maxHeartbeats 4000000 in
set_option maxRecDepth 100000 in
theorem c_X9_testWhat (de : Nat) (w : Wd) (x y : Int32) : Cw yX9_testWhat cX9_testWhat 2 none 6 90 1 6 de [.int x, .int y] w (fun r w' => r = none ∧ w = w' ∧ inR x 0 y = true) (fun E w' => E = "java/lang/IllegalArgumentException" ∧ w = w' ∧ inR x 0 y = false) := by
  refine Cw.mk (by decide +kernel) [(0, .int x), (1, .int y)] rfl (Nat.le_of_ble_eq_true rfl) ?_
  intro p l e R s m args below meth c D cy z C ht
  refine g_iload_n C dX9_testWhat_0 rfl ?_
  refine g_iconst C 0 dX9_testWhat_1 (by rfl) ?_
  refine g_iload_n C dX9_testWhat_2 rfl ?_
  refine g_callS C mt_X9_isWithin [.int x, .int 0, .int y] (c_X9_isWithin de w x 0 y) k_189 rfl rfl (Nat.le_of_ble_eq_true rfl) (by decide) (by decide) (by decide) (by decide) dX9_testWhat_3 (fun r_3 w_3 hp_3 => ?_)
  obtain ⟨rfl, rfl⟩ := hp_3
  refine g_if_ne C 20 dX9_testWhat_6 (by decide) (fun c_6 => ?_) (fun c_6 => ?_)
  · refine gx_ret <| g_vret C rfl (by decide) (by decide) dX9_testWhat_20 ?_
    exact ⟨rfl, rfl, by simp_all [bI_0, bI_n0]⟩
  · exact gx_throwW C ht th_X9_117 k_192 k_14 (is := 342) (text := "what is out of range") (by decide) dX9_testWhat_9 dX9_testWhat_12 dX9_testWhat_13 dX9_testWhat_16 dX9_testWhat_19 (by decide) (Nat.le_of_ble_eq_true rfl) (by decide) (by decide) ⟨rfl, rfl, by simp_all [bI_0, bI_n0]⟩
theorem dX9_testSeason_0 : decode cX9_testSeason 0 = .ok (.iload_n 0, 1) := by decide +kernel
theorem dX9_testSeason_1 : decode cX9_testSeason 1 = .ok (.ifCond .lt 9, 3) := by decide +kernel
theorem dX9_testSeason_4 : decode cX9_testSeason 4 = .ok (.iload_n 0, 1) := by decide +kernel
theorem dX9_testSeason_5 : decode cX9_testSeason 5 = .ok (.bipush 20, 2) := by decide +kernel
theorem dX9_testSeason_7 : decode cX9_testSeason 7 = .ok (.if_icmp .lt 14, 3) := by decide +kernel
theorem dX9_testSeason_10 : decode cX9_testSeason 10 = .ok (.new 287, 3) := by decide +kernel
theorem dX9_testSeason_13 : decode cX9_testSeason 13 = .ok (.dup, 1) := by decide +kernel
theorem dX9_testSeason_14 : decode cX9_testSeason 14 = .ok (.ldc_w 344, 3) := by decide +kernel
theorem dX9_testSeason_17 : decode cX9_testSeason 17 = .ok (.invokespecial 291, 3) := by decide +kernel
theorem dX9_testSeason_20 : decode cX9_testSeason 20 = .ok (.athrow, 1) := by decide +kernel
theorem dX9_testSeason_21 : decode cX9_testSeason 21 = .ok (.return_, 1) := by decide +kernel
set_option maxHeartbeats 4000000 in
set_option maxRecDepth 100000 in
theorem c_X9_testSeason (de : Nat) (w : Wd) (x : Int32) : Cw yX9_testSeason cX9_testSeason 1 none 6 90 1 6 de [.int x] w (fun r w' => r = none ∧ w = w' ∧ inR x 0 19 = true) (fun E w' => E = "java/lang/IndexOutOfBoundsException" ∧ w = w' ∧ inR x 0 19 = false) := by
  refine Cw.mk (by decide +kernel) [(0, .int x)] rfl (Nat.le_of_ble_eq_true rfl) ?_
  intro p l e R s m args below meth c D cy z C ht
  refine g_iload_n C dX9_testSeason_0 rfl ?_
  refine g_if_lt C 10 dX9_testSeason_1 (by decide) (fun c_1 => ?_) (fun c_1 => ?_)
  · exact gx_throwW C ht th_X9_291 k_383 k_20 (is := 344) (text := "no such season") (by decide) dX9_testSeason_10 dX9_testSeason_13 dX9_testSeason_14 dX9_testSeason_17 dX9_testSeason_20 (by decide) (Nat.le_of_ble_eq_true rfl) (by decide) (by decide) ⟨rfl, rfl, by first | exact inR19n (Or.inl c_1) | exact inR19n (Or.inr c_7)⟩
  · refine g_iload_n C dX9_testSeason_4 rfl ?_
    refine g_bipush C 20 dX9_testSeason_5 (by rfl) ?_
    refine g_icmp_lt C 21 dX9_testSeason_7 (by decide) (fun c_7 => ?_) (fun c_7 => ?_)
    · refine gx_ret <| g_vret C rfl (by decide) (by decide) dX9_testSeason_21 ?_
      exact ⟨rfl, rfl, inR19 c_1 c_7⟩
    · exact gx_throwW C ht th_X9_291 k_383 k_20 (is := 344) (text := "no such season") (by decide) dX9_testSeason_10 dX9_testSeason_13 dX9_testSeason_14 dX9_testSeason_17 dX9_testSeason_20 (by decide) (Nat.le_of_ble_eq_true rfl) (by decide) (by decide) ⟨rfl, rfl, by first | exact inR19n (Or.inl c_1) | exact inR19n (Or.inr c_7)⟩
theorem dX9_hasBegun_0 : decode cX9_hasBegun 0 = .ok (.aload_n 0, 1) := by decide +kernel
theorem dX9_hasBegun_1 : decode cX9_hasBegun 1 = .ok (.getfield 56, 3) := by decide +kernel
theorem dX9_hasBegun_4 : decode cX9_hasBegun 4 = .ok (.iload_n 1, 1) := by decide +kernel
theorem dX9_hasBegun_5 : decode cX9_hasBegun 5 = .ok (.invokestatic 284, 3) := by decide +kernel
theorem dX9_hasBegun_8 : decode cX9_hasBegun 8 = .ok (.if_icmp .lt 7, 3) := by decide +kernel
theorem dX9_hasBegun_11 : decode cX9_hasBegun 11 = .ok (.iconst 1, 1) := by decide +kernel
theorem dX9_hasBegun_12 : decode cX9_hasBegun 12 = .ok (.goto 4, 3) := by decide +kernel
theorem dX9_hasBegun_15 : decode cX9_hasBegun 15 = .ok (.iconst 0, 1) := by decide +kernel
theorem dX9_hasBegun_16 : decode cX9_hasBegun 16 = .ok (.ireturn, 1) := by decide +kernel
set_option maxHeartbeats 4000000 in
set_option maxRecDepth 100000 in
theorem c_X9_hasBegun (de : Nat) (w : Wd) (x : Nat) (hx : kd w x = 11) (k : Int32) : Ct yX9_hasBegun cX9_hasBegun 2 (some .boolean) 1 20 0 0 de [.ref x, .int k] w (fun r w' => r = some (.int (bI (decide (k * 60 ≤ fI w 11 8 x)))) ∧ w = w') := by
  refine Ct.mk (by decide +kernel) [(0, .ref x), (1, .int k)] rfl (Nat.le_of_ble_eq_true rfl) ?_
  intro p l e R s m args below meth c D cy z C hnm
  refine g_aload_n C dX9_hasBegun_0 rfl ?_
  refine g_getI C cls_10 11 8 hx rfl k_144 dX9_hasBegun_1 ?_
  refine g_iload_n C dX9_hasBegun_4 rfl ?_
  refine g_callS C mt_X9_firstDay [.int k] (c_X9_firstDay de w k) k_614 rfl rfl (Nat.le_of_ble_eq_true rfl) (by decide) (by decide) (by decide) (by decide) dX9_hasBegun_5 (fun r_5 w_5 hp_5 => ?_)
  obtain ⟨rfl, rfl⟩ := hp_5
  refine g_icmp_lt C 15 dX9_hasBegun_8 (by decide) (fun c_8 => ?_) (fun c_8 => ?_)
  · refine g_iconst C 0 dX9_hasBegun_15 (by rfl) ?_
    refine g_iret C rfl rfl (by decide) (by decide) dX9_hasBegun_16 ?_
    exact ⟨congrArg (fun v => some (Value.int v)) (by simp_all [bI]), rfl⟩
  · refine g_iconst C 1 dX9_hasBegun_11 (by rfl) ?_
    refine g_goto C 16 dX9_hasBegun_12 (by decide) ?_
    refine g_iret C rfl rfl (by decide) (by decide) dX9_hasBegun_16 ?_
    exact ⟨congrArg (fun v => some (Value.int v)) (by simp_all [bI]), rfl⟩
theorem dX9_isOver_0 : decode cX9_isOver 0 = .ok (.aload_n 0, 1) := by decide +kernel
theorem dX9_isOver_1 : decode cX9_isOver 1 = .ok (.getfield 56, 3) := by decide +kernel
theorem dX9_isOver_4 : decode cX9_isOver 4 = .ok (.iload_n 1, 1) := by decide +kernel
theorem dX9_isOver_5 : decode cX9_isOver 5 = .ok (.iconst 1, 1) := by decide +kernel
theorem dX9_isOver_6 : decode cX9_isOver 6 = .ok (.iadd, 1) := by decide +kernel
theorem dX9_isOver_7 : decode cX9_isOver 7 = .ok (.invokestatic 284, 3) := by decide +kernel
theorem dX9_isOver_10 : decode cX9_isOver 10 = .ok (.if_icmp .lt 7, 3) := by decide +kernel
theorem dX9_isOver_13 : decode cX9_isOver 13 = .ok (.iconst 1, 1) := by decide +kernel
theorem dX9_isOver_14 : decode cX9_isOver 14 = .ok (.goto 4, 3) := by decide +kernel
theorem dX9_isOver_17 : decode cX9_isOver 17 = .ok (.iconst 0, 1) := by decide +kernel
theorem dX9_isOver_18 : decode cX9_isOver 18 = .ok (.ireturn, 1) := by decide +kernel
set_option maxHeartbeats 4000000 in
set_option maxRecDepth 100000 in
theorem c_X9_isOver (de : Nat) (w : Wd) (x : Nat) (hx : kd w x = 11) (k : Int32) : Ct yX9_isOver cX9_isOver 2 (some .boolean) 1 20 0 0 de [.ref x, .int k] w (fun r w' => r = some (.int (bI (decide ((k + 1) * 60 ≤ fI w 11 8 x)))) ∧ w = w') := by
  refine Ct.mk (by decide +kernel) [(0, .ref x), (1, .int k)] rfl (Nat.le_of_ble_eq_true rfl) ?_
  intro p l e R s m args below meth c D cy z C hnm
  refine g_aload_n C dX9_isOver_0 rfl ?_
  refine g_getI C cls_10 11 8 hx rfl k_144 dX9_isOver_1 ?_
  refine g_iload_n C dX9_isOver_4 rfl ?_
  refine g_iconst C 1 dX9_isOver_5 (by rfl) ?_
  refine g_iadd C dX9_isOver_6 ?_
  refine g_callS C mt_X9_firstDay [.int (k + 1)] (c_X9_firstDay de w (k + 1)) k_614 rfl rfl (Nat.le_of_ble_eq_true rfl) (by decide) (by decide) (by decide) (by decide) dX9_isOver_7 (fun r_7 w_7 hp_7 => ?_)
  obtain ⟨rfl, rfl⟩ := hp_7
  refine g_icmp_lt C 17 dX9_isOver_10 (by decide) (fun c_10 => ?_) (fun c_10 => ?_)
  · refine g_iconst C 0 dX9_isOver_17 (by rfl) ?_
    refine g_iret C rfl rfl (by decide) (by decide) dX9_isOver_18 ?_
    exact ⟨congrArg (fun v => some (Value.int v)) (by simp_all [bI]), rfl⟩
  · refine g_iconst C 1 dX9_isOver_13 (by rfl) ?_
    refine g_goto C 18 dX9_isOver_14 (by decide) ?_
    refine g_iret C rfl rfl (by decide) (by decide) dX9_isOver_18 ?_
    exact ⟨congrArg (fun v => some (Value.int v)) (by simp_all [bI]), rfl⟩
theorem dX9_isOnSale_0 : decode cX9_isOnSale 0 = .ok (.aload_n 0, 1) := by decide +kernel
theorem dX9_isOnSale_1 : decode cX9_isOnSale 1 = .ok (.getfield 56, 3) := by decide +kernel
theorem dX9_isOnSale_4 : decode cX9_isOnSale 4 = .ok (.iload_n 1, 1) := by decide +kernel
theorem dX9_isOnSale_5 : decode cX9_isOnSale 5 = .ok (.invokestatic 284, 3) := by decide +kernel
theorem dX9_isOnSale_8 : decode cX9_isOnSale 8 = .ok (.bipush 30, 2) := by decide +kernel
theorem dX9_isOnSale_10 : decode cX9_isOnSale 10 = .ok (.isub, 1) := by decide +kernel
theorem dX9_isOnSale_11 : decode cX9_isOnSale 11 = .ok (.if_icmp .lt 18, 3) := by decide +kernel
theorem dX9_isOnSale_14 : decode cX9_isOnSale 14 = .ok (.aload_n 0, 1) := by decide +kernel
theorem dX9_isOnSale_15 : decode cX9_isOnSale 15 = .ok (.getfield 56, 3) := by decide +kernel
theorem dX9_isOnSale_18 : decode cX9_isOnSale 18 = .ok (.iload_n 1, 1) := by decide +kernel
theorem dX9_isOnSale_19 : decode cX9_isOnSale 19 = .ok (.invokestatic 284, 3) := by decide +kernel
theorem dX9_isOnSale_22 : decode cX9_isOnSale 22 = .ok (.if_icmp .ge 7, 3) := by decide +kernel
theorem dX9_isOnSale_25 : decode cX9_isOnSale 25 = .ok (.iconst 1, 1) := by decide +kernel
theorem dX9_isOnSale_26 : decode cX9_isOnSale 26 = .ok (.goto 4, 3) := by decide +kernel
theorem dX9_isOnSale_29 : decode cX9_isOnSale 29 = .ok (.iconst 0, 1) := by decide +kernel
theorem dX9_isOnSale_30 : decode cX9_isOnSale 30 = .ok (.ireturn, 1) := by decide +kernel
set_option maxHeartbeats 4000000 in
set_option maxRecDepth 100000 in
theorem c_X9_isOnSale (de : Nat) (w : Wd) (x : Nat) (hx : kd w x = 11) (k : Int32) : Ct yX9_isOnSale cX9_isOnSale 2 (some .boolean) 1 20 0 0 de [.ref x, .int k] w (fun r w' => r = some (.int (bI (decide (k * 60 - 30 ≤ fI w 11 8 x) && decide (fI w 11 8 x < k * 60)))) ∧ w = w') := by
  refine Ct.mk (by decide +kernel) [(0, .ref x), (1, .int k)] rfl (Nat.le_of_ble_eq_true rfl) ?_
  intro p l e R s m args below meth c D cy z C hnm
  refine g_aload_n C dX9_isOnSale_0 rfl ?_
  refine g_getI C cls_10 11 8 hx rfl k_144 dX9_isOnSale_1 ?_
  refine g_iload_n C dX9_isOnSale_4 rfl ?_
  refine g_callS C mt_X9_firstDay [.int k] (c_X9_firstDay de w k) k_614 rfl rfl (Nat.le_of_ble_eq_true rfl) (by decide) (by decide) (by decide) (by decide) dX9_isOnSale_5 (fun r_5 w_5 hp_5 => ?_)
  obtain ⟨rfl, rfl⟩ := hp_5
  refine g_bipush C 30 dX9_isOnSale_8 (by rfl) ?_
  refine g_isub C dX9_isOnSale_10 ?_
  refine g_icmp_lt C 29 dX9_isOnSale_11 (by decide) (fun c_11 => ?_) (fun c_11 => ?_)
  · refine g_iconst C 0 dX9_isOnSale_29 (by rfl) ?_
    refine g_iret C rfl rfl (by decide) (by decide) dX9_isOnSale_30 ?_
    exact ⟨congrArg (fun v => some (Value.int v)) (by first | (simp_all [bI]; done) | (rw [decide_eq_false (Int32.not_le.mpr c_11)]; rfl)), rfl⟩
  · refine g_aload_n C dX9_isOnSale_14 rfl ?_
    refine g_getI C cls_10 11 8 hx rfl k_144 dX9_isOnSale_15 ?_
    refine g_iload_n C dX9_isOnSale_18 rfl ?_
    refine g_callS C mt_X9_firstDay [.int k] (c_X9_firstDay de w k) k_614 rfl rfl (Nat.le_of_ble_eq_true rfl) (by decide) (by decide) (by decide) (by decide) dX9_isOnSale_19 (fun r_19 w_19 hp_19 => ?_)
    obtain ⟨rfl, rfl⟩ := hp_19
    refine g_icmp_ge C 29 dX9_isOnSale_22 (by decide) (fun c_22 => ?_) (fun c_22 => ?_)
    · refine g_iconst C 0 dX9_isOnSale_29 (by rfl) ?_
      refine g_iret C rfl rfl (by decide) (by decide) dX9_isOnSale_30 ?_
      exact ⟨congrArg (fun v => some (Value.int v)) (by first | (simp_all [bI]; done) | (rw [decide_eq_false (Int32.not_le.mpr c_11)]; rfl)), rfl⟩
    · refine g_iconst C 1 dX9_isOnSale_25 (by rfl) ?_
      refine g_goto C 30 dX9_isOnSale_26 (by decide) ?_
      refine g_iret C rfl rfl (by decide) (by decide) dX9_isOnSale_30 ?_
      exact ⟨congrArg (fun v => some (Value.int v)) (by first | (simp_all [bI]; done) | (rw [decide_eq_false (Int32.not_le.mpr c_11)]; rfl)), rfl⟩
end LEAF8
end
section
section LISTS9
/-- kinds of a list and of its row -/
def KL (Kl Ke : Nat) : Prop := okF 0 3 Kl 0 false = true ∧ okF 0 3 Kl 1 true = true ∧ okF 0 3 Kl 2 false = true ∧ okA Ke 3 = true ∧ (0 < Kl ∧ Kl < 1000 ∧ (Kl - 1) % 20 = 0)
/-- the list at l holds the n objects el 0, el 1 .. -/
def RLs (w : Wd) (de Kl Ke l n : Nat) (el : Nat → Nat) : Prop := kd w l = Kl ∧ fI w Kl 2 l = nI n ∧ n ≤ 600 ∧
  ((n = 0 ∧ fR w Kl 1 l = some de) ∨ ∃ ar : Nat, fR w Kl 1 l = some ar ∧ ar ≠ de ∧ kd w ar = Ke ∧ n ≤ aL w ar ∧ 10 ≤ aL w ar ∧ aL w ar ≤ 1000 ∧ ∀ i, i < n → aR w Ke ar i = some (el i))
theorem RLs.nth {w : Wd} {de Kl Ke l n i : Nat} {el : Nat → Nat} (h : RLs w de Kl Ke l n el) (hi : i < n) : ∃ ar : Nat, fR w Kl 1 l = some ar ∧ kd w ar = Ke ∧ n ≤ aL w ar ∧ aL w ar ≤ 1000 ∧ aR w Ke ar i = some (el i) := by
  obtain ⟨-, -, -, h4⟩ := h
  rcases h4 with ⟨h5, -⟩ | ⟨ar, h5, h6, h7, h8, h9, h10, h11⟩
  · omega
  · exact ⟨ar, h5, h7, h8, h10, h11 i hi⟩
theorem nI_vp {i n : Nat} (h : i < n) (hn : n ≤ 100000) : vp_in (nI i) n := vp_in_nI h (by omega)
theorem nI_tn {i : Nat} (h : i ≤ 100000) : (nI i).toNatClampNeg = i := nI_clamp (by omega)
theorem dJx4a65c_size_8abf5_0 : decode cJx4a65c_size_8abf5 0 = .ok (.aload_n 0, 1) := by decide +kernel
theorem dJx4a65c_size_8abf5_1 : decode cJx4a65c_size_8abf5 1 = .ok (.getfield 48, 3) := by decide +kernel
theorem dJx4a65c_size_8abf5_4 : decode cJx4a65c_size_8abf5 4 = .ok (.ireturn, 1) := by decide +kernel
set_option maxHeartbeats 4000000 in
set_option maxRecDepth 100000 in
theorem c_Jx4a65c_size_8abf5 (de : Nat) (w : Wd) (Kl Ke : Nat) (hL : KL Kl Ke) (a : Nat) (ha : kd w a = Kl) : Ct yJx4a65c_size_8abf5 cJx4a65c_size_8abf5 1 (some .int) 0 0 0 0 de [.ref a] w (fun r w' => r = some (.int (fI w Kl 2 a)) ∧ w = w') := by
  refine Ct.mk (by decide +kernel) [(0, .ref a)] rfl (Nat.le_of_ble_eq_true rfl) ?_
  intro p l e R s m args below meth c D cy z C hnm
  refine g_aload_n C dJx4a65c_size_8abf5_0 rfl ?_
  refine g_getI C cls_0 Kl 2 ha hL.2.2.1 k_56 dJx4a65c_size_8abf5_1 ?_
  refine g_iret C rfl rfl (by decide) (by decide) dJx4a65c_size_8abf5_4 ?_
  exact ⟨rfl, rfl⟩
theorem dJx4a65c_isEmpty_aae02_0 : decode cJx4a65c_isEmpty_aae02 0 = .ok (.aload_n 0, 1) := by decide +kernel
theorem dJx4a65c_isEmpty_aae02_1 : decode cJx4a65c_isEmpty_aae02 1 = .ok (.getfield 48, 3) := by decide +kernel
theorem dJx4a65c_isEmpty_aae02_4 : decode cJx4a65c_isEmpty_aae02 4 = .ok (.ifCond .ne 7, 3) := by decide +kernel
theorem dJx4a65c_isEmpty_aae02_7 : decode cJx4a65c_isEmpty_aae02 7 = .ok (.iconst 1, 1) := by decide +kernel
theorem dJx4a65c_isEmpty_aae02_8 : decode cJx4a65c_isEmpty_aae02 8 = .ok (.goto 4, 3) := by decide +kernel
theorem dJx4a65c_isEmpty_aae02_11 : decode cJx4a65c_isEmpty_aae02 11 = .ok (.iconst 0, 1) := by decide +kernel
theorem dJx4a65c_isEmpty_aae02_12 : decode cJx4a65c_isEmpty_aae02 12 = .ok (.ireturn, 1) := by decide +kernel
set_option maxHeartbeats 4000000 in
set_option maxRecDepth 100000 in
theorem c_Jx4a65c_isEmpty_aae02 (de : Nat) (w : Wd) (Kl Ke : Nat) (hL : KL Kl Ke) (a : Nat) (ha : kd w a = Kl) : Ct yJx4a65c_isEmpty_aae02 cJx4a65c_isEmpty_aae02 1 (some .boolean) 0 0 0 0 de [.ref a] w (fun r w' => r = some (.int (bI (decide (fI w Kl 2 a = 0)))) ∧ w = w') := by
  refine Ct.mk (by decide +kernel) [(0, .ref a)] rfl (Nat.le_of_ble_eq_true rfl) ?_
  intro p l e R s m args below meth c D cy z C hnm
  refine g_aload_n C dJx4a65c_isEmpty_aae02_0 rfl ?_
  refine g_getI C cls_0 Kl 2 ha hL.2.2.1 k_56 dJx4a65c_isEmpty_aae02_1 ?_
  refine g_if_ne C 11 dJx4a65c_isEmpty_aae02_4 (by decide) (fun c_4 => ?_) (fun c_4 => ?_)
  · refine g_iconst C 0 dJx4a65c_isEmpty_aae02_11 (by rfl) ?_
    refine g_iret C rfl rfl (by decide) (by decide) dJx4a65c_isEmpty_aae02_12 ?_
    exact ⟨congrArg (fun v => some (Value.int v)) (by simp_all [bI]), rfl⟩
  · refine g_iconst C 1 dJx4a65c_isEmpty_aae02_7 (by rfl) ?_
    refine g_goto C 12 dJx4a65c_isEmpty_aae02_8 (by decide) ?_
    refine g_iret C rfl rfl (by decide) (by decide) dJx4a65c_isEmpty_aae02_12 ?_
    exact ⟨congrArg (fun v => some (Value.int v)) (by simp_all [bI]), rfl⟩
theorem dJ3_checkIndex_8e157_0 : decode cJ3_checkIndex_8e157 0 = .ok (.iload_n 0, 1) := by decide +kernel
theorem dJ3_checkIndex_8e157_1 : decode cJ3_checkIndex_8e157 1 = .ok (.ifCond .lt 8, 3) := by decide +kernel
theorem dJ3_checkIndex_8e157_4 : decode cJ3_checkIndex_8e157 4 = .ok (.iload_n 0, 1) := by decide +kernel
theorem dJ3_checkIndex_8e157_5 : decode cJ3_checkIndex_8e157 5 = .ok (.iload_n 1, 1) := by decide +kernel
theorem dJ3_checkIndex_8e157_6 : decode cJ3_checkIndex_8e157 6 = .ok (.if_icmp .lt 10, 3) := by decide +kernel
theorem dJ3_checkIndex_8e157_16 : decode cJ3_checkIndex_8e157 16 = .ok (.iload_n 0, 1) := by decide +kernel
theorem dJ3_checkIndex_8e157_17 : decode cJ3_checkIndex_8e157 17 = .ok (.ireturn, 1) := by decide +kernel
set_option maxHeartbeats 4000000 in
set_option maxRecDepth 100000 in
theorem c_J3_checkIndex_8e157 (de : Nat) (w : Wd) (x y : Int32) (h1 : ¬ x < 0) (h2 : x < y) : Ct yJ3_checkIndex_8e157 cJ3_checkIndex_8e157 3 (some .int) 0 0 0 0 de [.int x, .int y, .null] w (fun r w' => r = some (.int x) ∧ w = w') := by
  refine Ct.mk (by decide +kernel) [(0, .int x), (1, .int y), (2, .null)] rfl (Nat.le_of_ble_eq_true rfl) ?_
  intro p l e R s m args below meth c D cy z C hnm
  refine g_iload_n C dJ3_checkIndex_8e157_0 rfl ?_
  refine g_if_lt C 9 dJ3_checkIndex_8e157_1 (by decide) (fun c_1 => ?_) (fun c_1 => ?_)
  · first | exact absurd c_1 h1 | exact absurd h2 c_6
  · refine g_iload_n C dJ3_checkIndex_8e157_4 rfl ?_
    refine g_iload_n C dJ3_checkIndex_8e157_5 rfl ?_
    refine g_icmp_lt C 16 dJ3_checkIndex_8e157_6 (by decide) (fun c_6 => ?_) (fun c_6 => ?_)
    · refine g_iload_n C dJ3_checkIndex_8e157_16 rfl ?_
      refine g_iret C rfl rfl (by decide) (by decide) dJ3_checkIndex_8e157_17 ?_
      exact ⟨rfl, rfl⟩
    · first | exact absurd c_1 h1 | exact absurd h2 c_6
theorem dJ15_checkIndex_7cf53_0 : decode cJ15_checkIndex_7cf53 0 = .ok (.iload_n 0, 1) := by decide +kernel
theorem dJ15_checkIndex_7cf53_1 : decode cJ15_checkIndex_7cf53 1 = .ok (.iload_n 1, 1) := by decide +kernel
theorem dJ15_checkIndex_7cf53_2 : decode cJ15_checkIndex_7cf53 2 = .ok (.aconst_null, 1) := by decide +kernel
theorem dJ15_checkIndex_7cf53_3 : decode cJ15_checkIndex_7cf53 3 = .ok (.invokestatic 105, 3) := by decide +kernel
theorem dJ15_checkIndex_7cf53_6 : decode cJ15_checkIndex_7cf53 6 = .ok (.ireturn, 1) := by decide +kernel
set_option maxHeartbeats 4000000 in
set_option maxRecDepth 100000 in
theorem c_J15_checkIndex_7cf53 (de : Nat) (w : Wd) (x y : Int32) (h1 : ¬ x < 0) (h2 : x < y) : Ct yJ15_checkIndex_7cf53 cJ15_checkIndex_7cf53 2 (some .int) 1 22 0 0 de [.int x, .int y] w (fun r w' => r = some (.int x) ∧ w = w') := by
  refine Ct.mk (by decide +kernel) [(0, .int x), (1, .int y)] rfl (Nat.le_of_ble_eq_true rfl) ?_
  intro p l e R s m args below meth c D cy z C hnm
  refine g_iload_n C dJ15_checkIndex_7cf53_0 rfl ?_
  refine g_iload_n C dJ15_checkIndex_7cf53_1 rfl ?_
  refine g_null C dJ15_checkIndex_7cf53_2 ?_
  refine g_callS C mt_J3_checkIndex_8e157 [.int x, .int y, .null] (c_J3_checkIndex_8e157 de w x y h1 h2) k_406 rfl rfl (Nat.le_of_ble_eq_true rfl) (by decide) (by decide) (by decide) (by decide) dJ15_checkIndex_7cf53_3 (fun r_3 w_3 hp_3 => ?_)
  obtain ⟨rfl, rfl⟩ := hp_3
  refine g_iret C rfl rfl (by decide) (by decide) dJ15_checkIndex_7cf53_6 ?_
  exact ⟨rfl, rfl⟩
theorem dJx4a65c_elementData_915e3_0 : decode cJx4a65c_elementData_915e3 0 = .ok (.aload_n 0, 1) := by decide +kernel
theorem dJx4a65c_elementData_915e3_1 : decode cJx4a65c_elementData_915e3 1 = .ok (.getfield 9, 3) := by decide +kernel
theorem dJx4a65c_elementData_915e3_4 : decode cJx4a65c_elementData_915e3 4 = .ok (.iload_n 1, 1) := by decide +kernel
theorem dJx4a65c_elementData_915e3_5 : decode cJx4a65c_elementData_915e3 5 = .ok (.aaload, 1) := by decide +kernel
theorem dJx4a65c_elementData_915e3_6 : decode cJx4a65c_elementData_915e3 6 = .ok (.areturn, 1) := by decide +kernel
set_option maxHeartbeats 4000000 in
set_option maxRecDepth 100000 in
theorem c_Jx4a65c_elementData_915e3 (de : Nat) (w : Wd) (Kl Ke : Nat) (hL : KL Kl Ke) (a ar v : Nat) (x : Int32) (ha : kd w a = Kl) (hr : fR w Kl 1 a = some ar) (har : kd w ar = Ke) (hx : vp_in x (aL w ar)) (hv : aR w Ke ar x.toNatClampNeg = some v) : Ct yJx4a65c_elementData_915e3 cJx4a65c_elementData_915e3 2 (some (.object "java/lang/Object")) 0 0 0 0 de [.ref a, .int x] w (fun r w' => r = some (.ref v) ∧ w = w') := by
  refine Ct.mk (by decide +kernel) [(0, .ref a), (1, .int x)] rfl (Nat.le_of_ble_eq_true rfl) ?_
  intro p l e R s m args below meth c D cy z C hnm
  refine g_aload_n C dJx4a65c_elementData_915e3_0 rfl ?_
  refine g_getR (b := ar) C cls_0 Kl 1 ha hr hL.2.1 k_55 dJx4a65c_elementData_915e3_1 ?_
  refine g_iload_n C dJx4a65c_elementData_915e3_4 rfl ?_
  refine g_aald C Ke (some v) har (Or.inr hL.2.2.2.1) hx hv dJx4a65c_elementData_915e3_5 ?_
  refine g_aret C rfl (Or.inl ⟨_, rfl⟩) (Or.inr ⟨_, rfl⟩) (by decide) (by decide) dJx4a65c_elementData_915e3_6 ?_
  exact ⟨rfl, rfl⟩
theorem dJx4a65c_get_915e3_0 : decode cJx4a65c_get_915e3 0 = .ok (.iload_n 1, 1) := by decide +kernel
theorem dJx4a65c_get_915e3_1 : decode cJx4a65c_get_915e3 1 = .ok (.aload_n 0, 1) := by decide +kernel
theorem dJx4a65c_get_915e3_2 : decode cJx4a65c_get_915e3 2 = .ok (.getfield 48, 3) := by decide +kernel
theorem dJx4a65c_get_915e3_5 : decode cJx4a65c_get_915e3 5 = .ok (.invokestatic 118, 3) := by decide +kernel
theorem dJx4a65c_get_915e3_8 : decode cJx4a65c_get_915e3 8 = .ok (.pop, 1) := by decide +kernel
theorem dJx4a65c_get_915e3_9 : decode cJx4a65c_get_915e3 9 = .ok (.aload_n 0, 1) := by decide +kernel
theorem dJx4a65c_get_915e3_10 : decode cJx4a65c_get_915e3 10 = .ok (.iload_n 1, 1) := by decide +kernel
theorem dJx4a65c_get_915e3_11 : decode cJx4a65c_get_915e3 11 = .ok (.invokevirtual 123, 3) := by decide +kernel
theorem dJx4a65c_get_915e3_14 : decode cJx4a65c_get_915e3 14 = .ok (.areturn, 1) := by decide +kernel
set_option maxHeartbeats 4000000 in
set_option maxRecDepth 100000 in
theorem c_Jx4a65c_get_915e3 (de : Nat) (w : Wd) (Kl Ke : Nat) (hL : KL Kl Ke) (a n i : Nat) (el : Nat → Nat) (hR : RLs w de Kl Ke a n el) (hi : i < n) : Ct yJx4a65c_get_915e3 cJx4a65c_get_915e3 2 (some (.object "java/lang/Object")) 2 43 0 0 de [.ref a, .int (nI i)] w (fun r w' => r = some (.ref (el i)) ∧ w = w') := by
  refine Ct.mk (by decide +kernel) [(0, .ref a), (1, .int (nI i))] rfl (Nat.le_of_ble_eq_true rfl) ?_
  intro p l e R s m args below meth c D cy z C hnm
  have hn600 := hR.2.2.1
  have ha := hR.1
  have hsz := hR.2.1
  obtain ⟨ar, hr, har, hlen, hle, hv⟩ := hR.nth hi
  refine g_iload_n C dJx4a65c_get_915e3_0 rfl ?_
  refine g_aload_n C dJx4a65c_get_915e3_1 rfl ?_
  refine g_getI C cls_0 Kl 2 ha hL.2.2.1 k_56 dJx4a65c_get_915e3_2 ?_
  refine g_callS C mt_J15_checkIndex_7cf53 [.int (nI i), .int (fI w Kl 2 a)] (c_J15_checkIndex_7cf53 de w (nI i) (fI w Kl 2 a) (nI_pos (by omega)) (by rw [hsz]; exact nI_lt hi (by omega))) k_403 rfl rfl (Nat.le_of_ble_eq_true rfl) (by decide) (by decide) (by decide) (by decide) dJx4a65c_get_915e3_5 (fun r_5 w_5 hp_5 => ?_)
  obtain ⟨rfl, rfl⟩ := hp_5
  refine g_pop C dJx4a65c_get_915e3_8 rfl ?_
  refine g_aload_n C dJx4a65c_get_915e3_9 rfl ?_
  refine g_iload_n C dJx4a65c_get_915e3_10 rfl ?_
  refine g_callV C cls_0 Kl mt_Jx4a65c_elementData_915e3 [.int (nI i)] (c_Jx4a65c_elementData_915e3 de w Kl Ke hL a ar (el i) (nI i) ha hr har (nI_vp (by omega) (by omega)) (by rw [nI_tn (by omega)]; exact hv)) ha hL.2.2.2.2 k_409 rfl rfl (Nat.le_of_ble_eq_true rfl) (by decide) (by decide) (by decide) (by decide) dJx4a65c_get_915e3_11 (fun r_11 w_11 hp_11 => ?_)
  obtain ⟨rfl, rfl⟩ := hp_11
  refine g_aret C rfl (Or.inl ⟨_, rfl⟩) (Or.inr ⟨_, rfl⟩) (by decide) (by decide) dJx4a65c_get_915e3_14 ?_
  exact ⟨rfl, rfl⟩
/-- what was told last of a list of tellings, latest first: the number and the tenths -/
def lstV : List (Nat × Int32) → Int32
  | [] => 0
  | [q] => q.2
  | _ :: q :: l => lstV (q :: l)
/-- the tellings at r, latest first -/
def ChnC (kf : Nat → Nat) (fi : Nat → Nat → Nat → Int32) (fr : Nat → Nat → Nat → Option Nat) : List (Nat × Int32) → Option Nat → Prop
  | [], r => r = none
  | q :: l, r => ∃ a : Nat, r = some a ∧ kf a = 9 ∧ fi 9 0 a = nI q.1 ∧ q.1 < 100000 ∧ fi 9 1 a = q.2 ∧ fi 9 2 a = lstV (q :: l) ∧ ChnC kf fi fr l (fr 9 3 a)
def Chn (w : Wd) (l : List (Nat × Int32)) (r : Option Nat) : Prop := ChnC w.1 w.2.1 w.2.2.1 l r
theorem Chn_cons {w : Wd} {q : Nat × Int32} {l : List (Nat × Int32)} {r : Option Nat} : Chn w (q :: l) r ↔ ∃ a : Nat, r = some a ∧ kd w a = 9 ∧ fI w 9 0 a = nI q.1 ∧ q.1 < 100000 ∧ fI w 9 1 a = q.2 ∧ fI w 9 2 a = lstV (q :: l) ∧ Chn w l (fR w 9 3 a) := Iff.rfl
theorem Chn.keep {w w' : Wd} (h : ∀ a, kd w a = 9 → SmA w w' a) : ∀ {l : List (Nat × Int32)} {r : Option Nat}, Chn w l r → Chn w' l r
  | [], _, hc => hc
  | q :: l, r, hc => by
    obtain ⟨a, h1, h2, h3, h4, h5, h6, h7⟩ := hc
    have s := h a h2
    refine ⟨a, h1, s.1.trans h2, (s.2.2.1 9 0).trans h3, h4, (s.2.2.1 9 1).trans h5, (s.2.2.1 9 2).trans h6, ?_⟩
    have e : w'.2.2.1 9 3 a = w.2.2.1 9 3 a := s.2.2.2.1 9 3
    rw [e]
    exact Chn.keep h h7
/-- what was known of it when n tellings had come: the first (kn = 0) or the latest; -1 for nothing -/
def datV : List (Nat × Int32) → Int32 → Nat → Int32
  | [], _, _ => -1
  | q :: l, kn, n => if n ≤ q.1 then datV l kn n else if kn = 0 then lstV (q :: l) else q.2
theorem dX6_distanceTo_0 : decode cX6_distanceTo 0 = .ok (.aload_n 0, 1) := by decide +kernel
theorem dX6_distanceTo_1 : decode cX6_distanceTo 1 = .ok (.getfield 25, 3) := by decide +kernel
theorem dX6_distanceTo_4 : decode cX6_distanceTo 4 = .ok (.iload_n 1, 1) := by decide +kernel
theorem dX6_distanceTo_5 : decode cX6_distanceTo 5 = .ok (.isub, 1) := by decide +kernel
theorem dX6_distanceTo_6 : decode cX6_distanceTo 6 = .ok (.aload_n 0, 1) := by decide +kernel
theorem dX6_distanceTo_7 : decode cX6_distanceTo 7 = .ok (.getfield 25, 3) := by decide +kernel
theorem dX6_distanceTo_10 : decode cX6_distanceTo 10 = .ok (.iload_n 1, 1) := by decide +kernel
theorem dX6_distanceTo_11 : decode cX6_distanceTo 11 = .ok (.isub, 1) := by decide +kernel
theorem dX6_distanceTo_12 : decode cX6_distanceTo 12 = .ok (.imul, 1) := by decide +kernel
theorem dX6_distanceTo_13 : decode cX6_distanceTo 13 = .ok (.aload_n 0, 1) := by decide +kernel
theorem dX6_distanceTo_14 : decode cX6_distanceTo 14 = .ok (.getfield 28, 3) := by decide +kernel
theorem dX6_distanceTo_17 : decode cX6_distanceTo 17 = .ok (.iload_n 2, 1) := by decide +kernel
theorem dX6_distanceTo_18 : decode cX6_distanceTo 18 = .ok (.isub, 1) := by decide +kernel
theorem dX6_distanceTo_19 : decode cX6_distanceTo 19 = .ok (.aload_n 0, 1) := by decide +kernel
theorem dX6_distanceTo_20 : decode cX6_distanceTo 20 = .ok (.getfield 28, 3) := by decide +kernel
theorem dX6_distanceTo_23 : decode cX6_distanceTo 23 = .ok (.iload_n 2, 1) := by decide +kernel
theorem dX6_distanceTo_24 : decode cX6_distanceTo 24 = .ok (.isub, 1) := by decide +kernel
theorem dX6_distanceTo_25 : decode cX6_distanceTo 25 = .ok (.imul, 1) := by decide +kernel
theorem dX6_distanceTo_26 : decode cX6_distanceTo 26 = .ok (.iadd, 1) := by decide +kernel
theorem dX6_distanceTo_27 : decode cX6_distanceTo 27 = .ok (.ireturn, 1) := by decide +kernel
set_option maxHeartbeats 4000000 in
set_option maxRecDepth 100000 in
theorem c_X6_distanceTo (de : Nat) (w : Wd) (a : Nat) (ha : kd w a = 8) (x y : Int32) : Ct yX6_distanceTo cX6_distanceTo 3 (some .int) 0 0 0 0 de [.ref a, .int x, .int y] w (fun r w' => r = some (.int ((fI w 8 1 a - x) * (fI w 8 1 a - x) + (fI w 8 2 a - y) * (fI w 8 2 a - y))) ∧ w = w') := by
  refine Ct.mk (by decide +kernel) [(0, .ref a), (1, .int x), (2, .int y)] rfl (Nat.le_of_ble_eq_true rfl) ?_
  intro p l e R s m args below meth c D cy z C hnm
  refine g_aload_n C dX6_distanceTo_0 rfl ?_
  refine g_getI C cls_7 8 1 ha rfl k_290 dX6_distanceTo_1 ?_
  refine g_iload_n C dX6_distanceTo_4 rfl ?_
  refine g_isub C dX6_distanceTo_5 ?_
  refine g_aload_n C dX6_distanceTo_6 rfl ?_
  refine g_getI C cls_7 8 1 ha rfl k_290 dX6_distanceTo_7 ?_
  refine g_iload_n C dX6_distanceTo_10 rfl ?_
  refine g_isub C dX6_distanceTo_11 ?_
  refine g_imul C dX6_distanceTo_12 ?_
  refine g_aload_n C dX6_distanceTo_13 rfl ?_
  refine g_getI C cls_7 8 2 ha rfl k_292 dX6_distanceTo_14 ?_
  refine g_iload_n C dX6_distanceTo_17 rfl ?_
  refine g_isub C dX6_distanceTo_18 ?_
  refine g_aload_n C dX6_distanceTo_19 rfl ?_
  refine g_getI C cls_7 8 2 ha rfl k_292 dX6_distanceTo_20 ?_
  refine g_iload_n C dX6_distanceTo_23 rfl ?_
  refine g_isub C dX6_distanceTo_24 ?_
  refine g_imul C dX6_distanceTo_25 ?_
  refine g_iadd C dX6_distanceTo_26 ?_
  refine g_iret C rfl rfl (by decide) (by decide) dX6_distanceTo_27 ?_
  exact ⟨rfl, rfl⟩
theorem dX6_datum_0 : decode cX6_datum 0 = .ok (.iload_n 1, 1) := by decide +kernel
theorem dX6_datum_1 : decode cX6_datum 1 = .ok (.ifCond .lt 12, 3) := by decide +kernel
theorem dX6_datum_4 : decode cX6_datum 4 = .ok (.iload_n 1, 1) := by decide +kernel
theorem dX6_datum_5 : decode cX6_datum 5 = .ok (.aload_n 0, 1) := by decide +kernel
theorem dX6_datum_6 : decode cX6_datum 6 = .ok (.getfield 11, 3) := by decide +kernel
theorem dX6_datum_9 : decode cX6_datum 9 = .ok (.arraylength, 1) := by decide +kernel
theorem dX6_datum_10 : decode cX6_datum 10 = .ok (.if_icmp .lt 7, 3) := by decide +kernel
theorem dX6_datum_17 : decode cX6_datum 17 = .ok (.aload_n 0, 1) := by decide +kernel
theorem dX6_datum_18 : decode cX6_datum 18 = .ok (.getfield 11, 3) := by decide +kernel
theorem dX6_datum_21 : decode cX6_datum 21 = .ok (.iload_n 1, 1) := by decide +kernel
theorem dX6_datum_22 : decode cX6_datum 22 = .ok (.aaload, 1) := by decide +kernel
theorem dX6_datum_23 : decode cX6_datum 23 = .ok (.astore 4, 2) := by decide +kernel
theorem dX6_datum_25 : decode cX6_datum 25 = .ok (.aload 4, 2) := by decide +kernel
theorem dX6_datum_27 : decode cX6_datum 27 = .ok (.ifnull 22, 3) := by decide +kernel
theorem dX6_datum_30 : decode cX6_datum 30 = .ok (.aload 4, 2) := by decide +kernel
theorem dX6_datum_32 : decode cX6_datum 32 = .ok (.getfield 34, 3) := by decide +kernel
theorem dX6_datum_35 : decode cX6_datum 35 = .ok (.iload_n 3, 1) := by decide +kernel
theorem dX6_datum_36 : decode cX6_datum 36 = .ok (.if_icmp .lt 13, 3) := by decide +kernel
theorem dX6_datum_39 : decode cX6_datum 39 = .ok (.aload 4, 2) := by decide +kernel
theorem dX6_datum_41 : decode cX6_datum 41 = .ok (.getfield 35, 3) := by decide +kernel
theorem dX6_datum_44 : decode cX6_datum 44 = .ok (.astore 4, 2) := by decide +kernel
theorem dX6_datum_46 : decode cX6_datum 46 = .ok (.goto (-21), 3) := by decide +kernel
theorem dX6_datum_49 : decode cX6_datum 49 = .ok (.aload 4, 2) := by decide +kernel
theorem dX6_datum_51 : decode cX6_datum 51 = .ok (.ifnonnull 5, 3) := by decide +kernel
theorem dX6_datum_54 : decode cX6_datum 54 = .ok (.iconst (-1), 1) := by decide +kernel
theorem dX6_datum_55 : decode cX6_datum 55 = .ok (.ireturn, 1) := by decide +kernel
theorem dX6_datum_56 : decode cX6_datum 56 = .ok (.iload_n 2, 1) := by decide +kernel
theorem dX6_datum_57 : decode cX6_datum 57 = .ok (.ifCond .ne 11, 3) := by decide +kernel
theorem dX6_datum_60 : decode cX6_datum 60 = .ok (.aload 4, 2) := by decide +kernel
theorem dX6_datum_62 : decode cX6_datum 62 = .ok (.getfield 39, 3) := by decide +kernel
theorem dX6_datum_65 : decode cX6_datum 65 = .ok (.goto 8, 3) := by decide +kernel
theorem dX6_datum_68 : decode cX6_datum 68 = .ok (.aload 4, 2) := by decide +kernel
theorem dX6_datum_70 : decode cX6_datum 70 = .ok (.getfield 42, 3) := by decide +kernel
theorem dX6_datum_73 : decode cX6_datum 73 = .ok (.ireturn, 1) := by decide +kernel
theorem datV_s {q : Nat × Int32} {l : List (Nat × Int32)} {kn : Int32} {n : Nat} (h : ¬ nI q.1 < nI n) (h1 : q.1 < 100000) (h2 : n < 100000) : datV (q :: l) kn n = datV l kn n := by
  rw [datV]
  exact if_pos (Nat.not_lt.mp (fun z => h (nI_lt z (by omega))))
theorem datV_0 {q : Nat × Int32} {l : List (Nat × Int32)} {kn : Int32} {n : Nat} (h : nI q.1 < nI n) (hk : kn = 0) (h1 : q.1 < 100000) (h2 : n < 100000) : datV (q :: l) kn n = lstV (q :: l) := by
  rw [datV, if_neg (fun z => nI_nlt z (by omega) h), if_pos hk]
theorem datV_1 {q : Nat × Int32} {l : List (Nat × Int32)} {kn : Int32} {n : Nat} (h : nI q.1 < nI n) (hk : ¬ kn = 0) (h1 : q.1 < 100000) (h2 : n < 100000) : datV (q :: l) kn n = q.2 := by
  rw [datV, if_neg (fun z => nI_nlt z (by omega) h), if_neg hk]
set_option maxHeartbeats 4000000 in
set_option maxRecDepth 100000 in
theorem c_X6_datum (de : Nat) (w : Wd) (a la d n : Nat) (kn : Int32) (l0 : List (Nat × Int32)) (ha : kd w a = 8) (hl3 : fR w 8 3 a = some la) (hla : kd w la = 1002) (hla2 : aL w la = 1200) (hd : d < 1200) (hn : n < 100000) (hc : Chn w l0 (aR w 1002 la d)) : Ct yX6_datum cX6_datum 5 (some .int) 0 0 0 0 de [.ref a, .int (nI d), .int kn, .int (nI n)] w (fun r w' => r = some (.int (datV l0 kn n)) ∧ w = w') := by
  refine Ct.mk (by decide +kernel) [(0, .ref a), (1, .int (nI d)), (2, .int kn), (3, .int (nI n))] rfl (Nat.le_of_ble_eq_true rfl) ?_
  intro p l e R s m args below meth c D cy z C hnm
  have hla9 : vp_in (nI d) (aL w la) := by rw [hla2]; exact nI_vp hd (by omega)
  have loop : ∀ (tl : List (Nat × Int32)) (r : Option Nat), Chn w tl r → datV tl kn n = datV l0 kn n → G p l e R s m args below meth c D cy z 5 w 0 0 25 [(0, .ref a), (1, .int (nI d)), (2, .int kn), (3, .int (nI n)), (4, va_rf r)] [] (QM below args s D cy z (fun r w' => r = some (.int (datV l0 kn n)) ∧ w = w') 0 0) := by
    intro tl
    induction tl with
    | nil =>
      intro r hr hV
      have hr : r = none := hr
      subst hr
      refine g_aloadN C dX6_datum_25 rfl ?_
      refine g_ifnullN C 49 dX6_datum_27 (by decide) ?_
      refine g_aloadN C dX6_datum_49 rfl ?_
      refine g_ifnonnullN C dX6_datum_51 ?_
      refine g_iconst C (-1) dX6_datum_54 (by rfl) ?_
      refine g_iret C rfl rfl (by decide) (by decide) dX6_datum_55 ?_
      exact ⟨congrArg (fun v => some (Value.int v)) hV, rfl⟩
    | cons q tl ih =>
      intro r hr hV
      obtain ⟨b, rfl, hb, hb0, hb1, hb2, hb3, hb4⟩ := Chn_cons.mp hr
      refine g_aload C dX6_datum_25 rfl ?_
      refine g_ifnull C dX6_datum_27 ?_
      refine g_aload C dX6_datum_30 rfl ?_
      refine g_getI C cls_8 9 0 hb rfl k_432 dX6_datum_32 ?_
      refine g_iload_n C dX6_datum_35 rfl ?_
      refine g_icmp_lt C 49 dX6_datum_36 (by decide) (fun c_36 => ?_) (fun c_36 => ?_)
      · refine g_aload C dX6_datum_49 rfl ?_
        refine g_ifnonnull C 56 dX6_datum_51 (by decide) ?_
        refine g_iload_n C dX6_datum_56 rfl ?_
        refine g_if_ne C 68 dX6_datum_57 (by decide) (fun c_57 => ?_) (fun c_57 => ?_)
        · refine g_aload C dX6_datum_68 rfl ?_
          refine g_getI C cls_8 9 1 hb rfl k_434 dX6_datum_70 ?_
          refine g_iret C rfl rfl (by decide) (by decide) dX6_datum_73 ?_
          first | exact ⟨congrArg (fun v => some (Value.int v)) (by rw [← hV, hb3]; exact (datV_0 (hb0 ▸ c_36) c_57 hb1 hn).symm), rfl⟩ | exact ⟨congrArg (fun v => some (Value.int v)) (by rw [← hV, hb2]; exact (datV_1 (hb0 ▸ c_36) c_57 hb1 hn).symm), rfl⟩
        · refine g_aload C dX6_datum_60 rfl ?_
          refine g_getI C cls_8 9 2 hb rfl k_436 dX6_datum_62 ?_
          refine g_goto C 73 dX6_datum_65 (by decide) ?_
          refine g_iret C rfl rfl (by decide) (by decide) dX6_datum_73 ?_
          first | exact ⟨congrArg (fun v => some (Value.int v)) (by rw [← hV, hb3]; exact (datV_0 (hb0 ▸ c_36) c_57 hb1 hn).symm), rfl⟩ | exact ⟨congrArg (fun v => some (Value.int v)) (by rw [← hV, hb2]; exact (datV_1 (hb0 ▸ c_36) c_57 hb1 hn).symm), rfl⟩
      · refine g_aload C dX6_datum_39 rfl ?_
        refine g_getO C cls_8 9 3 hb rfl k_438 dX6_datum_41 ?_
        refine g_astoreR C dX6_datum_44 (by decide) ?_
        refine g_goto C 25 dX6_datum_46 (by decide) ?_
        refine g_lv2 [(0, .ref a), (1, .int (nI d)), (2, .int kn), (3, .int (nI n)), (4, va_rf (fR w 9 3 b))] rfl ?_
        exact ih _ hb4 ((datV_s (hb0 ▸ c_36) hb1 hn).symm.trans hV)
  refine g_iload_n C dX6_datum_0 rfl ?_
  refine g_if_lt C 13 dX6_datum_1 (by decide) (fun c_1 => ?_) (fun c_1 => ?_)
  · first | exact absurd c_1 (nI_pos (by omega)) | exact absurd (by rw [hla2]; exact nI_lt hd (by decide)) c_10
  · refine g_iload_n C dX6_datum_4 rfl ?_
    refine g_aload_n C dX6_datum_5 rfl ?_
    refine g_getR (b := la) C cls_7 8 3 ha hl3 rfl k_294 dX6_datum_6 ?_
    refine g_alen C 1002 2 hla rfl (by decide) dX6_datum_9 ?_
    refine g_icmp_lt C 17 dX6_datum_10 (by decide) (fun c_10 => ?_) (fun c_10 => ?_)
    · refine g_aload_n C dX6_datum_17 rfl ?_
      refine g_getR (b := la) C cls_7 8 3 ha hl3 rfl k_294 dX6_datum_18 ?_
      refine g_iload_n C dX6_datum_21 rfl ?_
      refine g_aald C 1002 (aR w 1002 la d) hla (Or.inl rfl) hla9 (by rw [nI_tn (by omega)]) dX6_datum_22 ?_
      refine g_astoreR C dX6_datum_23 (by decide) ?_
      refine g_lv2 [(0, .ref a), (1, .int (nI d)), (2, .int kn), (3, .int (nI n)), (4, va_rf (aR w 1002 la d))] rfl ?_
      exact loop l0 _ hc rfl
    · first | exact absurd c_1 (nI_pos (by omega)) | exact absurd (by rw [hla2]; exact nI_lt hd (by decide)) c_10
end LISTS9
end
section
section SEASON10
theorem nI_le_of {a b : Nat} (h : nI a ≤ nI b) (ha : a < 100000) (hb : b < 100000) : a ≤ b := (nI_leI (by omega) (by omega)).mp h
theorem nI_lt_of {a b : Nat} (h : nI a < nI b) (ha : a < 100000) (hb : b < 100000) : a < b := (nI_ltI (by omega) (by omega)).mp h
theorem nI_nle_of {a b : Nat} (h : ¬ nI a ≤ nI b) (ha : a < 100000) (hb : b < 100000) : b < a := Nat.not_le.mp (fun z => h ((nI_leI (by omega) (by omega)).mpr z))
theorem nI_nlt_of {a b : Nat} (h : ¬ nI a < nI b) (ha : a < 100000) (hb : b < 100000) : b ≤ a := Nat.not_lt.mp (fun z => h ((nI_ltI (by omega) (by omega)).mpr z))
theorem c_sz (de : Nat) (w : Wd) (Kl Ke : Nat) (hL : KL Kl Ke) (a n : Nat) (el : Nat → Nat) (hR : RLs w de Kl Ke a n el) : Ct yJx4a65c_size_8abf5 cJx4a65c_size_8abf5 1 (some .int) 0 0 0 0 de [.ref a] w (fun r w' => r = some (.int (nI n)) ∧ w = w') := by
  have h := c_Jx4a65c_size_8abf5 de w Kl Ke hL a hR.1
  rw [hR.2.1] at h
  exact h
theorem KL_st : KL 81 1013 := ⟨rfl, rfl, rfl, rfl, by decide⟩
theorem KL_pr : KL 21 1023 := ⟨rfl, rfl, rfl, rfl, by decide⟩
theorem KL_fa : KL 41 1033 := ⟨rfl, rfl, rfl, rfl, by decide⟩
theorem KL_co : KL 61 1043 := ⟨rfl, rfl, rfl, rfl, by decide⟩
theorem KL_ph : KL 101 1053 := ⟨rfl, rfl, rfl, rfl, by decide⟩
/-- the weather at we: its stations stA k, their rows laA k, their places, what was told of them -/
def WS9 (w : Wd) (de we sl nS : Nat) (stA laA : Nat → Nat) (xs ys : Nat → Int32) (ch : Nat → Nat → List (Nat × Int32)) : Prop := kd w we = 10 ∧ fR w 10 0 we = some sl ∧ RLs w de 81 1013 sl nS stA ∧ nS ≤ 5 ∧
  ∀ k, k < nS → kd w (stA k) = 8 ∧ fI w 8 0 (stA k) = nI k ∧ fI w 8 1 (stA k) = xs k ∧ fI w 8 2 (stA k) = ys k ∧ fR w 8 3 (stA k) = some (laA k) ∧ kd w (laA k) = 1002 ∧ aL w (laA k) = 1200 ∧ ∀ d, d < 1200 → Chn w (ch k d) (aR w 1002 (laA k) d)
def disV (xs ys : Nat → Int32) (x y : Int32) (k : Nat) : Int32 := (xs k - x) * (xs k - x) + (ys k - y) * (ys k - y)
/-- the nearest of those with a datum, among the first k, and its rain -/
def nearF (dat dist : Nat → Int32) : Nat → Option Nat × Int32
  | 0 => (none, 0)
  | k + 1 => if dat k = -1 then nearF dat dist k else match (nearF dat dist k).1 with
    | none => (some k, dat k)
    | some j => if dist k < dist j then (some k, dat k) else nearF dat dist k
def rainV (nS : Nat) (xs ys dat : Nat → Int32) (s : Nat) : Int32 := if dat s = -1 then (nearF dat (disV xs ys (xs s) (ys s)) nS).2 else dat s
theorem nearF_0 {dat dist : Nat → Int32} {k : Nat} (h : dat k = -1) : nearF dat dist (k + 1) = nearF dat dist k := by rw [nearF, if_pos h]
theorem nearF_1 {dat dist : Nat → Int32} {k : Nat} (h : ¬ dat k = -1) (h2 : (nearF dat dist k).1 = none) : nearF dat dist (k + 1) = (some k, dat k) := by rw [nearF, if_neg h, h2]
theorem nearF_2 {dat dist : Nat → Int32} {k j : Nat} (h : ¬ dat k = -1) (h2 : (nearF dat dist k).1 = some j) (h3 : dist k < dist j) : nearF dat dist (k + 1) = (some k, dat k) := by rw [nearF, if_neg h, h2]; exact if_pos h3
theorem nearF_3 {dat dist : Nat → Int32} {k j : Nat} (h : ¬ dat k = -1) (h2 : (nearF dat dist k).1 = some j) (h3 : ¬ dist k < dist j) : nearF dat dist (k + 1) = nearF dat dist k := by rw [nearF, if_neg h, h2]; exact if_neg h3
theorem nearF_lt {dat dist : Nat → Int32} : ∀ {k j : Nat}, (nearF dat dist k).1 = some j → j < k
  | 0, j, h => by cases h
  | k + 1, j, h => by
    by_cases h1 : dat k = -1
    · rw [nearF_0 h1] at h; exact Nat.lt_succ_of_lt (nearF_lt h)
    · cases h2 : (nearF dat dist k).1 with
      | none => rw [nearF_1 h1 h2] at h; cases h; exact Nat.lt_succ_self _
      | some i =>
        by_cases h3 : dist k < dist i
        · rw [nearF_2 h1 h2 h3] at h; cases h; exact Nat.lt_succ_self _
        · rw [nearF_3 h1 h2 h3] at h; exact Nat.lt_succ_of_lt (nearF_lt h)
/-- the nearest of all stations to a place -/
def nearS (dist : Nat → Int32) : Nat → Option Nat
  | 0 => none
  | k + 1 => match nearS dist k with
    | none => some k
    | some j => if dist k < dist j then some k else some j
theorem nearS_lt {dist : Nat → Int32} : ∀ {k j : Nat}, nearS dist k = some j → j < k
  | 0, j, h => by cases h
  | k + 1, j, h => by
    rw [nearS] at h
    cases h2 : nearS dist k with
    | none => rw [h2] at h; cases h; exact Nat.lt_succ_self _
    | some i =>
      rw [h2] at h
      have hi := nearS_lt h2
      by_cases h3 : dist k < dist i
      · have h : (if dist k < dist i then some k else some i) = some j := h
        rw [if_pos h3] at h; cases h; exact Nat.lt_succ_self _
      · have h : (if dist k < dist i then some k else some i) = some j := h
        rw [if_neg h3] at h; cases h; omega
theorem nearS_1 {dist : Nat → Int32} {k : Nat} (h : nearS dist k = none) : nearS dist (k + 1) = some k := by rw [nearS, h]
theorem nearS_2 {dist : Nat → Int32} {k j : Nat} (h : nearS dist k = some j) (h3 : dist k < dist j) : nearS dist (k + 1) = some k := by rw [nearS, h]; exact if_pos h3
theorem nearS_3 {dist : Nat → Int32} {k j : Nat} (h : nearS dist k = some j) (h3 : ¬ dist k < dist j) : nearS dist (k + 1) = some j := by rw [nearS, h]; exact if_neg h3
theorem dX8_rainOn_0 : decode cX8_rainOn 0 = .ok (.aload_n 1, 1) := by decide +kernel
theorem dX8_rainOn_1 : decode cX8_rainOn 1 = .ok (.iload_n 2, 1) := by decide +kernel
theorem dX8_rainOn_2 : decode cX8_rainOn 2 = .ok (.iload_n 3, 1) := by decide +kernel
theorem dX8_rainOn_3 : decode cX8_rainOn 3 = .ok (.iload 4, 2) := by decide +kernel
theorem dX8_rainOn_5 : decode cX8_rainOn 5 = .ok (.invokevirtual 22, 3) := by decide +kernel
theorem dX8_rainOn_8 : decode cX8_rainOn 8 = .ok (.istore 5, 2) := by decide +kernel
theorem dX8_rainOn_10 : decode cX8_rainOn 10 = .ok (.iload 5, 2) := by decide +kernel
theorem dX8_rainOn_12 : decode cX8_rainOn 12 = .ok (.iconst (-1), 1) := by decide +kernel
theorem dX8_rainOn_13 : decode cX8_rainOn 13 = .ok (.if_icmp .eq 6, 3) := by decide +kernel
theorem dX8_rainOn_16 : decode cX8_rainOn 16 = .ok (.iload 5, 2) := by decide +kernel
theorem dX8_rainOn_18 : decode cX8_rainOn 18 = .ok (.ireturn, 1) := by decide +kernel
theorem dX8_rainOn_19 : decode cX8_rainOn 19 = .ok (.iconst 0, 1) := by decide +kernel
theorem dX8_rainOn_20 : decode cX8_rainOn 20 = .ok (.istore 5, 2) := by decide +kernel
theorem dX8_rainOn_22 : decode cX8_rainOn 22 = .ok (.aconst_null, 1) := by decide +kernel
theorem dX8_rainOn_23 : decode cX8_rainOn 23 = .ok (.astore 6, 2) := by decide +kernel
theorem dX8_rainOn_25 : decode cX8_rainOn 25 = .ok (.iconst 0, 1) := by decide +kernel
theorem dX8_rainOn_26 : decode cX8_rainOn 26 = .ok (.istore 7, 2) := by decide +kernel
theorem dX8_rainOn_28 : decode cX8_rainOn 28 = .ok (.iload 7, 2) := by decide +kernel
theorem dX8_rainOn_30 : decode cX8_rainOn 30 = .ok (.aload_n 0, 1) := by decide +kernel
theorem dX8_rainOn_31 : decode cX8_rainOn 31 = .ok (.getfield 12, 3) := by decide +kernel
theorem dX8_rainOn_34 : decode cX8_rainOn 34 = .ok (.invokevirtual 32, 3) := by decide +kernel
theorem dX8_rainOn_37 : decode cX8_rainOn 37 = .ok (.if_icmp .ge 82, 3) := by decide +kernel
theorem dX8_rainOn_40 : decode cX8_rainOn 40 = .ok (.aload_n 0, 1) := by decide +kernel
theorem dX8_rainOn_41 : decode cX8_rainOn 41 = .ok (.getfield 12, 3) := by decide +kernel
theorem dX8_rainOn_44 : decode cX8_rainOn 44 = .ok (.iload 7, 2) := by decide +kernel
theorem dX8_rainOn_46 : decode cX8_rainOn 46 = .ok (.invokevirtual 36, 3) := by decide +kernel
theorem dX8_rainOn_49 : decode cX8_rainOn 49 = .ok (.checkcast 23, 3) := by decide +kernel
theorem dX8_rainOn_52 : decode cX8_rainOn 52 = .ok (.astore 8, 2) := by decide +kernel
theorem dX8_rainOn_54 : decode cX8_rainOn 54 = .ok (.aload 8, 2) := by decide +kernel
theorem dX8_rainOn_56 : decode cX8_rainOn 56 = .ok (.iload_n 2, 1) := by decide +kernel
theorem dX8_rainOn_57 : decode cX8_rainOn 57 = .ok (.iload_n 3, 1) := by decide +kernel
theorem dX8_rainOn_58 : decode cX8_rainOn 58 = .ok (.iload 4, 2) := by decide +kernel
theorem dX8_rainOn_60 : decode cX8_rainOn 60 = .ok (.invokevirtual 22, 3) := by decide +kernel
theorem dX8_rainOn_63 : decode cX8_rainOn 63 = .ok (.istore 9, 2) := by decide +kernel
theorem dX8_rainOn_65 : decode cX8_rainOn 65 = .ok (.iload 9, 2) := by decide +kernel
theorem dX8_rainOn_67 : decode cX8_rainOn 67 = .ok (.iconst (-1), 1) := by decide +kernel
theorem dX8_rainOn_68 : decode cX8_rainOn 68 = .ok (.if_icmp .eq 45, 3) := by decide +kernel
theorem dX8_rainOn_71 : decode cX8_rainOn 71 = .ok (.aload 6, 2) := by decide +kernel
theorem dX8_rainOn_73 : decode cX8_rainOn 73 = .ok (.ifnull 32, 3) := by decide +kernel
theorem dX8_rainOn_76 : decode cX8_rainOn 76 = .ok (.aload 8, 2) := by decide +kernel
theorem dX8_rainOn_78 : decode cX8_rainOn 78 = .ok (.aload_n 1, 1) := by decide +kernel
theorem dX8_rainOn_79 : decode cX8_rainOn 79 = .ok (.getfield 44, 3) := by decide +kernel
theorem dX8_rainOn_82 : decode cX8_rainOn 82 = .ok (.aload_n 1, 1) := by decide +kernel
theorem dX8_rainOn_83 : decode cX8_rainOn 83 = .ok (.getfield 47, 3) := by decide +kernel
theorem dX8_rainOn_86 : decode cX8_rainOn 86 = .ok (.invokevirtual 40, 3) := by decide +kernel
theorem dX8_rainOn_89 : decode cX8_rainOn 89 = .ok (.aload 6, 2) := by decide +kernel
theorem dX8_rainOn_91 : decode cX8_rainOn 91 = .ok (.aload_n 1, 1) := by decide +kernel
theorem dX8_rainOn_92 : decode cX8_rainOn 92 = .ok (.getfield 44, 3) := by decide +kernel
theorem dX8_rainOn_95 : decode cX8_rainOn 95 = .ok (.aload_n 1, 1) := by decide +kernel
theorem dX8_rainOn_96 : decode cX8_rainOn 96 = .ok (.getfield 47, 3) := by decide +kernel
theorem dX8_rainOn_99 : decode cX8_rainOn 99 = .ok (.invokevirtual 40, 3) := by decide +kernel
theorem dX8_rainOn_102 : decode cX8_rainOn 102 = .ok (.if_icmp .ge 11, 3) := by decide +kernel
theorem dX8_rainOn_105 : decode cX8_rainOn 105 = .ok (.aload 8, 2) := by decide +kernel
theorem dX8_rainOn_107 : decode cX8_rainOn 107 = .ok (.astore 6, 2) := by decide +kernel
theorem dX8_rainOn_109 : decode cX8_rainOn 109 = .ok (.iload 9, 2) := by decide +kernel
theorem dX8_rainOn_111 : decode cX8_rainOn 111 = .ok (.istore 5, 2) := by decide +kernel
theorem dX8_rainOn_113 : decode cX8_rainOn 113 = .ok (.iinc 7 1, 3) := by decide +kernel
theorem dX8_rainOn_116 : decode cX8_rainOn 116 = .ok (.goto (-88), 3) := by decide +kernel
theorem dX8_rainOn_119 : decode cX8_rainOn 119 = .ok (.iload 5, 2) := by decide +kernel
theorem dX8_rainOn_121 : decode cX8_rainOn 121 = .ok (.ireturn, 1) := by decide +kernel
set_option maxHeartbeats 4000000 in
set_option maxRecDepth 100000 in
theorem c_X8_rainOn (de : Nat) (w : Wd) (we sl nS : Nat) (stA laA : Nat → Nat) (xs ys : Nat → Int32) (ch : Nat → Nat → List (Nat × Int32)) (hw : WS9 w de we sl nS stA laA xs ys ch) (s0 d n : Nat) (kn : Int32) (hs : s0 < nS) (hd : d < 1200) (hn : n < 100000) : Ct yX8_rainOn cX8_rainOn 10 (some .int) 3 64 0 0 de [.ref we, .ref (stA s0), .int (nI d), .int kn, .int (nI n)] w (fun r w' => r = some (.int (rainV nS xs ys (fun k => datV (ch k d) kn n) s0)) ∧ w = w') := by
  refine Ct.mk (by decide +kernel) [(0, .ref we), (1, .ref (stA s0)), (2, .int (nI d)), (3, .int kn), (4, .int (nI n))] rfl (Nat.le_of_ble_eq_true rfl) ?_
  intro p l e R s m args below meth c D cy z C hnm
  obtain ⟨hwe, hsl, hR, hn5, hst⟩ := hw
  have hs0 := (hst s0 hs).1
  generalize hdat : (fun k => datV (ch k d) kn n) = dat
  generalize hdis : disV xs ys (xs s0) (ys s0) = dist
  have hd0 : datV (ch s0 d) kn n = dat s0 := by rw [← hdat]
  have hV : rainV nS xs ys dat s0 = if dat s0 = -1 then (nearF dat dist nS).2 else dat s0 := by rw [← hdis]; rfl
  have hds : ∀ k, k < nS → (fI w 8 1 (stA k) - fI w 8 1 (stA s0)) * (fI w 8 1 (stA k) - fI w 8 1 (stA s0)) + (fI w 8 2 (stA k) - fI w 8 2 (stA s0)) * (fI w 8 2 (stA k) - fI w 8 2 (stA s0)) = dist k := by
    intro k hk
    rw [(hst k hk).2.2.1, (hst k hk).2.2.2.1, (hst s0 hs).2.2.1, (hst s0 hs).2.2.2.1, ← hdis]
    rfl
  have loop : dat s0 = -1 → ∀ (k i : Nat), i + k = nS → G p l e R s m args below meth c D cy z 10 w 0 0 28 [(0, .ref we), (1, .ref (stA s0)), (2, .int (nI d)), (3, .int kn), (4, .int (nI n)), (5, .int (nearF dat dist i).2), (6, va_rf ((nearF dat dist i).1.map stA)), (7, .int (nI i))] [] (QM below args s D cy z (fun r w' => r = some (.int (rainV nS xs ys dat s0)) ∧ w = w') 0 0) := by
    intro hm1 k
    induction k with
    | zero =>
      intro i hik
      refine g_iload C dX8_rainOn_28 rfl ?_
      refine g_aload_n C dX8_rainOn_30 rfl ?_
      refine g_getR (b := sl) C cls_9 10 0 hwe hsl rfl k_67 dX8_rainOn_31 ?_
      refine g_callV C cls_0 81 mt_Jx4a65c_size_8abf5 [] (c_sz de w 81 1013 KL_st sl nS stA hR) hR.1 (by decide) k_517 rfl rfl (Nat.le_of_ble_eq_true rfl) (by decide) (by decide) (by decide) (by decide) dX8_rainOn_34 (fun r_34 w_34 hp_34 => ?_)
      obtain ⟨rfl, rfl⟩ := hp_34
      refine g_icmp_ge C 119 dX8_rainOn_37 (by decide) (fun c_37 => ?_) (fun c_37 => ?_)
      · refine g_iload C dX8_rainOn_119 rfl ?_
        refine g_iret C rfl rfl (by decide) (by decide) dX8_rainOn_121 ?_
        exact ⟨congrArg (fun v => some (Value.int v)) (by rw [hV, if_pos hm1, show i = nS by omega]), rfl⟩
      · exact absurd (nI_nle_of c_37 (by omega) (by omega)) (by omega)
    | succ k ih =>
      intro i hik
      have hi : i < nS := by omega
      rcases hnr : (nearF dat dist i).1 with _ | j
      · refine g_iload C dX8_rainOn_28 rfl ?_
        refine g_aload_n C dX8_rainOn_30 rfl ?_
        refine g_getR (b := sl) C cls_9 10 0 hwe hsl rfl k_67 dX8_rainOn_31 ?_
        refine g_callV C cls_0 81 mt_Jx4a65c_size_8abf5 [] (c_sz de w 81 1013 KL_st sl nS stA hR) hR.1 (by decide) k_517 rfl rfl (Nat.le_of_ble_eq_true rfl) (by decide) (by decide) (by decide) (by decide) dX8_rainOn_34 (fun r_34 w_34 hp_34 => ?_)
        obtain ⟨rfl, rfl⟩ := hp_34
        refine g_icmp_ge C 119 dX8_rainOn_37 (by decide) (fun c_37 => ?_) (fun c_37 => ?_)
        · exact absurd (nI_le_of c_37 (by omega) (by omega)) (by omega)
        · refine g_aload_n C dX8_rainOn_40 rfl ?_
          refine g_getR (b := sl) C cls_9 10 0 hwe hsl rfl k_67 dX8_rainOn_41 ?_
          refine g_iload C dX8_rainOn_44 rfl ?_
          refine g_callV C cls_0 81 mt_Jx4a65c_get_915e3 [.int (nI i)] (c_Jx4a65c_get_915e3 de w 81 1013 KL_st sl nS i stA hR hi) hR.1 (by decide) k_518 rfl rfl (Nat.le_of_ble_eq_true rfl) (by decide) (by decide) (by decide) (by decide) dX8_rainOn_46 (fun r_46 w_46 hp_46 => ?_)
          obtain ⟨rfl, rfl⟩ := hp_46
          refine g_cast C cls_7 8 (hst i hi).1 (by decide) k_519 dX8_rainOn_49 ?_
          refine g_astore C dX8_rainOn_52 (by decide) ?_
          refine g_aload C dX8_rainOn_54 rfl ?_
          refine g_iload_n C dX8_rainOn_56 rfl ?_
          refine g_iload_n C dX8_rainOn_57 rfl ?_
          refine g_iload C dX8_rainOn_58 rfl ?_
          refine g_callV C cls_7 8 mt_X6_datum [.int (nI d), .int kn, .int (nI n)] (c_X6_datum de w (stA i) (laA i) d n kn (ch i d) (hst i hi).1 (hst i hi).2.2.2.2.1 (hst i hi).2.2.2.2.2.1 (hst i hi).2.2.2.2.2.2.1 hd hn ((hst i hi).2.2.2.2.2.2.2 d hd)) (hst i hi).1 (by decide) k_418 rfl rfl (Nat.le_of_ble_eq_true rfl) (by decide) (by decide) (by decide) (by decide) dX8_rainOn_60 (fun r_60 w_60 hp_60 => ?_)
          obtain ⟨rfl, rfl⟩ := hp_60
          rw [show datV (ch i d) kn n = dat i by rw [← hdat]]
          refine g_istore C dX8_rainOn_63 (by decide) ?_
          refine g_iload C dX8_rainOn_65 rfl ?_
          refine g_iconst C (-1) dX8_rainOn_67 (by rfl) ?_
          refine g_icmp_eq C 113 dX8_rainOn_68 (by decide) (fun c_68 => ?_) (fun c_68 => ?_)
          · refine g_iinc C dX8_rainOn_113 rfl (nI_1 i) (by decide) ?_
            refine g_goto C 28 dX8_rainOn_116 (by decide) ?_
            have e9 := nearF_0 (dist := dist) c_68
            have h9 := ih (i + 1) (by omega)
            rw [e9, hnr] at h9
            exact g_lv2 [(0, .ref we), (1, .ref (stA s0)), (2, .int (nI d)), (3, .int kn), (4, .int (nI n)), (5, .int (nearF dat dist i).2), (6, .null), (7, .int (nI (i + 1)))] rfl h9
          · refine g_aloadN C dX8_rainOn_71 rfl ?_
            refine g_ifnullN C 105 dX8_rainOn_73 (by decide) ?_
            refine g_aload C dX8_rainOn_105 rfl ?_
            refine g_astore C dX8_rainOn_107 (by decide) ?_
            refine g_iload C dX8_rainOn_109 rfl ?_
            refine g_istore C dX8_rainOn_111 (by decide) ?_
            refine g_iinc C dX8_rainOn_113 rfl (nI_1 i) (by decide) ?_
            refine g_goto C 28 dX8_rainOn_116 (by decide) ?_
            (have e9 := nearF_1 c_68 hnr; have h9 := ih (i + 1) (by omega); rw [e9] at h9; exact g_lv2 [(0, .ref we), (1, .ref (stA s0)), (2, .int (nI d)), (3, .int kn), (4, .int (nI n)), (5, .int (dat i)), (6, .ref (stA i)), (7, .int (nI (i + 1)))] rfl h9)
      · have hj : j < nS := by have := nearF_lt hnr; omega
        refine g_iload C dX8_rainOn_28 rfl ?_
        refine g_aload_n C dX8_rainOn_30 rfl ?_
        refine g_getR (b := sl) C cls_9 10 0 hwe hsl rfl k_67 dX8_rainOn_31 ?_
        refine g_callV C cls_0 81 mt_Jx4a65c_size_8abf5 [] (c_sz de w 81 1013 KL_st sl nS stA hR) hR.1 (by decide) k_517 rfl rfl (Nat.le_of_ble_eq_true rfl) (by decide) (by decide) (by decide) (by decide) dX8_rainOn_34 (fun r_34 w_34 hp_34 => ?_)
        obtain ⟨rfl, rfl⟩ := hp_34
        refine g_icmp_ge C 119 dX8_rainOn_37 (by decide) (fun c_37 => ?_) (fun c_37 => ?_)
        · exact absurd (nI_le_of c_37 (by omega) (by omega)) (by omega)
        · refine g_aload_n C dX8_rainOn_40 rfl ?_
          refine g_getR (b := sl) C cls_9 10 0 hwe hsl rfl k_67 dX8_rainOn_41 ?_
          refine g_iload C dX8_rainOn_44 rfl ?_
          refine g_callV C cls_0 81 mt_Jx4a65c_get_915e3 [.int (nI i)] (c_Jx4a65c_get_915e3 de w 81 1013 KL_st sl nS i stA hR hi) hR.1 (by decide) k_518 rfl rfl (Nat.le_of_ble_eq_true rfl) (by decide) (by decide) (by decide) (by decide) dX8_rainOn_46 (fun r_46 w_46 hp_46 => ?_)
          obtain ⟨rfl, rfl⟩ := hp_46
          refine g_cast C cls_7 8 (hst i hi).1 (by decide) k_519 dX8_rainOn_49 ?_
          refine g_astore C dX8_rainOn_52 (by decide) ?_
          refine g_aload C dX8_rainOn_54 rfl ?_
          refine g_iload_n C dX8_rainOn_56 rfl ?_
          refine g_iload_n C dX8_rainOn_57 rfl ?_
          refine g_iload C dX8_rainOn_58 rfl ?_
          refine g_callV C cls_7 8 mt_X6_datum [.int (nI d), .int kn, .int (nI n)] (c_X6_datum de w (stA i) (laA i) d n kn (ch i d) (hst i hi).1 (hst i hi).2.2.2.2.1 (hst i hi).2.2.2.2.2.1 (hst i hi).2.2.2.2.2.2.1 hd hn ((hst i hi).2.2.2.2.2.2.2 d hd)) (hst i hi).1 (by decide) k_418 rfl rfl (Nat.le_of_ble_eq_true rfl) (by decide) (by decide) (by decide) (by decide) dX8_rainOn_60 (fun r_60 w_60 hp_60 => ?_)
          obtain ⟨rfl, rfl⟩ := hp_60
          rw [show datV (ch i d) kn n = dat i by rw [← hdat]]
          refine g_istore C dX8_rainOn_63 (by decide) ?_
          refine g_iload C dX8_rainOn_65 rfl ?_
          refine g_iconst C (-1) dX8_rainOn_67 (by rfl) ?_
          refine g_icmp_eq C 113 dX8_rainOn_68 (by decide) (fun c_68 => ?_) (fun c_68 => ?_)
          · refine g_iinc C dX8_rainOn_113 rfl (nI_1 i) (by decide) ?_
            refine g_goto C 28 dX8_rainOn_116 (by decide) ?_
            first
            | (have e9 := nearF_0 (dist := dist) c_68; have h9 := ih (i + 1) (by omega); rw [e9, hnr] at h9; exact g_lv2 [(0, .ref we), (1, .ref (stA s0)), (2, .int (nI d)), (3, .int kn), (4, .int (nI n)), (5, .int (nearF dat dist i).2), (6, .ref (stA j)), (7, .int (nI (i + 1)))] rfl h9)
            | (have e9 := nearF_3 c_68 hnr (Int32.not_lt.mpr c_102); have h9 := ih (i + 1) (by omega); rw [e9, hnr] at h9; exact g_lv2 [(0, .ref we), (1, .ref (stA s0)), (2, .int (nI d)), (3, .int kn), (4, .int (nI n)), (5, .int (nearF dat dist i).2), (6, .ref (stA j)), (7, .int (nI (i + 1)))] rfl h9)
          · refine g_aload C dX8_rainOn_71 rfl ?_
            refine g_ifnull C dX8_rainOn_73 ?_
            refine g_aload C dX8_rainOn_76 rfl ?_
            refine g_aload_n C dX8_rainOn_78 rfl ?_
            refine g_getI C cls_7 8 1 hs0 rfl k_291 dX8_rainOn_79 ?_
            refine g_aload_n C dX8_rainOn_82 rfl ?_
            refine g_getI C cls_7 8 2 hs0 rfl k_293 dX8_rainOn_83 ?_
            refine g_callV C cls_7 8 mt_X6_distanceTo [.int (fI w 8 1 (stA s0)), .int (fI w 8 2 (stA s0))] (c_X6_distanceTo de w (stA i) (hst i hi).1 (fI w 8 1 (stA s0)) (fI w 8 2 (stA s0))) (hst i hi).1 (by decide) k_520 rfl rfl (Nat.le_of_ble_eq_true rfl) (by decide) (by decide) (by decide) (by decide) dX8_rainOn_86 (fun r_86 w_86 hp_86 => ?_)
            obtain ⟨rfl, rfl⟩ := hp_86
            rw [hds i hi]
            refine g_aload C dX8_rainOn_89 rfl ?_
            refine g_aload_n C dX8_rainOn_91 rfl ?_
            refine g_getI C cls_7 8 1 hs0 rfl k_291 dX8_rainOn_92 ?_
            refine g_aload_n C dX8_rainOn_95 rfl ?_
            refine g_getI C cls_7 8 2 hs0 rfl k_293 dX8_rainOn_96 ?_
            refine g_callV C cls_7 8 mt_X6_distanceTo [.int (fI w 8 1 (stA s0)), .int (fI w 8 2 (stA s0))] (c_X6_distanceTo de w (stA j) (hst j hj).1 (fI w 8 1 (stA s0)) (fI w 8 2 (stA s0))) (hst j hj).1 (by decide) k_520 rfl rfl (Nat.le_of_ble_eq_true rfl) (by decide) (by decide) (by decide) (by decide) dX8_rainOn_99 (fun r_99 w_99 hp_99 => ?_)
            obtain ⟨rfl, rfl⟩ := hp_99
            rw [hds j hj]
            refine g_icmp_ge C 113 dX8_rainOn_102 (by decide) (fun c_102 => ?_) (fun c_102 => ?_)
            · refine g_iinc C dX8_rainOn_113 rfl (nI_1 i) (by decide) ?_
              refine g_goto C 28 dX8_rainOn_116 (by decide) ?_
              first
              | (have e9 := nearF_0 (dist := dist) c_68; have h9 := ih (i + 1) (by omega); rw [e9, hnr] at h9; exact g_lv2 [(0, .ref we), (1, .ref (stA s0)), (2, .int (nI d)), (3, .int kn), (4, .int (nI n)), (5, .int (nearF dat dist i).2), (6, .ref (stA j)), (7, .int (nI (i + 1)))] rfl h9)
              | (have e9 := nearF_3 c_68 hnr (Int32.not_lt.mpr c_102); have h9 := ih (i + 1) (by omega); rw [e9, hnr] at h9; exact g_lv2 [(0, .ref we), (1, .ref (stA s0)), (2, .int (nI d)), (3, .int kn), (4, .int (nI n)), (5, .int (nearF dat dist i).2), (6, .ref (stA j)), (7, .int (nI (i + 1)))] rfl h9)
            · refine g_aload C dX8_rainOn_105 rfl ?_
              refine g_astore C dX8_rainOn_107 (by decide) ?_
              refine g_iload C dX8_rainOn_109 rfl ?_
              refine g_istore C dX8_rainOn_111 (by decide) ?_
              refine g_iinc C dX8_rainOn_113 rfl (nI_1 i) (by decide) ?_
              refine g_goto C 28 dX8_rainOn_116 (by decide) ?_
              first
              | (have e9 := nearF_2 c_68 hnr (Int32.not_le.mp c_102); have h9 := ih (i + 1) (by omega); rw [e9] at h9; exact g_lv2 [(0, .ref we), (1, .ref (stA s0)), (2, .int (nI d)), (3, .int kn), (4, .int (nI n)), (5, .int (dat i)), (6, .ref (stA i)), (7, .int (nI (i + 1)))] rfl h9)
  refine g_aload_n C dX8_rainOn_0 rfl ?_
  refine g_iload_n C dX8_rainOn_1 rfl ?_
  refine g_iload_n C dX8_rainOn_2 rfl ?_
  refine g_iload C dX8_rainOn_3 rfl ?_
  refine g_callV C cls_7 8 mt_X6_datum [.int (nI d), .int kn, .int (nI n)] (c_X6_datum de w (stA s0) (laA s0) d n kn (ch s0 d) (hst s0 hs).1 (hst s0 hs).2.2.2.2.1 (hst s0 hs).2.2.2.2.2.1 (hst s0 hs).2.2.2.2.2.2.1 hd hn ((hst s0 hs).2.2.2.2.2.2.2 d hd)) hs0 (by decide) k_418 rfl rfl (Nat.le_of_ble_eq_true rfl) (by decide) (by decide) (by decide) (by decide) dX8_rainOn_5 (fun r_5 w_5 hp_5 => ?_)
  obtain ⟨rfl, rfl⟩ := hp_5
  refine g_istore C dX8_rainOn_8 (by decide) ?_
  refine g_iload C dX8_rainOn_10 rfl ?_
  refine g_iconst C (-1) dX8_rainOn_12 (by rfl) ?_
  refine g_icmp_eq C 19 dX8_rainOn_13 (by decide) (fun c_13 => ?_) (fun c_13 => ?_)
  · refine g_iconst C 0 dX8_rainOn_19 (by rfl) ?_
    refine g_istore C dX8_rainOn_20 (by decide) ?_
    refine g_null C dX8_rainOn_22 ?_
    refine g_astoreN C dX8_rainOn_23 (by decide) ?_
    refine g_iconst C 0 dX8_rainOn_25 (by rfl) ?_
    refine g_istore C dX8_rainOn_26 (by decide) ?_
    exact g_lv2 [(0, .ref we), (1, .ref (stA s0)), (2, .int (nI d)), (3, .int kn), (4, .int (nI n)), (5, .int 0), (6, .null), (7, .int (nI 0))] rfl (loop (by rw [← hd0]; exact c_13) nS 0 (by omega))
  · refine g_iload C dX8_rainOn_16 rfl ?_
    refine g_iret C rfl rfl (by decide) (by decide) dX8_rainOn_18 ?_
    exact ⟨congrArg (fun v => some (Value.int v)) (by rw [hV, hd0, if_neg (by rw [← hd0]; exact c_13)]), rfl⟩
end SEASON10
end
section
section SEASON11
def stR (w : Wd) (K a : Nat) (g : Nat → Int32) : Wd := (w.1, w.2.1, w.2.2.1, w.2.2.2.1, (fun x y j => if x = K ∧ y = a then g j else w.2.2.2.2.1 x y j), w.2.2.2.2.2)
theorem stR_self {w : Wd} {K a : Nat} : stR w K a (aI w K a) = w := by
  have e : (fun x y j => if x = K ∧ y = a then aI w K a j else w.2.2.2.2.1 x y j) = w.2.2.2.2.1 := by
    funext x y j
    by_cases h : x = K ∧ y = a
    · rw [if_pos h, h.1, h.2]; rfl
    · rw [if_neg h]
  unfold stR
  rw [e]
theorem stR_at {w : Wd} {K a : Nat} {g : Nat → Int32} : aI (stR w K a g) K a = g := by
  funext j
  exact if_pos ⟨rfl, rfl⟩
theorem pAI_stR {w : Wd} {K a j : Nat} {v : Int32} {g : Nat → Int32} : pAI (stR w K a g) K a j v = stR w K a (upd g j v) := by
  have e : up3 (stR w K a g).2.2.2.2.1 K a j v = (stR w K a (upd g j v)).2.2.2.2.1 := by
    funext x y i
    show (if x = K ∧ y = a ∧ i = j then v else if x = K ∧ y = a then g i else w.2.2.2.2.1 x y i) = if x = K ∧ y = a then upd g j v i else w.2.2.2.2.1 x y i
    by_cases h : x = K ∧ y = a
    · obtain ⟨rfl, rfl⟩ := h
      by_cases hi : i = j
      · subst hi; simp [upd]
      · simp [upd, hi]
    · rw [if_neg h, if_neg h, if_neg (fun z => h ⟨z.1, z.2.1⟩)]
  show (w.1, w.2.1, w.2.2.1, w.2.2.2.1, up3 (stR w K a g).2.2.2.2.1 K a j v, w.2.2.2.2.2) = stR w K a (upd g j v)
  rw [e]
  rfl
theorem SmA.stR {w : Wd} {K b a : Nat} {g : Nat → Int32} (h : a ≠ b) : SmA w (stR w K b g) a := ⟨rfl, rfl, fun _ _ => rfl, fun _ _ => rfl, fun _ => funext fun _ => if_neg (fun z => h z.2), fun _ => rfl, fun _ => rfl⟩
/-- f a + f (a + 1) + .., n of them -/
def sumF (f : Nat → Int32) (a : Nat) : Nat → Int32
  | 0 => 0
  | n + 1 => sumF f a n + f (a + n)
/-- the longest dry spell and the one that lasts, of n days from a on -/
def dryN (f : Nat → Int32) (a : Nat) : Nat → Nat × Nat
  | 0 => (0, 0)
  | n + 1 => (max (dryN f a n).1 (if f (a + n) < 10 then (dryN f a n).2 + 1 else 0), if f (a + n) < 10 then (dryN f a n).2 + 1 else 0)
theorem dryN_le {f : Nat → Int32} {a : Nat} : ∀ n, (dryN f a n).1 ≤ n ∧ (dryN f a n).2 ≤ n
  | 0 => ⟨Nat.le_refl _, Nat.le_refl _⟩
  | n + 1 => by
    have h := dryN_le (f := f) (a := a) n
    show max (dryN f a n).1 (if f (a + n) < 10 then (dryN f a n).2 + 1 else 0) ≤ n + 1 ∧ (if f (a + n) < 10 then (dryN f a n).2 + 1 else 0) ≤ n + 1
    split <;> omega
theorem nI_max {a b : Nat} (ha : a < 100000) (hb : b < 100000) : (if nI a < nI b then nI b else nI a) = nI (max a b) := by
  by_cases h : a < b
  · rw [if_pos (nI_lt h (by omega)), Nat.max_eq_right (by omega)]
  · rw [if_neg (nI_nlt (by omega) (by omega)), Nat.max_eq_left (by omega)]
def okD (f : Nat → Int32) (d : Nat) : Bool := decide (200 ≤ sumF f (d - 2) 3) && decide ((dryN f (d + 1) (min (d + 16) 60 - (d + 1))).1 < 7)
def begO (f : Nat → Int32) : Nat → Option Nat
  | 0 => none
  | k + 1 => if okD f (60 - (k + 1)) = true then some (60 - (k + 1)) else begO f k
def oI (o : Option Nat) : Int32 := match o with
  | none => -1
  | some d => nI d
theorem begO_lt {f : Nat → Int32} : ∀ {k d : Nat}, begO f k = some d → d < 60
  | 0, d, h => by cases h
  | k + 1, d, h => by
    rw [begO] at h
    by_cases h1 : okD f (60 - (k + 1)) = true
    · rw [if_pos h1] at h; cases h; omega
    · rw [if_neg h1] at h; exact begO_lt h
/-- where the first phase starts -/
def stN (f : Nat → Int32) : Nat := match begO f 58 with
  | none => 60
  | some d => d + 1
def lookV (f : Nat → Int32) (dry : Int32) (days fr : Nat) : Int32 := if 60 ≤ fr then (if dry = 0 then 0 else 60) else if dry = 0 then sumF f fr (min (fr + days) 60 - fr) else nI (dryN f fr (min (fr + days) 60 - fr)).1
def payV (dry tr ex its : Int32) : Int32 :=
  let past := if dry = 0 then tr - its else its - tr
  let span := if dry = 0 then tr - ex else ex - tr
  if past ≤ 0 then 0 else if span ≤ 0 then 1000 else if span ≤ past then 1000 else 1000 * past / span
theorem payV_0 {dry tr ex its past span : Int32} (h1 : past = if dry = 0 then tr - its else its - tr) (h2 : span = if dry = 0 then tr - ex else ex - tr) (h : past ≤ 0) : payV dry tr ex its = 0 := by unfold payV; rw [← h1, ← h2]; exact if_pos h
theorem payV_1 {dry tr ex its past span : Int32} (h1 : past = if dry = 0 then tr - its else its - tr) (h2 : span = if dry = 0 then tr - ex else ex - tr) (h : ¬ past ≤ 0) (h3 : span ≤ 0) : payV dry tr ex its = 1000 := by unfold payV; rw [← h1, ← h2]; exact (if_neg h).trans (if_pos h3)
theorem payV_2 {dry tr ex its past span : Int32} (h1 : past = if dry = 0 then tr - its else its - tr) (h2 : span = if dry = 0 then tr - ex else ex - tr) (h : ¬ past ≤ 0) (h3 : ¬ span ≤ 0) (h4 : span ≤ past) : payV dry tr ex its = 1000 := by unfold payV; rw [← h1, ← h2]; exact (if_neg h).trans ((if_neg h3).trans (if_pos h4))
theorem payV_3 {dry tr ex its past span : Int32} (h1 : past = if dry = 0 then tr - its else its - tr) (h2 : span = if dry = 0 then tr - ex else ex - tr) (h : ¬ past ≤ 0) (h3 : ¬ span ≤ 0) (h4 : ¬ span ≤ past) : payV dry tr ex its = 1000 * past / span := by unfold payV; rw [← h1, ← h2]; exact (if_neg h).trans ((if_neg h3).trans (if_neg h4))
def dSum (dN : Nat → Nat) : Nat → Nat
  | 0 => 0
  | i + 1 => dSum dN i + dN i
theorem dSum_le {dN : Nat → Nat} {n : Nat} (h : ∀ i, i < n → dN i ≤ 30) : ∀ i, i ≤ n → dSum dN i ≤ 30 * i
  | 0, _ => Nat.le_refl _
  | i + 1, hi => by
    have h1 := dSum_le h i (by omega)
    have h2 := h i (by omega)
    show dSum dN i + dN i ≤ 30 * (i + 1)
    omega
def ratV (f : Nat → Int32) (dN : Nat → Nat) (dr tr ex wt : Nat → Int32) : Nat → Int32
  | 0 => 0
  | i + 1 => ratV f dN dr tr ex wt i + payV (dr i) (tr i) (ex i) (lookV f (dr i) (dN i) (stN f + dSum dN i)) * wt i / 100
def rateV (f : Nat → Int32) (n : Nat) (dN : Nat → Nat) (dr tr ex wt : Nat → Int32) : Int32 := if 1000 < ratV f dN dr tr ex wt n then 1000 else ratV f dN dr tr ex wt n
theorem stN_le (f : Nat → Int32) : stN f ≤ 60 := by
  unfold stN
  cases h : begO f 58 with
  | none => exact Nat.le_refl _
  | some d => exact begO_lt h
/-- the phases at pl -/
def PHs (w : Wd) (de pl n : Nat) (el dN : Nat → Nat) (dr tr ex wt : Nat → Int32) : Prop := RLs w de 101 1053 pl n el ∧ n ≤ 3 ∧
  ∀ i, i < n → kd w (el i) = 5 ∧ fI w 5 0 (el i) = nI (dN i) ∧ dN i ≤ 30 ∧ fI w 5 1 (el i) = dr i ∧ fI w 5 2 (el i) = tr i ∧ fI w 5 3 (el i) = ex i ∧ fI w 5 4 (el i) = wt i
/-- the season's row at a -/
def SR9 (w : Wd) (a ta : Nat) : Prop := kd w a = 7 ∧ fR w 7 0 a = some ta ∧ kd w ta = 1010 ∧ aL w ta = 60
theorem dX8_nearestTo_0 : decode cX8_nearestTo 0 = .ok (.aconst_null, 1) := by decide +kernel
theorem dX8_nearestTo_1 : decode cX8_nearestTo 1 = .ok (.astore_n 3, 1) := by decide +kernel
theorem dX8_nearestTo_2 : decode cX8_nearestTo 2 = .ok (.iconst 0, 1) := by decide +kernel
theorem dX8_nearestTo_3 : decode cX8_nearestTo 3 = .ok (.istore 4, 2) := by decide +kernel
theorem dX8_nearestTo_5 : decode cX8_nearestTo 5 = .ok (.iload 4, 2) := by decide +kernel
theorem dX8_nearestTo_7 : decode cX8_nearestTo 7 = .ok (.aload_n 0, 1) := by decide +kernel
theorem dX8_nearestTo_8 : decode cX8_nearestTo 8 = .ok (.getfield 12, 3) := by decide +kernel
theorem dX8_nearestTo_11 : decode cX8_nearestTo 11 = .ok (.invokevirtual 32, 3) := by decide +kernel
theorem dX8_nearestTo_14 : decode cX8_nearestTo 14 = .ok (.if_icmp .ge 46, 3) := by decide +kernel
theorem dX8_nearestTo_17 : decode cX8_nearestTo 17 = .ok (.aload_n 0, 1) := by decide +kernel
theorem dX8_nearestTo_18 : decode cX8_nearestTo 18 = .ok (.getfield 12, 3) := by decide +kernel
theorem dX8_nearestTo_21 : decode cX8_nearestTo 21 = .ok (.iload 4, 2) := by decide +kernel
theorem dX8_nearestTo_23 : decode cX8_nearestTo 23 = .ok (.invokevirtual 36, 3) := by decide +kernel
theorem dX8_nearestTo_26 : decode cX8_nearestTo 26 = .ok (.checkcast 23, 3) := by decide +kernel
theorem dX8_nearestTo_29 : decode cX8_nearestTo 29 = .ok (.astore 5, 2) := by decide +kernel
theorem dX8_nearestTo_31 : decode cX8_nearestTo 31 = .ok (.aload_n 3, 1) := by decide +kernel
theorem dX8_nearestTo_32 : decode cX8_nearestTo 32 = .ok (.ifnull 19, 3) := by decide +kernel
theorem dX8_nearestTo_35 : decode cX8_nearestTo 35 = .ok (.aload 5, 2) := by decide +kernel
theorem dX8_nearestTo_37 : decode cX8_nearestTo 37 = .ok (.iload_n 1, 1) := by decide +kernel
theorem dX8_nearestTo_38 : decode cX8_nearestTo 38 = .ok (.iload_n 2, 1) := by decide +kernel
theorem dX8_nearestTo_39 : decode cX8_nearestTo 39 = .ok (.invokevirtual 40, 3) := by decide +kernel
theorem dX8_nearestTo_42 : decode cX8_nearestTo 42 = .ok (.aload_n 3, 1) := by decide +kernel
theorem dX8_nearestTo_43 : decode cX8_nearestTo 43 = .ok (.iload_n 1, 1) := by decide +kernel
theorem dX8_nearestTo_44 : decode cX8_nearestTo 44 = .ok (.iload_n 2, 1) := by decide +kernel
theorem dX8_nearestTo_45 : decode cX8_nearestTo 45 = .ok (.invokevirtual 40, 3) := by decide +kernel
theorem dX8_nearestTo_48 : decode cX8_nearestTo 48 = .ok (.if_icmp .ge 6, 3) := by decide +kernel
theorem dX8_nearestTo_51 : decode cX8_nearestTo 51 = .ok (.aload 5, 2) := by decide +kernel
theorem dX8_nearestTo_53 : decode cX8_nearestTo 53 = .ok (.astore_n 3, 1) := by decide +kernel
theorem dX8_nearestTo_54 : decode cX8_nearestTo 54 = .ok (.iinc 4 1, 3) := by decide +kernel
theorem dX8_nearestTo_57 : decode cX8_nearestTo 57 = .ok (.goto (-52), 3) := by decide +kernel
theorem dX8_nearestTo_60 : decode cX8_nearestTo 60 = .ok (.aload_n 3, 1) := by decide +kernel
theorem dX8_nearestTo_61 : decode cX8_nearestTo 61 = .ok (.areturn, 1) := by decide +kernel
set_option maxHeartbeats 4000000 in
set_option maxRecDepth 100000 in
theorem c_X8_nearestTo (de : Nat) (w : Wd) (we sl nS : Nat) (stA laA : Nat → Nat) (xs ys : Nat → Int32) (ch : Nat → Nat → List (Nat × Int32)) (hw : WS9 w de we sl nS stA laA xs ys ch) (x y : Int32) : Ct yX8_nearestTo cX8_nearestTo 6 (some (.object "RainIndex$Station")) 3 64 0 0 de [.ref we, .int x, .int y] w (fun r w' => r = some (va_rf ((nearS (disV xs ys x y) nS).map stA)) ∧ w = w') := by
  refine Ct.mk (by decide +kernel) [(0, .ref we), (1, .int x), (2, .int y)] rfl (Nat.le_of_ble_eq_true rfl) ?_
  intro p l e R s m args below meth c D cy z C hnm
  obtain ⟨hwe, hsl, hR, hn5, hst⟩ := hw
  generalize hdis : disV xs ys x y = dist
  have hds : ∀ k, k < nS → (fI w 8 1 (stA k) - x) * (fI w 8 1 (stA k) - x) + (fI w 8 2 (stA k) - y) * (fI w 8 2 (stA k) - y) = dist k := by
    intro k hk
    rw [(hst k hk).2.2.1, (hst k hk).2.2.2.1, ← hdis]
    rfl
  have loop : ∀ (k i : Nat), i + k = nS → G p l e R s m args below meth c D cy z 6 w 0 0 5 [(0, .ref we), (1, .int x), (2, .int y), (3, va_rf ((nearS dist i).map stA)), (4, .int (nI i))] [] (QM below args s D cy z (fun r w' => r = some (va_rf ((nearS dist nS).map stA)) ∧ w = w') 0 0) := by
    intro k
    induction k with
    | zero =>
      intro i hik
      refine g_iload C dX8_nearestTo_5 rfl ?_
      refine g_aload_n C dX8_nearestTo_7 rfl ?_
      refine g_getR (b := sl) C cls_9 10 0 hwe hsl rfl k_67 dX8_nearestTo_8 ?_
      refine g_callV C cls_0 81 mt_Jx4a65c_size_8abf5 [] (c_sz de w 81 1013 KL_st sl nS stA hR) hR.1 (by decide) k_517 rfl rfl (Nat.le_of_ble_eq_true rfl) (by decide) (by decide) (by decide) (by decide) dX8_nearestTo_11 (fun r_11 w_11 hp_11 => ?_)
      obtain ⟨rfl, rfl⟩ := hp_11
      refine g_icmp_ge C 60 dX8_nearestTo_14 (by decide) (fun c_14 => ?_) (fun c_14 => ?_)
      · refine g_aload_nR C dX8_nearestTo_60 rfl ?_
        refine g_aret C rfl (Or.inl ⟨_, rfl⟩) (va_rf_or _) (by decide) (by decide) dX8_nearestTo_61 ?_
        exact ⟨by rw [show i = nS by omega], rfl⟩
      · exact absurd (nI_nle_of c_14 (by omega) (by omega)) (by omega)
    | succ k ih =>
      intro i hik
      have hi : i < nS := by omega
      rcases hnr : nearS dist i with _ | j
      · refine g_iload C dX8_nearestTo_5 rfl ?_
        refine g_aload_n C dX8_nearestTo_7 rfl ?_
        refine g_getR (b := sl) C cls_9 10 0 hwe hsl rfl k_67 dX8_nearestTo_8 ?_
        refine g_callV C cls_0 81 mt_Jx4a65c_size_8abf5 [] (c_sz de w 81 1013 KL_st sl nS stA hR) hR.1 (by decide) k_517 rfl rfl (Nat.le_of_ble_eq_true rfl) (by decide) (by decide) (by decide) (by decide) dX8_nearestTo_11 (fun r_11 w_11 hp_11 => ?_)
        obtain ⟨rfl, rfl⟩ := hp_11
        refine g_icmp_ge C 60 dX8_nearestTo_14 (by decide) (fun c_14 => ?_) (fun c_14 => ?_)
        · exact absurd (nI_le_of c_14 (by omega) (by omega)) (by omega)
        · refine g_aload_n C dX8_nearestTo_17 rfl ?_
          refine g_getR (b := sl) C cls_9 10 0 hwe hsl rfl k_67 dX8_nearestTo_18 ?_
          refine g_iload C dX8_nearestTo_21 rfl ?_
          refine g_callV C cls_0 81 mt_Jx4a65c_get_915e3 [.int (nI i)] (c_Jx4a65c_get_915e3 de w 81 1013 KL_st sl nS i stA hR hi) hR.1 (by decide) k_518 rfl rfl (Nat.le_of_ble_eq_true rfl) (by decide) (by decide) (by decide) (by decide) dX8_nearestTo_23 (fun r_23 w_23 hp_23 => ?_)
          obtain ⟨rfl, rfl⟩ := hp_23
          refine g_cast C cls_7 8 (hst i hi).1 (by decide) k_519 dX8_nearestTo_26 ?_
          refine g_astore C dX8_nearestTo_29 (by decide) ?_
          refine g_aload_nN C dX8_nearestTo_31 rfl ?_
          refine g_ifnullN C 51 dX8_nearestTo_32 (by decide) ?_
          refine g_aload C dX8_nearestTo_51 rfl ?_
          refine g_astore_n C dX8_nearestTo_53 (by decide) ?_
          refine g_iinc C dX8_nearestTo_54 rfl (nI_1 i) (by decide) ?_
          refine g_goto C 5 dX8_nearestTo_57 (by decide) ?_
          have e9 := nearS_1 hnr
          have h9 := ih (i + 1) (by omega)
          rw [e9] at h9
          exact g_lv2 [(0, .ref we), (1, .int x), (2, .int y), (3, .ref (stA i)), (4, .int (nI (i + 1)))] rfl h9
      · have hj : j < nS := by have := nearS_lt hnr; omega
        refine g_iload C dX8_nearestTo_5 rfl ?_
        refine g_aload_n C dX8_nearestTo_7 rfl ?_
        refine g_getR (b := sl) C cls_9 10 0 hwe hsl rfl k_67 dX8_nearestTo_8 ?_
        refine g_callV C cls_0 81 mt_Jx4a65c_size_8abf5 [] (c_sz de w 81 1013 KL_st sl nS stA hR) hR.1 (by decide) k_517 rfl rfl (Nat.le_of_ble_eq_true rfl) (by decide) (by decide) (by decide) (by decide) dX8_nearestTo_11 (fun r_11 w_11 hp_11 => ?_)
        obtain ⟨rfl, rfl⟩ := hp_11
        refine g_icmp_ge C 60 dX8_nearestTo_14 (by decide) (fun c_14 => ?_) (fun c_14 => ?_)
        · exact absurd (nI_le_of c_14 (by omega) (by omega)) (by omega)
        · refine g_aload_n C dX8_nearestTo_17 rfl ?_
          refine g_getR (b := sl) C cls_9 10 0 hwe hsl rfl k_67 dX8_nearestTo_18 ?_
          refine g_iload C dX8_nearestTo_21 rfl ?_
          refine g_callV C cls_0 81 mt_Jx4a65c_get_915e3 [.int (nI i)] (c_Jx4a65c_get_915e3 de w 81 1013 KL_st sl nS i stA hR hi) hR.1 (by decide) k_518 rfl rfl (Nat.le_of_ble_eq_true rfl) (by decide) (by decide) (by decide) (by decide) dX8_nearestTo_23 (fun r_23 w_23 hp_23 => ?_)
          obtain ⟨rfl, rfl⟩ := hp_23
          refine g_cast C cls_7 8 (hst i hi).1 (by decide) k_519 dX8_nearestTo_26 ?_
          refine g_astore C dX8_nearestTo_29 (by decide) ?_
          refine g_aload_n C dX8_nearestTo_31 rfl ?_
          refine g_ifnull C dX8_nearestTo_32 ?_
          refine g_aload C dX8_nearestTo_35 rfl ?_
          refine g_iload_n C dX8_nearestTo_37 rfl ?_
          refine g_iload_n C dX8_nearestTo_38 rfl ?_
          refine g_callV C cls_7 8 mt_X6_distanceTo [.int x, .int y] (c_X6_distanceTo de w (stA i) (hst i hi).1 x y) (hst i hi).1 (by decide) k_520 rfl rfl (Nat.le_of_ble_eq_true rfl) (by decide) (by decide) (by decide) (by decide) dX8_nearestTo_39 (fun r_39 w_39 hp_39 => ?_)
          obtain ⟨rfl, rfl⟩ := hp_39
          rw [hds i hi]
          refine g_aload_n C dX8_nearestTo_42 rfl ?_
          refine g_iload_n C dX8_nearestTo_43 rfl ?_
          refine g_iload_n C dX8_nearestTo_44 rfl ?_
          refine g_callV C cls_7 8 mt_X6_distanceTo [.int x, .int y] (c_X6_distanceTo de w (stA j) (hst j hj).1 x y) (hst j hj).1 (by decide) k_520 rfl rfl (Nat.le_of_ble_eq_true rfl) (by decide) (by decide) (by decide) (by decide) dX8_nearestTo_45 (fun r_45 w_45 hp_45 => ?_)
          obtain ⟨rfl, rfl⟩ := hp_45
          rw [hds j hj]
          refine g_icmp_ge C 54 dX8_nearestTo_48 (by decide) (fun c_48 => ?_) (fun c_48 => ?_)
          · refine g_iinc C dX8_nearestTo_54 rfl (nI_1 i) (by decide) ?_
            refine g_goto C 5 dX8_nearestTo_57 (by decide) ?_
            have e9 := nearS_3 hnr (Int32.not_lt.mpr c_48)
            have h9 := ih (i + 1) (by omega)
            rw [e9] at h9
            exact g_lv2 [(0, .ref we), (1, .int x), (2, .int y), (3, .ref (stA j)), (4, .int (nI (i + 1)))] rfl h9
          · refine g_aload C dX8_nearestTo_51 rfl ?_
            refine g_astore_n C dX8_nearestTo_53 (by decide) ?_
            refine g_iinc C dX8_nearestTo_54 rfl (nI_1 i) (by decide) ?_
            refine g_goto C 5 dX8_nearestTo_57 (by decide) ?_
            have e9 := nearS_2 hnr (Int32.not_le.mp c_48)
            have h9 := ih (i + 1) (by omega)
            rw [e9] at h9
            exact g_lv2 [(0, .ref we), (1, .int x), (2, .int y), (3, .ref (stA i)), (4, .int (nI (i + 1)))] rfl h9
  refine g_null C dX8_nearestTo_0 ?_
  refine g_astore_nN C dX8_nearestTo_1 (by decide) ?_
  refine g_iconst C 0 dX8_nearestTo_2 (by rfl) ?_
  refine g_istore C dX8_nearestTo_3 (by decide) ?_
  exact g_lv2 [(0, .ref we), (1, .int x), (2, .int y), (3, .null), (4, .int (nI 0))] rfl (loop nS 0 (by omega))
theorem dX5_sum_0 : decode cX5_sum 0 = .ok (.iconst 0, 1) := by decide +kernel
theorem dX5_sum_1 : decode cX5_sum 1 = .ok (.istore_n 3, 1) := by decide +kernel
theorem dX5_sum_2 : decode cX5_sum 2 = .ok (.iload_n 1, 1) := by decide +kernel
theorem dX5_sum_3 : decode cX5_sum 3 = .ok (.iconst 0, 1) := by decide +kernel
theorem dX5_sum_4 : decode cX5_sum 4 = .ok (.invokestatic 25, 3) := by decide +kernel
theorem dX5_sum_7 : decode cX5_sum 7 = .ok (.istore 4, 2) := by decide +kernel
theorem dX5_sum_9 : decode cX5_sum 9 = .ok (.iload 4, 2) := by decide +kernel
theorem dX5_sum_11 : decode cX5_sum 11 = .ok (.iload_n 2, 1) := by decide +kernel
theorem dX5_sum_12 : decode cX5_sum 12 = .ok (.if_icmp .ge 29, 3) := by decide +kernel
theorem dX5_sum_15 : decode cX5_sum 15 = .ok (.iload 4, 2) := by decide +kernel
theorem dX5_sum_17 : decode cX5_sum 17 = .ok (.aload_n 0, 1) := by decide +kernel
theorem dX5_sum_18 : decode cX5_sum 18 = .ok (.getfield 9, 3) := by decide +kernel
theorem dX5_sum_21 : decode cX5_sum 21 = .ok (.arraylength, 1) := by decide +kernel
theorem dX5_sum_22 : decode cX5_sum 22 = .ok (.if_icmp .ge 19, 3) := by decide +kernel
theorem dX5_sum_25 : decode cX5_sum 25 = .ok (.iload_n 3, 1) := by decide +kernel
theorem dX5_sum_26 : decode cX5_sum 26 = .ok (.aload_n 0, 1) := by decide +kernel
theorem dX5_sum_27 : decode cX5_sum 27 = .ok (.getfield 9, 3) := by decide +kernel
theorem dX5_sum_30 : decode cX5_sum 30 = .ok (.iload 4, 2) := by decide +kernel
theorem dX5_sum_32 : decode cX5_sum 32 = .ok (.iaload, 1) := by decide +kernel
theorem dX5_sum_33 : decode cX5_sum 33 = .ok (.iadd, 1) := by decide +kernel
theorem dX5_sum_34 : decode cX5_sum 34 = .ok (.istore_n 3, 1) := by decide +kernel
theorem dX5_sum_35 : decode cX5_sum 35 = .ok (.iinc 4 1, 3) := by decide +kernel
theorem dX5_sum_38 : decode cX5_sum 38 = .ok (.goto (-29), 3) := by decide +kernel
theorem dX5_sum_41 : decode cX5_sum 41 = .ok (.iload_n 3, 1) := by decide +kernel
theorem dX5_sum_42 : decode cX5_sum 42 = .ok (.ireturn, 1) := by decide +kernel
set_option maxHeartbeats 4000000 in
set_option maxRecDepth 100000 in
theorem c_X5_sum (de : Nat) (w : Wd) (a ta x b : Nat) (hs : SR9 w a ta) (hx : x ≤ 1000) (hb : b ≤ 1000) : Ct yX5_sum cX5_sum 5 (some .int) 1 21 0 0 de [.ref a, .int (nI x), .int (nI b)] w (fun r w' => r = some (.int (sumF (aI w 1010 ta) x (min b 60 - x))) ∧ w = w') := by
  refine Ct.mk (by decide +kernel) [(0, .ref a), (1, .int (nI x)), (2, .int (nI b))] rfl (Nat.le_of_ble_eq_true rfl) ?_
  intro p l e R s m args below meth c D cy z C hnm
  obtain ⟨ha, htf, hta, htl⟩ := hs
  obtain ⟨N, hN⟩ : ∃ N : Nat, N = min b 60 - x := ⟨_, rfl⟩
  have loop : ∀ (k i : Nat), i + k = N → G p l e R s m args below meth c D cy z 5 w 0 0 9 [(0, .ref a), (2, .int (nI b)), (3, .int (sumF (aI w 1010 ta) x i)), (4, .int (nI (x + i)))] [] (QM below args s D cy z (fun r w' => r = some (.int (sumF (aI w 1010 ta) x N)) ∧ w = w') 0 0) := by
    intro k
    induction k with
    | zero =>
      intro i hik
      refine g_iload C dX5_sum_9 rfl ?_
      refine g_iload_n C dX5_sum_11 rfl ?_
      refine g_icmp_ge C 41 dX5_sum_12 (by decide) (fun c_12 => ?_) (fun c_12 => ?_)
      · refine g_iload_n C dX5_sum_41 rfl ?_
        refine g_iret C rfl rfl (by decide) (by decide) dX5_sum_42 ?_
        exact ⟨by rw [show i = N by omega], rfl⟩
      · refine g_iload C dX5_sum_15 rfl ?_
        refine g_aload_n C dX5_sum_17 rfl ?_
        refine g_getR (b := ta) C cls_6 7 0 ha htf rfl k_82 dX5_sum_18 ?_
        refine g_alen C 1010 0 hta rfl (by decide) dX5_sum_21 ?_
        refine g_icmp_ge C 41 dX5_sum_22 (by decide) (fun c_22 => ?_) (fun c_22 => ?_)
        · refine g_iload_n C dX5_sum_41 rfl ?_
          refine g_iret C rfl rfl (by decide) (by decide) dX5_sum_42 ?_
          exact ⟨by rw [show i = N by omega], rfl⟩
        · have h60 : ¬ nI 60 ≤ nI (x + i) := (by rw [htl] at c_22; exact c_22)
          exact absurd (nI_nle_of c_12 (by omega) (by omega)) (by have := nI_nle_of h60 (by omega) (by omega); omega)
    | succ k ih =>
      intro i hik
      have hx9 : x + i < b ∧ x + i < 60 := by omega
      refine g_iload C dX5_sum_9 rfl ?_
      refine g_iload_n C dX5_sum_11 rfl ?_
      refine g_icmp_ge C 41 dX5_sum_12 (by decide) (fun c_12 => ?_) (fun c_12 => ?_)
      · first
        | exact absurd (nI_le_of c_12 (by omega) (by omega)) (by omega)
        | (have h60 : nI 60 ≤ nI (x + i) := (by rw [htl] at c_22; exact c_22); exact absurd (nI_le_of h60 (by omega) (by omega)) (by omega))
      · refine g_iload C dX5_sum_15 rfl ?_
        refine g_aload_n C dX5_sum_17 rfl ?_
        refine g_getR (b := ta) C cls_6 7 0 ha htf rfl k_82 dX5_sum_18 ?_
        refine g_alen C 1010 0 hta rfl (by decide) dX5_sum_21 ?_
        refine g_icmp_ge C 41 dX5_sum_22 (by decide) (fun c_22 => ?_) (fun c_22 => ?_)
        · first
          | exact absurd (nI_le_of c_12 (by omega) (by omega)) (by omega)
          | (have h60 : nI 60 ≤ nI (x + i) := (by rw [htl] at c_22; exact c_22); exact absurd (nI_le_of h60 (by omega) (by omega)) (by omega))
        · refine g_iload_n C dX5_sum_25 rfl ?_
          refine g_aload_n C dX5_sum_26 rfl ?_
          refine g_getR (b := ta) C cls_6 7 0 ha htf rfl k_82 dX5_sum_27 ?_
          refine g_iload C dX5_sum_30 rfl ?_
          refine g_iald C 1010 hta rfl (by rw [htl]; exact nI_vp (by omega) (by omega)) dX5_sum_32 ?_
          refine g_iadd C dX5_sum_33 ?_
          refine g_istore_n C dX5_sum_34 (by decide) ?_
          refine g_iinc C dX5_sum_35 rfl (nI_1 (x + i)) (by decide) ?_
          refine g_goto C 9 dX5_sum_38 (by decide) ?_
          have h9 := ih (i + 1) (by omega)
          refine g_lv2 [(0, .ref a), (2, .int (nI b)), (3, .int (sumF (aI w 1010 ta) x i + aI w 1010 ta (x + i))), (4, .int (nI (x + (i + 1))))] ?_ h9
          rw [nI_tn (by omega)]
          rfl
  refine g_iconst C 0 dX5_sum_0 (by rfl) ?_
  refine g_istore_n C dX5_sum_1 (by decide) ?_
  refine g_iload_n C dX5_sum_2 rfl ?_
  refine g_iconst C 0 dX5_sum_3 (by rfl) ?_
  refine g_max C k_660 k_329 k_18 k_330 (by decide) (Nat.le_of_ble_eq_true rfl) (by decide) (by decide) dX5_sum_4 ?_
  rw [if_neg (nI_pos (by omega))]
  refine g_istore C dX5_sum_7 (by decide) ?_
  rw [← hN]
  exact g_lv2 [(0, .ref a), (2, .int (nI b)), (3, .int (sumF (aI w 1010 ta) x 0)), (4, .int (nI (x + 0)))] rfl (loop N 0 (by omega))
theorem dX5_drySpell_0 : decode cX5_drySpell 0 = .ok (.iconst 0, 1) := by decide +kernel
theorem dX5_drySpell_1 : decode cX5_drySpell 1 = .ok (.istore_n 3, 1) := by decide +kernel
theorem dX5_drySpell_2 : decode cX5_drySpell 2 = .ok (.iconst 0, 1) := by decide +kernel
theorem dX5_drySpell_3 : decode cX5_drySpell 3 = .ok (.istore 4, 2) := by decide +kernel
theorem dX5_drySpell_5 : decode cX5_drySpell 5 = .ok (.iload_n 1, 1) := by decide +kernel
theorem dX5_drySpell_6 : decode cX5_drySpell 6 = .ok (.iconst 0, 1) := by decide +kernel
theorem dX5_drySpell_7 : decode cX5_drySpell 7 = .ok (.invokestatic 25, 3) := by decide +kernel
theorem dX5_drySpell_10 : decode cX5_drySpell 10 = .ok (.istore 5, 2) := by decide +kernel
theorem dX5_drySpell_12 : decode cX5_drySpell 12 = .ok (.iload 5, 2) := by decide +kernel
theorem dX5_drySpell_14 : decode cX5_drySpell 14 = .ok (.iload_n 2, 1) := by decide +kernel
theorem dX5_drySpell_15 : decode cX5_drySpell 15 = .ok (.if_icmp .ge 48, 3) := by decide +kernel
theorem dX5_drySpell_18 : decode cX5_drySpell 18 = .ok (.iload 5, 2) := by decide +kernel
theorem dX5_drySpell_20 : decode cX5_drySpell 20 = .ok (.aload_n 0, 1) := by decide +kernel
theorem dX5_drySpell_21 : decode cX5_drySpell 21 = .ok (.getfield 9, 3) := by decide +kernel
theorem dX5_drySpell_24 : decode cX5_drySpell 24 = .ok (.arraylength, 1) := by decide +kernel
theorem dX5_drySpell_25 : decode cX5_drySpell 25 = .ok (.if_icmp .ge 38, 3) := by decide +kernel
theorem dX5_drySpell_28 : decode cX5_drySpell 28 = .ok (.aload_n 0, 1) := by decide +kernel
theorem dX5_drySpell_29 : decode cX5_drySpell 29 = .ok (.getfield 9, 3) := by decide +kernel
theorem dX5_drySpell_32 : decode cX5_drySpell 32 = .ok (.iload 5, 2) := by decide +kernel
theorem dX5_drySpell_34 : decode cX5_drySpell 34 = .ok (.iaload, 1) := by decide +kernel
theorem dX5_drySpell_35 : decode cX5_drySpell 35 = .ok (.bipush 10, 2) := by decide +kernel
theorem dX5_drySpell_37 : decode cX5_drySpell 37 = .ok (.if_icmp .ge 10, 3) := by decide +kernel
theorem dX5_drySpell_40 : decode cX5_drySpell 40 = .ok (.iload 4, 2) := by decide +kernel
theorem dX5_drySpell_42 : decode cX5_drySpell 42 = .ok (.iconst 1, 1) := by decide +kernel
theorem dX5_drySpell_43 : decode cX5_drySpell 43 = .ok (.iadd, 1) := by decide +kernel
theorem dX5_drySpell_44 : decode cX5_drySpell 44 = .ok (.goto 4, 3) := by decide +kernel
theorem dX5_drySpell_47 : decode cX5_drySpell 47 = .ok (.iconst 0, 1) := by decide +kernel
theorem dX5_drySpell_48 : decode cX5_drySpell 48 = .ok (.istore 4, 2) := by decide +kernel
theorem dX5_drySpell_50 : decode cX5_drySpell 50 = .ok (.iload_n 3, 1) := by decide +kernel
theorem dX5_drySpell_51 : decode cX5_drySpell 51 = .ok (.iload 4, 2) := by decide +kernel
theorem dX5_drySpell_53 : decode cX5_drySpell 53 = .ok (.invokestatic 25, 3) := by decide +kernel
theorem dX5_drySpell_56 : decode cX5_drySpell 56 = .ok (.istore_n 3, 1) := by decide +kernel
theorem dX5_drySpell_57 : decode cX5_drySpell 57 = .ok (.iinc 5 1, 3) := by decide +kernel
theorem dX5_drySpell_60 : decode cX5_drySpell 60 = .ok (.goto (-48), 3) := by decide +kernel
theorem dX5_drySpell_63 : decode cX5_drySpell 63 = .ok (.iload_n 3, 1) := by decide +kernel
theorem dX5_drySpell_64 : decode cX5_drySpell 64 = .ok (.ireturn, 1) := by decide +kernel
set_option maxHeartbeats 4000000 in
set_option maxRecDepth 100000 in
theorem c_X5_drySpell (de : Nat) (w : Wd) (a ta x b : Nat) (hs : SR9 w a ta) (hx : x ≤ 1000) (hb : b ≤ 1000) : Ct yX5_drySpell cX5_drySpell 6 (some .int) 1 21 0 0 de [.ref a, .int (nI x), .int (nI b)] w (fun r w' => r = some (.int (nI (dryN (aI w 1010 ta) x (min b 60 - x)).1)) ∧ w = w') := by
  refine Ct.mk (by decide +kernel) [(0, .ref a), (1, .int (nI x)), (2, .int (nI b))] rfl (Nat.le_of_ble_eq_true rfl) ?_
  intro p l e R s m args below meth c D cy z C hnm
  obtain ⟨ha, htf, hta, htl⟩ := hs
  obtain ⟨N, hN⟩ : ∃ N : Nat, N = min b 60 - x := ⟨_, rfl⟩
  have loop : ∀ (k i : Nat), i + k = N → G p l e R s m args below meth c D cy z 6 w 0 0 12 [(0, .ref a), (2, .int (nI b)), (3, .int (nI (dryN (aI w 1010 ta) x i).1)), (4, .int (nI (dryN (aI w 1010 ta) x i).2)), (5, .int (nI (x + i)))] [] (QM below args s D cy z (fun r w' => r = some (.int (nI (dryN (aI w 1010 ta) x N).1)) ∧ w = w') 0 0) := by
    intro k
    induction k with
    | zero =>
      intro i hik
      refine g_iload C dX5_drySpell_12 rfl ?_
      refine g_iload_n C dX5_drySpell_14 rfl ?_
      refine g_icmp_ge C 63 dX5_drySpell_15 (by decide) (fun c_15 => ?_) (fun c_15 => ?_)
      · refine g_iload_n C dX5_drySpell_63 rfl ?_
        refine g_iret C rfl rfl (by decide) (by decide) dX5_drySpell_64 ?_
        exact ⟨by rw [show i = N by omega], rfl⟩
      · refine g_iload C dX5_drySpell_18 rfl ?_
        refine g_aload_n C dX5_drySpell_20 rfl ?_
        refine g_getR (b := ta) C cls_6 7 0 ha htf rfl k_82 dX5_drySpell_21 ?_
        refine g_alen C 1010 0 hta rfl (by decide) dX5_drySpell_24 ?_
        refine g_icmp_ge C 63 dX5_drySpell_25 (by decide) (fun c_25 => ?_) (fun c_25 => ?_)
        · refine g_iload_n C dX5_drySpell_63 rfl ?_
          refine g_iret C rfl rfl (by decide) (by decide) dX5_drySpell_64 ?_
          exact ⟨by rw [show i = N by omega], rfl⟩
        · have h60 : ¬ nI 60 ≤ nI (x + i) := (by rw [htl] at c_25; exact c_25)
          exact absurd (nI_nle_of c_15 (by omega) (by omega)) (by have := nI_nle_of h60 (by omega) (by omega); omega)
    | succ k ih =>
      intro i hik
      have hx9 : x + i < b ∧ x + i < 60 := by omega
      have hd9 := dryN_le (f := aI w 1010 ta) (a := x) i
      refine g_iload C dX5_drySpell_12 rfl ?_
      refine g_iload_n C dX5_drySpell_14 rfl ?_
      refine g_icmp_ge C 63 dX5_drySpell_15 (by decide) (fun c_15 => ?_) (fun c_15 => ?_)
      · first
        | exact absurd (nI_le_of c_15 (by omega) (by omega)) (by omega)
        | (have h60 : nI 60 ≤ nI (x + i) := (by rw [htl] at c_25; exact c_25); exact absurd (nI_le_of h60 (by omega) (by omega)) (by omega))
      · refine g_iload C dX5_drySpell_18 rfl ?_
        refine g_aload_n C dX5_drySpell_20 rfl ?_
        refine g_getR (b := ta) C cls_6 7 0 ha htf rfl k_82 dX5_drySpell_21 ?_
        refine g_alen C 1010 0 hta rfl (by decide) dX5_drySpell_24 ?_
        refine g_icmp_ge C 63 dX5_drySpell_25 (by decide) (fun c_25 => ?_) (fun c_25 => ?_)
        · first
          | exact absurd (nI_le_of c_15 (by omega) (by omega)) (by omega)
          | (have h60 : nI 60 ≤ nI (x + i) := (by rw [htl] at c_25; exact c_25); exact absurd (nI_le_of h60 (by omega) (by omega)) (by omega))
        · refine g_aload_n C dX5_drySpell_28 rfl ?_
          refine g_getR (b := ta) C cls_6 7 0 ha htf rfl k_82 dX5_drySpell_29 ?_
          refine g_iload C dX5_drySpell_32 rfl ?_
          refine g_iald C 1010 hta rfl (by rw [htl]; exact nI_vp (by omega) (by omega)) dX5_drySpell_34 ?_
          refine g_bipush C 10 dX5_drySpell_35 (by rfl) ?_
          refine g_icmp_ge C 47 dX5_drySpell_37 (by decide) (fun c_37 => ?_) (fun c_37 => ?_)
          · refine g_iconst C 0 dX5_drySpell_47 (by rfl) ?_
            refine g_istore C dX5_drySpell_48 (by decide) ?_
            refine g_iload_n C dX5_drySpell_50 rfl ?_
            refine g_iload C dX5_drySpell_51 rfl ?_
            refine g_max C k_660 k_329 k_18 k_330 (by decide) (Nat.le_of_ble_eq_true rfl) (by decide) (by decide) dX5_drySpell_53 ?_
            first
            | rw [nI_1, nI_max (by omega) (by omega)]
            | rw [show (0 : Int32) = nI 0 from rfl, nI_max (by omega) (by omega)]
            refine g_istore_n C dX5_drySpell_56 (by decide) ?_
            refine g_iinc C dX5_drySpell_57 rfl (nI_1 (x + i)) (by decide) ?_
            refine g_goto C 12 dX5_drySpell_60 (by decide) ?_
            by_cases c_9 : aI w 1010 ta (x + i) < 10
            · have h9 := ih (i + 1) (by omega)
              have e1 : (dryN (aI w 1010 ta) x (i + 1)).2 = (dryN (aI w 1010 ta) x i).2 + 1 := if_pos c_9
              have e2 : (dryN (aI w 1010 ta) x (i + 1)).1 = max (dryN (aI w 1010 ta) x i).1 (dryN (aI w 1010 ta) x (i + 1)).2 := rfl
              rw [e2, e1] at h9
              first
              | exact g_lv2 _ rfl h9
              | exact absurd c_9 (by rw [nI_tn (by omega)] at c_37; exact Int32.not_lt.mpr c_37)
            · have h9 := ih (i + 1) (by omega)
              have e1 : (dryN (aI w 1010 ta) x (i + 1)).2 = 0 := if_neg c_9
              have e2 : (dryN (aI w 1010 ta) x (i + 1)).1 = max (dryN (aI w 1010 ta) x i).1 (dryN (aI w 1010 ta) x (i + 1)).2 := rfl
              rw [e2, e1] at h9
              first
              | exact g_lv2 _ rfl h9
              | exact absurd (by rw [nI_tn (by omega)] at c_37; exact Int32.not_le.mp c_37) c_9
          · refine g_iload C dX5_drySpell_40 rfl ?_
            refine g_iconst C 1 dX5_drySpell_42 (by rfl) ?_
            refine g_iadd C dX5_drySpell_43 ?_
            refine g_goto C 48 dX5_drySpell_44 (by decide) ?_
            refine g_istore C dX5_drySpell_48 (by decide) ?_
            refine g_iload_n C dX5_drySpell_50 rfl ?_
            refine g_iload C dX5_drySpell_51 rfl ?_
            refine g_max C k_660 k_329 k_18 k_330 (by decide) (Nat.le_of_ble_eq_true rfl) (by decide) (by decide) dX5_drySpell_53 ?_
            first
            | rw [nI_1, nI_max (by omega) (by omega)]
            | rw [show (0 : Int32) = nI 0 from rfl, nI_max (by omega) (by omega)]
            refine g_istore_n C dX5_drySpell_56 (by decide) ?_
            refine g_iinc C dX5_drySpell_57 rfl (nI_1 (x + i)) (by decide) ?_
            refine g_goto C 12 dX5_drySpell_60 (by decide) ?_
            by_cases c_9 : aI w 1010 ta (x + i) < 10
            · have h9 := ih (i + 1) (by omega)
              have e1 : (dryN (aI w 1010 ta) x (i + 1)).2 = (dryN (aI w 1010 ta) x i).2 + 1 := if_pos c_9
              have e2 : (dryN (aI w 1010 ta) x (i + 1)).1 = max (dryN (aI w 1010 ta) x i).1 (dryN (aI w 1010 ta) x (i + 1)).2 := rfl
              rw [e2, e1] at h9
              first
              | exact g_lv2 _ rfl h9
              | exact absurd c_9 (by rw [nI_tn (by omega)] at c_37; exact Int32.not_lt.mpr c_37)
            · have h9 := ih (i + 1) (by omega)
              have e1 : (dryN (aI w 1010 ta) x (i + 1)).2 = 0 := if_neg c_9
              have e2 : (dryN (aI w 1010 ta) x (i + 1)).1 = max (dryN (aI w 1010 ta) x i).1 (dryN (aI w 1010 ta) x (i + 1)).2 := rfl
              rw [e2, e1] at h9
              first
              | exact g_lv2 _ rfl h9
              | exact absurd (by rw [nI_tn (by omega)] at c_37; exact Int32.not_le.mp c_37) c_9
  refine g_iconst C 0 dX5_drySpell_0 (by rfl) ?_
  refine g_istore_n C dX5_drySpell_1 (by decide) ?_
  refine g_iconst C 0 dX5_drySpell_2 (by rfl) ?_
  refine g_istore C dX5_drySpell_3 (by decide) ?_
  refine g_iload_n C dX5_drySpell_5 rfl ?_
  refine g_iconst C 0 dX5_drySpell_6 (by rfl) ?_
  refine g_max C k_660 k_329 k_18 k_330 (by decide) (Nat.le_of_ble_eq_true rfl) (by decide) (by decide) dX5_drySpell_7 ?_
  rw [if_neg (nI_pos (by omega))]
  refine g_istore C dX5_drySpell_10 (by decide) ?_
  rw [← hN]
  exact g_lv2 [(0, .ref a), (2, .int (nI b)), (3, .int (nI (dryN (aI w 1010 ta) x 0).1)), (4, .int (nI (dryN (aI w 1010 ta) x 0).2)), (5, .int (nI (x + 0)))] rfl (loop N 0 (by omega))
end SEASON11
end
section
section RATES12
theorem st_sub : ∀ d : Nat, d < 60 → 2 ≤ d → nI d - 3 + 1 = nI (d - 2) := by decide +kernel
theorem okD_t {f : Nat → Int32} {d : Nat} (h1 : ¬ sumF f (d - 2) 3 < 200) (h2 : ¬ 7 ≤ nI (dryN f (d + 1) (min (d + 16) 60 - (d + 1))).1) : okD f d = true := by
  unfold okD
  rw [decide_eq_true (Int32.not_lt.mp h1), decide_eq_true (Nat.not_le.mp (fun z => h2 (nI_le (a := 7) z (by have := (dryN_le (f := f) (a := d + 1) (min (d + 16) 60 - (d + 1))).1; omega))))]
  rfl
theorem okD_f {f : Nat → Int32} {d : Nat} (h : sumF f (d - 2) 3 < 200 ∨ 7 ≤ nI (dryN f (d + 1) (min (d + 16) 60 - (d + 1))).1) : ¬ okD f d = true := by
  unfold okD
  rcases h with h | h
  · rw [decide_eq_false (Int32.not_le.mpr h)]; simp
  · rw [decide_eq_false (p := (dryN f (d + 1) (min (d + 16) 60 - (d + 1))).1 < 7) (fun z => nI_ge (b := 7) z (by decide) h)]; simp
theorem begO_t {f : Nat → Int32} {k d : Nat} (hd : d + (k + 1) = 60) (h : okD f d = true) : begO f (k + 1) = some d := by
  have e : 60 - (k + 1) = d := by omega
  rw [begO, e, if_pos h]
theorem begO_f {f : Nat → Int32} {k d : Nat} (hd : d + (k + 1) = 60) (h : ¬ okD f d = true) : begO f (k + 1) = begO f k := by
  have e : 60 - (k + 1) = d := by omega
  rw [begO, e, if_neg h]
theorem oI_m1 {o : Option Nat} (ho : ∀ d, o = some d → d < 60) (h : oI o = -1) : o = none := by
  cases o with
  | none => rfl
  | some d =>
    have h1 : nI d = -1 := h
    exact absurd h1 (fun z => nI_pos (n := d) (by have := ho d rfl; omega) (by rw [z]; decide))
theorem stN_60 {f : Nat → Int32} (h : oI (begO f 58) = -1) : stN f = 60 := by
  unfold stN
  rw [oI_m1 (fun d hd => begO_lt hd) h]
theorem stN_s {f : Nat → Int32} (h : ¬ oI (begO f 58) = -1) : oI (begO f 58) + 1 = nI (stN f) := by
  unfold stN
  cases hb : begO f 58 with
  | none => rw [hb] at h; exact absurd rfl h
  | some d => exact nI_1 d
theorem dX5_start_0 : decode cX5_start 0 = .ok (.iconst 2, 1) := by decide +kernel
theorem dX5_start_1 : decode cX5_start 1 = .ok (.istore_n 1, 1) := by decide +kernel
theorem dX5_start_2 : decode cX5_start 2 = .ok (.iload_n 1, 1) := by decide +kernel
theorem dX5_start_3 : decode cX5_start 3 = .ok (.aload_n 0, 1) := by decide +kernel
theorem dX5_start_4 : decode cX5_start 4 = .ok (.getfield 9, 3) := by decide +kernel
theorem dX5_start_7 : decode cX5_start 7 = .ok (.arraylength, 1) := by decide +kernel
theorem dX5_start_8 : decode cX5_start 8 = .ok (.if_icmp .ge 47, 3) := by decide +kernel
theorem dX5_start_11 : decode cX5_start 11 = .ok (.aload_n 0, 1) := by decide +kernel
theorem dX5_start_12 : decode cX5_start 12 = .ok (.iload_n 1, 1) := by decide +kernel
theorem dX5_start_13 : decode cX5_start 13 = .ok (.iconst 3, 1) := by decide +kernel
theorem dX5_start_14 : decode cX5_start 14 = .ok (.isub, 1) := by decide +kernel
theorem dX5_start_15 : decode cX5_start 15 = .ok (.iconst 1, 1) := by decide +kernel
theorem dX5_start_16 : decode cX5_start 16 = .ok (.iadd, 1) := by decide +kernel
theorem dX5_start_17 : decode cX5_start 17 = .ok (.iload_n 1, 1) := by decide +kernel
theorem dX5_start_18 : decode cX5_start 18 = .ok (.iconst 1, 1) := by decide +kernel
theorem dX5_start_19 : decode cX5_start 19 = .ok (.iadd, 1) := by decide +kernel
theorem dX5_start_20 : decode cX5_start 20 = .ok (.invokevirtual 31, 3) := by decide +kernel
theorem dX5_start_23 : decode cX5_start 23 = .ok (.sipush 200, 3) := by decide +kernel
theorem dX5_start_26 : decode cX5_start 26 = .ok (.if_icmp .lt 23, 3) := by decide +kernel
theorem dX5_start_29 : decode cX5_start 29 = .ok (.aload_n 0, 1) := by decide +kernel
theorem dX5_start_30 : decode cX5_start 30 = .ok (.iload_n 1, 1) := by decide +kernel
theorem dX5_start_31 : decode cX5_start 31 = .ok (.iconst 1, 1) := by decide +kernel
theorem dX5_start_32 : decode cX5_start 32 = .ok (.iadd, 1) := by decide +kernel
theorem dX5_start_33 : decode cX5_start 33 = .ok (.iload_n 1, 1) := by decide +kernel
theorem dX5_start_34 : decode cX5_start 34 = .ok (.iconst 1, 1) := by decide +kernel
theorem dX5_start_35 : decode cX5_start 35 = .ok (.iadd, 1) := by decide +kernel
theorem dX5_start_36 : decode cX5_start 36 = .ok (.bipush 15, 2) := by decide +kernel
theorem dX5_start_38 : decode cX5_start 38 = .ok (.iadd, 1) := by decide +kernel
theorem dX5_start_39 : decode cX5_start 39 = .ok (.invokevirtual 34, 3) := by decide +kernel
theorem dX5_start_42 : decode cX5_start 42 = .ok (.bipush 7, 2) := by decide +kernel
theorem dX5_start_44 : decode cX5_start 44 = .ok (.if_icmp .ge 5, 3) := by decide +kernel
theorem dX5_start_47 : decode cX5_start 47 = .ok (.iload_n 1, 1) := by decide +kernel
theorem dX5_start_48 : decode cX5_start 48 = .ok (.ireturn, 1) := by decide +kernel
theorem dX5_start_49 : decode cX5_start 49 = .ok (.iinc 1 1, 3) := by decide +kernel
theorem dX5_start_52 : decode cX5_start 52 = .ok (.goto (-50), 3) := by decide +kernel
theorem dX5_start_55 : decode cX5_start 55 = .ok (.iconst (-1), 1) := by decide +kernel
theorem dX5_start_56 : decode cX5_start 56 = .ok (.ireturn, 1) := by decide +kernel
set_option maxHeartbeats 4000000 in
set_option maxRecDepth 100000 in
theorem c_X5_start (de : Nat) (w : Wd) (a ta : Nat) (hs : SR9 w a ta) : Ct yX5_start cX5_start 2 (some .int) 2 46 0 0 de [.ref a] w (fun r w' => r = some (.int (oI (begO (aI w 1010 ta) 58))) ∧ w = w') := by
  refine Ct.mk (by decide +kernel) [(0, .ref a)] rfl (Nat.le_of_ble_eq_true rfl) ?_
  intro p l e R s m args below meth c D cy z C hnm
  obtain ⟨ha, htf, hta, htl⟩ := id hs
  have loop : ∀ (k d : Nat), d + k = 60 → 2 ≤ d → begO (aI w 1010 ta) k = begO (aI w 1010 ta) 58 → G p l e R s m args below meth c D cy z 2 w 0 0 2 [(0, .ref a), (1, .int (nI d))] [] (QM below args s D cy z (fun r w' => r = some (.int (oI (begO (aI w 1010 ta) 58))) ∧ w = w') 0 0) := by
    intro k
    induction k with
    | zero =>
      intro d hdk hd2 hb
      refine g_iload_n C dX5_start_2 rfl ?_
      refine g_aload_n C dX5_start_3 rfl ?_
      refine g_getR (b := ta) C cls_6 7 0 ha htf rfl k_82 dX5_start_4 ?_
      refine g_alen C 1010 0 hta rfl (by decide) dX5_start_7 ?_
      refine g_icmp_ge C 55 dX5_start_8 (by decide) (fun c_8 => ?_) (fun c_8 => ?_)
      · refine g_iconst C (-1) dX5_start_55 (by rfl) ?_
        refine g_iret C rfl rfl (by decide) (by decide) dX5_start_56 ?_
        exact ⟨by rw [← hb]; rfl, rfl⟩
      · exact absurd (by rw [htl]; exact nI_le (by omega) (by omega)) c_8
    | succ k ih =>
      intro d hdk hd2 hb
      refine g_iload_n C dX5_start_2 rfl ?_
      refine g_aload_n C dX5_start_3 rfl ?_
      refine g_getR (b := ta) C cls_6 7 0 ha htf rfl k_82 dX5_start_4 ?_
      refine g_alen C 1010 0 hta rfl (by decide) dX5_start_7 ?_
      refine g_icmp_ge C 55 dX5_start_8 (by decide) (fun c_8 => ?_) (fun c_8 => ?_)
      · exact absurd (by rw [htl] at c_8; exact c_8) (nI_ge (a := d) (b := 60) (by omega) (by decide))
      · refine g_aload_n C dX5_start_11 rfl ?_
        refine g_iload_n C dX5_start_12 rfl ?_
        refine g_iconst C 3 dX5_start_13 (by rfl) ?_
        refine g_isub C dX5_start_14 ?_
        refine g_iconst C 1 dX5_start_15 (by rfl) ?_
        refine g_iadd C dX5_start_16 ?_
        refine g_iload_n C dX5_start_17 rfl ?_
        refine g_iconst C 1 dX5_start_18 (by rfl) ?_
        refine g_iadd C dX5_start_19 ?_
        rw [nI_1 d, st_sub d (by omega) (by omega)]
        refine g_callV C cls_6 7 mt_X5_sum [.int (nI (d - 2)), .int (nI (d + 1))] (c_X5_sum de w a ta (d - 2) (d + 1) hs (by omega) (by omega)) ha (by decide) k_656 rfl rfl (Nat.le_of_ble_eq_true rfl) (by decide) (by decide) (by decide) (by decide) dX5_start_20 (fun r_20 w_20 hp_20 => ?_)
        obtain ⟨rfl, rfl⟩ := hp_20
        rw [show min (d + 1) 60 - (d - 2) = 3 by omega]
        refine g_sipush C 200 dX5_start_23 (by rfl) ?_
        refine g_icmp_lt C 49 dX5_start_26 (by decide) (fun c_26 => ?_) (fun c_26 => ?_)
        · refine g_iinc C dX5_start_49 rfl (nI_1 d) (by decide) ?_
          refine g_goto C 2 dX5_start_52 (by decide) ?_
          have h9 := ih (d + 1) (by omega) (by omega) (by rw [← begO_f (d := d) (by omega) (okD_f (by first | exact Or.inl c_26 | exact Or.inr c_44))]; exact hb)
          exact g_lv2 [(0, .ref a), (1, .int (nI (d + 1)))] rfl h9
        · refine g_aload_n C dX5_start_29 rfl ?_
          refine g_iload_n C dX5_start_30 rfl ?_
          refine g_iconst C 1 dX5_start_31 (by rfl) ?_
          refine g_iadd C dX5_start_32 ?_
          refine g_iload_n C dX5_start_33 rfl ?_
          refine g_iconst C 1 dX5_start_34 (by rfl) ?_
          refine g_iadd C dX5_start_35 ?_
          refine g_bipush C 15 dX5_start_36 (by rfl) ?_
          refine g_iadd C dX5_start_38 ?_
          rw [nI_1 d, show nI (d + 1) + 15 = nI (d + 16) from nI_add (d + 1) 15]
          refine g_callV C cls_6 7 mt_X5_drySpell [.int (nI (d + 1)), .int (nI (d + 16))] (c_X5_drySpell de w a ta (d + 1) (d + 16) hs (by omega) (by omega)) ha (by decide) k_661 rfl rfl (Nat.le_of_ble_eq_true rfl) (by decide) (by decide) (by decide) (by decide) dX5_start_39 (fun r_39 w_39 hp_39 => ?_)
          obtain ⟨rfl, rfl⟩ := hp_39
          refine g_bipush C 7 dX5_start_42 (by rfl) ?_
          refine g_icmp_ge C 49 dX5_start_44 (by decide) (fun c_44 => ?_) (fun c_44 => ?_)
          · refine g_iinc C dX5_start_49 rfl (nI_1 d) (by decide) ?_
            refine g_goto C 2 dX5_start_52 (by decide) ?_
            have h9 := ih (d + 1) (by omega) (by omega) (by rw [← begO_f (d := d) (by omega) (okD_f (by first | exact Or.inl c_26 | exact Or.inr c_44))]; exact hb)
            exact g_lv2 [(0, .ref a), (1, .int (nI (d + 1)))] rfl h9
          · refine g_iload_n C dX5_start_47 rfl ?_
            refine g_iret C rfl rfl (by decide) (by decide) dX5_start_48 ?_
            exact ⟨by rw [← hb, begO_t (d := d) (by omega) (okD_t c_26 c_44)]; rfl, rfl⟩
  refine g_iconst C 2 dX5_start_0 (by rfl) ?_
  refine g_istore_n C dX5_start_1 (by decide) ?_
  exact g_lv2 [(0, .ref a), (1, .int (nI 2))] rfl (loop 58 2 (by omega) (by omega) rfl)
theorem dX5_fill_0 : decode cX5_fill 0 = .ok (.iconst 0, 1) := by decide +kernel
theorem dX5_fill_1 : decode cX5_fill 1 = .ok (.istore 6, 2) := by decide +kernel
theorem dX5_fill_3 : decode cX5_fill 3 = .ok (.iload 6, 2) := by decide +kernel
theorem dX5_fill_5 : decode cX5_fill 5 = .ok (.aload_n 0, 1) := by decide +kernel
theorem dX5_fill_6 : decode cX5_fill 6 = .ok (.getfield 9, 3) := by decide +kernel
theorem dX5_fill_9 : decode cX5_fill 9 = .ok (.arraylength, 1) := by decide +kernel
theorem dX5_fill_10 : decode cX5_fill 10 = .ok (.if_icmp .ge 32, 3) := by decide +kernel
theorem dX5_fill_13 : decode cX5_fill 13 = .ok (.aload_n 0, 1) := by decide +kernel
theorem dX5_fill_14 : decode cX5_fill 14 = .ok (.getfield 9, 3) := by decide +kernel
theorem dX5_fill_17 : decode cX5_fill 17 = .ok (.iload 6, 2) := by decide +kernel
theorem dX5_fill_19 : decode cX5_fill 19 = .ok (.aload_n 1, 1) := by decide +kernel
theorem dX5_fill_20 : decode cX5_fill 20 = .ok (.aload_n 2, 1) := by decide +kernel
theorem dX5_fill_21 : decode cX5_fill 21 = .ok (.iload_n 3, 1) := by decide +kernel
theorem dX5_fill_22 : decode cX5_fill 22 = .ok (.invokestatic 15, 3) := by decide +kernel
theorem dX5_fill_25 : decode cX5_fill 25 = .ok (.iload 6, 2) := by decide +kernel
theorem dX5_fill_27 : decode cX5_fill 27 = .ok (.iadd, 1) := by decide +kernel
theorem dX5_fill_28 : decode cX5_fill 28 = .ok (.iload 4, 2) := by decide +kernel
theorem dX5_fill_30 : decode cX5_fill 30 = .ok (.iload 5, 2) := by decide +kernel
theorem dX5_fill_32 : decode cX5_fill 32 = .ok (.invokevirtual 19, 3) := by decide +kernel
theorem dX5_fill_35 : decode cX5_fill 35 = .ok (.iastore, 1) := by decide +kernel
theorem dX5_fill_36 : decode cX5_fill 36 = .ok (.iinc 6 1, 3) := by decide +kernel
theorem dX5_fill_39 : decode cX5_fill 39 = .ok (.goto (-36), 3) := by decide +kernel
theorem dX5_fill_42 : decode cX5_fill 42 = .ok (.return_, 1) := by decide +kernel
set_option maxHeartbeats 4000000 in
set_option maxRecDepth 100000 in
theorem c_X5_fill (de : Nat) (w : Wd) (a ta : Nat) (hs : SR9 w a ta) (we sl nS : Nat) (stA laA : Nat → Nat) (xs ys : Nat → Int32) (ch : Nat → Nat → List (Nat × Int32)) (hw : WS9 w de we sl nS stA laA xs ys ch) (s0 se n : Nat) (kn : Int32) (hs0 : s0 < nS) (hse : se < 20) (hn : n < 100000) : Ct yX5_fill cX5_fill 7 none 4 93 0 0 de [.ref a, .ref we, .ref (stA s0), .int (nI se), .int kn, .int (nI n)] w (fun r w' => r = none ∧ ∃ g, w' = stR w 1010 ta g ∧ ∀ j, j < 60 → g j = rainV nS xs ys (fun k => datV (ch k (60 * se + j)) kn n) s0) := by
  refine Ct.mk (by decide +kernel) [(0, .ref a), (1, .ref we), (2, .ref (stA s0)), (3, .int (nI se)), (4, .int kn), (5, .int (nI n))] rfl (Nat.le_of_ble_eq_true rfl) ?_
  intro p l e R s m args below meth c D cy z C hnm
  obtain ⟨ha, htf, hta, htl⟩ := id hs
  obtain ⟨row, hrow⟩ : ∃ row : Nat → Int32, ∀ j, row j = rainV nS xs ys (fun k => datV (ch k (60 * se + j)) kn n) s0 := ⟨_, fun _ => rfl⟩
  simp only [← hrow]
  have loop : ∀ (k i : Nat) (g : Nat → Int32), i + k = 60 → (∀ j, j < i → g j = row j) → G p l e R s m args below meth c D cy z 7 (stR w 1010 ta g) 0 0 3 [(0, .ref a), (1, .ref we), (2, .ref (stA s0)), (3, .int (nI se)), (4, .int kn), (5, .int (nI n)), (6, .int (nI i))] [] (QM below args s D cy z (fun r w' => r = none ∧ ∃ g, w' = stR w 1010 ta g ∧ ∀ j, j < 60 → g j = row j) 0 0) := by
    intro k
    induction k with
    | zero =>
      intro i g hik hg
      refine g_iload C dX5_fill_3 rfl ?_
      refine g_aload_n C dX5_fill_5 rfl ?_
      refine g_getR (b := ta) C cls_6 7 0 ha htf rfl k_82 dX5_fill_6 ?_
      refine g_alen C 1010 0 hta rfl (by decide) dX5_fill_9 ?_
      refine g_icmp_ge C 42 dX5_fill_10 (by decide) (fun c_10 => ?_) (fun c_10 => ?_)
      · refine g_vret C rfl (by decide) (by decide) dX5_fill_42 ?_
        exact ⟨rfl, g, rfl, fun j hj => hg j (by omega)⟩
      · exact absurd (show Int32.ofNat (aL w ta) ≤ nI i by rw [htl]; exact nI_le (by omega) (by omega)) c_10
    | succ k ih =>
      intro i g hik hg
      refine g_iload C dX5_fill_3 rfl ?_
      refine g_aload_n C dX5_fill_5 rfl ?_
      refine g_getR (b := ta) C cls_6 7 0 ha htf rfl k_82 dX5_fill_6 ?_
      refine g_alen C 1010 0 hta rfl (by decide) dX5_fill_9 ?_
      refine g_icmp_ge C 42 dX5_fill_10 (by decide) (fun c_10 => ?_) (fun c_10 => ?_)
      · exact absurd (show nI 60 ≤ nI i by have h9 : Int32.ofNat (aL w ta) ≤ nI i := c_10; rw [htl] at h9; exact h9) (nI_ge (a := i) (b := 60) (by omega) (by decide))
      · refine g_aload_n C dX5_fill_13 rfl ?_
        refine g_getR (b := ta) C cls_6 7 0 ha htf rfl k_82 dX5_fill_14 ?_
        refine g_iload C dX5_fill_17 rfl ?_
        refine g_aload_n C dX5_fill_19 rfl ?_
        refine g_aload_n C dX5_fill_20 rfl ?_
        refine g_iload_n C dX5_fill_21 rfl ?_
        refine g_callSN C mt_X9_firstDay [.int (nI se)] (c_X9_firstDay de (stR w 1010 ta g) (nI se)) kn_639 rfl rfl (Nat.le_of_ble_eq_true rfl) (by decide) (by decide) (by decide) (by decide) dX5_fill_22 (fun r_22 w_22 hp_22 => ?_)
        obtain ⟨rfl, rfl⟩ := hp_22
        refine g_iload C dX5_fill_25 rfl ?_
        refine g_iadd C dX5_fill_27 ?_
        rw [show nI se * 60 + nI i = nI (60 * se + i) by rw [show (60 : Int32) = nI 60 from rfl, pk_mul, nI_add, Nat.mul_comm]]
        refine g_iload C dX5_fill_28 rfl ?_
        refine g_iload C dX5_fill_30 rfl ?_
        refine g_callV C cls_9 10 mt_X8_rainOn [.ref (stA s0), .int (nI (60 * se + i)), .int kn, .int (nI n)] (c_X8_rainOn de (stR w 1010 ta g) we sl nS stA laA xs ys ch hw s0 (60 * se + i) n kn hs0 (by omega) hn) hw.1 (by decide) k_640 rfl rfl (Nat.le_of_ble_eq_true rfl) (by decide) (by decide) (by decide) (by decide) dX5_fill_32 (fun r_32 w_32 hp_32 => ?_)
        obtain ⟨rfl, rfl⟩ := hp_32
        rw [← hrow i]
        refine g_iast C 1010 hta rfl (show vp_in (nI i) (aL w ta) by rw [htl]; exact nI_vp (by omega) (by omega)) dX5_fill_35 ?_
        refine g_iinc C dX5_fill_36 rfl (nI_1 i) (by decide) ?_
        refine g_goto C 3 dX5_fill_39 (by decide) ?_
        have h9 := ih (i + 1) (upd g i (row i)) (by omega) (fun j hj => by by_cases e9 : j = i <;> simp [upd, e9] <;> exact hg j (by omega))
        refine g_eq rfl rfl (w' := stR w 1010 ta (upd g i (row i))) (by rw [nI_tn (by omega)]; exact pAI_stR) ?_
        exact g_lv2 [(0, .ref a), (1, .ref we), (2, .ref (stA s0)), (3, .int (nI se)), (4, .int kn), (5, .int (nI n)), (6, .int (nI (i + 1)))] rfl h9
  refine g_iconst C 0 dX5_fill_0 (by rfl) ?_
  refine g_istore C dX5_fill_1 (by decide) ?_
  refine g_eq rfl rfl (w' := stR w 1010 ta (aI w 1010 ta)) stR_self.symm ?_
  exact g_lv2 [(0, .ref a), (1, .ref we), (2, .ref (stA s0)), (3, .int (nI se)), (4, .int kn), (5, .int (nI n)), (6, .int (nI 0))] rfl (loop 60 0 _ (by omega) (fun j hj => absurd hj (by omega)))
theorem dX3_look_0 : decode cX3_look 0 = .ok (.iload_n 2, 1) := by decide +kernel
theorem dX3_look_1 : decode cX3_look 1 = .ok (.bipush 60, 2) := by decide +kernel
theorem dX3_look_3 : decode cX3_look 3 = .ok (.if_icmp .lt 17, 3) := by decide +kernel
theorem dX3_look_6 : decode cX3_look 6 = .ok (.aload_n 0, 1) := by decide +kernel
theorem dX3_look_7 : decode cX3_look 7 = .ok (.getfield 15, 3) := by decide +kernel
theorem dX3_look_10 : decode cX3_look 10 = .ok (.ifCond .eq 8, 3) := by decide +kernel
theorem dX3_look_13 : decode cX3_look 13 = .ok (.bipush 60, 2) := by decide +kernel
theorem dX3_look_15 : decode cX3_look 15 = .ok (.goto 4, 3) := by decide +kernel
theorem dX3_look_18 : decode cX3_look 18 = .ok (.iconst 0, 1) := by decide +kernel
theorem dX3_look_19 : decode cX3_look 19 = .ok (.ireturn, 1) := by decide +kernel
theorem dX3_look_20 : decode cX3_look 20 = .ok (.aload_n 0, 1) := by decide +kernel
theorem dX3_look_21 : decode cX3_look 21 = .ok (.getfield 15, 3) := by decide +kernel
theorem dX3_look_24 : decode cX3_look 24 = .ok (.ifCond .eq 17, 3) := by decide +kernel
theorem dX3_look_27 : decode cX3_look 27 = .ok (.aload_n 1, 1) := by decide +kernel
theorem dX3_look_28 : decode cX3_look 28 = .ok (.iload_n 2, 1) := by decide +kernel
theorem dX3_look_29 : decode cX3_look 29 = .ok (.iload_n 2, 1) := by decide +kernel
theorem dX3_look_30 : decode cX3_look 30 = .ok (.aload_n 0, 1) := by decide +kernel
theorem dX3_look_31 : decode cX3_look 31 = .ok (.getfield 9, 3) := by decide +kernel
theorem dX3_look_34 : decode cX3_look 34 = .ok (.iadd, 1) := by decide +kernel
theorem dX3_look_35 : decode cX3_look 35 = .ok (.invokevirtual 28, 3) := by decide +kernel
theorem dX3_look_38 : decode cX3_look 38 = .ok (.goto 14, 3) := by decide +kernel
theorem dX3_look_41 : decode cX3_look 41 = .ok (.aload_n 1, 1) := by decide +kernel
theorem dX3_look_42 : decode cX3_look 42 = .ok (.iload_n 2, 1) := by decide +kernel
theorem dX3_look_43 : decode cX3_look 43 = .ok (.iload_n 2, 1) := by decide +kernel
theorem dX3_look_44 : decode cX3_look 44 = .ok (.aload_n 0, 1) := by decide +kernel
theorem dX3_look_45 : decode cX3_look 45 = .ok (.getfield 9, 3) := by decide +kernel
theorem dX3_look_48 : decode cX3_look 48 = .ok (.iadd, 1) := by decide +kernel
theorem dX3_look_49 : decode cX3_look 49 = .ok (.invokevirtual 34, 3) := by decide +kernel
theorem dX3_look_52 : decode cX3_look 52 = .ok (.ireturn, 1) := by decide +kernel
set_option maxHeartbeats 4000000 in
set_option maxRecDepth 100000 in
theorem c_X3_look (de : Nat) (w : Wd) (ph a ta dn fr : Nat) (hs : SR9 w a ta) (hp : kd w ph = 5) (hdn : fI w 5 0 ph = nI dn) (hd : dn ≤ 30) (hf : fr ≤ 500) : Ct yX3_look cX3_look 3 (some .int) 2 46 0 0 de [.ref ph, .ref a, .int (nI fr)] w (fun r w' => r = some (.int (lookV (aI w 1010 ta) (fI w 5 1 ph) dn fr)) ∧ w = w') := by
  refine Ct.mk (by decide +kernel) [(0, .ref ph), (1, .ref a), (2, .int (nI fr))] rfl (Nat.le_of_ble_eq_true rfl) ?_
  intro p l e R s m args below meth c D cy z C hnm
  refine g_iload_n C dX3_look_0 rfl ?_
  refine g_bipush C 60 dX3_look_1 (by rfl) ?_
  refine g_icmp_lt C 20 dX3_look_3 (by decide) (fun c_3 => ?_) (fun c_3 => ?_)
  · refine g_aload_n C dX3_look_20 rfl ?_
    refine g_getI C cls_4 5 1 hp rfl k_474 dX3_look_21 ?_
    refine g_if_eq C 41 dX3_look_24 (by decide) (fun c_24 => ?_) (fun c_24 => ?_)
    · refine g_aload_n C dX3_look_41 rfl ?_
      refine g_iload_n C dX3_look_42 rfl ?_
      refine g_iload_n C dX3_look_43 rfl ?_
      refine g_aload_n C dX3_look_44 rfl ?_
      refine g_getI C cls_4 5 0 hp rfl k_472 dX3_look_45 ?_
      refine g_iadd C dX3_look_48 ?_
      rw [hdn, nI_add]
      refine g_callV C cls_6 7 mt_X5_sum [.int (nI fr), .int (nI (fr + dn))] (c_X5_sum de w a ta fr (fr + dn) hs (by omega) (by omega)) hs.1 (by decide) k_673 rfl rfl (Nat.le_of_ble_eq_true rfl) (by decide) (by decide) (by decide) (by decide) dX3_look_49 (fun r_49 w_49 hp_49 => ?_)
      obtain ⟨rfl, rfl⟩ := hp_49
      refine g_iret C rfl rfl (by decide) (by decide) dX3_look_52 ?_
      have h9 : ¬ 60 ≤ fr := Nat.not_le.mpr (nI_lt_of c_3 (by omega) (by omega))
      first
      | exact ⟨congrArg (fun v => some (Value.int v)) (by rw [lookV, if_neg h9, if_pos c_24]), rfl⟩
      | exact ⟨congrArg (fun v => some (Value.int v)) (by rw [lookV, if_neg h9, if_neg c_24]), rfl⟩
    · refine g_aload_n C dX3_look_27 rfl ?_
      refine g_iload_n C dX3_look_28 rfl ?_
      refine g_iload_n C dX3_look_29 rfl ?_
      refine g_aload_n C dX3_look_30 rfl ?_
      refine g_getI C cls_4 5 0 hp rfl k_472 dX3_look_31 ?_
      refine g_iadd C dX3_look_34 ?_
      rw [hdn, nI_add]
      refine g_callV C cls_6 7 mt_X5_drySpell [.int (nI fr), .int (nI (fr + dn))] (c_X5_drySpell de w a ta fr (fr + dn) hs (by omega) (by omega)) hs.1 (by decide) k_672 rfl rfl (Nat.le_of_ble_eq_true rfl) (by decide) (by decide) (by decide) (by decide) dX3_look_35 (fun r_35 w_35 hp_35 => ?_)
      obtain ⟨rfl, rfl⟩ := hp_35
      refine g_goto C 52 dX3_look_38 (by decide) ?_
      refine g_iret C rfl rfl (by decide) (by decide) dX3_look_52 ?_
      have h9 : ¬ 60 ≤ fr := Nat.not_le.mpr (nI_lt_of c_3 (by omega) (by omega))
      first
      | exact ⟨congrArg (fun v => some (Value.int v)) (by rw [lookV, if_neg h9, if_pos c_24]), rfl⟩
      | exact ⟨congrArg (fun v => some (Value.int v)) (by rw [lookV, if_neg h9, if_neg c_24]), rfl⟩
  · refine g_aload_n C dX3_look_6 rfl ?_
    refine g_getI C cls_4 5 1 hp rfl k_474 dX3_look_7 ?_
    refine g_if_eq C 18 dX3_look_10 (by decide) (fun c_10 => ?_) (fun c_10 => ?_)
    · refine g_iconst C 0 dX3_look_18 (by rfl) ?_
      refine g_iret C rfl rfl (by decide) (by decide) dX3_look_19 ?_
      have h9 : 60 ≤ fr := nI_nlt_of c_3 (by omega) (by omega)
      first
      | exact ⟨congrArg (fun v => some (Value.int v)) (by rw [lookV, if_pos h9, if_pos c_10]), rfl⟩
      | exact ⟨congrArg (fun v => some (Value.int v)) (by rw [lookV, if_pos h9, if_neg c_10]), rfl⟩
    · refine g_bipush C 60 dX3_look_13 (by rfl) ?_
      refine g_goto C 19 dX3_look_15 (by decide) ?_
      refine g_iret C rfl rfl (by decide) (by decide) dX3_look_19 ?_
      have h9 : 60 ≤ fr := nI_nlt_of c_3 (by omega) (by omega)
      first
      | exact ⟨congrArg (fun v => some (Value.int v)) (by rw [lookV, if_pos h9, if_pos c_10]), rfl⟩
      | exact ⟨congrArg (fun v => some (Value.int v)) (by rw [lookV, if_pos h9, if_neg c_10]), rfl⟩
theorem dX3_pays_0 : decode cX3_pays 0 = .ok (.aload_n 0, 1) := by decide +kernel
theorem dX3_pays_1 : decode cX3_pays 1 = .ok (.getfield 15, 3) := by decide +kernel
theorem dX3_pays_4 : decode cX3_pays 4 = .ok (.ifCond .eq 12, 3) := by decide +kernel
theorem dX3_pays_7 : decode cX3_pays 7 = .ok (.iload_n 1, 1) := by decide +kernel
theorem dX3_pays_8 : decode cX3_pays 8 = .ok (.aload_n 0, 1) := by decide +kernel
theorem dX3_pays_9 : decode cX3_pays 9 = .ok (.getfield 19, 3) := by decide +kernel
theorem dX3_pays_12 : decode cX3_pays 12 = .ok (.isub, 1) := by decide +kernel
theorem dX3_pays_13 : decode cX3_pays 13 = .ok (.goto 9, 3) := by decide +kernel
theorem dX3_pays_16 : decode cX3_pays 16 = .ok (.aload_n 0, 1) := by decide +kernel
theorem dX3_pays_17 : decode cX3_pays 17 = .ok (.getfield 19, 3) := by decide +kernel
theorem dX3_pays_20 : decode cX3_pays 20 = .ok (.iload_n 1, 1) := by decide +kernel
theorem dX3_pays_21 : decode cX3_pays 21 = .ok (.isub, 1) := by decide +kernel
theorem dX3_pays_22 : decode cX3_pays 22 = .ok (.istore_n 2, 1) := by decide +kernel
theorem dX3_pays_23 : decode cX3_pays 23 = .ok (.aload_n 0, 1) := by decide +kernel
theorem dX3_pays_24 : decode cX3_pays 24 = .ok (.getfield 15, 3) := by decide +kernel
theorem dX3_pays_27 : decode cX3_pays 27 = .ok (.ifCond .eq 15, 3) := by decide +kernel
theorem dX3_pays_30 : decode cX3_pays 30 = .ok (.aload_n 0, 1) := by decide +kernel
theorem dX3_pays_31 : decode cX3_pays 31 = .ok (.getfield 22, 3) := by decide +kernel
theorem dX3_pays_34 : decode cX3_pays 34 = .ok (.aload_n 0, 1) := by decide +kernel
theorem dX3_pays_35 : decode cX3_pays 35 = .ok (.getfield 19, 3) := by decide +kernel
theorem dX3_pays_38 : decode cX3_pays 38 = .ok (.isub, 1) := by decide +kernel
theorem dX3_pays_39 : decode cX3_pays 39 = .ok (.goto 12, 3) := by decide +kernel
theorem dX3_pays_42 : decode cX3_pays 42 = .ok (.aload_n 0, 1) := by decide +kernel
theorem dX3_pays_43 : decode cX3_pays 43 = .ok (.getfield 19, 3) := by decide +kernel
theorem dX3_pays_46 : decode cX3_pays 46 = .ok (.aload_n 0, 1) := by decide +kernel
theorem dX3_pays_47 : decode cX3_pays 47 = .ok (.getfield 22, 3) := by decide +kernel
theorem dX3_pays_50 : decode cX3_pays 50 = .ok (.isub, 1) := by decide +kernel
theorem dX3_pays_51 : decode cX3_pays 51 = .ok (.istore_n 3, 1) := by decide +kernel
theorem dX3_pays_52 : decode cX3_pays 52 = .ok (.iload_n 2, 1) := by decide +kernel
theorem dX3_pays_53 : decode cX3_pays 53 = .ok (.ifCond .gt 5, 3) := by decide +kernel
theorem dX3_pays_56 : decode cX3_pays 56 = .ok (.iconst 0, 1) := by decide +kernel
theorem dX3_pays_57 : decode cX3_pays 57 = .ok (.ireturn, 1) := by decide +kernel
theorem dX3_pays_58 : decode cX3_pays 58 = .ok (.iload_n 3, 1) := by decide +kernel
theorem dX3_pays_59 : decode cX3_pays 59 = .ok (.ifCond .le 8, 3) := by decide +kernel
theorem dX3_pays_62 : decode cX3_pays 62 = .ok (.iload_n 2, 1) := by decide +kernel
theorem dX3_pays_63 : decode cX3_pays 63 = .ok (.iload_n 3, 1) := by decide +kernel
theorem dX3_pays_64 : decode cX3_pays 64 = .ok (.if_icmp .lt 9, 3) := by decide +kernel
theorem dX3_pays_67 : decode cX3_pays 67 = .ok (.sipush 1000, 3) := by decide +kernel
theorem dX3_pays_70 : decode cX3_pays 70 = .ok (.goto 10, 3) := by decide +kernel
theorem dX3_pays_73 : decode cX3_pays 73 = .ok (.sipush 1000, 3) := by decide +kernel
theorem dX3_pays_76 : decode cX3_pays 76 = .ok (.iload_n 2, 1) := by decide +kernel
theorem dX3_pays_77 : decode cX3_pays 77 = .ok (.imul, 1) := by decide +kernel
theorem dX3_pays_78 : decode cX3_pays 78 = .ok (.iload_n 3, 1) := by decide +kernel
theorem dX3_pays_79 : decode cX3_pays 79 = .ok (.idiv, 1) := by decide +kernel
theorem dX3_pays_80 : decode cX3_pays 80 = .ok (.ireturn, 1) := by decide +kernel
set_option maxHeartbeats 4000000 in
set_option maxRecDepth 100000 in
theorem c_X3_pays (de : Nat) (w : Wd) (ph : Nat) (its : Int32) (hp : kd w ph = 5) : Ct yX3_pays cX3_pays 4 (some .int) 0 0 0 0 de [.ref ph, .int its] w (fun r w' => r = some (.int (payV (fI w 5 1 ph) (fI w 5 2 ph) (fI w 5 3 ph) its)) ∧ w = w') := by
  refine Ct.mk (by decide +kernel) [(0, .ref ph), (1, .int its)] rfl (Nat.le_of_ble_eq_true rfl) ?_
  intro p l e R s m args below meth c D cy z C hnm
  refine g_aload_n C dX3_pays_0 rfl ?_
  refine g_getI C cls_4 5 1 hp rfl k_474 dX3_pays_1 ?_
  refine g_if_eq C 16 dX3_pays_4 (by decide) (fun c_4 => ?_) (fun c_4 => ?_)
  · refine g_aload_n C dX3_pays_16 rfl ?_
    refine g_getI C cls_4 5 2 hp rfl k_475 dX3_pays_17 ?_
    refine g_iload_n C dX3_pays_20 rfl ?_
    refine g_isub C dX3_pays_21 ?_
    refine g_istore_n C dX3_pays_22 (by decide) ?_
    refine g_aload_n C dX3_pays_23 rfl ?_
    refine g_getI C cls_4 5 1 hp rfl k_474 dX3_pays_24 ?_
    refine g_if_eq C 42 dX3_pays_27 (by decide) (fun c_27 => ?_) (fun c_27 => ?_)
    · refine g_aload_n C dX3_pays_42 rfl ?_
      refine g_getI C cls_4 5 2 hp rfl k_475 dX3_pays_43 ?_
      refine g_aload_n C dX3_pays_46 rfl ?_
      refine g_getI C cls_4 5 3 hp rfl k_476 dX3_pays_47 ?_
      refine g_isub C dX3_pays_50 ?_
      refine g_istore_n C dX3_pays_51 (by decide) ?_
      refine g_iload_n C dX3_pays_52 rfl ?_
      refine g_if_gt C 58 dX3_pays_53 (by decide) (fun c_53 => ?_) (fun c_53 => ?_)
      · refine g_iload_n C dX3_pays_58 rfl ?_
        refine g_if_le C 67 dX3_pays_59 (by decide) (fun c_59 => ?_) (fun c_59 => ?_)
        · refine g_sipush C 1000 dX3_pays_67 (by rfl) ?_
          refine g_goto C 80 dX3_pays_70 (by decide) ?_
          refine g_iret C rfl rfl (by decide) (by decide) dX3_pays_80 ?_
          first
          | exact absurd c_4 c_27
          | exact absurd c_27 c_4
          | exact ⟨congrArg (fun v => some (Value.int v)) ((payV_1 (if_pos c_4).symm (if_pos c_27).symm (Int32.not_le.mpr c_53) c_59).symm), rfl⟩
          | exact ⟨congrArg (fun v => some (Value.int v)) ((payV_1 (if_pos c_4).symm (if_neg c_27).symm (Int32.not_le.mpr c_53) c_59).symm), rfl⟩
          | exact ⟨congrArg (fun v => some (Value.int v)) ((payV_1 (if_neg c_4).symm (if_pos c_27).symm (Int32.not_le.mpr c_53) c_59).symm), rfl⟩
          | exact ⟨congrArg (fun v => some (Value.int v)) ((payV_1 (if_neg c_4).symm (if_neg c_27).symm (Int32.not_le.mpr c_53) c_59).symm), rfl⟩
          | exact ⟨congrArg (fun v => some (Value.int v)) ((payV_2 (if_pos c_4).symm (if_pos c_27).symm (Int32.not_le.mpr c_53) c_59 (Int32.not_lt.mp c_64)).symm), rfl⟩
          | exact ⟨congrArg (fun v => some (Value.int v)) ((payV_2 (if_pos c_4).symm (if_neg c_27).symm (Int32.not_le.mpr c_53) c_59 (Int32.not_lt.mp c_64)).symm), rfl⟩
          | exact ⟨congrArg (fun v => some (Value.int v)) ((payV_2 (if_neg c_4).symm (if_pos c_27).symm (Int32.not_le.mpr c_53) c_59 (Int32.not_lt.mp c_64)).symm), rfl⟩
          | exact ⟨congrArg (fun v => some (Value.int v)) ((payV_2 (if_neg c_4).symm (if_neg c_27).symm (Int32.not_le.mpr c_53) c_59 (Int32.not_lt.mp c_64)).symm), rfl⟩
          | exact ⟨congrArg (fun v => some (Value.int v)) ((payV_3 (if_pos c_4).symm (if_pos c_27).symm (Int32.not_le.mpr c_53) c_59 (Int32.not_le.mpr c_64)).symm), rfl⟩
          | exact ⟨congrArg (fun v => some (Value.int v)) ((payV_3 (if_pos c_4).symm (if_neg c_27).symm (Int32.not_le.mpr c_53) c_59 (Int32.not_le.mpr c_64)).symm), rfl⟩
          | exact ⟨congrArg (fun v => some (Value.int v)) ((payV_3 (if_neg c_4).symm (if_pos c_27).symm (Int32.not_le.mpr c_53) c_59 (Int32.not_le.mpr c_64)).symm), rfl⟩
          | exact ⟨congrArg (fun v => some (Value.int v)) ((payV_3 (if_neg c_4).symm (if_neg c_27).symm (Int32.not_le.mpr c_53) c_59 (Int32.not_le.mpr c_64)).symm), rfl⟩
        · refine g_iload_n C dX3_pays_62 rfl ?_
          refine g_iload_n C dX3_pays_63 rfl ?_
          refine g_icmp_lt C 73 dX3_pays_64 (by decide) (fun c_64 => ?_) (fun c_64 => ?_)
          · refine g_sipush C 1000 dX3_pays_73 (by rfl) ?_
            refine g_iload_n C dX3_pays_76 rfl ?_
            refine g_imul C dX3_pays_77 ?_
            refine g_iload_n C dX3_pays_78 rfl ?_
            refine g_idiv C dX3_pays_79 (fun z => c_59 (by rw [z]; exact Int32.le_refl 0)) ?_
            refine g_iret C rfl rfl (by decide) (by decide) dX3_pays_80 ?_
            first
            | exact absurd c_4 c_27
            | exact absurd c_27 c_4
            | exact ⟨congrArg (fun v => some (Value.int v)) ((payV_1 (if_pos c_4).symm (if_pos c_27).symm (Int32.not_le.mpr c_53) c_59).symm), rfl⟩
            | exact ⟨congrArg (fun v => some (Value.int v)) ((payV_1 (if_pos c_4).symm (if_neg c_27).symm (Int32.not_le.mpr c_53) c_59).symm), rfl⟩
            | exact ⟨congrArg (fun v => some (Value.int v)) ((payV_1 (if_neg c_4).symm (if_pos c_27).symm (Int32.not_le.mpr c_53) c_59).symm), rfl⟩
            | exact ⟨congrArg (fun v => some (Value.int v)) ((payV_1 (if_neg c_4).symm (if_neg c_27).symm (Int32.not_le.mpr c_53) c_59).symm), rfl⟩
            | exact ⟨congrArg (fun v => some (Value.int v)) ((payV_2 (if_pos c_4).symm (if_pos c_27).symm (Int32.not_le.mpr c_53) c_59 (Int32.not_lt.mp c_64)).symm), rfl⟩
            | exact ⟨congrArg (fun v => some (Value.int v)) ((payV_2 (if_pos c_4).symm (if_neg c_27).symm (Int32.not_le.mpr c_53) c_59 (Int32.not_lt.mp c_64)).symm), rfl⟩
            | exact ⟨congrArg (fun v => some (Value.int v)) ((payV_2 (if_neg c_4).symm (if_pos c_27).symm (Int32.not_le.mpr c_53) c_59 (Int32.not_lt.mp c_64)).symm), rfl⟩
            | exact ⟨congrArg (fun v => some (Value.int v)) ((payV_2 (if_neg c_4).symm (if_neg c_27).symm (Int32.not_le.mpr c_53) c_59 (Int32.not_lt.mp c_64)).symm), rfl⟩
            | exact ⟨congrArg (fun v => some (Value.int v)) ((payV_3 (if_pos c_4).symm (if_pos c_27).symm (Int32.not_le.mpr c_53) c_59 (Int32.not_le.mpr c_64)).symm), rfl⟩
            | exact ⟨congrArg (fun v => some (Value.int v)) ((payV_3 (if_pos c_4).symm (if_neg c_27).symm (Int32.not_le.mpr c_53) c_59 (Int32.not_le.mpr c_64)).symm), rfl⟩
            | exact ⟨congrArg (fun v => some (Value.int v)) ((payV_3 (if_neg c_4).symm (if_pos c_27).symm (Int32.not_le.mpr c_53) c_59 (Int32.not_le.mpr c_64)).symm), rfl⟩
            | exact ⟨congrArg (fun v => some (Value.int v)) ((payV_3 (if_neg c_4).symm (if_neg c_27).symm (Int32.not_le.mpr c_53) c_59 (Int32.not_le.mpr c_64)).symm), rfl⟩
          · refine g_sipush C 1000 dX3_pays_67 (by rfl) ?_
            refine g_goto C 80 dX3_pays_70 (by decide) ?_
            refine g_iret C rfl rfl (by decide) (by decide) dX3_pays_80 ?_
            first
            | exact absurd c_4 c_27
            | exact absurd c_27 c_4
            | exact ⟨congrArg (fun v => some (Value.int v)) ((payV_1 (if_pos c_4).symm (if_pos c_27).symm (Int32.not_le.mpr c_53) c_59).symm), rfl⟩
            | exact ⟨congrArg (fun v => some (Value.int v)) ((payV_1 (if_pos c_4).symm (if_neg c_27).symm (Int32.not_le.mpr c_53) c_59).symm), rfl⟩
            | exact ⟨congrArg (fun v => some (Value.int v)) ((payV_1 (if_neg c_4).symm (if_pos c_27).symm (Int32.not_le.mpr c_53) c_59).symm), rfl⟩
            | exact ⟨congrArg (fun v => some (Value.int v)) ((payV_1 (if_neg c_4).symm (if_neg c_27).symm (Int32.not_le.mpr c_53) c_59).symm), rfl⟩
            | exact ⟨congrArg (fun v => some (Value.int v)) ((payV_2 (if_pos c_4).symm (if_pos c_27).symm (Int32.not_le.mpr c_53) c_59 (Int32.not_lt.mp c_64)).symm), rfl⟩
            | exact ⟨congrArg (fun v => some (Value.int v)) ((payV_2 (if_pos c_4).symm (if_neg c_27).symm (Int32.not_le.mpr c_53) c_59 (Int32.not_lt.mp c_64)).symm), rfl⟩
            | exact ⟨congrArg (fun v => some (Value.int v)) ((payV_2 (if_neg c_4).symm (if_pos c_27).symm (Int32.not_le.mpr c_53) c_59 (Int32.not_lt.mp c_64)).symm), rfl⟩
            | exact ⟨congrArg (fun v => some (Value.int v)) ((payV_2 (if_neg c_4).symm (if_neg c_27).symm (Int32.not_le.mpr c_53) c_59 (Int32.not_lt.mp c_64)).symm), rfl⟩
            | exact ⟨congrArg (fun v => some (Value.int v)) ((payV_3 (if_pos c_4).symm (if_pos c_27).symm (Int32.not_le.mpr c_53) c_59 (Int32.not_le.mpr c_64)).symm), rfl⟩
            | exact ⟨congrArg (fun v => some (Value.int v)) ((payV_3 (if_pos c_4).symm (if_neg c_27).symm (Int32.not_le.mpr c_53) c_59 (Int32.not_le.mpr c_64)).symm), rfl⟩
            | exact ⟨congrArg (fun v => some (Value.int v)) ((payV_3 (if_neg c_4).symm (if_pos c_27).symm (Int32.not_le.mpr c_53) c_59 (Int32.not_le.mpr c_64)).symm), rfl⟩
            | exact ⟨congrArg (fun v => some (Value.int v)) ((payV_3 (if_neg c_4).symm (if_neg c_27).symm (Int32.not_le.mpr c_53) c_59 (Int32.not_le.mpr c_64)).symm), rfl⟩
      · refine g_iconst C 0 dX3_pays_56 (by rfl) ?_
        refine g_iret C rfl rfl (by decide) (by decide) dX3_pays_57 ?_
        first
        | exact absurd c_4 c_27
        | exact absurd c_27 c_4
        | exact ⟨congrArg (fun v => some (Value.int v)) ((payV_0 (if_pos c_4).symm (if_pos c_27).symm (Int32.not_lt.mp c_53)).symm), rfl⟩
        | exact ⟨congrArg (fun v => some (Value.int v)) ((payV_0 (if_pos c_4).symm (if_neg c_27).symm (Int32.not_lt.mp c_53)).symm), rfl⟩
        | exact ⟨congrArg (fun v => some (Value.int v)) ((payV_0 (if_neg c_4).symm (if_pos c_27).symm (Int32.not_lt.mp c_53)).symm), rfl⟩
        | exact ⟨congrArg (fun v => some (Value.int v)) ((payV_0 (if_neg c_4).symm (if_neg c_27).symm (Int32.not_lt.mp c_53)).symm), rfl⟩
    · refine g_aload_n C dX3_pays_30 rfl ?_
      refine g_getI C cls_4 5 3 hp rfl k_476 dX3_pays_31 ?_
      refine g_aload_n C dX3_pays_34 rfl ?_
      refine g_getI C cls_4 5 2 hp rfl k_475 dX3_pays_35 ?_
      refine g_isub C dX3_pays_38 ?_
      refine g_goto C 51 dX3_pays_39 (by decide) ?_
      refine g_istore_n C dX3_pays_51 (by decide) ?_
      refine g_iload_n C dX3_pays_52 rfl ?_
      refine g_if_gt C 58 dX3_pays_53 (by decide) (fun c_53 => ?_) (fun c_53 => ?_)
      · refine g_iload_n C dX3_pays_58 rfl ?_
        refine g_if_le C 67 dX3_pays_59 (by decide) (fun c_59 => ?_) (fun c_59 => ?_)
        · refine g_sipush C 1000 dX3_pays_67 (by rfl) ?_
          refine g_goto C 80 dX3_pays_70 (by decide) ?_
          refine g_iret C rfl rfl (by decide) (by decide) dX3_pays_80 ?_
          first
          | exact absurd c_4 c_27
          | exact absurd c_27 c_4
          | exact ⟨congrArg (fun v => some (Value.int v)) ((payV_1 (if_pos c_4).symm (if_pos c_27).symm (Int32.not_le.mpr c_53) c_59).symm), rfl⟩
          | exact ⟨congrArg (fun v => some (Value.int v)) ((payV_1 (if_pos c_4).symm (if_neg c_27).symm (Int32.not_le.mpr c_53) c_59).symm), rfl⟩
          | exact ⟨congrArg (fun v => some (Value.int v)) ((payV_1 (if_neg c_4).symm (if_pos c_27).symm (Int32.not_le.mpr c_53) c_59).symm), rfl⟩
          | exact ⟨congrArg (fun v => some (Value.int v)) ((payV_1 (if_neg c_4).symm (if_neg c_27).symm (Int32.not_le.mpr c_53) c_59).symm), rfl⟩
          | exact ⟨congrArg (fun v => some (Value.int v)) ((payV_2 (if_pos c_4).symm (if_pos c_27).symm (Int32.not_le.mpr c_53) c_59 (Int32.not_lt.mp c_64)).symm), rfl⟩
          | exact ⟨congrArg (fun v => some (Value.int v)) ((payV_2 (if_pos c_4).symm (if_neg c_27).symm (Int32.not_le.mpr c_53) c_59 (Int32.not_lt.mp c_64)).symm), rfl⟩
          | exact ⟨congrArg (fun v => some (Value.int v)) ((payV_2 (if_neg c_4).symm (if_pos c_27).symm (Int32.not_le.mpr c_53) c_59 (Int32.not_lt.mp c_64)).symm), rfl⟩
          | exact ⟨congrArg (fun v => some (Value.int v)) ((payV_2 (if_neg c_4).symm (if_neg c_27).symm (Int32.not_le.mpr c_53) c_59 (Int32.not_lt.mp c_64)).symm), rfl⟩
          | exact ⟨congrArg (fun v => some (Value.int v)) ((payV_3 (if_pos c_4).symm (if_pos c_27).symm (Int32.not_le.mpr c_53) c_59 (Int32.not_le.mpr c_64)).symm), rfl⟩
          | exact ⟨congrArg (fun v => some (Value.int v)) ((payV_3 (if_pos c_4).symm (if_neg c_27).symm (Int32.not_le.mpr c_53) c_59 (Int32.not_le.mpr c_64)).symm), rfl⟩
          | exact ⟨congrArg (fun v => some (Value.int v)) ((payV_3 (if_neg c_4).symm (if_pos c_27).symm (Int32.not_le.mpr c_53) c_59 (Int32.not_le.mpr c_64)).symm), rfl⟩
          | exact ⟨congrArg (fun v => some (Value.int v)) ((payV_3 (if_neg c_4).symm (if_neg c_27).symm (Int32.not_le.mpr c_53) c_59 (Int32.not_le.mpr c_64)).symm), rfl⟩
        · refine g_iload_n C dX3_pays_62 rfl ?_
          refine g_iload_n C dX3_pays_63 rfl ?_
          refine g_icmp_lt C 73 dX3_pays_64 (by decide) (fun c_64 => ?_) (fun c_64 => ?_)
          · refine g_sipush C 1000 dX3_pays_73 (by rfl) ?_
            refine g_iload_n C dX3_pays_76 rfl ?_
            refine g_imul C dX3_pays_77 ?_
            refine g_iload_n C dX3_pays_78 rfl ?_
            refine g_idiv C dX3_pays_79 (fun z => c_59 (by rw [z]; exact Int32.le_refl 0)) ?_
            refine g_iret C rfl rfl (by decide) (by decide) dX3_pays_80 ?_
            first
            | exact absurd c_4 c_27
            | exact absurd c_27 c_4
            | exact ⟨congrArg (fun v => some (Value.int v)) ((payV_1 (if_pos c_4).symm (if_pos c_27).symm (Int32.not_le.mpr c_53) c_59).symm), rfl⟩
            | exact ⟨congrArg (fun v => some (Value.int v)) ((payV_1 (if_pos c_4).symm (if_neg c_27).symm (Int32.not_le.mpr c_53) c_59).symm), rfl⟩
            | exact ⟨congrArg (fun v => some (Value.int v)) ((payV_1 (if_neg c_4).symm (if_pos c_27).symm (Int32.not_le.mpr c_53) c_59).symm), rfl⟩
            | exact ⟨congrArg (fun v => some (Value.int v)) ((payV_1 (if_neg c_4).symm (if_neg c_27).symm (Int32.not_le.mpr c_53) c_59).symm), rfl⟩
            | exact ⟨congrArg (fun v => some (Value.int v)) ((payV_2 (if_pos c_4).symm (if_pos c_27).symm (Int32.not_le.mpr c_53) c_59 (Int32.not_lt.mp c_64)).symm), rfl⟩
            | exact ⟨congrArg (fun v => some (Value.int v)) ((payV_2 (if_pos c_4).symm (if_neg c_27).symm (Int32.not_le.mpr c_53) c_59 (Int32.not_lt.mp c_64)).symm), rfl⟩
            | exact ⟨congrArg (fun v => some (Value.int v)) ((payV_2 (if_neg c_4).symm (if_pos c_27).symm (Int32.not_le.mpr c_53) c_59 (Int32.not_lt.mp c_64)).symm), rfl⟩
            | exact ⟨congrArg (fun v => some (Value.int v)) ((payV_2 (if_neg c_4).symm (if_neg c_27).symm (Int32.not_le.mpr c_53) c_59 (Int32.not_lt.mp c_64)).symm), rfl⟩
            | exact ⟨congrArg (fun v => some (Value.int v)) ((payV_3 (if_pos c_4).symm (if_pos c_27).symm (Int32.not_le.mpr c_53) c_59 (Int32.not_le.mpr c_64)).symm), rfl⟩
            | exact ⟨congrArg (fun v => some (Value.int v)) ((payV_3 (if_pos c_4).symm (if_neg c_27).symm (Int32.not_le.mpr c_53) c_59 (Int32.not_le.mpr c_64)).symm), rfl⟩
            | exact ⟨congrArg (fun v => some (Value.int v)) ((payV_3 (if_neg c_4).symm (if_pos c_27).symm (Int32.not_le.mpr c_53) c_59 (Int32.not_le.mpr c_64)).symm), rfl⟩
            | exact ⟨congrArg (fun v => some (Value.int v)) ((payV_3 (if_neg c_4).symm (if_neg c_27).symm (Int32.not_le.mpr c_53) c_59 (Int32.not_le.mpr c_64)).symm), rfl⟩
          · refine g_sipush C 1000 dX3_pays_67 (by rfl) ?_
            refine g_goto C 80 dX3_pays_70 (by decide) ?_
            refine g_iret C rfl rfl (by decide) (by decide) dX3_pays_80 ?_
            first
            | exact absurd c_4 c_27
            | exact absurd c_27 c_4
            | exact ⟨congrArg (fun v => some (Value.int v)) ((payV_1 (if_pos c_4).symm (if_pos c_27).symm (Int32.not_le.mpr c_53) c_59).symm), rfl⟩
            | exact ⟨congrArg (fun v => some (Value.int v)) ((payV_1 (if_pos c_4).symm (if_neg c_27).symm (Int32.not_le.mpr c_53) c_59).symm), rfl⟩
            | exact ⟨congrArg (fun v => some (Value.int v)) ((payV_1 (if_neg c_4).symm (if_pos c_27).symm (Int32.not_le.mpr c_53) c_59).symm), rfl⟩
            | exact ⟨congrArg (fun v => some (Value.int v)) ((payV_1 (if_neg c_4).symm (if_neg c_27).symm (Int32.not_le.mpr c_53) c_59).symm), rfl⟩
            | exact ⟨congrArg (fun v => some (Value.int v)) ((payV_2 (if_pos c_4).symm (if_pos c_27).symm (Int32.not_le.mpr c_53) c_59 (Int32.not_lt.mp c_64)).symm), rfl⟩
            | exact ⟨congrArg (fun v => some (Value.int v)) ((payV_2 (if_pos c_4).symm (if_neg c_27).symm (Int32.not_le.mpr c_53) c_59 (Int32.not_lt.mp c_64)).symm), rfl⟩
            | exact ⟨congrArg (fun v => some (Value.int v)) ((payV_2 (if_neg c_4).symm (if_pos c_27).symm (Int32.not_le.mpr c_53) c_59 (Int32.not_lt.mp c_64)).symm), rfl⟩
            | exact ⟨congrArg (fun v => some (Value.int v)) ((payV_2 (if_neg c_4).symm (if_neg c_27).symm (Int32.not_le.mpr c_53) c_59 (Int32.not_lt.mp c_64)).symm), rfl⟩
            | exact ⟨congrArg (fun v => some (Value.int v)) ((payV_3 (if_pos c_4).symm (if_pos c_27).symm (Int32.not_le.mpr c_53) c_59 (Int32.not_le.mpr c_64)).symm), rfl⟩
            | exact ⟨congrArg (fun v => some (Value.int v)) ((payV_3 (if_pos c_4).symm (if_neg c_27).symm (Int32.not_le.mpr c_53) c_59 (Int32.not_le.mpr c_64)).symm), rfl⟩
            | exact ⟨congrArg (fun v => some (Value.int v)) ((payV_3 (if_neg c_4).symm (if_pos c_27).symm (Int32.not_le.mpr c_53) c_59 (Int32.not_le.mpr c_64)).symm), rfl⟩
            | exact ⟨congrArg (fun v => some (Value.int v)) ((payV_3 (if_neg c_4).symm (if_neg c_27).symm (Int32.not_le.mpr c_53) c_59 (Int32.not_le.mpr c_64)).symm), rfl⟩
      · refine g_iconst C 0 dX3_pays_56 (by rfl) ?_
        refine g_iret C rfl rfl (by decide) (by decide) dX3_pays_57 ?_
        first
        | exact absurd c_4 c_27
        | exact absurd c_27 c_4
        | exact ⟨congrArg (fun v => some (Value.int v)) ((payV_0 (if_pos c_4).symm (if_pos c_27).symm (Int32.not_lt.mp c_53)).symm), rfl⟩
        | exact ⟨congrArg (fun v => some (Value.int v)) ((payV_0 (if_pos c_4).symm (if_neg c_27).symm (Int32.not_lt.mp c_53)).symm), rfl⟩
        | exact ⟨congrArg (fun v => some (Value.int v)) ((payV_0 (if_neg c_4).symm (if_pos c_27).symm (Int32.not_lt.mp c_53)).symm), rfl⟩
        | exact ⟨congrArg (fun v => some (Value.int v)) ((payV_0 (if_neg c_4).symm (if_neg c_27).symm (Int32.not_lt.mp c_53)).symm), rfl⟩
  · refine g_iload_n C dX3_pays_7 rfl ?_
    refine g_aload_n C dX3_pays_8 rfl ?_
    refine g_getI C cls_4 5 2 hp rfl k_475 dX3_pays_9 ?_
    refine g_isub C dX3_pays_12 ?_
    refine g_goto C 22 dX3_pays_13 (by decide) ?_
    refine g_istore_n C dX3_pays_22 (by decide) ?_
    refine g_aload_n C dX3_pays_23 rfl ?_
    refine g_getI C cls_4 5 1 hp rfl k_474 dX3_pays_24 ?_
    refine g_if_eq C 42 dX3_pays_27 (by decide) (fun c_27 => ?_) (fun c_27 => ?_)
    · refine g_aload_n C dX3_pays_42 rfl ?_
      refine g_getI C cls_4 5 2 hp rfl k_475 dX3_pays_43 ?_
      refine g_aload_n C dX3_pays_46 rfl ?_
      refine g_getI C cls_4 5 3 hp rfl k_476 dX3_pays_47 ?_
      refine g_isub C dX3_pays_50 ?_
      refine g_istore_n C dX3_pays_51 (by decide) ?_
      refine g_iload_n C dX3_pays_52 rfl ?_
      refine g_if_gt C 58 dX3_pays_53 (by decide) (fun c_53 => ?_) (fun c_53 => ?_)
      · refine g_iload_n C dX3_pays_58 rfl ?_
        refine g_if_le C 67 dX3_pays_59 (by decide) (fun c_59 => ?_) (fun c_59 => ?_)
        · refine g_sipush C 1000 dX3_pays_67 (by rfl) ?_
          refine g_goto C 80 dX3_pays_70 (by decide) ?_
          refine g_iret C rfl rfl (by decide) (by decide) dX3_pays_80 ?_
          first
          | exact absurd c_4 c_27
          | exact absurd c_27 c_4
          | exact ⟨congrArg (fun v => some (Value.int v)) ((payV_1 (if_pos c_4).symm (if_pos c_27).symm (Int32.not_le.mpr c_53) c_59).symm), rfl⟩
          | exact ⟨congrArg (fun v => some (Value.int v)) ((payV_1 (if_pos c_4).symm (if_neg c_27).symm (Int32.not_le.mpr c_53) c_59).symm), rfl⟩
          | exact ⟨congrArg (fun v => some (Value.int v)) ((payV_1 (if_neg c_4).symm (if_pos c_27).symm (Int32.not_le.mpr c_53) c_59).symm), rfl⟩
          | exact ⟨congrArg (fun v => some (Value.int v)) ((payV_1 (if_neg c_4).symm (if_neg c_27).symm (Int32.not_le.mpr c_53) c_59).symm), rfl⟩
          | exact ⟨congrArg (fun v => some (Value.int v)) ((payV_2 (if_pos c_4).symm (if_pos c_27).symm (Int32.not_le.mpr c_53) c_59 (Int32.not_lt.mp c_64)).symm), rfl⟩
          | exact ⟨congrArg (fun v => some (Value.int v)) ((payV_2 (if_pos c_4).symm (if_neg c_27).symm (Int32.not_le.mpr c_53) c_59 (Int32.not_lt.mp c_64)).symm), rfl⟩
          | exact ⟨congrArg (fun v => some (Value.int v)) ((payV_2 (if_neg c_4).symm (if_pos c_27).symm (Int32.not_le.mpr c_53) c_59 (Int32.not_lt.mp c_64)).symm), rfl⟩
          | exact ⟨congrArg (fun v => some (Value.int v)) ((payV_2 (if_neg c_4).symm (if_neg c_27).symm (Int32.not_le.mpr c_53) c_59 (Int32.not_lt.mp c_64)).symm), rfl⟩
          | exact ⟨congrArg (fun v => some (Value.int v)) ((payV_3 (if_pos c_4).symm (if_pos c_27).symm (Int32.not_le.mpr c_53) c_59 (Int32.not_le.mpr c_64)).symm), rfl⟩
          | exact ⟨congrArg (fun v => some (Value.int v)) ((payV_3 (if_pos c_4).symm (if_neg c_27).symm (Int32.not_le.mpr c_53) c_59 (Int32.not_le.mpr c_64)).symm), rfl⟩
          | exact ⟨congrArg (fun v => some (Value.int v)) ((payV_3 (if_neg c_4).symm (if_pos c_27).symm (Int32.not_le.mpr c_53) c_59 (Int32.not_le.mpr c_64)).symm), rfl⟩
          | exact ⟨congrArg (fun v => some (Value.int v)) ((payV_3 (if_neg c_4).symm (if_neg c_27).symm (Int32.not_le.mpr c_53) c_59 (Int32.not_le.mpr c_64)).symm), rfl⟩
        · refine g_iload_n C dX3_pays_62 rfl ?_
          refine g_iload_n C dX3_pays_63 rfl ?_
          refine g_icmp_lt C 73 dX3_pays_64 (by decide) (fun c_64 => ?_) (fun c_64 => ?_)
          · refine g_sipush C 1000 dX3_pays_73 (by rfl) ?_
            refine g_iload_n C dX3_pays_76 rfl ?_
            refine g_imul C dX3_pays_77 ?_
            refine g_iload_n C dX3_pays_78 rfl ?_
            refine g_idiv C dX3_pays_79 (fun z => c_59 (by rw [z]; exact Int32.le_refl 0)) ?_
            refine g_iret C rfl rfl (by decide) (by decide) dX3_pays_80 ?_
            first
            | exact absurd c_4 c_27
            | exact absurd c_27 c_4
            | exact ⟨congrArg (fun v => some (Value.int v)) ((payV_1 (if_pos c_4).symm (if_pos c_27).symm (Int32.not_le.mpr c_53) c_59).symm), rfl⟩
            | exact ⟨congrArg (fun v => some (Value.int v)) ((payV_1 (if_pos c_4).symm (if_neg c_27).symm (Int32.not_le.mpr c_53) c_59).symm), rfl⟩
            | exact ⟨congrArg (fun v => some (Value.int v)) ((payV_1 (if_neg c_4).symm (if_pos c_27).symm (Int32.not_le.mpr c_53) c_59).symm), rfl⟩
            | exact ⟨congrArg (fun v => some (Value.int v)) ((payV_1 (if_neg c_4).symm (if_neg c_27).symm (Int32.not_le.mpr c_53) c_59).symm), rfl⟩
            | exact ⟨congrArg (fun v => some (Value.int v)) ((payV_2 (if_pos c_4).symm (if_pos c_27).symm (Int32.not_le.mpr c_53) c_59 (Int32.not_lt.mp c_64)).symm), rfl⟩
            | exact ⟨congrArg (fun v => some (Value.int v)) ((payV_2 (if_pos c_4).symm (if_neg c_27).symm (Int32.not_le.mpr c_53) c_59 (Int32.not_lt.mp c_64)).symm), rfl⟩
            | exact ⟨congrArg (fun v => some (Value.int v)) ((payV_2 (if_neg c_4).symm (if_pos c_27).symm (Int32.not_le.mpr c_53) c_59 (Int32.not_lt.mp c_64)).symm), rfl⟩
            | exact ⟨congrArg (fun v => some (Value.int v)) ((payV_2 (if_neg c_4).symm (if_neg c_27).symm (Int32.not_le.mpr c_53) c_59 (Int32.not_lt.mp c_64)).symm), rfl⟩
            | exact ⟨congrArg (fun v => some (Value.int v)) ((payV_3 (if_pos c_4).symm (if_pos c_27).symm (Int32.not_le.mpr c_53) c_59 (Int32.not_le.mpr c_64)).symm), rfl⟩
            | exact ⟨congrArg (fun v => some (Value.int v)) ((payV_3 (if_pos c_4).symm (if_neg c_27).symm (Int32.not_le.mpr c_53) c_59 (Int32.not_le.mpr c_64)).symm), rfl⟩
            | exact ⟨congrArg (fun v => some (Value.int v)) ((payV_3 (if_neg c_4).symm (if_pos c_27).symm (Int32.not_le.mpr c_53) c_59 (Int32.not_le.mpr c_64)).symm), rfl⟩
            | exact ⟨congrArg (fun v => some (Value.int v)) ((payV_3 (if_neg c_4).symm (if_neg c_27).symm (Int32.not_le.mpr c_53) c_59 (Int32.not_le.mpr c_64)).symm), rfl⟩
          · refine g_sipush C 1000 dX3_pays_67 (by rfl) ?_
            refine g_goto C 80 dX3_pays_70 (by decide) ?_
            refine g_iret C rfl rfl (by decide) (by decide) dX3_pays_80 ?_
            first
            | exact absurd c_4 c_27
            | exact absurd c_27 c_4
            | exact ⟨congrArg (fun v => some (Value.int v)) ((payV_1 (if_pos c_4).symm (if_pos c_27).symm (Int32.not_le.mpr c_53) c_59).symm), rfl⟩
            | exact ⟨congrArg (fun v => some (Value.int v)) ((payV_1 (if_pos c_4).symm (if_neg c_27).symm (Int32.not_le.mpr c_53) c_59).symm), rfl⟩
            | exact ⟨congrArg (fun v => some (Value.int v)) ((payV_1 (if_neg c_4).symm (if_pos c_27).symm (Int32.not_le.mpr c_53) c_59).symm), rfl⟩
            | exact ⟨congrArg (fun v => some (Value.int v)) ((payV_1 (if_neg c_4).symm (if_neg c_27).symm (Int32.not_le.mpr c_53) c_59).symm), rfl⟩
            | exact ⟨congrArg (fun v => some (Value.int v)) ((payV_2 (if_pos c_4).symm (if_pos c_27).symm (Int32.not_le.mpr c_53) c_59 (Int32.not_lt.mp c_64)).symm), rfl⟩
            | exact ⟨congrArg (fun v => some (Value.int v)) ((payV_2 (if_pos c_4).symm (if_neg c_27).symm (Int32.not_le.mpr c_53) c_59 (Int32.not_lt.mp c_64)).symm), rfl⟩
            | exact ⟨congrArg (fun v => some (Value.int v)) ((payV_2 (if_neg c_4).symm (if_pos c_27).symm (Int32.not_le.mpr c_53) c_59 (Int32.not_lt.mp c_64)).symm), rfl⟩
            | exact ⟨congrArg (fun v => some (Value.int v)) ((payV_2 (if_neg c_4).symm (if_neg c_27).symm (Int32.not_le.mpr c_53) c_59 (Int32.not_lt.mp c_64)).symm), rfl⟩
            | exact ⟨congrArg (fun v => some (Value.int v)) ((payV_3 (if_pos c_4).symm (if_pos c_27).symm (Int32.not_le.mpr c_53) c_59 (Int32.not_le.mpr c_64)).symm), rfl⟩
            | exact ⟨congrArg (fun v => some (Value.int v)) ((payV_3 (if_pos c_4).symm (if_neg c_27).symm (Int32.not_le.mpr c_53) c_59 (Int32.not_le.mpr c_64)).symm), rfl⟩
            | exact ⟨congrArg (fun v => some (Value.int v)) ((payV_3 (if_neg c_4).symm (if_pos c_27).symm (Int32.not_le.mpr c_53) c_59 (Int32.not_le.mpr c_64)).symm), rfl⟩
            | exact ⟨congrArg (fun v => some (Value.int v)) ((payV_3 (if_neg c_4).symm (if_neg c_27).symm (Int32.not_le.mpr c_53) c_59 (Int32.not_le.mpr c_64)).symm), rfl⟩
      · refine g_iconst C 0 dX3_pays_56 (by rfl) ?_
        refine g_iret C rfl rfl (by decide) (by decide) dX3_pays_57 ?_
        first
        | exact absurd c_4 c_27
        | exact absurd c_27 c_4
        | exact ⟨congrArg (fun v => some (Value.int v)) ((payV_0 (if_pos c_4).symm (if_pos c_27).symm (Int32.not_lt.mp c_53)).symm), rfl⟩
        | exact ⟨congrArg (fun v => some (Value.int v)) ((payV_0 (if_pos c_4).symm (if_neg c_27).symm (Int32.not_lt.mp c_53)).symm), rfl⟩
        | exact ⟨congrArg (fun v => some (Value.int v)) ((payV_0 (if_neg c_4).symm (if_pos c_27).symm (Int32.not_lt.mp c_53)).symm), rfl⟩
        | exact ⟨congrArg (fun v => some (Value.int v)) ((payV_0 (if_neg c_4).symm (if_neg c_27).symm (Int32.not_lt.mp c_53)).symm), rfl⟩
    · refine g_aload_n C dX3_pays_30 rfl ?_
      refine g_getI C cls_4 5 3 hp rfl k_476 dX3_pays_31 ?_
      refine g_aload_n C dX3_pays_34 rfl ?_
      refine g_getI C cls_4 5 2 hp rfl k_475 dX3_pays_35 ?_
      refine g_isub C dX3_pays_38 ?_
      refine g_goto C 51 dX3_pays_39 (by decide) ?_
      refine g_istore_n C dX3_pays_51 (by decide) ?_
      refine g_iload_n C dX3_pays_52 rfl ?_
      refine g_if_gt C 58 dX3_pays_53 (by decide) (fun c_53 => ?_) (fun c_53 => ?_)
      · refine g_iload_n C dX3_pays_58 rfl ?_
        refine g_if_le C 67 dX3_pays_59 (by decide) (fun c_59 => ?_) (fun c_59 => ?_)
        · refine g_sipush C 1000 dX3_pays_67 (by rfl) ?_
          refine g_goto C 80 dX3_pays_70 (by decide) ?_
          refine g_iret C rfl rfl (by decide) (by decide) dX3_pays_80 ?_
          first
          | exact absurd c_4 c_27
          | exact absurd c_27 c_4
          | exact ⟨congrArg (fun v => some (Value.int v)) ((payV_1 (if_pos c_4).symm (if_pos c_27).symm (Int32.not_le.mpr c_53) c_59).symm), rfl⟩
          | exact ⟨congrArg (fun v => some (Value.int v)) ((payV_1 (if_pos c_4).symm (if_neg c_27).symm (Int32.not_le.mpr c_53) c_59).symm), rfl⟩
          | exact ⟨congrArg (fun v => some (Value.int v)) ((payV_1 (if_neg c_4).symm (if_pos c_27).symm (Int32.not_le.mpr c_53) c_59).symm), rfl⟩
          | exact ⟨congrArg (fun v => some (Value.int v)) ((payV_1 (if_neg c_4).symm (if_neg c_27).symm (Int32.not_le.mpr c_53) c_59).symm), rfl⟩
          | exact ⟨congrArg (fun v => some (Value.int v)) ((payV_2 (if_pos c_4).symm (if_pos c_27).symm (Int32.not_le.mpr c_53) c_59 (Int32.not_lt.mp c_64)).symm), rfl⟩
          | exact ⟨congrArg (fun v => some (Value.int v)) ((payV_2 (if_pos c_4).symm (if_neg c_27).symm (Int32.not_le.mpr c_53) c_59 (Int32.not_lt.mp c_64)).symm), rfl⟩
          | exact ⟨congrArg (fun v => some (Value.int v)) ((payV_2 (if_neg c_4).symm (if_pos c_27).symm (Int32.not_le.mpr c_53) c_59 (Int32.not_lt.mp c_64)).symm), rfl⟩
          | exact ⟨congrArg (fun v => some (Value.int v)) ((payV_2 (if_neg c_4).symm (if_neg c_27).symm (Int32.not_le.mpr c_53) c_59 (Int32.not_lt.mp c_64)).symm), rfl⟩
          | exact ⟨congrArg (fun v => some (Value.int v)) ((payV_3 (if_pos c_4).symm (if_pos c_27).symm (Int32.not_le.mpr c_53) c_59 (Int32.not_le.mpr c_64)).symm), rfl⟩
          | exact ⟨congrArg (fun v => some (Value.int v)) ((payV_3 (if_pos c_4).symm (if_neg c_27).symm (Int32.not_le.mpr c_53) c_59 (Int32.not_le.mpr c_64)).symm), rfl⟩
          | exact ⟨congrArg (fun v => some (Value.int v)) ((payV_3 (if_neg c_4).symm (if_pos c_27).symm (Int32.not_le.mpr c_53) c_59 (Int32.not_le.mpr c_64)).symm), rfl⟩
          | exact ⟨congrArg (fun v => some (Value.int v)) ((payV_3 (if_neg c_4).symm (if_neg c_27).symm (Int32.not_le.mpr c_53) c_59 (Int32.not_le.mpr c_64)).symm), rfl⟩
        · refine g_iload_n C dX3_pays_62 rfl ?_
          refine g_iload_n C dX3_pays_63 rfl ?_
          refine g_icmp_lt C 73 dX3_pays_64 (by decide) (fun c_64 => ?_) (fun c_64 => ?_)
          · refine g_sipush C 1000 dX3_pays_73 (by rfl) ?_
            refine g_iload_n C dX3_pays_76 rfl ?_
            refine g_imul C dX3_pays_77 ?_
            refine g_iload_n C dX3_pays_78 rfl ?_
            refine g_idiv C dX3_pays_79 (fun z => c_59 (by rw [z]; exact Int32.le_refl 0)) ?_
            refine g_iret C rfl rfl (by decide) (by decide) dX3_pays_80 ?_
            first
            | exact absurd c_4 c_27
            | exact absurd c_27 c_4
            | exact ⟨congrArg (fun v => some (Value.int v)) ((payV_1 (if_pos c_4).symm (if_pos c_27).symm (Int32.not_le.mpr c_53) c_59).symm), rfl⟩
            | exact ⟨congrArg (fun v => some (Value.int v)) ((payV_1 (if_pos c_4).symm (if_neg c_27).symm (Int32.not_le.mpr c_53) c_59).symm), rfl⟩
            | exact ⟨congrArg (fun v => some (Value.int v)) ((payV_1 (if_neg c_4).symm (if_pos c_27).symm (Int32.not_le.mpr c_53) c_59).symm), rfl⟩
            | exact ⟨congrArg (fun v => some (Value.int v)) ((payV_1 (if_neg c_4).symm (if_neg c_27).symm (Int32.not_le.mpr c_53) c_59).symm), rfl⟩
            | exact ⟨congrArg (fun v => some (Value.int v)) ((payV_2 (if_pos c_4).symm (if_pos c_27).symm (Int32.not_le.mpr c_53) c_59 (Int32.not_lt.mp c_64)).symm), rfl⟩
            | exact ⟨congrArg (fun v => some (Value.int v)) ((payV_2 (if_pos c_4).symm (if_neg c_27).symm (Int32.not_le.mpr c_53) c_59 (Int32.not_lt.mp c_64)).symm), rfl⟩
            | exact ⟨congrArg (fun v => some (Value.int v)) ((payV_2 (if_neg c_4).symm (if_pos c_27).symm (Int32.not_le.mpr c_53) c_59 (Int32.not_lt.mp c_64)).symm), rfl⟩
            | exact ⟨congrArg (fun v => some (Value.int v)) ((payV_2 (if_neg c_4).symm (if_neg c_27).symm (Int32.not_le.mpr c_53) c_59 (Int32.not_lt.mp c_64)).symm), rfl⟩
            | exact ⟨congrArg (fun v => some (Value.int v)) ((payV_3 (if_pos c_4).symm (if_pos c_27).symm (Int32.not_le.mpr c_53) c_59 (Int32.not_le.mpr c_64)).symm), rfl⟩
            | exact ⟨congrArg (fun v => some (Value.int v)) ((payV_3 (if_pos c_4).symm (if_neg c_27).symm (Int32.not_le.mpr c_53) c_59 (Int32.not_le.mpr c_64)).symm), rfl⟩
            | exact ⟨congrArg (fun v => some (Value.int v)) ((payV_3 (if_neg c_4).symm (if_pos c_27).symm (Int32.not_le.mpr c_53) c_59 (Int32.not_le.mpr c_64)).symm), rfl⟩
            | exact ⟨congrArg (fun v => some (Value.int v)) ((payV_3 (if_neg c_4).symm (if_neg c_27).symm (Int32.not_le.mpr c_53) c_59 (Int32.not_le.mpr c_64)).symm), rfl⟩
          · refine g_sipush C 1000 dX3_pays_67 (by rfl) ?_
            refine g_goto C 80 dX3_pays_70 (by decide) ?_
            refine g_iret C rfl rfl (by decide) (by decide) dX3_pays_80 ?_
            first
            | exact absurd c_4 c_27
            | exact absurd c_27 c_4
            | exact ⟨congrArg (fun v => some (Value.int v)) ((payV_1 (if_pos c_4).symm (if_pos c_27).symm (Int32.not_le.mpr c_53) c_59).symm), rfl⟩
            | exact ⟨congrArg (fun v => some (Value.int v)) ((payV_1 (if_pos c_4).symm (if_neg c_27).symm (Int32.not_le.mpr c_53) c_59).symm), rfl⟩
            | exact ⟨congrArg (fun v => some (Value.int v)) ((payV_1 (if_neg c_4).symm (if_pos c_27).symm (Int32.not_le.mpr c_53) c_59).symm), rfl⟩
            | exact ⟨congrArg (fun v => some (Value.int v)) ((payV_1 (if_neg c_4).symm (if_neg c_27).symm (Int32.not_le.mpr c_53) c_59).symm), rfl⟩
            | exact ⟨congrArg (fun v => some (Value.int v)) ((payV_2 (if_pos c_4).symm (if_pos c_27).symm (Int32.not_le.mpr c_53) c_59 (Int32.not_lt.mp c_64)).symm), rfl⟩
            | exact ⟨congrArg (fun v => some (Value.int v)) ((payV_2 (if_pos c_4).symm (if_neg c_27).symm (Int32.not_le.mpr c_53) c_59 (Int32.not_lt.mp c_64)).symm), rfl⟩
            | exact ⟨congrArg (fun v => some (Value.int v)) ((payV_2 (if_neg c_4).symm (if_pos c_27).symm (Int32.not_le.mpr c_53) c_59 (Int32.not_lt.mp c_64)).symm), rfl⟩
            | exact ⟨congrArg (fun v => some (Value.int v)) ((payV_2 (if_neg c_4).symm (if_neg c_27).symm (Int32.not_le.mpr c_53) c_59 (Int32.not_lt.mp c_64)).symm), rfl⟩
            | exact ⟨congrArg (fun v => some (Value.int v)) ((payV_3 (if_pos c_4).symm (if_pos c_27).symm (Int32.not_le.mpr c_53) c_59 (Int32.not_le.mpr c_64)).symm), rfl⟩
            | exact ⟨congrArg (fun v => some (Value.int v)) ((payV_3 (if_pos c_4).symm (if_neg c_27).symm (Int32.not_le.mpr c_53) c_59 (Int32.not_le.mpr c_64)).symm), rfl⟩
            | exact ⟨congrArg (fun v => some (Value.int v)) ((payV_3 (if_neg c_4).symm (if_pos c_27).symm (Int32.not_le.mpr c_53) c_59 (Int32.not_le.mpr c_64)).symm), rfl⟩
            | exact ⟨congrArg (fun v => some (Value.int v)) ((payV_3 (if_neg c_4).symm (if_neg c_27).symm (Int32.not_le.mpr c_53) c_59 (Int32.not_le.mpr c_64)).symm), rfl⟩
      · refine g_iconst C 0 dX3_pays_56 (by rfl) ?_
        refine g_iret C rfl rfl (by decide) (by decide) dX3_pays_57 ?_
        first
        | exact absurd c_4 c_27
        | exact absurd c_27 c_4
        | exact ⟨congrArg (fun v => some (Value.int v)) ((payV_0 (if_pos c_4).symm (if_pos c_27).symm (Int32.not_lt.mp c_53)).symm), rfl⟩
        | exact ⟨congrArg (fun v => some (Value.int v)) ((payV_0 (if_pos c_4).symm (if_neg c_27).symm (Int32.not_lt.mp c_53)).symm), rfl⟩
        | exact ⟨congrArg (fun v => some (Value.int v)) ((payV_0 (if_neg c_4).symm (if_pos c_27).symm (Int32.not_lt.mp c_53)).symm), rfl⟩
        | exact ⟨congrArg (fun v => some (Value.int v)) ((payV_0 (if_neg c_4).symm (if_neg c_27).symm (Int32.not_lt.mp c_53)).symm), rfl⟩
end RATES12
end
section
section RATES13
theorem sumF_congr {f g : Nat → Int32} {a : Nat} : ∀ {n : Nat}, (∀ j, j < 60 → f j = g j) → a + n ≤ 60 → sumF f a n = sumF g a n
  | 0, _, _ => rfl
  | n + 1, h, hn => by rw [sumF, sumF, sumF_congr (n := n) h (by omega), h (a + n) (by omega)]
theorem dryN_congr {f g : Nat → Int32} {a : Nat} : ∀ {n : Nat}, (∀ j, j < 60 → f j = g j) → a + n ≤ 60 → dryN f a n = dryN g a n
  | 0, _, _ => rfl
  | n + 1, h, hn => by rw [dryN, dryN, dryN_congr (n := n) h (by omega), h (a + n) (by omega)]
theorem okD_congr {f g : Nat → Int32} {d : Nat} (h : ∀ j, j < 60 → f j = g j) (hd : d < 60) : okD f d = okD g d := by
  unfold okD
  rw [sumF_congr h (by omega), dryN_congr h (by omega)]
theorem begO_congr {f g : Nat → Int32} (h : ∀ j, j < 60 → f j = g j) : ∀ k, k ≤ 60 → begO f k = begO g k
  | 0, _ => rfl
  | k + 1, hk => by rw [begO, begO, okD_congr h (by omega), begO_congr h k (by omega)]
theorem stN_congr {f g : Nat → Int32} (h : ∀ j, j < 60 → f j = g j) : stN f = stN g := by unfold stN; rw [begO_congr h 58 (by omega)]
theorem lookV_congr {f g : Nat → Int32} {dry : Int32} {days fr : Nat} (h : ∀ j, j < 60 → f j = g j) : lookV f dry days fr = lookV g dry days fr := by
  unfold lookV
  by_cases h60 : 60 ≤ fr
  · rw [if_pos h60, if_pos h60]
  · rw [if_neg h60, if_neg h60, sumF_congr h (by omega), dryN_congr h (by omega)]
theorem ratV_congr {f g : Nat → Int32} {dN : Nat → Nat} {dr tr ex wt : Nat → Int32} (h : ∀ j, j < 60 → f j = g j) : ∀ i, ratV f dN dr tr ex wt i = ratV g dN dr tr ex wt i
  | 0 => rfl
  | i + 1 => by rw [ratV, ratV, ratV_congr h i, lookV_congr h, stN_congr h]
theorem rateV_congr {f g : Nat → Int32} {n : Nat} {dN : Nat → Nat} {dr tr ex wt : Nat → Int32} (h : ∀ j, j < 60 → f j = g j) : rateV f n dN dr tr ex wt = rateV g n dN dr tr ex wt := by unfold rateV; rw [ratV_congr h]
/-- a season's row as it was known when n tellings had come -/
def rowV (nS : Nat) (xs ys : Nat → Int32) (ch : Nat → Nat → List (Nat × Int32)) (kn : Int32) (n se s0 : Nat) : Nat → Int32 := fun j => rainV nS xs ys (fun k => datV (ch k (60 * se + j)) kn n) s0
def sumS (f : Nat → Int32) : Nat → Int32
  | 0 => 0
  | n + 1 => sumS f n + f n
def prcV (rt : Nat → Int32) (m : Nat) : Int32 := if m = 0 then 100 else sumS rt m / nI m
def priV (sum rate load : Int32) : Int32 := sum * rate / 1000 + sum * rate / 1000 * load / 100
def shrV (price sum : Int32) : Int32 := price * (if 500 < sum then 500 else sum) / sum / 2
/-- a product -/
def PD9 (w : Wd) (de pr pl n : Nat) (el dN : Nat → Nat) (dr tr ex wt : Nat → Int32) : Prop := kd w pr = 6 ∧ fR w 6 1 pr = some pl ∧ PHs w de pl n el dN dr tr ex wt
theorem dX4_startOf_0 : decode cX4_startOf 0 = .ok (.aload_n 2, 1) := by decide +kernel
theorem dX4_startOf_1 : decode cX4_startOf 1 = .ok (.invokevirtual 25, 3) := by decide +kernel
theorem dX4_startOf_4 : decode cX4_startOf 4 = .ok (.istore_n 3, 1) := by decide +kernel
theorem dX4_startOf_5 : decode cX4_startOf 5 = .ok (.iload_n 3, 1) := by decide +kernel
theorem dX4_startOf_6 : decode cX4_startOf 6 = .ok (.iconst (-1), 1) := by decide +kernel
theorem dX4_startOf_7 : decode cX4_startOf 7 = .ok (.if_icmp .ne 8, 3) := by decide +kernel
theorem dX4_startOf_10 : decode cX4_startOf 10 = .ok (.bipush 60, 2) := by decide +kernel
theorem dX4_startOf_12 : decode cX4_startOf 12 = .ok (.goto 6, 3) := by decide +kernel
theorem dX4_startOf_15 : decode cX4_startOf 15 = .ok (.iload_n 3, 1) := by decide +kernel
theorem dX4_startOf_16 : decode cX4_startOf 16 = .ok (.iconst 1, 1) := by decide +kernel
theorem dX4_startOf_17 : decode cX4_startOf 17 = .ok (.iadd, 1) := by decide +kernel
theorem dX4_startOf_18 : decode cX4_startOf 18 = .ok (.istore 4, 2) := by decide +kernel
theorem dX4_startOf_20 : decode cX4_startOf 20 = .ok (.iconst 0, 1) := by decide +kernel
theorem dX4_startOf_21 : decode cX4_startOf 21 = .ok (.istore 5, 2) := by decide +kernel
theorem dX4_startOf_23 : decode cX4_startOf 23 = .ok (.iload 5, 2) := by decide +kernel
theorem dX4_startOf_25 : decode cX4_startOf 25 = .ok (.iload_n 1, 1) := by decide +kernel
theorem dX4_startOf_26 : decode cX4_startOf 26 = .ok (.if_icmp .ge 41, 3) := by decide +kernel
theorem dX4_startOf_29 : decode cX4_startOf 29 = .ok (.iload 5, 2) := by decide +kernel
theorem dX4_startOf_31 : decode cX4_startOf 31 = .ok (.aload_n 0, 1) := by decide +kernel
theorem dX4_startOf_32 : decode cX4_startOf 32 = .ok (.getfield 12, 3) := by decide +kernel
theorem dX4_startOf_35 : decode cX4_startOf 35 = .ok (.invokevirtual 31, 3) := by decide +kernel
theorem dX4_startOf_38 : decode cX4_startOf 38 = .ok (.if_icmp .ge 29, 3) := by decide +kernel
theorem dX4_startOf_41 : decode cX4_startOf 41 = .ok (.iload 4, 2) := by decide +kernel
theorem dX4_startOf_43 : decode cX4_startOf 43 = .ok (.aload_n 0, 1) := by decide +kernel
theorem dX4_startOf_44 : decode cX4_startOf 44 = .ok (.getfield 12, 3) := by decide +kernel
theorem dX4_startOf_47 : decode cX4_startOf 47 = .ok (.iload 5, 2) := by decide +kernel
theorem dX4_startOf_49 : decode cX4_startOf 49 = .ok (.invokevirtual 34, 3) := by decide +kernel
theorem dX4_startOf_52 : decode cX4_startOf 52 = .ok (.checkcast 38, 3) := by decide +kernel
theorem dX4_startOf_55 : decode cX4_startOf 55 = .ok (.getfield 40, 3) := by decide +kernel
theorem dX4_startOf_58 : decode cX4_startOf 58 = .ok (.iadd, 1) := by decide +kernel
theorem dX4_startOf_59 : decode cX4_startOf 59 = .ok (.istore 4, 2) := by decide +kernel
theorem dX4_startOf_61 : decode cX4_startOf 61 = .ok (.iinc 5 1, 3) := by decide +kernel
theorem dX4_startOf_64 : decode cX4_startOf 64 = .ok (.goto (-41), 3) := by decide +kernel
theorem dX4_startOf_67 : decode cX4_startOf 67 = .ok (.iload 4, 2) := by decide +kernel
theorem dX4_startOf_69 : decode cX4_startOf 69 = .ok (.ireturn, 1) := by decide +kernel
set_option maxHeartbeats 4000000 in
set_option maxRecDepth 100000 in
theorem c_X4_startOf (de : Nat) (w : Wd) (pr pl n : Nat) (el dN : Nat → Nat) (dr tr ex wt : Nat → Int32) (hp : PD9 w de pr pl n el dN dr tr ex wt) (a ta : Nat) (hs : SR9 w a ta) (ph : Nat) (hph : ph ≤ n) : Ct yX4_startOf cX4_startOf 6 (some .int) 3 67 0 0 de [.ref pr, .int (nI ph), .ref a] w (fun r w' => r = some (.int (nI (stN (aI w 1010 ta) + dSum dN ph))) ∧ w = w') := by
  refine Ct.mk (by decide +kernel) [(0, .ref pr), (1, .int (nI ph)), (2, .ref a)] rfl (Nat.le_of_ble_eq_true rfl) ?_
  intro p l e R s m args below meth c D cy z C hnm
  obtain ⟨hpr, hpl, hR, hn3, hel⟩ := id hp
  have hst9 := stN_le (aI w 1010 ta)
  have hds9 := dSum_le (dN := dN) (n := n) (fun i hi => (hel i hi).2.2.1)
  have loop : ∀ (k i : Nat), i + k = ph → G p l e R s m args below meth c D cy z 6 w 0 0 23 [(0, .ref pr), (1, .int (nI ph)), (4, .int (nI (stN (aI w 1010 ta) + dSum dN i))), (5, .int (nI i))] [] (QM below args s D cy z (fun r w' => r = some (.int (nI (stN (aI w 1010 ta) + dSum dN ph))) ∧ w = w') 0 0) := by
    intro k
    induction k with
    | zero =>
      intro i hik
      refine g_iload C dX4_startOf_23 rfl ?_
      refine g_iload_n C dX4_startOf_25 rfl ?_
      refine g_icmp_ge C 67 dX4_startOf_26 (by decide) (fun c_26 => ?_) (fun c_26 => ?_)
      · refine g_iload C dX4_startOf_67 rfl ?_
        refine g_iret C rfl rfl (by decide) (by decide) dX4_startOf_69 ?_
        exact ⟨by rw [show i = ph by omega], rfl⟩
      · exact absurd (nI_nle_of c_26 (by omega) (by omega)) (by omega)
    | succ k ih =>
      intro i hik
      have hi : i < n := by omega
      refine g_iload C dX4_startOf_23 rfl ?_
      refine g_iload_n C dX4_startOf_25 rfl ?_
      refine g_icmp_ge C 67 dX4_startOf_26 (by decide) (fun c_26 => ?_) (fun c_26 => ?_)
      · first
        | exact absurd (nI_le_of c_26 (by omega) (by omega)) (by omega)
        | exact absurd (nI_le_of c_38 (by omega) (by omega)) (by omega)
      · refine g_iload C dX4_startOf_29 rfl ?_
        refine g_aload_n C dX4_startOf_31 rfl ?_
        refine g_getR (b := pl) C cls_5 6 1 hpr hpl rfl k_122 dX4_startOf_32 ?_
        refine g_callV C cls_0 101 mt_Jx4a65c_size_8abf5 [] (c_sz de w 101 1053 KL_ph pl n el hR) hR.1 (by decide) k_665 rfl rfl (Nat.le_of_ble_eq_true rfl) (by decide) (by decide) (by decide) (by decide) dX4_startOf_35 (fun r_35 w_35 hp_35 => ?_)
        obtain ⟨rfl, rfl⟩ := hp_35
        refine g_icmp_ge C 67 dX4_startOf_38 (by decide) (fun c_38 => ?_) (fun c_38 => ?_)
        · first
          | exact absurd (nI_le_of c_26 (by omega) (by omega)) (by omega)
          | exact absurd (nI_le_of c_38 (by omega) (by omega)) (by omega)
        · refine g_iload C dX4_startOf_41 rfl ?_
          refine g_aload_n C dX4_startOf_43 rfl ?_
          refine g_getR (b := pl) C cls_5 6 1 hpr hpl rfl k_122 dX4_startOf_44 ?_
          refine g_iload C dX4_startOf_47 rfl ?_
          refine g_callV C cls_0 101 mt_Jx4a65c_get_915e3 [.int (nI i)] (c_Jx4a65c_get_915e3 de w 101 1053 KL_ph pl n i el hR hi) hR.1 (by decide) k_666 rfl rfl (Nat.le_of_ble_eq_true rfl) (by decide) (by decide) (by decide) (by decide) dX4_startOf_49 (fun r_49 w_49 hp_49 => ?_)
          obtain ⟨rfl, rfl⟩ := hp_49
          refine g_cast C cls_4 5 (hel i hi).1 (by decide) k_667 dX4_startOf_52 ?_
          refine g_getI C cls_4 5 0 (hel i hi).1 rfl k_473 dX4_startOf_55 ?_
          refine g_iadd C dX4_startOf_58 ?_
          rw [(hel i hi).2.1, nI_add, show stN (aI w 1010 ta) + dSum dN i + dN i = stN (aI w 1010 ta) + dSum dN (i + 1) from Nat.add_assoc _ _ _]
          refine g_istore C dX4_startOf_59 (by decide) ?_
          refine g_iinc C dX4_startOf_61 rfl (nI_1 i) (by decide) ?_
          refine g_goto C 23 dX4_startOf_64 (by decide) ?_
          have h9 := ih (i + 1) (by omega)
          exact g_lv2 [(0, .ref pr), (1, .int (nI ph)), (4, .int (nI (stN (aI w 1010 ta) + dSum dN (i + 1)))), (5, .int (nI (i + 1)))] rfl h9
  refine g_aload_n C dX4_startOf_0 rfl ?_
  refine g_callV C cls_6 7 mt_X5_start [] (c_X5_start de w a ta hs) hs.1 (by decide) k_652 rfl rfl (Nat.le_of_ble_eq_true rfl) (by decide) (by decide) (by decide) (by decide) dX4_startOf_1 (fun r_1 w_1 hp_1 => ?_)
  obtain ⟨rfl, rfl⟩ := hp_1
  refine g_istore_n C dX4_startOf_4 (by decide) ?_
  refine g_iload_n C dX4_startOf_5 rfl ?_
  refine g_iconst C (-1) dX4_startOf_6 (by rfl) ?_
  refine g_icmp_ne C 15 dX4_startOf_7 (by decide) (fun c_7 => ?_) (fun c_7 => ?_)
  · refine g_iload_n C dX4_startOf_15 rfl ?_
    refine g_iconst C 1 dX4_startOf_16 (by rfl) ?_
    refine g_iadd C dX4_startOf_17 ?_
    refine g_istore C dX4_startOf_18 (by decide) ?_
    refine g_iconst C 0 dX4_startOf_20 (by rfl) ?_
    refine g_istore C dX4_startOf_21 (by decide) ?_
    first
    | (rw [stN_s c_7]; exact g_lv2 [(0, .ref pr), (1, .int (nI ph)), (4, .int (nI (stN (aI w 1010 ta) + dSum dN 0))), (5, .int (nI 0))] rfl (loop ph 0 (by omega)))
    | (have e9 : (60 : Int32) = nI (stN (aI w 1010 ta) + dSum dN 0) := (by rw [stN_60 c_7]; rfl); exact g_lv2 [(0, .ref pr), (1, .int (nI ph)), (4, .int (nI (stN (aI w 1010 ta) + dSum dN 0))), (5, .int (nI 0))] (by rw [← e9]; rfl) (loop ph 0 (by omega)))
  · refine g_bipush C 60 dX4_startOf_10 (by rfl) ?_
    refine g_goto C 18 dX4_startOf_12 (by decide) ?_
    refine g_istore C dX4_startOf_18 (by decide) ?_
    refine g_iconst C 0 dX4_startOf_20 (by rfl) ?_
    refine g_istore C dX4_startOf_21 (by decide) ?_
    first
    | (rw [stN_s c_7]; exact g_lv2 [(0, .ref pr), (1, .int (nI ph)), (4, .int (nI (stN (aI w 1010 ta) + dSum dN 0))), (5, .int (nI 0))] rfl (loop ph 0 (by omega)))
    | (have e9 : (60 : Int32) = nI (stN (aI w 1010 ta) + dSum dN 0) := (by rw [stN_60 c_7]; rfl); exact g_lv2 [(0, .ref pr), (1, .int (nI ph)), (4, .int (nI (stN (aI w 1010 ta) + dSum dN 0))), (5, .int (nI 0))] (by rw [← e9]; rfl) (loop ph 0 (by omega)))
theorem dX4_rateIn_0 : decode cX4_rateIn 0 = .ok (.aload_n 0, 1) := by decide +kernel
theorem dX4_rateIn_1 : decode cX4_rateIn 1 = .ok (.iconst 0, 1) := by decide +kernel
theorem dX4_rateIn_2 : decode cX4_rateIn 2 = .ok (.aload_n 1, 1) := by decide +kernel
theorem dX4_rateIn_3 : decode cX4_rateIn 3 = .ok (.invokevirtual 43, 3) := by decide +kernel
theorem dX4_rateIn_6 : decode cX4_rateIn 6 = .ok (.istore_n 2, 1) := by decide +kernel
theorem dX4_rateIn_7 : decode cX4_rateIn 7 = .ok (.iconst 0, 1) := by decide +kernel
theorem dX4_rateIn_8 : decode cX4_rateIn 8 = .ok (.istore_n 3, 1) := by decide +kernel
theorem dX4_rateIn_9 : decode cX4_rateIn 9 = .ok (.iconst 0, 1) := by decide +kernel
theorem dX4_rateIn_10 : decode cX4_rateIn 10 = .ok (.istore 4, 2) := by decide +kernel
theorem dX4_rateIn_12 : decode cX4_rateIn 12 = .ok (.iload 4, 2) := by decide +kernel
theorem dX4_rateIn_14 : decode cX4_rateIn 14 = .ok (.aload_n 0, 1) := by decide +kernel
theorem dX4_rateIn_15 : decode cX4_rateIn 15 = .ok (.getfield 12, 3) := by decide +kernel
theorem dX4_rateIn_18 : decode cX4_rateIn 18 = .ok (.invokevirtual 31, 3) := by decide +kernel
theorem dX4_rateIn_21 : decode cX4_rateIn 21 = .ok (.if_icmp .ge 55, 3) := by decide +kernel
theorem dX4_rateIn_24 : decode cX4_rateIn 24 = .ok (.aload_n 0, 1) := by decide +kernel
theorem dX4_rateIn_25 : decode cX4_rateIn 25 = .ok (.getfield 12, 3) := by decide +kernel
theorem dX4_rateIn_28 : decode cX4_rateIn 28 = .ok (.iload 4, 2) := by decide +kernel
theorem dX4_rateIn_30 : decode cX4_rateIn 30 = .ok (.invokevirtual 34, 3) := by decide +kernel
theorem dX4_rateIn_33 : decode cX4_rateIn 33 = .ok (.checkcast 38, 3) := by decide +kernel
theorem dX4_rateIn_36 : decode cX4_rateIn 36 = .ok (.astore 5, 2) := by decide +kernel
theorem dX4_rateIn_38 : decode cX4_rateIn 38 = .ok (.iload_n 3, 1) := by decide +kernel
theorem dX4_rateIn_39 : decode cX4_rateIn 39 = .ok (.aload 5, 2) := by decide +kernel
theorem dX4_rateIn_41 : decode cX4_rateIn 41 = .ok (.aload 5, 2) := by decide +kernel
theorem dX4_rateIn_43 : decode cX4_rateIn 43 = .ok (.aload_n 1, 1) := by decide +kernel
theorem dX4_rateIn_44 : decode cX4_rateIn 44 = .ok (.iload_n 2, 1) := by decide +kernel
theorem dX4_rateIn_45 : decode cX4_rateIn 45 = .ok (.invokevirtual 47, 3) := by decide +kernel
theorem dX4_rateIn_48 : decode cX4_rateIn 48 = .ok (.invokevirtual 51, 3) := by decide +kernel
theorem dX4_rateIn_51 : decode cX4_rateIn 51 = .ok (.aload 5, 2) := by decide +kernel
theorem dX4_rateIn_53 : decode cX4_rateIn 53 = .ok (.getfield 55, 3) := by decide +kernel
theorem dX4_rateIn_56 : decode cX4_rateIn 56 = .ok (.imul, 1) := by decide +kernel
theorem dX4_rateIn_57 : decode cX4_rateIn 57 = .ok (.bipush 100, 2) := by decide +kernel
theorem dX4_rateIn_59 : decode cX4_rateIn 59 = .ok (.idiv, 1) := by decide +kernel
theorem dX4_rateIn_60 : decode cX4_rateIn 60 = .ok (.iadd, 1) := by decide +kernel
theorem dX4_rateIn_61 : decode cX4_rateIn 61 = .ok (.istore_n 3, 1) := by decide +kernel
theorem dX4_rateIn_62 : decode cX4_rateIn 62 = .ok (.iload_n 2, 1) := by decide +kernel
theorem dX4_rateIn_63 : decode cX4_rateIn 63 = .ok (.aload 5, 2) := by decide +kernel
theorem dX4_rateIn_65 : decode cX4_rateIn 65 = .ok (.getfield 40, 3) := by decide +kernel
theorem dX4_rateIn_68 : decode cX4_rateIn 68 = .ok (.iadd, 1) := by decide +kernel
theorem dX4_rateIn_69 : decode cX4_rateIn 69 = .ok (.istore_n 2, 1) := by decide +kernel
theorem dX4_rateIn_70 : decode cX4_rateIn 70 = .ok (.iinc 4 1, 3) := by decide +kernel
theorem dX4_rateIn_73 : decode cX4_rateIn 73 = .ok (.goto (-61), 3) := by decide +kernel
theorem dX4_rateIn_76 : decode cX4_rateIn 76 = .ok (.iload_n 3, 1) := by decide +kernel
theorem dX4_rateIn_77 : decode cX4_rateIn 77 = .ok (.sipush 1000, 3) := by decide +kernel
theorem dX4_rateIn_80 : decode cX4_rateIn 80 = .ok (.invokestatic 58, 3) := by decide +kernel
theorem dX4_rateIn_83 : decode cX4_rateIn 83 = .ok (.ireturn, 1) := by decide +kernel
set_option maxHeartbeats 4000000 in
set_option maxRecDepth 100000 in
theorem c_X4_rateIn (de : Nat) (w : Wd) (pr pl n : Nat) (el dN : Nat → Nat) (dr tr ex wt : Nat → Int32) (hp : PD9 w de pr pl n el dN dr tr ex wt) (a ta : Nat) (hs : SR9 w a ta) : Ct yX4_rateIn cX4_rateIn 6 (some .int) 4 92 0 0 de [.ref pr, .ref a] w (fun r w' => r = some (.int (rateV (aI w 1010 ta) n dN dr tr ex wt)) ∧ w = w') := by
  refine Ct.mk (by decide +kernel) [(0, .ref pr), (1, .ref a)] rfl (Nat.le_of_ble_eq_true rfl) ?_
  intro p l e R s m args below meth c D cy z C hnm
  obtain ⟨hpr, hpl, hR, hn3, hel⟩ := id hp
  have hst9 := stN_le (aI w 1010 ta)
  have hds9 := dSum_le (dN := dN) (n := n) (fun i hi => (hel i hi).2.2.1)
  have loop : ∀ (k i : Nat), i + k = n → G p l e R s m args below meth c D cy z 6 w 0 0 12 [(0, .ref pr), (1, .ref a), (2, .int (nI (stN (aI w 1010 ta) + dSum dN i))), (3, .int (ratV (aI w 1010 ta) dN dr tr ex wt i)), (4, .int (nI i))] [] (QM below args s D cy z (fun r w' => r = some (.int (rateV (aI w 1010 ta) n dN dr tr ex wt)) ∧ w = w') 0 0) := by
    intro k
    induction k with
    | zero =>
      intro i hik
      refine g_iload C dX4_rateIn_12 rfl ?_
      refine g_aload_n C dX4_rateIn_14 rfl ?_
      refine g_getR (b := pl) C cls_5 6 1 hpr hpl rfl k_122 dX4_rateIn_15 ?_
      refine g_callV C cls_0 101 mt_Jx4a65c_size_8abf5 [] (c_sz de w 101 1053 KL_ph pl n el hR) hR.1 (by decide) k_665 rfl rfl (Nat.le_of_ble_eq_true rfl) (by decide) (by decide) (by decide) (by decide) dX4_rateIn_18 (fun r_18 w_18 hp_18 => ?_)
      obtain ⟨rfl, rfl⟩ := hp_18
      refine g_icmp_ge C 76 dX4_rateIn_21 (by decide) (fun c_21 => ?_) (fun c_21 => ?_)
      · refine g_iload_n C dX4_rateIn_76 rfl ?_
        refine g_sipush C 1000 dX4_rateIn_77 (by rfl) ?_
        refine g_min C k_678 k_364 k_18 k_365 (by decide) (Nat.le_of_ble_eq_true rfl) (by decide) (by decide) dX4_rateIn_80 ?_
        refine g_iret C rfl rfl (by decide) (by decide) dX4_rateIn_83 ?_
        exact ⟨by rw [show i = n by omega]; rfl, rfl⟩
      · exact absurd (nI_nle_of c_21 (by omega) (by omega)) (by omega)
    | succ k ih =>
      intro i hik
      have hi : i < n := by omega
      refine g_iload C dX4_rateIn_12 rfl ?_
      refine g_aload_n C dX4_rateIn_14 rfl ?_
      refine g_getR (b := pl) C cls_5 6 1 hpr hpl rfl k_122 dX4_rateIn_15 ?_
      refine g_callV C cls_0 101 mt_Jx4a65c_size_8abf5 [] (c_sz de w 101 1053 KL_ph pl n el hR) hR.1 (by decide) k_665 rfl rfl (Nat.le_of_ble_eq_true rfl) (by decide) (by decide) (by decide) (by decide) dX4_rateIn_18 (fun r_18 w_18 hp_18 => ?_)
      obtain ⟨rfl, rfl⟩ := hp_18
      refine g_icmp_ge C 76 dX4_rateIn_21 (by decide) (fun c_21 => ?_) (fun c_21 => ?_)
      · exact absurd (nI_le_of c_21 (by omega) (by omega)) (by omega)
      · refine g_aload_n C dX4_rateIn_24 rfl ?_
        refine g_getR (b := pl) C cls_5 6 1 hpr hpl rfl k_122 dX4_rateIn_25 ?_
        refine g_iload C dX4_rateIn_28 rfl ?_
        refine g_callV C cls_0 101 mt_Jx4a65c_get_915e3 [.int (nI i)] (c_Jx4a65c_get_915e3 de w 101 1053 KL_ph pl n i el hR hi) hR.1 (by decide) k_666 rfl rfl (Nat.le_of_ble_eq_true rfl) (by decide) (by decide) (by decide) (by decide) dX4_rateIn_30 (fun r_30 w_30 hp_30 => ?_)
        obtain ⟨rfl, rfl⟩ := hp_30
        refine g_cast C cls_4 5 (hel i hi).1 (by decide) k_667 dX4_rateIn_33 ?_
        refine g_astore C dX4_rateIn_36 (by decide) ?_
        refine g_iload_n C dX4_rateIn_38 rfl ?_
        refine g_aload C dX4_rateIn_39 rfl ?_
        refine g_aload C dX4_rateIn_41 rfl ?_
        refine g_aload_n C dX4_rateIn_43 rfl ?_
        refine g_iload_n C dX4_rateIn_44 rfl ?_
        refine g_callV C cls_4 5 mt_X3_look [.ref a, .int (nI (stN (aI w 1010 ta) + dSum dN i))] (c_X3_look de w (el i) a ta (dN i) (stN (aI w 1010 ta) + dSum dN i) hs (hel i hi).1 (hel i hi).2.1 (hel i hi).2.2.1 (by have := hds9 i (by omega); omega)) (hel i hi).1 (by decide) k_668 rfl rfl (Nat.le_of_ble_eq_true rfl) (by decide) (by decide) (by decide) (by decide) dX4_rateIn_45 (fun r_45 w_45 hp_45 => ?_)
        obtain ⟨rfl, rfl⟩ := hp_45
        rw [(hel i hi).2.2.2.1]
        refine g_callV C cls_4 5 mt_X3_pays [.int (lookV (aI w 1010 ta) (dr i) (dN i) (stN (aI w 1010 ta) + dSum dN i))] (c_X3_pays de w (el i) (lookV (aI w 1010 ta) (dr i) (dN i) (stN (aI w 1010 ta) + dSum dN i)) (hel i hi).1) (hel i hi).1 (by decide) k_674 rfl rfl (Nat.le_of_ble_eq_true rfl) (by decide) (by decide) (by decide) (by decide) dX4_rateIn_48 (fun r_48 w_48 hp_48 => ?_)
        obtain ⟨rfl, rfl⟩ := hp_48
        rw [(hel i hi).2.2.2.1, (hel i hi).2.2.2.2.1, (hel i hi).2.2.2.2.2.1]
        refine g_aload C dX4_rateIn_51 rfl ?_
        refine g_getI C cls_4 5 4 (hel i hi).1 rfl k_478 dX4_rateIn_53 ?_
        rw [(hel i hi).2.2.2.2.2.2]
        refine g_imul C dX4_rateIn_56 ?_
        refine g_bipush C 100 dX4_rateIn_57 (by rfl) ?_
        refine g_idiv C dX4_rateIn_59 (by decide) ?_
        refine g_iadd C dX4_rateIn_60 ?_
        refine g_istore_n C dX4_rateIn_61 (by decide) ?_
        refine g_iload_n C dX4_rateIn_62 rfl ?_
        refine g_aload C dX4_rateIn_63 rfl ?_
        refine g_getI C cls_4 5 0 (hel i hi).1 rfl k_473 dX4_rateIn_65 ?_
        refine g_iadd C dX4_rateIn_68 ?_
        rw [(hel i hi).2.1, nI_add, show stN (aI w 1010 ta) + dSum dN i + dN i = stN (aI w 1010 ta) + dSum dN (i + 1) from Nat.add_assoc _ _ _]
        refine g_istore_n C dX4_rateIn_69 (by decide) ?_
        refine g_iinc C dX4_rateIn_70 rfl (nI_1 i) (by decide) ?_
        refine g_goto C 12 dX4_rateIn_73 (by decide) ?_
        have h9 := ih (i + 1) (by omega)
        exact g_lv2 [(0, .ref pr), (1, .ref a), (2, .int (nI (stN (aI w 1010 ta) + dSum dN (i + 1)))), (3, .int (ratV (aI w 1010 ta) dN dr tr ex wt (i + 1))), (4, .int (nI (i + 1)))] rfl h9
  refine g_aload_n C dX4_rateIn_0 rfl ?_
  refine g_iconst C 0 dX4_rateIn_1 (by rfl) ?_
  refine g_aload_n C dX4_rateIn_2 rfl ?_
  refine g_callV C cls_5 6 mt_X4_startOf [.int (nI 0), .ref a] (c_X4_startOf de w pr pl n el dN dr tr ex wt hp a ta hs 0 (by omega)) hpr (by decide) k_648 rfl rfl (Nat.le_of_ble_eq_true rfl) (by decide) (by decide) (by decide) (by decide) dX4_rateIn_3 (fun r_3 w_3 hp_3 => ?_)
  obtain ⟨rfl, rfl⟩ := hp_3
  refine g_istore_n C dX4_rateIn_6 (by decide) ?_
  refine g_iconst C 0 dX4_rateIn_7 (by rfl) ?_
  refine g_istore_n C dX4_rateIn_8 (by decide) ?_
  refine g_iconst C 0 dX4_rateIn_9 (by rfl) ?_
  refine g_istore C dX4_rateIn_10 (by decide) ?_
  exact g_lv2 [(0, .ref pr), (1, .ref a), (2, .int (nI (stN (aI w 1010 ta) + dSum dN 0))), (3, .int (ratV (aI w 1010 ta) dN dr tr ex wt 0)), (4, .int (nI 0))] rfl (loop n 0 (by omega))
theorem dX9_rateBy_0 : decode cX9_rateBy 0 = .ok (.aload_n 0, 1) := by decide +kernel
theorem dX9_rateBy_1 : decode cX9_rateBy 1 = .ok (.getfield 19, 3) := by decide +kernel
theorem dX9_rateBy_4 : decode cX9_rateBy 4 = .ok (.aload_n 0, 1) := by decide +kernel
theorem dX9_rateBy_5 : decode cX9_rateBy 5 = .ok (.getfield 10, 3) := by decide +kernel
theorem dX9_rateBy_8 : decode cX9_rateBy 8 = .ok (.aload_n 1, 1) := by decide +kernel
theorem dX9_rateBy_9 : decode cX9_rateBy 9 = .ok (.iload_n 2, 1) := by decide +kernel
theorem dX9_rateBy_10 : decode cX9_rateBy 10 = .ok (.aload_n 3, 1) := by decide +kernel
theorem dX9_rateBy_11 : decode cX9_rateBy 11 = .ok (.getfield 147, 3) := by decide +kernel
theorem dX9_rateBy_14 : decode cX9_rateBy 14 = .ok (.iload 4, 2) := by decide +kernel
theorem dX9_rateBy_16 : decode cX9_rateBy 16 = .ok (.invokevirtual 278, 3) := by decide +kernel
theorem dX9_rateBy_19 : decode cX9_rateBy 19 = .ok (.aload_n 3, 1) := by decide +kernel
theorem dX9_rateBy_20 : decode cX9_rateBy 20 = .ok (.aload_n 0, 1) := by decide +kernel
theorem dX9_rateBy_21 : decode cX9_rateBy 21 = .ok (.getfield 19, 3) := by decide +kernel
theorem dX9_rateBy_24 : decode cX9_rateBy 24 = .ok (.invokevirtual 354, 3) := by decide +kernel
theorem dX9_rateBy_27 : decode cX9_rateBy 27 = .ok (.ireturn, 1) := by decide +kernel
set_option maxHeartbeats 4000000 in
set_option maxRecDepth 100000 in
theorem c_X9_rateBy (de : Nat) (w : Wd) (we sl nS : Nat) (stA laA : Nat → Nat) (xs ys : Nat → Int32) (ch : Nat → Nat → List (Nat × Int32)) (hw : WS9 w de we sl nS stA laA xs ys ch) (pr pl n : Nat) (el dN : Nat → Nat) (dr tr ex wt : Nat → Int32) (hp : PD9 w de pr pl n el dN dr tr ex wt) (x va ta : Nat) (hx : kd w x = 11) (hx0 : fR w 11 0 x = some we) (hx1 : fR w 11 1 x = some va) (hs : SR9 w va ta) (s0 se tl : Nat) (hs0 : s0 < nS) (hse : se < 20) (htl : tl < 100000) : Ct yX9_rateBy cX9_rateBy 5 (some .int) 5 119 0 0 de [.ref x, .ref (stA s0), .int (nI se), .ref pr, .int (nI tl)] w (fun r w' => r = some (.int (rateV (rowV nS xs ys ch (fI w 6 2 pr) tl se s0) n dN dr tr ex wt)) ∧ ∃ g, w' = stR w 1010 ta g) := by
  refine Ct.mk (by decide +kernel) [(0, .ref x), (1, .ref (stA s0)), (2, .int (nI se)), (3, .ref pr), (4, .int (nI tl))] rfl (Nat.le_of_ble_eq_true rfl) ?_
  intro p l e R s m args below meth c D cy z C hnm
  refine g_aload_n C dX9_rateBy_0 rfl ?_
  refine g_getR (b := va) C cls_10 11 1 hx hx1 rfl k_137 dX9_rateBy_1 ?_
  refine g_aload_n C dX9_rateBy_4 rfl ?_
  refine g_getR (b := we) C cls_10 11 0 hx hx0 rfl k_136 dX9_rateBy_5 ?_
  refine g_aload_n C dX9_rateBy_8 rfl ?_
  refine g_iload_n C dX9_rateBy_9 rfl ?_
  refine g_aload_n C dX9_rateBy_10 rfl ?_
  refine g_getI C cls_5 6 2 hp.1 rfl k_125 dX9_rateBy_11 ?_
  refine g_iload C dX9_rateBy_14 rfl ?_
  refine g_callV C cls_6 7 mt_X5_fill [.ref we, .ref (stA s0), .int (nI se), .int (fI w 6 2 pr), .int (nI tl)] (c_X5_fill de w va ta hs we sl nS stA laA xs ys ch hw s0 se tl (fI w 6 2 pr) hs0 hse htl) hs.1 (by decide) k_635 rfl rfl (Nat.le_of_ble_eq_true rfl) (by decide) (by decide) (by decide) (by decide) dX9_rateBy_16 (fun r_16 w_16 hp_16 => ?_)
  obtain ⟨rfl, g, rfl, hg⟩ := hp_16
  refine g_aload_n C dX9_rateBy_19 rfl ?_
  refine g_aload_n C dX9_rateBy_20 rfl ?_
  refine g_getR (b := va) C cls_10 11 1 hx hx1 rfl k_137 dX9_rateBy_21 ?_
  refine g_callV C cls_5 6 mt_X4_rateIn [.ref va] (c_X4_rateIn de (stR w 1010 ta g) pr pl n el dN dr tr ex wt hp va ta hs) hp.1 (by decide) k_644 rfl rfl (Nat.le_of_ble_eq_true rfl) (by decide) (by decide) (by decide) (by decide) dX9_rateBy_24 (fun r_24 w_24 hp_24 => ?_)
  obtain ⟨rfl, rfl⟩ := hp_24
  refine g_iret C rfl rfl (by decide) (by decide) dX9_rateBy_27 ?_
  exact ⟨congrArg (fun v => some (Value.int v)) (by rw [stR_at]; exact rateV_congr hg), g, rfl⟩
theorem dX9_pricesRate_0 : decode cX9_pricesRate 0 = .ok (.iconst 0, 1) := by decide +kernel
theorem dX9_pricesRate_1 : decode cX9_pricesRate 1 = .ok (.istore_n 3, 1) := by decide +kernel
theorem dX9_pricesRate_2 : decode cX9_pricesRate 2 = .ok (.iconst 0, 1) := by decide +kernel
theorem dX9_pricesRate_3 : decode cX9_pricesRate 3 = .ok (.istore 4, 2) := by decide +kernel
theorem dX9_pricesRate_5 : decode cX9_pricesRate 5 = .ok (.iconst 0, 1) := by decide +kernel
theorem dX9_pricesRate_6 : decode cX9_pricesRate 6 = .ok (.istore 5, 2) := by decide +kernel
theorem dX9_pricesRate_8 : decode cX9_pricesRate 8 = .ok (.iload 5, 2) := by decide +kernel
theorem dX9_pricesRate_10 : decode cX9_pricesRate 10 = .ok (.bipush 20, 2) := by decide +kernel
theorem dX9_pricesRate_12 : decode cX9_pricesRate 12 = .ok (.if_icmp .ge 41, 3) := by decide +kernel
theorem dX9_pricesRate_15 : decode cX9_pricesRate 15 = .ok (.aload_n 0, 1) := by decide +kernel
theorem dX9_pricesRate_16 : decode cX9_pricesRate 16 = .ok (.iload 5, 2) := by decide +kernel
theorem dX9_pricesRate_18 : decode cX9_pricesRate 18 = .ok (.invokevirtual 228, 3) := by decide +kernel
theorem dX9_pricesRate_21 : decode cX9_pricesRate 21 = .ok (.ifCond .eq 32, 3) := by decide +kernel
theorem dX9_pricesRate_24 : decode cX9_pricesRate 24 = .ok (.iinc 3 1, 3) := by decide +kernel
theorem dX9_pricesRate_27 : decode cX9_pricesRate 27 = .ok (.iload 4, 2) := by decide +kernel
theorem dX9_pricesRate_29 : decode cX9_pricesRate 29 = .ok (.aload_n 0, 1) := by decide +kernel
theorem dX9_pricesRate_30 : decode cX9_pricesRate 30 = .ok (.aload_n 1, 1) := by decide +kernel
theorem dX9_pricesRate_31 : decode cX9_pricesRate 31 = .ok (.iload 5, 2) := by decide +kernel
theorem dX9_pricesRate_33 : decode cX9_pricesRate 33 = .ok (.aload_n 2, 1) := by decide +kernel
theorem dX9_pricesRate_34 : decode cX9_pricesRate 34 = .ok (.aload_n 0, 1) := by decide +kernel
theorem dX9_pricesRate_35 : decode cX9_pricesRate 35 = .ok (.getfield 10, 3) := by decide +kernel
theorem dX9_pricesRate_38 : decode cX9_pricesRate 38 = .ok (.getfield 86, 3) := by decide +kernel
theorem dX9_pricesRate_41 : decode cX9_pricesRate 41 = .ok (.invokevirtual 304, 3) := by decide +kernel
theorem dX9_pricesRate_44 : decode cX9_pricesRate 44 = .ok (.iadd, 1) := by decide +kernel
theorem dX9_pricesRate_45 : decode cX9_pricesRate 45 = .ok (.istore 4, 2) := by decide +kernel
theorem dX9_pricesRate_47 : decode cX9_pricesRate 47 = .ok (.iinc 5 1, 3) := by decide +kernel
theorem dX9_pricesRate_50 : decode cX9_pricesRate 50 = .ok (.goto (-42), 3) := by decide +kernel
theorem dX9_pricesRate_53 : decode cX9_pricesRate 53 = .ok (.iload_n 3, 1) := by decide +kernel
theorem dX9_pricesRate_54 : decode cX9_pricesRate 54 = .ok (.ifCond .ne 8, 3) := by decide +kernel
theorem dX9_pricesRate_57 : decode cX9_pricesRate 57 = .ok (.bipush 100, 2) := by decide +kernel
theorem dX9_pricesRate_59 : decode cX9_pricesRate 59 = .ok (.goto 7, 3) := by decide +kernel
theorem dX9_pricesRate_62 : decode cX9_pricesRate 62 = .ok (.iload 4, 2) := by decide +kernel
theorem dX9_pricesRate_64 : decode cX9_pricesRate 64 = .ok (.iload_n 3, 1) := by decide +kernel
theorem dX9_pricesRate_65 : decode cX9_pricesRate 65 = .ok (.idiv, 1) := by decide +kernel
theorem dX9_pricesRate_66 : decode cX9_pricesRate 66 = .ok (.ireturn, 1) := by decide +kernel
theorem stR_stR {w : Wd} {K a : Nat} {g g1 : Nat → Int32} : stR (stR w K a g) K a g1 = stR w K a g1 := by
  have e : (stR (stR w K a g) K a g1).2.2.2.2.1 = (stR w K a g1).2.2.2.2.1 := by
    funext x y j
    show (if x = K ∧ y = a then g1 j else if x = K ∧ y = a then g j else w.2.2.2.2.1 x y j) = if x = K ∧ y = a then g1 j else w.2.2.2.2.1 x y j
    by_cases h : x = K ∧ y = a
    · rw [if_pos h, if_pos h]
    · rw [if_neg h, if_neg h, if_neg h]
  show (w.1, w.2.1, w.2.2.1, w.2.2.2.1, (stR (stR w K a g) K a g1).2.2.2.2.1, w.2.2.2.2.2) = stR w K a g1
  rw [e]
  rfl
set_option maxHeartbeats 4000000 in
set_option maxRecDepth 100000 in
theorem c_X9_pricesRate (de : Nat) (w : Wd) (we sl nS : Nat) (stA laA : Nat → Nat) (xs ys : Nat → Int32) (ch : Nat → Nat → List (Nat × Int32)) (hw : WS9 w de we sl nS stA laA xs ys ch) (pr pl n : Nat) (el dN : Nat → Nat) (dr tr ex wt : Nat → Int32) (hp : PD9 w de pr pl n el dN dr tr ex wt) (x va ta : Nat) (hx : kd w x = 11) (hx0 : fR w 11 0 x = some we) (hx1 : fR w 11 1 x = some va) (hs : SR9 w va ta) (s0 tl T : Nat) (hs0 : s0 < nS) (htl : tl < 100000) (htl0 : fI w 10 1 we = nI tl) (hT : fI w 11 8 x = nI T) (hT2 : T < 1200) : Ct yX9_pricesRate cX9_pricesRate 6 (some .int) 6 143 0 0 de [.ref x, .ref (stA s0), .ref pr] w (fun r w' => r = some (.int (prcV (fun se => rateV (rowV nS xs ys ch (fI w 6 2 pr) tl se s0) n dN dr tr ex wt) (T / 60))) ∧ ∃ g, w' = stR w 1010 ta g) := by
  refine Ct.mk (by decide +kernel) [(0, .ref x), (1, .ref (stA s0)), (2, .ref pr)] rfl (Nat.le_of_ble_eq_true rfl) ?_
  intro p l e R s m args below meth c D cy z C hnm
  obtain ⟨rt, hrt⟩ : ∃ rt : Nat → Int32, ∀ se, rt se = rateV (rowV nS xs ys ch (fI w 6 2 pr) tl se s0) n dN dr tr ex wt := ⟨_, fun _ => rfl⟩
  simp only [← hrt]
  obtain ⟨M, hM⟩ : ∃ M : Nat, M = T / 60 := ⟨_, rfl⟩
  have loop : ∀ (k i : Nat) (g : Nat → Int32), i + k = M → G p l e R s m args below meth c D cy z 6 (stR w 1010 ta g) 0 0 8 [(0, .ref x), (1, .ref (stA s0)), (2, .ref pr), (3, .int (nI i)), (4, .int (sumS rt i)), (5, .int (nI i))] [] (QM below args s D cy z (fun r w' => r = some (.int (prcV rt (T / 60))) ∧ ∃ g, w' = stR w 1010 ta g) 0 0) := by
    intro k
    induction k with
    | zero =>
      intro i g hik
      refine g_iload C dX9_pricesRate_8 rfl ?_
      refine g_bipush C 20 dX9_pricesRate_10 (by rfl) ?_
      refine g_icmp_ge C 53 dX9_pricesRate_12 (by decide) (fun c_12 => ?_) (fun c_12 => ?_)
      · refine g_iload_n C dX9_pricesRate_53 rfl ?_
        refine g_if_ne C 62 dX9_pricesRate_54 (by decide) (fun c_54 => ?_) (fun c_54 => ?_)
        · refine g_iload C dX9_pricesRate_62 rfl ?_
          refine g_iload_n C dX9_pricesRate_64 rfl ?_
          refine g_idiv C dX9_pricesRate_65 (fun z => c_54 z) ?_
          refine g_iret C rfl rfl (by decide) (by decide) dX9_pricesRate_66 ?_
          first
          | exact ⟨congrArg (fun v => some (Value.int v)) (by have e9 : i = 0 := by { by_cases e8 : i = 0; exact e8; exact absurd c_54 (nI_ne0 (by omega) (by omega)) }; rw [prcV, if_pos (by omega)]), g, rfl⟩
          | exact ⟨congrArg (fun v => some (Value.int v)) (by have e9 : ¬ T / 60 = 0 := fun z => c_54 (by rw [show i = 0 by omega]; rfl); rw [prcV, if_neg e9, ← hM, show i = M by omega]), g, rfl⟩
        · refine g_bipush C 100 dX9_pricesRate_57 (by rfl) ?_
          refine g_goto C 66 dX9_pricesRate_59 (by decide) ?_
          refine g_iret C rfl rfl (by decide) (by decide) dX9_pricesRate_66 ?_
          first
          | exact ⟨congrArg (fun v => some (Value.int v)) (by have e9 : i = 0 := by { by_cases e8 : i = 0; exact e8; exact absurd c_54 (nI_ne0 (by omega) (by omega)) }; rw [prcV, if_pos (by omega)]), g, rfl⟩
          | exact ⟨congrArg (fun v => some (Value.int v)) (by have e9 : ¬ T / 60 = 0 := fun z => c_54 (by rw [show i = 0 by omega]; rfl); rw [prcV, if_neg e9, ← hM, show i = M by omega]), g, rfl⟩
      · refine g_aload_n C dX9_pricesRate_15 rfl ?_
        refine g_iload C dX9_pricesRate_16 rfl ?_
        refine g_callV C cls_10 11 mt_X9_isOver [.int (nI i)] (c_X9_isOver de (stR w 1010 ta g) x hx (nI i)) hx (by decide) k_627 rfl rfl (Nat.le_of_ble_eq_true rfl) (by decide) (by decide) (by decide) (by decide) dX9_pricesRate_18 (fun r_18 w_18 hp_18 => ?_)
        obtain ⟨rfl, rfl⟩ := hp_18
        have hov : bI (decide ((nI i + 1) * 60 ≤ fI (stR w 1010 ta g) 11 8 x)) = bI (decide ((i + 1) * 60 ≤ T)) := by rw [show fI (stR w 1010 ta g) 11 8 x = nI T from hT, nI_1, show (60 : Int32) = nI 60 from rfl, pk_mul]; exact congrArg bI (decide_eq_decide.mpr (nI_leI (by omega) (by omega)))
        rw [hov]
        refine g_if_eq C 53 dX9_pricesRate_21 (by decide) (fun c_21 => ?_) (fun c_21 => ?_)
        · refine g_iload_n C dX9_pricesRate_53 rfl ?_
          refine g_if_ne C 62 dX9_pricesRate_54 (by decide) (fun c_54 => ?_) (fun c_54 => ?_)
          · refine g_iload C dX9_pricesRate_62 rfl ?_
            refine g_iload_n C dX9_pricesRate_64 rfl ?_
            refine g_idiv C dX9_pricesRate_65 (fun z => c_54 z) ?_
            refine g_iret C rfl rfl (by decide) (by decide) dX9_pricesRate_66 ?_
            first
            | exact ⟨congrArg (fun v => some (Value.int v)) (by have e9 : i = 0 := by { by_cases e8 : i = 0; exact e8; exact absurd c_54 (nI_ne0 (by omega) (by omega)) }; rw [prcV, if_pos (by omega)]), g, rfl⟩
            | exact ⟨congrArg (fun v => some (Value.int v)) (by have e9 : ¬ T / 60 = 0 := fun z => c_54 (by rw [show i = 0 by omega]; rfl); rw [prcV, if_neg e9, ← hM, show i = M by omega]), g, rfl⟩
          · refine g_bipush C 100 dX9_pricesRate_57 (by rfl) ?_
            refine g_goto C 66 dX9_pricesRate_59 (by decide) ?_
            refine g_iret C rfl rfl (by decide) (by decide) dX9_pricesRate_66 ?_
            first
            | exact ⟨congrArg (fun v => some (Value.int v)) (by have e9 : i = 0 := by { by_cases e8 : i = 0; exact e8; exact absurd c_54 (nI_ne0 (by omega) (by omega)) }; rw [prcV, if_pos (by omega)]), g, rfl⟩
            | exact ⟨congrArg (fun v => some (Value.int v)) (by have e9 : ¬ T / 60 = 0 := fun z => c_54 (by rw [show i = 0 by omega]; rfl); rw [prcV, if_neg e9, ← hM, show i = M by omega]), g, rfl⟩
        · exact absurd (of_decide_eq_true (bI_n0.mp c_21)) (by omega)
    | succ k ih =>
      intro i g hik
      refine g_iload C dX9_pricesRate_8 rfl ?_
      refine g_bipush C 20 dX9_pricesRate_10 (by rfl) ?_
      refine g_icmp_ge C 53 dX9_pricesRate_12 (by decide) (fun c_12 => ?_) (fun c_12 => ?_)
      · first
        | exact absurd (nI_le_of (a := 20) c_12 (by omega) (by omega)) (by omega)
        | exact absurd (of_decide_eq_false (bI_0.mp c_21)) (by omega)
      · refine g_aload_n C dX9_pricesRate_15 rfl ?_
        refine g_iload C dX9_pricesRate_16 rfl ?_
        refine g_callV C cls_10 11 mt_X9_isOver [.int (nI i)] (c_X9_isOver de (stR w 1010 ta g) x hx (nI i)) hx (by decide) k_627 rfl rfl (Nat.le_of_ble_eq_true rfl) (by decide) (by decide) (by decide) (by decide) dX9_pricesRate_18 (fun r_18 w_18 hp_18 => ?_)
        obtain ⟨rfl, rfl⟩ := hp_18
        have hov : bI (decide ((nI i + 1) * 60 ≤ fI (stR w 1010 ta g) 11 8 x)) = bI (decide ((i + 1) * 60 ≤ T)) := by rw [show fI (stR w 1010 ta g) 11 8 x = nI T from hT, nI_1, show (60 : Int32) = nI 60 from rfl, pk_mul]; exact congrArg bI (decide_eq_decide.mpr (nI_leI (by omega) (by omega)))
        rw [hov]
        refine g_if_eq C 53 dX9_pricesRate_21 (by decide) (fun c_21 => ?_) (fun c_21 => ?_)
        · first
          | exact absurd (nI_le_of (a := 20) c_12 (by omega) (by omega)) (by omega)
          | exact absurd (of_decide_eq_false (bI_0.mp c_21)) (by omega)
        · refine g_iinc C dX9_pricesRate_24 rfl (nI_1 i) (by decide) ?_
          refine g_iload C dX9_pricesRate_27 rfl ?_
          refine g_aload_n C dX9_pricesRate_29 rfl ?_
          refine g_aload_n C dX9_pricesRate_30 rfl ?_
          refine g_iload C dX9_pricesRate_31 rfl ?_
          refine g_aload_n C dX9_pricesRate_33 rfl ?_
          refine g_aload_n C dX9_pricesRate_34 rfl ?_
          refine g_getR (b := we) C cls_10 11 0 hx hx0 rfl k_136 dX9_pricesRate_35 ?_
          refine g_getI C cls_9 10 1 hw.1 rfl k_70 dX9_pricesRate_38 ?_
          rw [show fI (stR w 1010 ta g) 10 1 we = nI tl from htl0]
          refine g_callV C cls_10 11 mt_X9_rateBy [.ref (stA s0), .int (nI i), .ref pr, .int (nI tl)] (c_X9_rateBy de (stR w 1010 ta g) we sl nS stA laA xs ys ch hw pr pl n el dN dr tr ex wt hp x va ta hx hx0 hx1 hs s0 i tl hs0 (by omega) htl) hx (by decide) k_631 rfl rfl (Nat.le_of_ble_eq_true rfl) (by decide) (by decide) (by decide) (by decide) dX9_pricesRate_41 (fun r_41 w_41 hp_41 => ?_)
          obtain ⟨rfl, g1, rfl⟩ := hp_41
          rw [show fI (stR w 1010 ta g) 6 2 pr = fI w 6 2 pr from rfl, ← hrt i]
          refine g_iadd C dX9_pricesRate_44 ?_
          refine g_istore C dX9_pricesRate_45 (by decide) ?_
          refine g_iinc C dX9_pricesRate_47 rfl (nI_1 i) (by decide) ?_
          refine g_goto C 8 dX9_pricesRate_50 (by decide) ?_
          have h9 := ih (i + 1) g1 (by omega)
          refine g_eq rfl rfl (w' := stR w 1010 ta g1) ?_ ?_
          · exact stR_stR
          · exact g_lv2 [(0, .ref x), (1, .ref (stA s0)), (2, .ref pr), (3, .int (nI (i + 1))), (4, .int (sumS rt (i + 1))), (5, .int (nI (i + 1)))] rfl h9
  refine g_iconst C 0 dX9_pricesRate_0 (by rfl) ?_
  refine g_istore_n C dX9_pricesRate_1 (by decide) ?_
  refine g_iconst C 0 dX9_pricesRate_2 (by rfl) ?_
  refine g_istore C dX9_pricesRate_3 (by decide) ?_
  refine g_iconst C 0 dX9_pricesRate_5 (by rfl) ?_
  refine g_istore C dX9_pricesRate_6 (by decide) ?_
  refine g_eq rfl rfl (w' := stR w 1010 ta (aI w 1010 ta)) stR_self.symm ?_
  exact g_lv2 [(0, .ref x), (1, .ref (stA s0)), (2, .ref pr), (3, .int (nI 0)), (4, .int (sumS rt 0)), (5, .int (nI 0))] rfl (loop M 0 _ (by omega))
theorem dX9_priceOf_0 : decode cX9_priceOf 0 = .ok (.iload_n 1, 1) := by decide +kernel
theorem dX9_priceOf_1 : decode cX9_priceOf 1 = .ok (.iload_n 2, 1) := by decide +kernel
theorem dX9_priceOf_2 : decode cX9_priceOf 2 = .ok (.imul, 1) := by decide +kernel
theorem dX9_priceOf_3 : decode cX9_priceOf 3 = .ok (.sipush 1000, 3) := by decide +kernel
theorem dX9_priceOf_6 : decode cX9_priceOf 6 = .ok (.idiv, 1) := by decide +kernel
theorem dX9_priceOf_7 : decode cX9_priceOf 7 = .ok (.istore_n 3, 1) := by decide +kernel
theorem dX9_priceOf_8 : decode cX9_priceOf 8 = .ok (.iload_n 3, 1) := by decide +kernel
theorem dX9_priceOf_9 : decode cX9_priceOf 9 = .ok (.iload_n 3, 1) := by decide +kernel
theorem dX9_priceOf_10 : decode cX9_priceOf 10 = .ok (.aload_n 0, 1) := by decide +kernel
theorem dX9_priceOf_11 : decode cX9_priceOf 11 = .ok (.getfield 60, 3) := by decide +kernel
theorem dX9_priceOf_14 : decode cX9_priceOf 14 = .ok (.imul, 1) := by decide +kernel
theorem dX9_priceOf_15 : decode cX9_priceOf 15 = .ok (.bipush 100, 2) := by decide +kernel
theorem dX9_priceOf_17 : decode cX9_priceOf 17 = .ok (.idiv, 1) := by decide +kernel
theorem dX9_priceOf_18 : decode cX9_priceOf 18 = .ok (.iadd, 1) := by decide +kernel
theorem dX9_priceOf_19 : decode cX9_priceOf 19 = .ok (.ireturn, 1) := by decide +kernel
set_option maxHeartbeats 4000000 in
set_option maxRecDepth 100000 in
theorem c_X9_priceOf (de : Nat) (w : Wd) (x : Nat) (hx : kd w x = 11) (su ra : Int32) : Ct yX9_priceOf cX9_priceOf 4 (some .int) 0 0 0 0 de [.ref x, .int su, .int ra] w (fun r w' => r = some (.int (priV su ra (fI w 11 9 x))) ∧ w = w') := by
  refine Ct.mk (by decide +kernel) [(0, .ref x), (1, .int su), (2, .int ra)] rfl (Nat.le_of_ble_eq_true rfl) ?_
  intro p l e R s m args below meth c D cy z C hnm
  refine g_iload_n C dX9_priceOf_0 rfl ?_
  refine g_iload_n C dX9_priceOf_1 rfl ?_
  refine g_imul C dX9_priceOf_2 ?_
  refine g_sipush C 1000 dX9_priceOf_3 (by rfl) ?_
  refine g_idiv C dX9_priceOf_6 (by decide) ?_
  refine g_istore_n C dX9_priceOf_7 (by decide) ?_
  refine g_iload_n C dX9_priceOf_8 rfl ?_
  refine g_iload_n C dX9_priceOf_9 rfl ?_
  refine g_aload_n C dX9_priceOf_10 rfl ?_
  refine g_getI C cls_10 11 9 hx rfl k_145 dX9_priceOf_11 ?_
  refine g_imul C dX9_priceOf_14 ?_
  refine g_bipush C 100 dX9_priceOf_15 (by rfl) ?_
  refine g_idiv C dX9_priceOf_17 (by decide) ?_
  refine g_iadd C dX9_priceOf_18 ?_
  refine g_iret C rfl rfl (by decide) (by decide) dX9_priceOf_19 ?_
  exact ⟨rfl, rfl⟩
theorem dX9_stateShare_0 : decode cX9_stateShare 0 = .ok (.iload_n 1, 1) := by decide +kernel
theorem dX9_stateShare_1 : decode cX9_stateShare 1 = .ok (.iconst 1, 1) := by decide +kernel
theorem dX9_stateShare_2 : decode cX9_stateShare 2 = .ok (.if_icmp .ge 7, 3) := by decide +kernel
theorem dX9_stateShare_9 : decode cX9_stateShare 9 = .ok (.iload_n 0, 1) := by decide +kernel
theorem dX9_stateShare_10 : decode cX9_stateShare 10 = .ok (.iload_n 1, 1) := by decide +kernel
theorem dX9_stateShare_11 : decode cX9_stateShare 11 = .ok (.sipush 500, 3) := by decide +kernel
theorem dX9_stateShare_14 : decode cX9_stateShare 14 = .ok (.invokestatic 251, 3) := by decide +kernel
theorem dX9_stateShare_17 : decode cX9_stateShare 17 = .ok (.imul, 1) := by decide +kernel
theorem dX9_stateShare_18 : decode cX9_stateShare 18 = .ok (.iload_n 1, 1) := by decide +kernel
theorem dX9_stateShare_19 : decode cX9_stateShare 19 = .ok (.idiv, 1) := by decide +kernel
theorem dX9_stateShare_20 : decode cX9_stateShare 20 = .ok (.iconst 2, 1) := by decide +kernel
theorem dX9_stateShare_21 : decode cX9_stateShare 21 = .ok (.idiv, 1) := by decide +kernel
theorem dX9_stateShare_22 : decode cX9_stateShare 22 = .ok (.ireturn, 1) := by decide +kernel
set_option maxHeartbeats 4000000 in
set_option maxRecDepth 100000 in
theorem c_X9_stateShare (de : Nat) (w : Wd) (pr su : Int32) (hsu : ¬ su < 1) : Ct yX9_stateShare cX9_stateShare 2 (some .int) 1 21 0 0 de [.int pr, .int su] w (fun r w' => r = some (.int (shrV pr su)) ∧ w = w') := by
  refine Ct.mk (by decide +kernel) [(0, .int pr), (1, .int su)] rfl (Nat.le_of_ble_eq_true rfl) ?_
  intro p l e R s m args below meth c D cy z C hnm
  refine g_iload_n C dX9_stateShare_0 rfl ?_
  refine g_iconst C 1 dX9_stateShare_1 (by rfl) ?_
  refine g_icmp_ge C 9 dX9_stateShare_2 (by decide) (fun c_2 => ?_) (fun c_2 => ?_)
  · refine g_iload_n C dX9_stateShare_9 rfl ?_
    refine g_iload_n C dX9_stateShare_10 rfl ?_
    refine g_sipush C 500 dX9_stateShare_11 (by rfl) ?_
    refine g_min C k_686 k_364 k_18 k_365 (by decide) (Nat.le_of_ble_eq_true rfl) (by decide) (by decide) dX9_stateShare_14 ?_
    refine g_imul C dX9_stateShare_17 ?_
    refine g_iload_n C dX9_stateShare_18 rfl ?_
    refine g_idiv C dX9_stateShare_19 (fun z => hsu (by rw [z]; decide)) ?_
    refine g_iconst C 2 dX9_stateShare_20 (by rfl) ?_
    refine g_idiv C dX9_stateShare_21 (by decide) ?_
    refine g_iret C rfl rfl (by decide) (by decide) dX9_stateShare_22 ?_
    exact ⟨rfl, rfl⟩
  · exact absurd (by first | exact c_2 | exact Int32.not_le.mp c_2) hsu
end RATES13
end
section
section REF14
/-- the reference at m: its arrays, by their fields -/
def rmF : List (Nat × Nat × Nat) := [(1, 2010, 5), (2, 2020, 5), (4, 2040, 6000), (5, 2050, 6000), (7, 2070, 105), (8, 2080, 7), (9, 2090, 7), (12, 2120, 16), (13, 2130, 16), (14, 2140, 16), (15, 2150, 16), (16, 2160, 16), (18, 2180, 320), (19, 2191, 320), (23, 2230, 600), (25, 2250, 20), (26, 2261, 100), (28, 2280, 60)]
def RM (w : Wd) (m : Nat) (ad : Nat → Nat) : Prop := kd w m = 12 ∧ ∀ q ∈ rmF, fR w 12 q.1 m = some (ad q.1) ∧ kd w (ad q.1) = q.2.1 ∧ aL w (ad q.1) = q.2.2
theorem rm_1 {w : Wd} {m : Nat} {ad : Nat → Nat} (h : RM w m ad) : fR w 12 1 m = some (ad 1) ∧ kd w (ad 1) = 2010 ∧ aL w (ad 1) = 5 := h.2 (1, 2010, 5) (by decide)
theorem rm_2 {w : Wd} {m : Nat} {ad : Nat → Nat} (h : RM w m ad) : fR w 12 2 m = some (ad 2) ∧ kd w (ad 2) = 2020 ∧ aL w (ad 2) = 5 := h.2 (2, 2020, 5) (by decide)
theorem rm_4 {w : Wd} {m : Nat} {ad : Nat → Nat} (h : RM w m ad) : fR w 12 4 m = some (ad 4) ∧ kd w (ad 4) = 2040 ∧ aL w (ad 4) = 6000 := h.2 (4, 2040, 6000) (by decide)
theorem rm_5 {w : Wd} {m : Nat} {ad : Nat → Nat} (h : RM w m ad) : fR w 12 5 m = some (ad 5) ∧ kd w (ad 5) = 2050 ∧ aL w (ad 5) = 6000 := h.2 (5, 2050, 6000) (by decide)
theorem rm_7 {w : Wd} {m : Nat} {ad : Nat → Nat} (h : RM w m ad) : fR w 12 7 m = some (ad 7) ∧ kd w (ad 7) = 2070 ∧ aL w (ad 7) = 105 := h.2 (7, 2070, 105) (by decide)
theorem rm_8 {w : Wd} {m : Nat} {ad : Nat → Nat} (h : RM w m ad) : fR w 12 8 m = some (ad 8) ∧ kd w (ad 8) = 2080 ∧ aL w (ad 8) = 7 := h.2 (8, 2080, 7) (by decide)
theorem rm_9 {w : Wd} {m : Nat} {ad : Nat → Nat} (h : RM w m ad) : fR w 12 9 m = some (ad 9) ∧ kd w (ad 9) = 2090 ∧ aL w (ad 9) = 7 := h.2 (9, 2090, 7) (by decide)
theorem rm_12 {w : Wd} {m : Nat} {ad : Nat → Nat} (h : RM w m ad) : fR w 12 12 m = some (ad 12) ∧ kd w (ad 12) = 2120 ∧ aL w (ad 12) = 16 := h.2 (12, 2120, 16) (by decide)
theorem rm_13 {w : Wd} {m : Nat} {ad : Nat → Nat} (h : RM w m ad) : fR w 12 13 m = some (ad 13) ∧ kd w (ad 13) = 2130 ∧ aL w (ad 13) = 16 := h.2 (13, 2130, 16) (by decide)
theorem rm_14 {w : Wd} {m : Nat} {ad : Nat → Nat} (h : RM w m ad) : fR w 12 14 m = some (ad 14) ∧ kd w (ad 14) = 2140 ∧ aL w (ad 14) = 16 := h.2 (14, 2140, 16) (by decide)
theorem rm_15 {w : Wd} {m : Nat} {ad : Nat → Nat} (h : RM w m ad) : fR w 12 15 m = some (ad 15) ∧ kd w (ad 15) = 2150 ∧ aL w (ad 15) = 16 := h.2 (15, 2150, 16) (by decide)
theorem rm_16 {w : Wd} {m : Nat} {ad : Nat → Nat} (h : RM w m ad) : fR w 12 16 m = some (ad 16) ∧ kd w (ad 16) = 2160 ∧ aL w (ad 16) = 16 := h.2 (16, 2160, 16) (by decide)
theorem rm_18 {w : Wd} {m : Nat} {ad : Nat → Nat} (h : RM w m ad) : fR w 12 18 m = some (ad 18) ∧ kd w (ad 18) = 2180 ∧ aL w (ad 18) = 320 := h.2 (18, 2180, 320) (by decide)
theorem rm_19 {w : Wd} {m : Nat} {ad : Nat → Nat} (h : RM w m ad) : fR w 12 19 m = some (ad 19) ∧ kd w (ad 19) = 2191 ∧ aL w (ad 19) = 320 := h.2 (19, 2191, 320) (by decide)
theorem rm_23 {w : Wd} {m : Nat} {ad : Nat → Nat} (h : RM w m ad) : fR w 12 23 m = some (ad 23) ∧ kd w (ad 23) = 2230 ∧ aL w (ad 23) = 600 := h.2 (23, 2230, 600) (by decide)
theorem rm_25 {w : Wd} {m : Nat} {ad : Nat → Nat} (h : RM w m ad) : fR w 12 25 m = some (ad 25) ∧ kd w (ad 25) = 2250 ∧ aL w (ad 25) = 20 := h.2 (25, 2250, 20) (by decide)
theorem rm_26 {w : Wd} {m : Nat} {ad : Nat → Nat} (h : RM w m ad) : fR w 12 26 m = some (ad 26) ∧ kd w (ad 26) = 2261 ∧ aL w (ad 26) = 100 := h.2 (26, 2261, 100) (by decide)
theorem rm_28 {w : Wd} {m : Nat} {ad : Nat → Nat} (h : RM w m ad) : fR w 12 28 m = some (ad 28) ∧ kd w (ad 28) = 2280 ∧ aL w (ad 28) = 60 := h.2 (28, 2280, 60) (by decide)
theorem oI_s {j : Nat} : oI (some j) = nI j := rfl
theorem fI_pI {w : Wd} {K k a : Nat} {v : Int32} : fI (pI w K k a v) K k a = v := up3_same
def goV (a b c : Int32) : Int32 := if a = 0 then 1 else if b = 0 then 2 else if c = 0 then 3 else 0
theorem ix_1200 {i d : Nat} : (1200 : Int32) * nI i + nI d = nI (1200 * i + d) := by rw [show (1200 : Int32) = nI 1200 from rfl, pk_mul, nI_add]
def offV (X Y : Nat → Int32) (x y : Int32) (k : Nat) : Int32 := (x - X k) * (x - X k) + (y - Y k) * (y - Y k)
def byV (X Y : Nat → Int32) (s k : Nat) : Int32 := if k = s then -1 else offV X Y (X s) (Y s) k
/-- the nearest with a datum among the first k, as the reference finds it -/
def rnF (has : Nat → Int32) (bv : Nat → Int32) : Nat → Option Nat
  | 0 => none
  | k + 1 => if 0 < has k then match rnF has bv k with
    | none => some k
    | some j => if bv k < bv j then some k else some j
    else rnF has bv k
theorem rnF_0 {has bv : Nat → Int32} {k : Nat} (h : ¬ 0 < has k) : rnF has bv (k + 1) = rnF has bv k := by rw [rnF, if_neg h]
theorem rnF_1 {has bv : Nat → Int32} {k : Nat} (h : 0 < has k) (h2 : rnF has bv k = none) : rnF has bv (k + 1) = some k := by rw [rnF, if_pos h, h2]
theorem rnF_2 {has bv : Nat → Int32} {k j : Nat} (h : 0 < has k) (h2 : rnF has bv k = some j) (h3 : bv k < bv j) : rnF has bv (k + 1) = some k := by rw [rnF, if_pos h, h2]; exact if_pos h3
theorem rnF_3 {has bv : Nat → Int32} {k j : Nat} (h : 0 < has k) (h2 : rnF has bv k = some j) (h3 : ¬ bv k < bv j) : rnF has bv (k + 1) = some j := by rw [rnF, if_pos h, h2]; exact if_neg h3
theorem rnF_lt {has bv : Nat → Int32} : ∀ {k j : Nat}, rnF has bv k = some j → j < k
  | 0, j, h => by cases h
  | k + 1, j, h => by
    by_cases h1 : 0 < has k
    · cases h2 : rnF has bv k with
      | none => rw [rnF_1 h1 h2] at h; cases h; exact Nat.lt_succ_self _
      | some i =>
        by_cases h3 : bv k < bv i
        · rw [rnF_2 h1 h2 h3] at h; cases h; exact Nat.lt_succ_self _
        · rw [rnF_3 h1 h2 h3] at h; cases h; exact Nat.lt_succ_of_lt (rnF_lt h2)
    · rw [rnF_0 h1] at h; exact Nat.lt_succ_of_lt (rnF_lt h)
/-- the reference's rain of station s on day d -/
def rrV (nS : Nat) (X Y fs ls : Nat → Int32) (kn : Int32) (d s : Nat) : Int32 := match rnF (fun k => fs (1200 * k + d)) (byV X Y s) nS with
  | none => 0
  | some j => (if kn = 0 then fs (1200 * j + d) else ls (1200 * j + d)) - 1
theorem rrV_0 {nS : Nat} {X Y fs ls : Nat → Int32} {kn : Int32} {d s : Nat} (h : rnF (fun k => fs (1200 * k + d)) (byV X Y s) nS = none) : rrV nS X Y fs ls kn d s = 0 := by unfold rrV; rw [h]
theorem rrV_1 {nS j : Nat} {X Y fs ls : Nat → Int32} {kn : Int32} {d s : Nat} (h : rnF (fun k => fs (1200 * k + d)) (byV X Y s) nS = some j) : rrV nS X Y fs ls kn d s = (if kn = 0 then fs (1200 * j + d) else ls (1200 * j + d)) - 1 := by unfold rrV; rw [h]
theorem dX10_goes_0 : decode cX10_goes 0 = .ok (.aload_n 0, 1) := by decide +kernel
theorem dX10_goes_1 : decode cX10_goes 1 = .ok (.iload_n 1, 1) := by decide +kernel
theorem dX10_goes_2 : decode cX10_goes 2 = .ok (.ifCond .ne 7, 3) := by decide +kernel
theorem dX10_goes_5 : decode cX10_goes 5 = .ok (.iconst 1, 1) := by decide +kernel
theorem dX10_goes_6 : decode cX10_goes 6 = .ok (.goto 20, 3) := by decide +kernel
theorem dX10_goes_9 : decode cX10_goes 9 = .ok (.iload_n 2, 1) := by decide +kernel
theorem dX10_goes_10 : decode cX10_goes 10 = .ok (.ifCond .ne 7, 3) := by decide +kernel
theorem dX10_goes_13 : decode cX10_goes 13 = .ok (.iconst 2, 1) := by decide +kernel
theorem dX10_goes_14 : decode cX10_goes 14 = .ok (.goto 12, 3) := by decide +kernel
theorem dX10_goes_17 : decode cX10_goes 17 = .ok (.iload_n 3, 1) := by decide +kernel
theorem dX10_goes_18 : decode cX10_goes 18 = .ok (.ifCond .eq 7, 3) := by decide +kernel
theorem dX10_goes_21 : decode cX10_goes 21 = .ok (.iconst 0, 1) := by decide +kernel
theorem dX10_goes_22 : decode cX10_goes 22 = .ok (.goto 4, 3) := by decide +kernel
theorem dX10_goes_25 : decode cX10_goes 25 = .ok (.iconst 3, 1) := by decide +kernel
theorem dX10_goes_26 : decode cX10_goes 26 = .ok (.putfield 75, 3) := by decide +kernel
theorem dX10_goes_29 : decode cX10_goes 29 = .ok (.aload_n 0, 1) := by decide +kernel
theorem dX10_goes_30 : decode cX10_goes 30 = .ok (.getfield 75, 3) := by decide +kernel
theorem dX10_goes_33 : decode cX10_goes 33 = .ok (.ifCond .ne 7, 3) := by decide +kernel
theorem dX10_goes_36 : decode cX10_goes 36 = .ok (.iconst 1, 1) := by decide +kernel
theorem dX10_goes_37 : decode cX10_goes 37 = .ok (.goto 4, 3) := by decide +kernel
theorem dX10_goes_40 : decode cX10_goes 40 = .ok (.iconst 0, 1) := by decide +kernel
theorem dX10_goes_41 : decode cX10_goes 41 = .ok (.ireturn, 1) := by decide +kernel
set_option maxHeartbeats 4000000 in
set_option maxRecDepth 100000 in
theorem c_X10_goes (de : Nat) (w : Wd) (mo : Nat) (ad : Nat → Nat) (hm : RM w mo ad) (a b cq : Int32) : Ct yX10_goes cX10_goes 4 (some .boolean) 0 0 0 0 de [.ref mo, .int a, .int b, .int cq] w (fun r w' => r = some (.int (bI (decide (goV a b cq = 0)))) ∧ w' = pI w 12 29 mo (goV a b cq)) := by
  refine Ct.mk (by decide +kernel) [(0, .ref mo), (1, .int a), (2, .int b), (3, .int cq)] rfl (Nat.le_of_ble_eq_true rfl) ?_
  intro p l e R s m args below meth c D cy z C hnm
  refine g_aload_n C dX10_goes_0 rfl ?_
  refine g_iload_n C dX10_goes_1 rfl ?_
  refine g_if_ne C 9 dX10_goes_2 (by decide) (fun c_2 => ?_) (fun c_2 => ?_)
  · refine g_iload_n C dX10_goes_9 rfl ?_
    refine g_if_ne C 17 dX10_goes_10 (by decide) (fun c_10 => ?_) (fun c_10 => ?_)
    · refine g_iload_n C dX10_goes_17 rfl ?_
      refine g_if_eq C 25 dX10_goes_18 (by decide) (fun c_18 => ?_) (fun c_18 => ?_)
      · refine g_iconst C 3 dX10_goes_25 (by rfl) ?_
        refine g_putI C cls_11 12 29 hm.1 rfl (Or.inl rfl) rfl rfl k_944 dX10_goes_26 ?_
        refine g_aload_n C dX10_goes_29 rfl ?_
        refine g_getI C cls_11 12 29 hm.1 rfl k_944 dX10_goes_30 ?_
        rw [fI_pI]
        refine g_if_ne C 40 dX10_goes_33 (by decide) (fun c_33 => ?_) (fun c_33 => ?_)
        · refine g_iconst C 0 dX10_goes_40 (by rfl) ?_
          refine g_iret C rfl rfl (by decide) (by decide) dX10_goes_41 ?_
          first
          | exact absurd c_33 (by decide)
          | exact absurd rfl c_33
          | (have e8 : goV a b cq = 1 := (if_pos c_2); rw [e8]; exact ⟨rfl, rfl⟩)
          | (have e8 : goV a b cq = 2 := ((if_neg c_2).trans (if_pos c_10)); rw [e8]; exact ⟨rfl, rfl⟩)
          | (have e8 : goV a b cq = 0 := ((if_neg c_2).trans ((if_neg c_10).trans (if_neg c_18))); rw [e8]; exact ⟨rfl, rfl⟩)
          | (have e8 : goV a b cq = 3 := ((if_neg c_2).trans ((if_neg c_10).trans (if_pos c_18))); rw [e8]; exact ⟨rfl, rfl⟩)
        · refine g_iconst C 1 dX10_goes_36 (by rfl) ?_
          refine g_goto C 41 dX10_goes_37 (by decide) ?_
          refine g_iret C rfl rfl (by decide) (by decide) dX10_goes_41 ?_
          first
          | exact absurd c_33 (by decide)
          | exact absurd rfl c_33
          | (have e8 : goV a b cq = 1 := (if_pos c_2); rw [e8]; exact ⟨rfl, rfl⟩)
          | (have e8 : goV a b cq = 2 := ((if_neg c_2).trans (if_pos c_10)); rw [e8]; exact ⟨rfl, rfl⟩)
          | (have e8 : goV a b cq = 0 := ((if_neg c_2).trans ((if_neg c_10).trans (if_neg c_18))); rw [e8]; exact ⟨rfl, rfl⟩)
          | (have e8 : goV a b cq = 3 := ((if_neg c_2).trans ((if_neg c_10).trans (if_pos c_18))); rw [e8]; exact ⟨rfl, rfl⟩)
      · refine g_iconst C 0 dX10_goes_21 (by rfl) ?_
        refine g_goto C 26 dX10_goes_22 (by decide) ?_
        refine g_putI C cls_11 12 29 hm.1 rfl (Or.inl rfl) rfl rfl k_944 dX10_goes_26 ?_
        refine g_aload_n C dX10_goes_29 rfl ?_
        refine g_getI C cls_11 12 29 hm.1 rfl k_944 dX10_goes_30 ?_
        rw [fI_pI]
        refine g_if_ne C 40 dX10_goes_33 (by decide) (fun c_33 => ?_) (fun c_33 => ?_)
        · refine g_iconst C 0 dX10_goes_40 (by rfl) ?_
          refine g_iret C rfl rfl (by decide) (by decide) dX10_goes_41 ?_
          first
          | exact absurd c_33 (by decide)
          | exact absurd rfl c_33
          | (have e8 : goV a b cq = 1 := (if_pos c_2); rw [e8]; exact ⟨rfl, rfl⟩)
          | (have e8 : goV a b cq = 2 := ((if_neg c_2).trans (if_pos c_10)); rw [e8]; exact ⟨rfl, rfl⟩)
          | (have e8 : goV a b cq = 0 := ((if_neg c_2).trans ((if_neg c_10).trans (if_neg c_18))); rw [e8]; exact ⟨rfl, rfl⟩)
          | (have e8 : goV a b cq = 3 := ((if_neg c_2).trans ((if_neg c_10).trans (if_pos c_18))); rw [e8]; exact ⟨rfl, rfl⟩)
        · refine g_iconst C 1 dX10_goes_36 (by rfl) ?_
          refine g_goto C 41 dX10_goes_37 (by decide) ?_
          refine g_iret C rfl rfl (by decide) (by decide) dX10_goes_41 ?_
          first
          | exact absurd c_33 (by decide)
          | exact absurd rfl c_33
          | (have e8 : goV a b cq = 1 := (if_pos c_2); rw [e8]; exact ⟨rfl, rfl⟩)
          | (have e8 : goV a b cq = 2 := ((if_neg c_2).trans (if_pos c_10)); rw [e8]; exact ⟨rfl, rfl⟩)
          | (have e8 : goV a b cq = 0 := ((if_neg c_2).trans ((if_neg c_10).trans (if_neg c_18))); rw [e8]; exact ⟨rfl, rfl⟩)
          | (have e8 : goV a b cq = 3 := ((if_neg c_2).trans ((if_neg c_10).trans (if_pos c_18))); rw [e8]; exact ⟨rfl, rfl⟩)
    · refine g_iconst C 2 dX10_goes_13 (by rfl) ?_
      refine g_goto C 26 dX10_goes_14 (by decide) ?_
      refine g_putI C cls_11 12 29 hm.1 rfl (Or.inl rfl) rfl rfl k_944 dX10_goes_26 ?_
      refine g_aload_n C dX10_goes_29 rfl ?_
      refine g_getI C cls_11 12 29 hm.1 rfl k_944 dX10_goes_30 ?_
      rw [fI_pI]
      refine g_if_ne C 40 dX10_goes_33 (by decide) (fun c_33 => ?_) (fun c_33 => ?_)
      · refine g_iconst C 0 dX10_goes_40 (by rfl) ?_
        refine g_iret C rfl rfl (by decide) (by decide) dX10_goes_41 ?_
        first
        | exact absurd c_33 (by decide)
        | exact absurd rfl c_33
        | (have e8 : goV a b cq = 1 := (if_pos c_2); rw [e8]; exact ⟨rfl, rfl⟩)
        | (have e8 : goV a b cq = 2 := ((if_neg c_2).trans (if_pos c_10)); rw [e8]; exact ⟨rfl, rfl⟩)
        | (have e8 : goV a b cq = 0 := ((if_neg c_2).trans ((if_neg c_10).trans (if_neg c_18))); rw [e8]; exact ⟨rfl, rfl⟩)
        | (have e8 : goV a b cq = 3 := ((if_neg c_2).trans ((if_neg c_10).trans (if_pos c_18))); rw [e8]; exact ⟨rfl, rfl⟩)
      · refine g_iconst C 1 dX10_goes_36 (by rfl) ?_
        refine g_goto C 41 dX10_goes_37 (by decide) ?_
        refine g_iret C rfl rfl (by decide) (by decide) dX10_goes_41 ?_
        first
        | exact absurd c_33 (by decide)
        | exact absurd rfl c_33
        | (have e8 : goV a b cq = 1 := (if_pos c_2); rw [e8]; exact ⟨rfl, rfl⟩)
        | (have e8 : goV a b cq = 2 := ((if_neg c_2).trans (if_pos c_10)); rw [e8]; exact ⟨rfl, rfl⟩)
        | (have e8 : goV a b cq = 0 := ((if_neg c_2).trans ((if_neg c_10).trans (if_neg c_18))); rw [e8]; exact ⟨rfl, rfl⟩)
        | (have e8 : goV a b cq = 3 := ((if_neg c_2).trans ((if_neg c_10).trans (if_pos c_18))); rw [e8]; exact ⟨rfl, rfl⟩)
  · refine g_iconst C 1 dX10_goes_5 (by rfl) ?_
    refine g_goto C 26 dX10_goes_6 (by decide) ?_
    refine g_putI C cls_11 12 29 hm.1 rfl (Or.inl rfl) rfl rfl k_944 dX10_goes_26 ?_
    refine g_aload_n C dX10_goes_29 rfl ?_
    refine g_getI C cls_11 12 29 hm.1 rfl k_944 dX10_goes_30 ?_
    rw [fI_pI]
    refine g_if_ne C 40 dX10_goes_33 (by decide) (fun c_33 => ?_) (fun c_33 => ?_)
    · refine g_iconst C 0 dX10_goes_40 (by rfl) ?_
      refine g_iret C rfl rfl (by decide) (by decide) dX10_goes_41 ?_
      first
      | exact absurd c_33 (by decide)
      | exact absurd rfl c_33
      | (have e8 : goV a b cq = 1 := (if_pos c_2); rw [e8]; exact ⟨rfl, rfl⟩)
      | (have e8 : goV a b cq = 2 := ((if_neg c_2).trans (if_pos c_10)); rw [e8]; exact ⟨rfl, rfl⟩)
      | (have e8 : goV a b cq = 0 := ((if_neg c_2).trans ((if_neg c_10).trans (if_neg c_18))); rw [e8]; exact ⟨rfl, rfl⟩)
      | (have e8 : goV a b cq = 3 := ((if_neg c_2).trans ((if_neg c_10).trans (if_pos c_18))); rw [e8]; exact ⟨rfl, rfl⟩)
    · refine g_iconst C 1 dX10_goes_36 (by rfl) ?_
      refine g_goto C 41 dX10_goes_37 (by decide) ?_
      refine g_iret C rfl rfl (by decide) (by decide) dX10_goes_41 ?_
      first
      | exact absurd c_33 (by decide)
      | exact absurd rfl c_33
      | (have e8 : goV a b cq = 1 := (if_pos c_2); rw [e8]; exact ⟨rfl, rfl⟩)
      | (have e8 : goV a b cq = 2 := ((if_neg c_2).trans (if_pos c_10)); rw [e8]; exact ⟨rfl, rfl⟩)
      | (have e8 : goV a b cq = 0 := ((if_neg c_2).trans ((if_neg c_10).trans (if_neg c_18))); rw [e8]; exact ⟨rfl, rfl⟩)
      | (have e8 : goV a b cq = 3 := ((if_neg c_2).trans ((if_neg c_10).trans (if_pos c_18))); rw [e8]; exact ⟨rfl, rfl⟩)
theorem dX10_isStation_0 : decode cX10_isStation 0 = .ok (.iload_n 1, 1) := by decide +kernel
theorem dX10_isStation_1 : decode cX10_isStation 1 = .ok (.iconst 0, 1) := by decide +kernel
theorem dX10_isStation_2 : decode cX10_isStation 2 = .ok (.aload_n 0, 1) := by decide +kernel
theorem dX10_isStation_3 : decode cX10_isStation 3 = .ok (.getfield 78, 3) := by decide +kernel
theorem dX10_isStation_6 : decode cX10_isStation 6 = .ok (.iconst 1, 1) := by decide +kernel
theorem dX10_isStation_7 : decode cX10_isStation 7 = .ok (.isub, 1) := by decide +kernel
theorem dX10_isStation_8 : decode cX10_isStation 8 = .ok (.invokestatic 81, 3) := by decide +kernel
theorem dX10_isStation_11 : decode cX10_isStation 11 = .ok (.ireturn, 1) := by decide +kernel
set_option maxHeartbeats 4000000 in
set_option maxRecDepth 100000 in
theorem c_X10_isStation (de : Nat) (w : Wd) (mo : Nat) (ad : Nat → Nat) (hm : RM w mo ad) (a : Int32) : Ct yX10_isStation cX10_isStation 2 (some .boolean) 1 22 0 0 de [.ref mo, .int a] w (fun r w' => r = some (.int (bI (inR a 0 (fI w 12 3 mo - 1)))) ∧ w = w') := by
  refine Ct.mk (by decide +kernel) [(0, .ref mo), (1, .int a)] rfl (Nat.le_of_ble_eq_true rfl) ?_
  intro p l e R s m args below meth c D cy z C hnm
  refine g_iload_n C dX10_isStation_0 rfl ?_
  refine g_iconst C 0 dX10_isStation_1 (by rfl) ?_
  refine g_aload_n C dX10_isStation_2 rfl ?_
  refine g_getI C cls_11 12 3 hm.1 rfl k_918 dX10_isStation_3 ?_
  refine g_iconst C 1 dX10_isStation_6 (by rfl) ?_
  refine g_isub C dX10_isStation_7 ?_
  refine g_callS C mt_X10_in [.int a, .int 0, .int (fI w 12 3 mo - 1)] (c_X10_in de w a 0 (fI w 12 3 mo - 1)) k_1014 rfl rfl (Nat.le_of_ble_eq_true rfl) (by decide) (by decide) (by decide) (by decide) dX10_isStation_8 (fun r_8 w_8 hp_8 => ?_)
  obtain ⟨rfl, rfl⟩ := hp_8
  refine g_iret C rfl (bI_nar _) (by decide) (by decide) dX10_isStation_11 ?_
  exact ⟨rfl, rfl⟩
theorem dX10_isProduct_0 : decode cX10_isProduct 0 = .ok (.iload_n 1, 1) := by decide +kernel
theorem dX10_isProduct_1 : decode cX10_isProduct 1 = .ok (.iconst 0, 1) := by decide +kernel
theorem dX10_isProduct_2 : decode cX10_isProduct 2 = .ok (.aload_n 0, 1) := by decide +kernel
theorem dX10_isProduct_3 : decode cX10_isProduct 3 = .ok (.getfield 85, 3) := by decide +kernel
theorem dX10_isProduct_6 : decode cX10_isProduct 6 = .ok (.iconst 1, 1) := by decide +kernel
theorem dX10_isProduct_7 : decode cX10_isProduct 7 = .ok (.isub, 1) := by decide +kernel
theorem dX10_isProduct_8 : decode cX10_isProduct 8 = .ok (.invokestatic 81, 3) := by decide +kernel
theorem dX10_isProduct_11 : decode cX10_isProduct 11 = .ok (.ireturn, 1) := by decide +kernel
set_option maxHeartbeats 4000000 in
set_option maxRecDepth 100000 in
theorem c_X10_isProduct (de : Nat) (w : Wd) (mo : Nat) (ad : Nat → Nat) (hm : RM w mo ad) (a : Int32) : Ct yX10_isProduct cX10_isProduct 2 (some .boolean) 1 22 0 0 de [.ref mo, .int a] w (fun r w' => r = some (.int (bI (inR a 0 (fI w 12 10 mo - 1)))) ∧ w = w') := by
  refine Ct.mk (by decide +kernel) [(0, .ref mo), (1, .int a)] rfl (Nat.le_of_ble_eq_true rfl) ?_
  intro p l e R s m args below meth c D cy z C hnm
  refine g_iload_n C dX10_isProduct_0 rfl ?_
  refine g_iconst C 0 dX10_isProduct_1 (by rfl) ?_
  refine g_aload_n C dX10_isProduct_2 rfl ?_
  refine g_getI C cls_11 12 10 hm.1 rfl k_925 dX10_isProduct_3 ?_
  refine g_iconst C 1 dX10_isProduct_6 (by rfl) ?_
  refine g_isub C dX10_isProduct_7 ?_
  refine g_callS C mt_X10_in [.int a, .int 0, .int (fI w 12 10 mo - 1)] (c_X10_in de w a 0 (fI w 12 10 mo - 1)) k_1014 rfl rfl (Nat.le_of_ble_eq_true rfl) (by decide) (by decide) (by decide) (by decide) dX10_isProduct_8 (fun r_8 w_8 hp_8 => ?_)
  obtain ⟨rfl, rfl⟩ := hp_8
  refine g_iret C rfl (bI_nar _) (by decide) (by decide) dX10_isProduct_11 ?_
  exact ⟨rfl, rfl⟩
theorem dX10_isFarm_0 : decode cX10_isFarm 0 = .ok (.iload_n 1, 1) := by decide +kernel
theorem dX10_isFarm_1 : decode cX10_isFarm 1 = .ok (.iconst 0, 1) := by decide +kernel
theorem dX10_isFarm_2 : decode cX10_isFarm 2 = .ok (.aload_n 0, 1) := by decide +kernel
theorem dX10_isFarm_3 : decode cX10_isFarm 3 = .ok (.getfield 88, 3) := by decide +kernel
theorem dX10_isFarm_6 : decode cX10_isFarm 6 = .ok (.iconst 1, 1) := by decide +kernel
theorem dX10_isFarm_7 : decode cX10_isFarm 7 = .ok (.isub, 1) := by decide +kernel
theorem dX10_isFarm_8 : decode cX10_isFarm 8 = .ok (.invokestatic 81, 3) := by decide +kernel
theorem dX10_isFarm_11 : decode cX10_isFarm 11 = .ok (.ireturn, 1) := by decide +kernel
set_option maxHeartbeats 4000000 in
set_option maxRecDepth 100000 in
theorem c_X10_isFarm (de : Nat) (w : Wd) (mo : Nat) (ad : Nat → Nat) (hm : RM w mo ad) (a : Int32) : Ct yX10_isFarm cX10_isFarm 2 (some .boolean) 1 22 0 0 de [.ref mo, .int a] w (fun r w' => r = some (.int (bI (inR a 0 (fI w 12 17 mo - 1)))) ∧ w = w') := by
  refine Ct.mk (by decide +kernel) [(0, .ref mo), (1, .int a)] rfl (Nat.le_of_ble_eq_true rfl) ?_
  intro p l e R s m args below meth c D cy z C hnm
  refine g_iload_n C dX10_isFarm_0 rfl ?_
  refine g_iconst C 0 dX10_isFarm_1 (by rfl) ?_
  refine g_aload_n C dX10_isFarm_2 rfl ?_
  refine g_getI C cls_11 12 17 hm.1 rfl k_932 dX10_isFarm_3 ?_
  refine g_iconst C 1 dX10_isFarm_6 (by rfl) ?_
  refine g_isub C dX10_isFarm_7 ?_
  refine g_callS C mt_X10_in [.int a, .int 0, .int (fI w 12 17 mo - 1)] (c_X10_in de w a 0 (fI w 12 17 mo - 1)) k_1014 rfl rfl (Nat.le_of_ble_eq_true rfl) (by decide) (by decide) (by decide) (by decide) dX10_isFarm_8 (fun r_8 w_8 hp_8 => ?_)
  obtain ⟨rfl, rfl⟩ := hp_8
  refine g_iret C rfl (bI_nar _) (by decide) (by decide) dX10_isFarm_11 ?_
  exact ⟨rfl, rfl⟩
theorem dX10_isSeason_0 : decode cX10_isSeason 0 = .ok (.iload_n 0, 1) := by decide +kernel
theorem dX10_isSeason_1 : decode cX10_isSeason 1 = .ok (.iconst 0, 1) := by decide +kernel
theorem dX10_isSeason_2 : decode cX10_isSeason 2 = .ok (.bipush 19, 2) := by decide +kernel
theorem dX10_isSeason_4 : decode cX10_isSeason 4 = .ok (.invokestatic 81, 3) := by decide +kernel
theorem dX10_isSeason_7 : decode cX10_isSeason 7 = .ok (.ireturn, 1) := by decide +kernel
set_option maxHeartbeats 4000000 in
set_option maxRecDepth 100000 in
theorem c_X10_isSeason (de : Nat) (w : Wd) (a : Int32) : Ct yX10_isSeason cX10_isSeason 1 (some .boolean) 1 22 0 0 de [.int a] w (fun r w' => r = some (.int (bI (inR a 0 19))) ∧ w = w') := by
  refine Ct.mk (by decide +kernel) [(0, .int a)] rfl (Nat.le_of_ble_eq_true rfl) ?_
  intro p l e R s m args below meth c D cy z C hnm
  refine g_iload_n C dX10_isSeason_0 rfl ?_
  refine g_iconst C 0 dX10_isSeason_1 (by rfl) ?_
  refine g_bipush C 19 dX10_isSeason_2 (by rfl) ?_
  refine g_callS C mt_X10_in [.int a, .int 0, .int 19] (c_X10_in de w a 0 19) k_1014 rfl rfl (Nat.le_of_ble_eq_true rfl) (by decide) (by decide) (by decide) (by decide) dX10_isSeason_4 (fun r_4 w_4 hp_4 => ?_)
  obtain ⟨rfl, rfl⟩ := hp_4
  refine g_iret C rfl (bI_nar _) (by decide) (by decide) dX10_isSeason_7 ?_
  exact ⟨rfl, rfl⟩
theorem dX10_off_0 : decode cX10_off 0 = .ok (.iload_n 1, 1) := by decide +kernel
theorem dX10_off_1 : decode cX10_off 1 = .ok (.aload_n 0, 1) := by decide +kernel
theorem dX10_off_2 : decode cX10_off 2 = .ok (.getfield 7, 3) := by decide +kernel
theorem dX10_off_5 : decode cX10_off 5 = .ok (.iload_n 3, 1) := by decide +kernel
theorem dX10_off_6 : decode cX10_off 6 = .ok (.iaload, 1) := by decide +kernel
theorem dX10_off_7 : decode cX10_off 7 = .ok (.isub, 1) := by decide +kernel
theorem dX10_off_8 : decode cX10_off 8 = .ok (.iload_n 1, 1) := by decide +kernel
theorem dX10_off_9 : decode cX10_off 9 = .ok (.aload_n 0, 1) := by decide +kernel
theorem dX10_off_10 : decode cX10_off 10 = .ok (.getfield 7, 3) := by decide +kernel
theorem dX10_off_13 : decode cX10_off 13 = .ok (.iload_n 3, 1) := by decide +kernel
theorem dX10_off_14 : decode cX10_off 14 = .ok (.iaload, 1) := by decide +kernel
theorem dX10_off_15 : decode cX10_off 15 = .ok (.isub, 1) := by decide +kernel
theorem dX10_off_16 : decode cX10_off 16 = .ok (.imul, 1) := by decide +kernel
theorem dX10_off_17 : decode cX10_off 17 = .ok (.iload_n 2, 1) := by decide +kernel
theorem dX10_off_18 : decode cX10_off 18 = .ok (.aload_n 0, 1) := by decide +kernel
theorem dX10_off_19 : decode cX10_off 19 = .ok (.getfield 13, 3) := by decide +kernel
theorem dX10_off_22 : decode cX10_off 22 = .ok (.iload_n 3, 1) := by decide +kernel
theorem dX10_off_23 : decode cX10_off 23 = .ok (.iaload, 1) := by decide +kernel
theorem dX10_off_24 : decode cX10_off 24 = .ok (.isub, 1) := by decide +kernel
theorem dX10_off_25 : decode cX10_off 25 = .ok (.iload_n 2, 1) := by decide +kernel
theorem dX10_off_26 : decode cX10_off 26 = .ok (.aload_n 0, 1) := by decide +kernel
theorem dX10_off_27 : decode cX10_off 27 = .ok (.getfield 13, 3) := by decide +kernel
theorem dX10_off_30 : decode cX10_off 30 = .ok (.iload_n 3, 1) := by decide +kernel
theorem dX10_off_31 : decode cX10_off 31 = .ok (.iaload, 1) := by decide +kernel
theorem dX10_off_32 : decode cX10_off 32 = .ok (.isub, 1) := by decide +kernel
theorem dX10_off_33 : decode cX10_off 33 = .ok (.imul, 1) := by decide +kernel
theorem dX10_off_34 : decode cX10_off 34 = .ok (.iadd, 1) := by decide +kernel
theorem dX10_off_35 : decode cX10_off 35 = .ok (.ireturn, 1) := by decide +kernel
set_option maxHeartbeats 4000000 in
set_option maxRecDepth 100000 in
theorem c_X10_off (de : Nat) (w : Wd) (mo : Nat) (ad : Nat → Nat) (hm : RM w mo ad) (x y : Int32) (k : Nat) (hk : k < 5) : Ct yX10_off cX10_off 4 (some .int) 0 0 0 0 de [.ref mo, .int x, .int y, .int (nI k)] w (fun r w' => r = some (.int (offV (aI w 2010 (ad 1)) (aI w 2020 (ad 2)) x y k)) ∧ w = w') := by
  refine Ct.mk (by decide +kernel) [(0, .ref mo), (1, .int x), (2, .int y), (3, .int (nI k))] rfl (Nat.le_of_ble_eq_true rfl) ?_
  intro p l e R s m args below meth c D cy z C hnm
  refine g_iload_n C dX10_off_0 rfl ?_
  refine g_aload_n C dX10_off_1 rfl ?_
  refine g_getR (b := (ad 1)) C cls_11 12 1 hm.1 (rm_1 hm).1 rfl k_916 dX10_off_2 ?_
  refine g_iload_n C dX10_off_5 rfl ?_
  refine g_iald C 2010 (rm_1 hm).2.1 rfl (by rw [(rm_1 hm).2.2]; exact nI_vp hk (by omega)) dX10_off_6 ?_
  refine g_isub C dX10_off_7 ?_
  refine g_iload_n C dX10_off_8 rfl ?_
  refine g_aload_n C dX10_off_9 rfl ?_
  refine g_getR (b := (ad 1)) C cls_11 12 1 hm.1 (rm_1 hm).1 rfl k_916 dX10_off_10 ?_
  refine g_iload_n C dX10_off_13 rfl ?_
  refine g_iald C 2010 (rm_1 hm).2.1 rfl (by rw [(rm_1 hm).2.2]; exact nI_vp hk (by omega)) dX10_off_14 ?_
  refine g_isub C dX10_off_15 ?_
  refine g_imul C dX10_off_16 ?_
  refine g_iload_n C dX10_off_17 rfl ?_
  refine g_aload_n C dX10_off_18 rfl ?_
  refine g_getR (b := (ad 2)) C cls_11 12 2 hm.1 (rm_2 hm).1 rfl k_917 dX10_off_19 ?_
  refine g_iload_n C dX10_off_22 rfl ?_
  refine g_iald C 2020 (rm_2 hm).2.1 rfl (by rw [(rm_2 hm).2.2]; exact nI_vp hk (by omega)) dX10_off_23 ?_
  refine g_isub C dX10_off_24 ?_
  refine g_iload_n C dX10_off_25 rfl ?_
  refine g_aload_n C dX10_off_26 rfl ?_
  refine g_getR (b := (ad 2)) C cls_11 12 2 hm.1 (rm_2 hm).1 rfl k_917 dX10_off_27 ?_
  refine g_iload_n C dX10_off_30 rfl ?_
  refine g_iald C 2020 (rm_2 hm).2.1 rfl (by rw [(rm_2 hm).2.2]; exact nI_vp hk (by omega)) dX10_off_31 ?_
  refine g_isub C dX10_off_32 ?_
  refine g_imul C dX10_off_33 ?_
  refine g_iadd C dX10_off_34 ?_
  refine g_iret C rfl rfl (by decide) (by decide) dX10_off_35 ?_
  exact ⟨by rw [nI_tn (by omega)]; rfl, rfl⟩
theorem dX10_rainOn_0 : decode cX10_rainOn 0 = .ok (.iconst (-1), 1) := by decide +kernel
theorem dX10_rainOn_1 : decode cX10_rainOn 1 = .ok (.istore 4, 2) := by decide +kernel
theorem dX10_rainOn_3 : decode cX10_rainOn 3 = .ok (.iconst 0, 1) := by decide +kernel
theorem dX10_rainOn_4 : decode cX10_rainOn 4 = .ok (.istore 5, 2) := by decide +kernel
theorem dX10_rainOn_6 : decode cX10_rainOn 6 = .ok (.iload 5, 2) := by decide +kernel
theorem dX10_rainOn_8 : decode cX10_rainOn 8 = .ok (.aload_n 0, 1) := by decide +kernel
theorem dX10_rainOn_9 : decode cX10_rainOn 9 = .ok (.getfield 78, 3) := by decide +kernel
theorem dX10_rainOn_12 : decode cX10_rainOn 12 = .ok (.if_icmp .ge 115, 3) := by decide +kernel
theorem dX10_rainOn_15 : decode cX10_rainOn 15 = .ok (.aload_n 0, 1) := by decide +kernel
theorem dX10_rainOn_16 : decode cX10_rainOn 16 = .ok (.getfield 16, 3) := by decide +kernel
theorem dX10_rainOn_19 : decode cX10_rainOn 19 = .ok (.sipush 1200, 3) := by decide +kernel
theorem dX10_rainOn_22 : decode cX10_rainOn 22 = .ok (.iload 5, 2) := by decide +kernel
theorem dX10_rainOn_24 : decode cX10_rainOn 24 = .ok (.imul, 1) := by decide +kernel
theorem dX10_rainOn_25 : decode cX10_rainOn 25 = .ok (.iload_n 2, 1) := by decide +kernel
theorem dX10_rainOn_26 : decode cX10_rainOn 26 = .ok (.iadd, 1) := by decide +kernel
theorem dX10_rainOn_27 : decode cX10_rainOn 27 = .ok (.iaload, 1) := by decide +kernel
theorem dX10_rainOn_28 : decode cX10_rainOn 28 = .ok (.ifCond .le 7, 3) := by decide +kernel
theorem dX10_rainOn_31 : decode cX10_rainOn 31 = .ok (.iconst 1, 1) := by decide +kernel
theorem dX10_rainOn_32 : decode cX10_rainOn 32 = .ok (.goto 4, 3) := by decide +kernel
theorem dX10_rainOn_35 : decode cX10_rainOn 35 = .ok (.iconst 0, 1) := by decide +kernel
theorem dX10_rainOn_36 : decode cX10_rainOn 36 = .ok (.istore 6, 2) := by decide +kernel
theorem dX10_rainOn_38 : decode cX10_rainOn 38 = .ok (.iload 5, 2) := by decide +kernel
theorem dX10_rainOn_40 : decode cX10_rainOn 40 = .ok (.iload_n 1, 1) := by decide +kernel
theorem dX10_rainOn_41 : decode cX10_rainOn 41 = .ok (.if_icmp .ne 7, 3) := by decide +kernel
theorem dX10_rainOn_44 : decode cX10_rainOn 44 = .ok (.iconst (-1), 1) := by decide +kernel
theorem dX10_rainOn_45 : decode cX10_rainOn 45 = .ok (.goto 21, 3) := by decide +kernel
theorem dX10_rainOn_48 : decode cX10_rainOn 48 = .ok (.aload_n 0, 1) := by decide +kernel
theorem dX10_rainOn_49 : decode cX10_rainOn 49 = .ok (.aload_n 0, 1) := by decide +kernel
theorem dX10_rainOn_50 : decode cX10_rainOn 50 = .ok (.getfield 7, 3) := by decide +kernel
theorem dX10_rainOn_53 : decode cX10_rainOn 53 = .ok (.iload_n 1, 1) := by decide +kernel
theorem dX10_rainOn_54 : decode cX10_rainOn 54 = .ok (.iaload, 1) := by decide +kernel
theorem dX10_rainOn_55 : decode cX10_rainOn 55 = .ok (.aload_n 0, 1) := by decide +kernel
theorem dX10_rainOn_56 : decode cX10_rainOn 56 = .ok (.getfield 13, 3) := by decide +kernel
theorem dX10_rainOn_59 : decode cX10_rainOn 59 = .ok (.iload_n 1, 1) := by decide +kernel
theorem dX10_rainOn_60 : decode cX10_rainOn 60 = .ok (.iaload, 1) := by decide +kernel
theorem dX10_rainOn_61 : decode cX10_rainOn 61 = .ok (.iload 5, 2) := by decide +kernel
theorem dX10_rainOn_63 : decode cX10_rainOn 63 = .ok (.invokevirtual 106, 3) := by decide +kernel
theorem dX10_rainOn_66 : decode cX10_rainOn 66 = .ok (.istore 7, 2) := by decide +kernel
theorem dX10_rainOn_68 : decode cX10_rainOn 68 = .ok (.iload 6, 2) := by decide +kernel
theorem dX10_rainOn_70 : decode cX10_rainOn 70 = .ok (.ifCond .eq 47, 3) := by decide +kernel
theorem dX10_rainOn_73 : decode cX10_rainOn 73 = .ok (.iload 4, 2) := by decide +kernel
theorem dX10_rainOn_75 : decode cX10_rainOn 75 = .ok (.iconst (-1), 1) := by decide +kernel
theorem dX10_rainOn_76 : decode cX10_rainOn 76 = .ok (.if_icmp .eq 36, 3) := by decide +kernel
theorem dX10_rainOn_79 : decode cX10_rainOn 79 = .ok (.iload 7, 2) := by decide +kernel
theorem dX10_rainOn_81 : decode cX10_rainOn 81 = .ok (.iload 4, 2) := by decide +kernel
theorem dX10_rainOn_83 : decode cX10_rainOn 83 = .ok (.iload_n 1, 1) := by decide +kernel
theorem dX10_rainOn_84 : decode cX10_rainOn 84 = .ok (.if_icmp .ne 7, 3) := by decide +kernel
theorem dX10_rainOn_87 : decode cX10_rainOn 87 = .ok (.iconst (-1), 1) := by decide +kernel
theorem dX10_rainOn_88 : decode cX10_rainOn 88 = .ok (.goto 21, 3) := by decide +kernel
theorem dX10_rainOn_91 : decode cX10_rainOn 91 = .ok (.aload_n 0, 1) := by decide +kernel
theorem dX10_rainOn_92 : decode cX10_rainOn 92 = .ok (.aload_n 0, 1) := by decide +kernel
theorem dX10_rainOn_93 : decode cX10_rainOn 93 = .ok (.getfield 7, 3) := by decide +kernel
theorem dX10_rainOn_96 : decode cX10_rainOn 96 = .ok (.iload_n 1, 1) := by decide +kernel
theorem dX10_rainOn_97 : decode cX10_rainOn 97 = .ok (.iaload, 1) := by decide +kernel
theorem dX10_rainOn_98 : decode cX10_rainOn 98 = .ok (.aload_n 0, 1) := by decide +kernel
theorem dX10_rainOn_99 : decode cX10_rainOn 99 = .ok (.getfield 13, 3) := by decide +kernel
theorem dX10_rainOn_102 : decode cX10_rainOn 102 = .ok (.iload_n 1, 1) := by decide +kernel
theorem dX10_rainOn_103 : decode cX10_rainOn 103 = .ok (.iaload, 1) := by decide +kernel
theorem dX10_rainOn_104 : decode cX10_rainOn 104 = .ok (.iload 4, 2) := by decide +kernel
theorem dX10_rainOn_106 : decode cX10_rainOn 106 = .ok (.invokevirtual 106, 3) := by decide +kernel
theorem dX10_rainOn_109 : decode cX10_rainOn 109 = .ok (.if_icmp .ge 8, 3) := by decide +kernel
theorem dX10_rainOn_112 : decode cX10_rainOn 112 = .ok (.iload 5, 2) := by decide +kernel
theorem dX10_rainOn_114 : decode cX10_rainOn 114 = .ok (.goto 5, 3) := by decide +kernel
theorem dX10_rainOn_117 : decode cX10_rainOn 117 = .ok (.iload 4, 2) := by decide +kernel
theorem dX10_rainOn_119 : decode cX10_rainOn 119 = .ok (.istore 4, 2) := by decide +kernel
theorem dX10_rainOn_121 : decode cX10_rainOn 121 = .ok (.iinc 5 1, 3) := by decide +kernel
theorem dX10_rainOn_124 : decode cX10_rainOn 124 = .ok (.goto (-118), 3) := by decide +kernel
theorem dX10_rainOn_127 : decode cX10_rainOn 127 = .ok (.iload 4, 2) := by decide +kernel
theorem dX10_rainOn_129 : decode cX10_rainOn 129 = .ok (.iconst (-1), 1) := by decide +kernel
theorem dX10_rainOn_130 : decode cX10_rainOn 130 = .ok (.if_icmp .ne 7, 3) := by decide +kernel
theorem dX10_rainOn_133 : decode cX10_rainOn 133 = .ok (.iconst 0, 1) := by decide +kernel
theorem dX10_rainOn_134 : decode cX10_rainOn 134 = .ok (.goto 38, 3) := by decide +kernel
theorem dX10_rainOn_137 : decode cX10_rainOn 137 = .ok (.iload_n 3, 1) := by decide +kernel
theorem dX10_rainOn_138 : decode cX10_rainOn 138 = .ok (.ifCond .ne 19, 3) := by decide +kernel
theorem dX10_rainOn_141 : decode cX10_rainOn 141 = .ok (.aload_n 0, 1) := by decide +kernel
theorem dX10_rainOn_142 : decode cX10_rainOn 142 = .ok (.getfield 16, 3) := by decide +kernel
theorem dX10_rainOn_145 : decode cX10_rainOn 145 = .ok (.sipush 1200, 3) := by decide +kernel
theorem dX10_rainOn_148 : decode cX10_rainOn 148 = .ok (.iload 4, 2) := by decide +kernel
theorem dX10_rainOn_150 : decode cX10_rainOn 150 = .ok (.imul, 1) := by decide +kernel
theorem dX10_rainOn_151 : decode cX10_rainOn 151 = .ok (.iload_n 2, 1) := by decide +kernel
theorem dX10_rainOn_152 : decode cX10_rainOn 152 = .ok (.iadd, 1) := by decide +kernel
theorem dX10_rainOn_153 : decode cX10_rainOn 153 = .ok (.iaload, 1) := by decide +kernel
theorem dX10_rainOn_154 : decode cX10_rainOn 154 = .ok (.goto 16, 3) := by decide +kernel
theorem dX10_rainOn_157 : decode cX10_rainOn 157 = .ok (.aload_n 0, 1) := by decide +kernel
theorem dX10_rainOn_158 : decode cX10_rainOn 158 = .ok (.getfield 19, 3) := by decide +kernel
theorem dX10_rainOn_161 : decode cX10_rainOn 161 = .ok (.sipush 1200, 3) := by decide +kernel
theorem dX10_rainOn_164 : decode cX10_rainOn 164 = .ok (.iload 4, 2) := by decide +kernel
theorem dX10_rainOn_166 : decode cX10_rainOn 166 = .ok (.imul, 1) := by decide +kernel
theorem dX10_rainOn_167 : decode cX10_rainOn 167 = .ok (.iload_n 2, 1) := by decide +kernel
theorem dX10_rainOn_168 : decode cX10_rainOn 168 = .ok (.iadd, 1) := by decide +kernel
theorem dX10_rainOn_169 : decode cX10_rainOn 169 = .ok (.iaload, 1) := by decide +kernel
theorem dX10_rainOn_170 : decode cX10_rainOn 170 = .ok (.iconst 1, 1) := by decide +kernel
theorem dX10_rainOn_171 : decode cX10_rainOn 171 = .ok (.isub, 1) := by decide +kernel
theorem dX10_rainOn_172 : decode cX10_rainOn 172 = .ok (.ireturn, 1) := by decide +kernel
set_option maxHeartbeats 4000000 in
set_option maxRecDepth 100000 in
theorem c_X10_rainOn (de : Nat) (w : Wd) (mo : Nat) (ad : Nat → Nat) (hm : RM w mo ad) (nS s0 d : Nat) (kn : Int32) (hS : fI w 12 3 mo = nI nS) (hn5 : nS ≤ 5) (hs : s0 < nS) (hd : d < 1200) : Ct yX10_rainOn cX10_rainOn 8 (some .int) 1 23 0 0 de [.ref mo, .int (nI s0), .int (nI d), .int kn] w (fun r w' => r = some (.int (rrV nS (aI w 2010 (ad 1)) (aI w 2020 (ad 2)) (aI w 2040 (ad 4)) (aI w 2050 (ad 5)) kn d s0)) ∧ w = w') := by
  refine Ct.mk (by decide +kernel) [(0, .ref mo), (1, .int (nI s0)), (2, .int (nI d)), (3, .int kn)] rfl (Nat.le_of_ble_eq_true rfl) ?_
  intro p l e R s m args below meth c D cy z C hnm
  have loop : ∀ (k i : Nat), i + k = nS → G p l e R s m args below meth c D cy z 8 w 0 0 6 [(0, .ref mo), (1, .int (nI s0)), (2, .int (nI d)), (3, .int kn), (4, .int (oI (rnF (fun k => (aI w 2040 (ad 4)) (1200 * k + d)) (byV (aI w 2010 (ad 1)) (aI w 2020 (ad 2)) s0) i))), (5, .int (nI i))] [] (QM below args s D cy z (fun r w' => r = some (.int (rrV nS (aI w 2010 (ad 1)) (aI w 2020 (ad 2)) (aI w 2040 (ad 4)) (aI w 2050 (ad 5)) kn d s0)) ∧ w = w') 0 0) := by
    intro k
    induction k with
    | zero =>
      intro i hik
      have hi : i = nS := by omega
      subst hi
      rcases hnr : rnF (fun k => (aI w 2040 (ad 4)) (1200 * k + d)) (byV (aI w 2010 (ad 1)) (aI w 2020 (ad 2)) s0) i with _ | j
      · refine g_iload C dX10_rainOn_6 rfl ?_
        refine g_aload_n C dX10_rainOn_8 rfl ?_
        refine g_getI C cls_11 12 3 hm.1 rfl k_918 dX10_rainOn_9 ?_
        refine g_icmp_ge C 127 dX10_rainOn_12 (by decide) (fun c_12 => ?_) (fun c_12 => ?_)
        · refine g_iload C dX10_rainOn_127 rfl ?_
          refine g_iconst C (-1) dX10_rainOn_129 (by rfl) ?_
          refine g_icmp_ne C 137 dX10_rainOn_130 (by decide) (fun c_130 => ?_) (fun c_130 => ?_)
          · exact absurd rfl c_130
          · refine g_iconst C 0 dX10_rainOn_133 (by rfl) ?_
            refine g_goto C 172 dX10_rainOn_134 (by decide) ?_
            refine g_iret C rfl rfl (by decide) (by decide) dX10_rainOn_172 ?_
            first
            | exact ⟨congrArg (fun v => some (Value.int v)) (rrV_0 hnr).symm, rfl⟩
            | exact absurd rfl c_130
        · exact absurd (by rw [hS]; exact nI_le (Nat.le_refl _) (by omega)) c_12
      · have hj := rnF_lt hnr
        rw [oI_s]
        refine g_iload C dX10_rainOn_6 rfl ?_
        refine g_aload_n C dX10_rainOn_8 rfl ?_
        refine g_getI C cls_11 12 3 hm.1 rfl k_918 dX10_rainOn_9 ?_
        refine g_icmp_ge C 127 dX10_rainOn_12 (by decide) (fun c_12 => ?_) (fun c_12 => ?_)
        · refine g_iload C dX10_rainOn_127 rfl ?_
          refine g_iconst C (-1) dX10_rainOn_129 (by rfl) ?_
          refine g_icmp_ne C 137 dX10_rainOn_130 (by decide) (fun c_130 => ?_) (fun c_130 => ?_)
          · refine g_iload_n C dX10_rainOn_137 rfl ?_
            refine g_if_ne C 157 dX10_rainOn_138 (by decide) (fun c_138 => ?_) (fun c_138 => ?_)
            · refine g_aload_n C dX10_rainOn_157 rfl ?_
              refine g_getR (b := (ad 5)) C cls_11 12 5 hm.1 (rm_5 hm).1 rfl k_920 dX10_rainOn_158 ?_
              refine g_sipush C 1200 dX10_rainOn_161 (by rfl) ?_
              refine g_iload C dX10_rainOn_164 rfl ?_
              refine g_imul C dX10_rainOn_166 ?_
              refine g_iload_n C dX10_rainOn_167 rfl ?_
              refine g_iadd C dX10_rainOn_168 ?_
              rw [ix_1200]
              refine g_iald C 2050 (rm_5 hm).2.1 rfl (by rw [(rm_5 hm).2.2]; exact nI_vp (show 1200 * j + d < 6000 by omega) (by omega)) dX10_rainOn_169 ?_
              refine g_iconst C 1 dX10_rainOn_170 (by rfl) ?_
              refine g_isub C dX10_rainOn_171 ?_
              refine g_iret C rfl rfl (by decide) (by decide) dX10_rainOn_172 ?_
              first
              | exact ⟨congrArg (fun v => some (Value.int v)) (by rw [rrV_1 hnr, if_pos c_138]), rfl⟩
              | exact ⟨congrArg (fun v => some (Value.int v)) (by rw [rrV_1 hnr, if_neg c_138, nI_tn (by omega)]), rfl⟩
            · refine g_aload_n C dX10_rainOn_141 rfl ?_
              refine g_getR (b := (ad 4)) C cls_11 12 4 hm.1 (rm_4 hm).1 rfl k_919 dX10_rainOn_142 ?_
              refine g_sipush C 1200 dX10_rainOn_145 (by rfl) ?_
              refine g_iload C dX10_rainOn_148 rfl ?_
              refine g_imul C dX10_rainOn_150 ?_
              refine g_iload_n C dX10_rainOn_151 rfl ?_
              refine g_iadd C dX10_rainOn_152 ?_
              rw [ix_1200]
              refine g_iald C 2040 (rm_4 hm).2.1 rfl (by rw [(rm_4 hm).2.2]; exact nI_vp (show 1200 * j + d < 6000 by omega) (by omega)) dX10_rainOn_153 ?_
              rw [nI_tn (by omega)]
              refine g_goto C 170 dX10_rainOn_154 (by decide) ?_
              refine g_iconst C 1 dX10_rainOn_170 (by rfl) ?_
              refine g_isub C dX10_rainOn_171 ?_
              refine g_iret C rfl rfl (by decide) (by decide) dX10_rainOn_172 ?_
              first
              | exact ⟨congrArg (fun v => some (Value.int v)) (by rw [rrV_1 hnr, if_pos c_138]), rfl⟩
              | exact ⟨congrArg (fun v => some (Value.int v)) (by rw [rrV_1 hnr, if_neg c_138, nI_tn (by omega)]), rfl⟩
          · exact absurd c_130 (show ¬ nI j = -1 from fun z => nI_pos (n := j) (by omega) (by rw [z]; decide))
        · exact absurd (by rw [hS]; exact nI_le (Nat.le_refl _) (by omega)) c_12
    | succ k ih =>
      intro i hik
      have hi : i < nS := by omega
      rcases hnr : rnF (fun k => (aI w 2040 (ad 4)) (1200 * k + d)) (byV (aI w 2010 (ad 1)) (aI w 2020 (ad 2)) s0) i with _ | j
      · refine g_iload C dX10_rainOn_6 rfl ?_
        refine g_aload_n C dX10_rainOn_8 rfl ?_
        refine g_getI C cls_11 12 3 hm.1 rfl k_918 dX10_rainOn_9 ?_
        refine g_icmp_ge C 127 dX10_rainOn_12 (by decide) (fun c_12 => ?_) (fun c_12 => ?_)
        · exact absurd (show nI nS ≤ nI i by rw [hS] at c_12; exact c_12) (nI_ge hi (by omega))
        · refine g_aload_n C dX10_rainOn_15 rfl ?_
          refine g_getR (b := (ad 4)) C cls_11 12 4 hm.1 (rm_4 hm).1 rfl k_919 dX10_rainOn_16 ?_
          refine g_sipush C 1200 dX10_rainOn_19 (by rfl) ?_
          refine g_iload C dX10_rainOn_22 rfl ?_
          refine g_imul C dX10_rainOn_24 ?_
          refine g_iload_n C dX10_rainOn_25 rfl ?_
          refine g_iadd C dX10_rainOn_26 ?_
          rw [ix_1200]
          refine g_iald C 2040 (rm_4 hm).2.1 rfl (by rw [(rm_4 hm).2.2]; exact nI_vp (show 1200 * i + d < 6000 by omega) (by omega)) dX10_rainOn_27 ?_
          rw [nI_tn (by omega)]
          refine g_if_le C 35 dX10_rainOn_28 (by decide) (fun c_28 => ?_) (fun c_28 => ?_)
          · refine g_iconst C 0 dX10_rainOn_35 (by rfl) ?_
            refine g_istore C dX10_rainOn_36 (by decide) ?_
            refine g_iload C dX10_rainOn_38 rfl ?_
            refine g_iload_n C dX10_rainOn_40 rfl ?_
            refine g_icmp_ne C 48 dX10_rainOn_41 (by decide) (fun c_41 => ?_) (fun c_41 => ?_)
            · refine g_aload_n C dX10_rainOn_48 rfl ?_
              refine g_aload_n C dX10_rainOn_49 rfl ?_
              refine g_getR (b := (ad 1)) C cls_11 12 1 hm.1 (rm_1 hm).1 rfl k_916 dX10_rainOn_50 ?_
              refine g_iload_n C dX10_rainOn_53 rfl ?_
              refine g_iald C 2010 (rm_1 hm).2.1 rfl (by rw [(rm_1 hm).2.2]; exact nI_vp (show s0 < 5 by omega) (by omega)) dX10_rainOn_54 ?_
              refine g_aload_n C dX10_rainOn_55 rfl ?_
              refine g_getR (b := (ad 2)) C cls_11 12 2 hm.1 (rm_2 hm).1 rfl k_917 dX10_rainOn_56 ?_
              refine g_iload_n C dX10_rainOn_59 rfl ?_
              refine g_iald C 2020 (rm_2 hm).2.1 rfl (by rw [(rm_2 hm).2.2]; exact nI_vp (show s0 < 5 by omega) (by omega)) dX10_rainOn_60 ?_
              refine g_iload C dX10_rainOn_61 rfl ?_
              simp only [nI_tn (show s0 ≤ 100000 by omega)]
              refine g_callV C cls_11 12 mt_X10_off [.int ((aI w 2010 (ad 1)) s0), .int ((aI w 2020 (ad 2)) s0), .int (nI i)] (c_X10_off de w mo ad hm ((aI w 2010 (ad 1)) s0) ((aI w 2020 (ad 2)) s0) i (by omega)) hm.1 (by decide) k_1045 rfl rfl (Nat.le_of_ble_eq_true rfl) (by decide) (by decide) (by decide) (by decide) dX10_rainOn_63 (fun r_63 w_63 hp_63 => ?_)
              obtain ⟨rfl, rfl⟩ := hp_63
              refine g_istore C dX10_rainOn_66 (by decide) ?_
              refine g_iload C dX10_rainOn_68 rfl ?_
              refine g_if_eq C 117 dX10_rainOn_70 (by decide) (fun c_70 => ?_) (fun c_70 => ?_)
              · refine g_iload C dX10_rainOn_117 rfl ?_
                refine g_istore C dX10_rainOn_119 (by decide) ?_
                refine g_iinc C dX10_rainOn_121 rfl (nI_1 i) (by decide) ?_
                refine g_goto C 6 dX10_rainOn_124 (by decide) ?_
                have e9 := rnF_0 (bv := (byV (aI w 2010 (ad 1)) (aI w 2020 (ad 2)) s0)) (has := (fun k => (aI w 2040 (ad 4)) (1200 * k + d))) (Int32.not_lt.mpr c_28)
                have h9 := ih (i + 1) (by omega)
                rw [e9, hnr] at h9
                exact g_lv2 [(0, .ref mo), (1, .int (nI s0)), (2, .int (nI d)), (3, .int kn), (4, .int (-1)), (5, .int (nI (i + 1)))] rfl h9
              · exact absurd c_70 (by decide)
            · refine g_iconst C (-1) dX10_rainOn_44 (by rfl) ?_
              refine g_goto C 66 dX10_rainOn_45 (by decide) ?_
              refine g_istore C dX10_rainOn_66 (by decide) ?_
              refine g_iload C dX10_rainOn_68 rfl ?_
              refine g_if_eq C 117 dX10_rainOn_70 (by decide) (fun c_70 => ?_) (fun c_70 => ?_)
              · refine g_iload C dX10_rainOn_117 rfl ?_
                refine g_istore C dX10_rainOn_119 (by decide) ?_
                refine g_iinc C dX10_rainOn_121 rfl (nI_1 i) (by decide) ?_
                refine g_goto C 6 dX10_rainOn_124 (by decide) ?_
                have e9 := rnF_0 (bv := (byV (aI w 2010 (ad 1)) (aI w 2020 (ad 2)) s0)) (has := (fun k => (aI w 2040 (ad 4)) (1200 * k + d))) (Int32.not_lt.mpr c_28)
                have h9 := ih (i + 1) (by omega)
                rw [e9, hnr] at h9
                exact g_lv2 [(0, .ref mo), (1, .int (nI s0)), (2, .int (nI d)), (3, .int kn), (4, .int (-1)), (5, .int (nI (i + 1)))] rfl h9
              · exact absurd c_70 (by decide)
          · refine g_iconst C 1 dX10_rainOn_31 (by rfl) ?_
            refine g_goto C 36 dX10_rainOn_32 (by decide) ?_
            refine g_istore C dX10_rainOn_36 (by decide) ?_
            refine g_iload C dX10_rainOn_38 rfl ?_
            refine g_iload_n C dX10_rainOn_40 rfl ?_
            refine g_icmp_ne C 48 dX10_rainOn_41 (by decide) (fun c_41 => ?_) (fun c_41 => ?_)
            · refine g_aload_n C dX10_rainOn_48 rfl ?_
              refine g_aload_n C dX10_rainOn_49 rfl ?_
              refine g_getR (b := (ad 1)) C cls_11 12 1 hm.1 (rm_1 hm).1 rfl k_916 dX10_rainOn_50 ?_
              refine g_iload_n C dX10_rainOn_53 rfl ?_
              refine g_iald C 2010 (rm_1 hm).2.1 rfl (by rw [(rm_1 hm).2.2]; exact nI_vp (show s0 < 5 by omega) (by omega)) dX10_rainOn_54 ?_
              refine g_aload_n C dX10_rainOn_55 rfl ?_
              refine g_getR (b := (ad 2)) C cls_11 12 2 hm.1 (rm_2 hm).1 rfl k_917 dX10_rainOn_56 ?_
              refine g_iload_n C dX10_rainOn_59 rfl ?_
              refine g_iald C 2020 (rm_2 hm).2.1 rfl (by rw [(rm_2 hm).2.2]; exact nI_vp (show s0 < 5 by omega) (by omega)) dX10_rainOn_60 ?_
              refine g_iload C dX10_rainOn_61 rfl ?_
              simp only [nI_tn (show s0 ≤ 100000 by omega)]
              refine g_callV C cls_11 12 mt_X10_off [.int ((aI w 2010 (ad 1)) s0), .int ((aI w 2020 (ad 2)) s0), .int (nI i)] (c_X10_off de w mo ad hm ((aI w 2010 (ad 1)) s0) ((aI w 2020 (ad 2)) s0) i (by omega)) hm.1 (by decide) k_1045 rfl rfl (Nat.le_of_ble_eq_true rfl) (by decide) (by decide) (by decide) (by decide) dX10_rainOn_63 (fun r_63 w_63 hp_63 => ?_)
              obtain ⟨rfl, rfl⟩ := hp_63
              refine g_istore C dX10_rainOn_66 (by decide) ?_
              refine g_iload C dX10_rainOn_68 rfl ?_
              refine g_if_eq C 117 dX10_rainOn_70 (by decide) (fun c_70 => ?_) (fun c_70 => ?_)
              · exact absurd c_70 (by decide)
              · refine g_iload C dX10_rainOn_73 rfl ?_
                refine g_iconst C (-1) dX10_rainOn_75 (by rfl) ?_
                refine g_icmp_eq C 112 dX10_rainOn_76 (by decide) (fun c_76 => ?_) (fun c_76 => ?_)
                · refine g_iload C dX10_rainOn_112 rfl ?_
                  refine g_goto C 119 dX10_rainOn_114 (by decide) ?_
                  refine g_istore C dX10_rainOn_119 (by decide) ?_
                  refine g_iinc C dX10_rainOn_121 rfl (nI_1 i) (by decide) ?_
                  refine g_goto C 6 dX10_rainOn_124 (by decide) ?_
                  have e9 := rnF_1 (bv := (byV (aI w 2010 (ad 1)) (aI w 2020 (ad 2)) s0)) (has := (fun k => (aI w 2040 (ad 4)) (1200 * k + d))) (Int32.not_le.mp c_28) hnr
                  have h9 := ih (i + 1) (by omega)
                  rw [e9] at h9
                  exact g_lv2 [(0, .ref mo), (1, .int (nI s0)), (2, .int (nI d)), (3, .int kn), (4, .int (nI i)), (5, .int (nI (i + 1)))] rfl h9
                · exact absurd rfl c_76
            · refine g_iconst C (-1) dX10_rainOn_44 (by rfl) ?_
              refine g_goto C 66 dX10_rainOn_45 (by decide) ?_
              refine g_istore C dX10_rainOn_66 (by decide) ?_
              refine g_iload C dX10_rainOn_68 rfl ?_
              refine g_if_eq C 117 dX10_rainOn_70 (by decide) (fun c_70 => ?_) (fun c_70 => ?_)
              · exact absurd c_70 (by decide)
              · refine g_iload C dX10_rainOn_73 rfl ?_
                refine g_iconst C (-1) dX10_rainOn_75 (by rfl) ?_
                refine g_icmp_eq C 112 dX10_rainOn_76 (by decide) (fun c_76 => ?_) (fun c_76 => ?_)
                · refine g_iload C dX10_rainOn_112 rfl ?_
                  refine g_goto C 119 dX10_rainOn_114 (by decide) ?_
                  refine g_istore C dX10_rainOn_119 (by decide) ?_
                  refine g_iinc C dX10_rainOn_121 rfl (nI_1 i) (by decide) ?_
                  refine g_goto C 6 dX10_rainOn_124 (by decide) ?_
                  have e9 := rnF_1 (bv := (byV (aI w 2010 (ad 1)) (aI w 2020 (ad 2)) s0)) (has := (fun k => (aI w 2040 (ad 4)) (1200 * k + d))) (Int32.not_le.mp c_28) hnr
                  have h9 := ih (i + 1) (by omega)
                  rw [e9] at h9
                  exact g_lv2 [(0, .ref mo), (1, .int (nI s0)), (2, .int (nI d)), (3, .int kn), (4, .int (nI i)), (5, .int (nI (i + 1)))] rfl h9
                · exact absurd rfl c_76
      · have hj := rnF_lt hnr
        rw [oI_s]
        refine g_iload C dX10_rainOn_6 rfl ?_
        refine g_aload_n C dX10_rainOn_8 rfl ?_
        refine g_getI C cls_11 12 3 hm.1 rfl k_918 dX10_rainOn_9 ?_
        refine g_icmp_ge C 127 dX10_rainOn_12 (by decide) (fun c_12 => ?_) (fun c_12 => ?_)
        · exact absurd (show nI nS ≤ nI i by rw [hS] at c_12; exact c_12) (nI_ge hi (by omega))
        · refine g_aload_n C dX10_rainOn_15 rfl ?_
          refine g_getR (b := (ad 4)) C cls_11 12 4 hm.1 (rm_4 hm).1 rfl k_919 dX10_rainOn_16 ?_
          refine g_sipush C 1200 dX10_rainOn_19 (by rfl) ?_
          refine g_iload C dX10_rainOn_22 rfl ?_
          refine g_imul C dX10_rainOn_24 ?_
          refine g_iload_n C dX10_rainOn_25 rfl ?_
          refine g_iadd C dX10_rainOn_26 ?_
          rw [ix_1200]
          refine g_iald C 2040 (rm_4 hm).2.1 rfl (by rw [(rm_4 hm).2.2]; exact nI_vp (show 1200 * i + d < 6000 by omega) (by omega)) dX10_rainOn_27 ?_
          rw [nI_tn (by omega)]
          refine g_if_le C 35 dX10_rainOn_28 (by decide) (fun c_28 => ?_) (fun c_28 => ?_)
          · refine g_iconst C 0 dX10_rainOn_35 (by rfl) ?_
            refine g_istore C dX10_rainOn_36 (by decide) ?_
            refine g_iload C dX10_rainOn_38 rfl ?_
            refine g_iload_n C dX10_rainOn_40 rfl ?_
            refine g_icmp_ne C 48 dX10_rainOn_41 (by decide) (fun c_41 => ?_) (fun c_41 => ?_)
            · refine g_aload_n C dX10_rainOn_48 rfl ?_
              refine g_aload_n C dX10_rainOn_49 rfl ?_
              refine g_getR (b := (ad 1)) C cls_11 12 1 hm.1 (rm_1 hm).1 rfl k_916 dX10_rainOn_50 ?_
              refine g_iload_n C dX10_rainOn_53 rfl ?_
              refine g_iald C 2010 (rm_1 hm).2.1 rfl (by rw [(rm_1 hm).2.2]; exact nI_vp (show s0 < 5 by omega) (by omega)) dX10_rainOn_54 ?_
              refine g_aload_n C dX10_rainOn_55 rfl ?_
              refine g_getR (b := (ad 2)) C cls_11 12 2 hm.1 (rm_2 hm).1 rfl k_917 dX10_rainOn_56 ?_
              refine g_iload_n C dX10_rainOn_59 rfl ?_
              refine g_iald C 2020 (rm_2 hm).2.1 rfl (by rw [(rm_2 hm).2.2]; exact nI_vp (show s0 < 5 by omega) (by omega)) dX10_rainOn_60 ?_
              refine g_iload C dX10_rainOn_61 rfl ?_
              simp only [nI_tn (show s0 ≤ 100000 by omega)]
              refine g_callV C cls_11 12 mt_X10_off [.int ((aI w 2010 (ad 1)) s0), .int ((aI w 2020 (ad 2)) s0), .int (nI i)] (c_X10_off de w mo ad hm ((aI w 2010 (ad 1)) s0) ((aI w 2020 (ad 2)) s0) i (by omega)) hm.1 (by decide) k_1045 rfl rfl (Nat.le_of_ble_eq_true rfl) (by decide) (by decide) (by decide) (by decide) dX10_rainOn_63 (fun r_63 w_63 hp_63 => ?_)
              obtain ⟨rfl, rfl⟩ := hp_63
              refine g_istore C dX10_rainOn_66 (by decide) ?_
              refine g_iload C dX10_rainOn_68 rfl ?_
              refine g_if_eq C 117 dX10_rainOn_70 (by decide) (fun c_70 => ?_) (fun c_70 => ?_)
              · refine g_iload C dX10_rainOn_117 rfl ?_
                refine g_istore C dX10_rainOn_119 (by decide) ?_
                refine g_iinc C dX10_rainOn_121 rfl (nI_1 i) (by decide) ?_
                refine g_goto C 6 dX10_rainOn_124 (by decide) ?_
                have e9 := rnF_0 (bv := (byV (aI w 2010 (ad 1)) (aI w 2020 (ad 2)) s0)) (has := (fun k => (aI w 2040 (ad 4)) (1200 * k + d))) (Int32.not_lt.mpr c_28)
                have h9 := ih (i + 1) (by omega)
                rw [e9, hnr] at h9
                exact g_lv2 [(0, .ref mo), (1, .int (nI s0)), (2, .int (nI d)), (3, .int kn), (4, .int (nI j)), (5, .int (nI (i + 1)))] rfl h9
              · exact absurd c_70 (by decide)
            · refine g_iconst C (-1) dX10_rainOn_44 (by rfl) ?_
              refine g_goto C 66 dX10_rainOn_45 (by decide) ?_
              refine g_istore C dX10_rainOn_66 (by decide) ?_
              refine g_iload C dX10_rainOn_68 rfl ?_
              refine g_if_eq C 117 dX10_rainOn_70 (by decide) (fun c_70 => ?_) (fun c_70 => ?_)
              · refine g_iload C dX10_rainOn_117 rfl ?_
                refine g_istore C dX10_rainOn_119 (by decide) ?_
                refine g_iinc C dX10_rainOn_121 rfl (nI_1 i) (by decide) ?_
                refine g_goto C 6 dX10_rainOn_124 (by decide) ?_
                have e9 := rnF_0 (bv := (byV (aI w 2010 (ad 1)) (aI w 2020 (ad 2)) s0)) (has := (fun k => (aI w 2040 (ad 4)) (1200 * k + d))) (Int32.not_lt.mpr c_28)
                have h9 := ih (i + 1) (by omega)
                rw [e9, hnr] at h9
                exact g_lv2 [(0, .ref mo), (1, .int (nI s0)), (2, .int (nI d)), (3, .int kn), (4, .int (nI j)), (5, .int (nI (i + 1)))] rfl h9
              · exact absurd c_70 (by decide)
          · refine g_iconst C 1 dX10_rainOn_31 (by rfl) ?_
            refine g_goto C 36 dX10_rainOn_32 (by decide) ?_
            refine g_istore C dX10_rainOn_36 (by decide) ?_
            refine g_iload C dX10_rainOn_38 rfl ?_
            refine g_iload_n C dX10_rainOn_40 rfl ?_
            refine g_icmp_ne C 48 dX10_rainOn_41 (by decide) (fun c_41 => ?_) (fun c_41 => ?_)
            · refine g_aload_n C dX10_rainOn_48 rfl ?_
              refine g_aload_n C dX10_rainOn_49 rfl ?_
              refine g_getR (b := (ad 1)) C cls_11 12 1 hm.1 (rm_1 hm).1 rfl k_916 dX10_rainOn_50 ?_
              refine g_iload_n C dX10_rainOn_53 rfl ?_
              refine g_iald C 2010 (rm_1 hm).2.1 rfl (by rw [(rm_1 hm).2.2]; exact nI_vp (show s0 < 5 by omega) (by omega)) dX10_rainOn_54 ?_
              refine g_aload_n C dX10_rainOn_55 rfl ?_
              refine g_getR (b := (ad 2)) C cls_11 12 2 hm.1 (rm_2 hm).1 rfl k_917 dX10_rainOn_56 ?_
              refine g_iload_n C dX10_rainOn_59 rfl ?_
              refine g_iald C 2020 (rm_2 hm).2.1 rfl (by rw [(rm_2 hm).2.2]; exact nI_vp (show s0 < 5 by omega) (by omega)) dX10_rainOn_60 ?_
              refine g_iload C dX10_rainOn_61 rfl ?_
              simp only [nI_tn (show s0 ≤ 100000 by omega)]
              refine g_callV C cls_11 12 mt_X10_off [.int ((aI w 2010 (ad 1)) s0), .int ((aI w 2020 (ad 2)) s0), .int (nI i)] (c_X10_off de w mo ad hm ((aI w 2010 (ad 1)) s0) ((aI w 2020 (ad 2)) s0) i (by omega)) hm.1 (by decide) k_1045 rfl rfl (Nat.le_of_ble_eq_true rfl) (by decide) (by decide) (by decide) (by decide) dX10_rainOn_63 (fun r_63 w_63 hp_63 => ?_)
              obtain ⟨rfl, rfl⟩ := hp_63
              refine g_istore C dX10_rainOn_66 (by decide) ?_
              refine g_iload C dX10_rainOn_68 rfl ?_
              refine g_if_eq C 117 dX10_rainOn_70 (by decide) (fun c_70 => ?_) (fun c_70 => ?_)
              · exact absurd c_70 (by decide)
              · refine g_iload C dX10_rainOn_73 rfl ?_
                refine g_iconst C (-1) dX10_rainOn_75 (by rfl) ?_
                refine g_icmp_eq C 112 dX10_rainOn_76 (by decide) (fun c_76 => ?_) (fun c_76 => ?_)
                · refine g_iload C dX10_rainOn_112 rfl ?_
                  refine g_goto C 119 dX10_rainOn_114 (by decide) ?_
                  refine g_istore C dX10_rainOn_119 (by decide) ?_
                  refine g_iinc C dX10_rainOn_121 rfl (nI_1 i) (by decide) ?_
                  refine g_goto C 6 dX10_rainOn_124 (by decide) ?_
                  exact absurd c_76 (show ¬ nI j = -1 from fun z => nI_pos (n := j) (by omega) (by rw [z]; decide))
                · refine g_iload C dX10_rainOn_79 rfl ?_
                  refine g_iload C dX10_rainOn_81 rfl ?_
                  refine g_iload_n C dX10_rainOn_83 rfl ?_
                  refine g_icmp_ne C 91 dX10_rainOn_84 (by decide) (fun c_84 => ?_) (fun c_84 => ?_)
                  · refine g_aload_n C dX10_rainOn_91 rfl ?_
                    refine g_aload_n C dX10_rainOn_92 rfl ?_
                    refine g_getR (b := (ad 1)) C cls_11 12 1 hm.1 (rm_1 hm).1 rfl k_916 dX10_rainOn_93 ?_
                    refine g_iload_n C dX10_rainOn_96 rfl ?_
                    refine g_iald C 2010 (rm_1 hm).2.1 rfl (by rw [(rm_1 hm).2.2]; exact nI_vp (show s0 < 5 by omega) (by omega)) dX10_rainOn_97 ?_
                    refine g_aload_n C dX10_rainOn_98 rfl ?_
                    refine g_getR (b := (ad 2)) C cls_11 12 2 hm.1 (rm_2 hm).1 rfl k_917 dX10_rainOn_99 ?_
                    refine g_iload_n C dX10_rainOn_102 rfl ?_
                    refine g_iald C 2020 (rm_2 hm).2.1 rfl (by rw [(rm_2 hm).2.2]; exact nI_vp (show s0 < 5 by omega) (by omega)) dX10_rainOn_103 ?_
                    refine g_iload C dX10_rainOn_104 rfl ?_
                    simp only [nI_tn (show s0 ≤ 100000 by omega)]
                    refine g_callV C cls_11 12 mt_X10_off [.int ((aI w 2010 (ad 1)) s0), .int ((aI w 2020 (ad 2)) s0), .int (nI j)] (c_X10_off de w mo ad hm ((aI w 2010 (ad 1)) s0) ((aI w 2020 (ad 2)) s0) j (by omega)) hm.1 (by decide) k_1045 rfl rfl (Nat.le_of_ble_eq_true rfl) (by decide) (by decide) (by decide) (by decide) dX10_rainOn_106 (fun r_106 w_106 hp_106 => ?_)
                    obtain ⟨rfl, rfl⟩ := hp_106
                    refine g_icmp_ge C 117 dX10_rainOn_109 (by decide) (fun c_109 => ?_) (fun c_109 => ?_)
                    · refine g_iload C dX10_rainOn_117 rfl ?_
                      refine g_istore C dX10_rainOn_119 (by decide) ?_
                      refine g_iinc C dX10_rainOn_121 rfl (nI_1 i) (by decide) ?_
                      refine g_goto C 6 dX10_rainOn_124 (by decide) ?_
                      have e9 := rnF_3 (bv := (byV (aI w 2010 (ad 1)) (aI w 2020 (ad 2)) s0)) (has := (fun k => (aI w 2040 (ad 4)) (1200 * k + d))) (Int32.not_le.mp c_28) hnr (by rw [show (byV (aI w 2010 (ad 1)) (aI w 2020 (ad 2)) s0) i = _ from (if_neg (fun z => c_41 (by rw [z]))), show (byV (aI w 2010 (ad 1)) (aI w 2020 (ad 2)) s0) j = _ from (if_neg (fun z => c_84 (by rw [z])))]; exact Int32.not_lt.mpr c_109)
                      have h9 := ih (i + 1) (by omega)
                      rw [e9] at h9
                      exact g_lv2 [(0, .ref mo), (1, .int (nI s0)), (2, .int (nI d)), (3, .int kn), (4, .int (nI j)), (5, .int (nI (i + 1)))] rfl h9
                    · refine g_iload C dX10_rainOn_112 rfl ?_
                      refine g_goto C 119 dX10_rainOn_114 (by decide) ?_
                      refine g_istore C dX10_rainOn_119 (by decide) ?_
                      refine g_iinc C dX10_rainOn_121 rfl (nI_1 i) (by decide) ?_
                      refine g_goto C 6 dX10_rainOn_124 (by decide) ?_
                      have e9 := rnF_2 (bv := (byV (aI w 2010 (ad 1)) (aI w 2020 (ad 2)) s0)) (has := (fun k => (aI w 2040 (ad 4)) (1200 * k + d))) (Int32.not_le.mp c_28) hnr (by rw [show (byV (aI w 2010 (ad 1)) (aI w 2020 (ad 2)) s0) i = _ from (if_neg (fun z => c_41 (by rw [z]))), show (byV (aI w 2010 (ad 1)) (aI w 2020 (ad 2)) s0) j = _ from (if_neg (fun z => c_84 (by rw [z])))]; exact Int32.not_le.mp c_109)
                      have h9 := ih (i + 1) (by omega)
                      rw [e9] at h9
                      exact g_lv2 [(0, .ref mo), (1, .int (nI s0)), (2, .int (nI d)), (3, .int kn), (4, .int (nI i)), (5, .int (nI (i + 1)))] rfl h9
                  · refine g_iconst C (-1) dX10_rainOn_87 (by rfl) ?_
                    refine g_goto C 109 dX10_rainOn_88 (by decide) ?_
                    refine g_icmp_ge C 117 dX10_rainOn_109 (by decide) (fun c_109 => ?_) (fun c_109 => ?_)
                    · refine g_iload C dX10_rainOn_117 rfl ?_
                      refine g_istore C dX10_rainOn_119 (by decide) ?_
                      refine g_iinc C dX10_rainOn_121 rfl (nI_1 i) (by decide) ?_
                      refine g_goto C 6 dX10_rainOn_124 (by decide) ?_
                      have e9 := rnF_3 (bv := (byV (aI w 2010 (ad 1)) (aI w 2020 (ad 2)) s0)) (has := (fun k => (aI w 2040 (ad 4)) (1200 * k + d))) (Int32.not_le.mp c_28) hnr (by rw [show (byV (aI w 2010 (ad 1)) (aI w 2020 (ad 2)) s0) i = _ from (if_neg (fun z => c_41 (by rw [z]))), show (byV (aI w 2010 (ad 1)) (aI w 2020 (ad 2)) s0) j = _ from (if_pos ((nI_eq (by omega) (by omega)).mp c_84))]; exact Int32.not_lt.mpr c_109)
                      have h9 := ih (i + 1) (by omega)
                      rw [e9] at h9
                      exact g_lv2 [(0, .ref mo), (1, .int (nI s0)), (2, .int (nI d)), (3, .int kn), (4, .int (nI j)), (5, .int (nI (i + 1)))] rfl h9
                    · refine g_iload C dX10_rainOn_112 rfl ?_
                      refine g_goto C 119 dX10_rainOn_114 (by decide) ?_
                      refine g_istore C dX10_rainOn_119 (by decide) ?_
                      refine g_iinc C dX10_rainOn_121 rfl (nI_1 i) (by decide) ?_
                      refine g_goto C 6 dX10_rainOn_124 (by decide) ?_
                      have e9 := rnF_2 (bv := (byV (aI w 2010 (ad 1)) (aI w 2020 (ad 2)) s0)) (has := (fun k => (aI w 2040 (ad 4)) (1200 * k + d))) (Int32.not_le.mp c_28) hnr (by rw [show (byV (aI w 2010 (ad 1)) (aI w 2020 (ad 2)) s0) i = _ from (if_neg (fun z => c_41 (by rw [z]))), show (byV (aI w 2010 (ad 1)) (aI w 2020 (ad 2)) s0) j = _ from (if_pos ((nI_eq (by omega) (by omega)).mp c_84))]; exact Int32.not_le.mp c_109)
                      have h9 := ih (i + 1) (by omega)
                      rw [e9] at h9
                      exact g_lv2 [(0, .ref mo), (1, .int (nI s0)), (2, .int (nI d)), (3, .int kn), (4, .int (nI i)), (5, .int (nI (i + 1)))] rfl h9
            · refine g_iconst C (-1) dX10_rainOn_44 (by rfl) ?_
              refine g_goto C 66 dX10_rainOn_45 (by decide) ?_
              refine g_istore C dX10_rainOn_66 (by decide) ?_
              refine g_iload C dX10_rainOn_68 rfl ?_
              refine g_if_eq C 117 dX10_rainOn_70 (by decide) (fun c_70 => ?_) (fun c_70 => ?_)
              · exact absurd c_70 (by decide)
              · refine g_iload C dX10_rainOn_73 rfl ?_
                refine g_iconst C (-1) dX10_rainOn_75 (by rfl) ?_
                refine g_icmp_eq C 112 dX10_rainOn_76 (by decide) (fun c_76 => ?_) (fun c_76 => ?_)
                · refine g_iload C dX10_rainOn_112 rfl ?_
                  refine g_goto C 119 dX10_rainOn_114 (by decide) ?_
                  refine g_istore C dX10_rainOn_119 (by decide) ?_
                  refine g_iinc C dX10_rainOn_121 rfl (nI_1 i) (by decide) ?_
                  refine g_goto C 6 dX10_rainOn_124 (by decide) ?_
                  exact absurd c_76 (show ¬ nI j = -1 from fun z => nI_pos (n := j) (by omega) (by rw [z]; decide))
                · refine g_iload C dX10_rainOn_79 rfl ?_
                  refine g_iload C dX10_rainOn_81 rfl ?_
                  refine g_iload_n C dX10_rainOn_83 rfl ?_
                  refine g_icmp_ne C 91 dX10_rainOn_84 (by decide) (fun c_84 => ?_) (fun c_84 => ?_)
                  · refine g_aload_n C dX10_rainOn_91 rfl ?_
                    refine g_aload_n C dX10_rainOn_92 rfl ?_
                    refine g_getR (b := (ad 1)) C cls_11 12 1 hm.1 (rm_1 hm).1 rfl k_916 dX10_rainOn_93 ?_
                    refine g_iload_n C dX10_rainOn_96 rfl ?_
                    refine g_iald C 2010 (rm_1 hm).2.1 rfl (by rw [(rm_1 hm).2.2]; exact nI_vp (show s0 < 5 by omega) (by omega)) dX10_rainOn_97 ?_
                    refine g_aload_n C dX10_rainOn_98 rfl ?_
                    refine g_getR (b := (ad 2)) C cls_11 12 2 hm.1 (rm_2 hm).1 rfl k_917 dX10_rainOn_99 ?_
                    refine g_iload_n C dX10_rainOn_102 rfl ?_
                    refine g_iald C 2020 (rm_2 hm).2.1 rfl (by rw [(rm_2 hm).2.2]; exact nI_vp (show s0 < 5 by omega) (by omega)) dX10_rainOn_103 ?_
                    refine g_iload C dX10_rainOn_104 rfl ?_
                    simp only [nI_tn (show s0 ≤ 100000 by omega)]
                    refine g_callV C cls_11 12 mt_X10_off [.int ((aI w 2010 (ad 1)) s0), .int ((aI w 2020 (ad 2)) s0), .int (nI j)] (c_X10_off de w mo ad hm ((aI w 2010 (ad 1)) s0) ((aI w 2020 (ad 2)) s0) j (by omega)) hm.1 (by decide) k_1045 rfl rfl (Nat.le_of_ble_eq_true rfl) (by decide) (by decide) (by decide) (by decide) dX10_rainOn_106 (fun r_106 w_106 hp_106 => ?_)
                    obtain ⟨rfl, rfl⟩ := hp_106
                    refine g_icmp_ge C 117 dX10_rainOn_109 (by decide) (fun c_109 => ?_) (fun c_109 => ?_)
                    · refine g_iload C dX10_rainOn_117 rfl ?_
                      refine g_istore C dX10_rainOn_119 (by decide) ?_
                      refine g_iinc C dX10_rainOn_121 rfl (nI_1 i) (by decide) ?_
                      refine g_goto C 6 dX10_rainOn_124 (by decide) ?_
                      have e9 := rnF_3 (bv := (byV (aI w 2010 (ad 1)) (aI w 2020 (ad 2)) s0)) (has := (fun k => (aI w 2040 (ad 4)) (1200 * k + d))) (Int32.not_le.mp c_28) hnr (by rw [show (byV (aI w 2010 (ad 1)) (aI w 2020 (ad 2)) s0) i = _ from (if_pos ((nI_eq (by omega) (by omega)).mp c_41)), show (byV (aI w 2010 (ad 1)) (aI w 2020 (ad 2)) s0) j = _ from (if_neg (fun z => c_84 (by rw [z])))]; exact Int32.not_lt.mpr c_109)
                      have h9 := ih (i + 1) (by omega)
                      rw [e9] at h9
                      exact g_lv2 [(0, .ref mo), (1, .int (nI s0)), (2, .int (nI d)), (3, .int kn), (4, .int (nI j)), (5, .int (nI (i + 1)))] rfl h9
                    · refine g_iload C dX10_rainOn_112 rfl ?_
                      refine g_goto C 119 dX10_rainOn_114 (by decide) ?_
                      refine g_istore C dX10_rainOn_119 (by decide) ?_
                      refine g_iinc C dX10_rainOn_121 rfl (nI_1 i) (by decide) ?_
                      refine g_goto C 6 dX10_rainOn_124 (by decide) ?_
                      have e9 := rnF_2 (bv := (byV (aI w 2010 (ad 1)) (aI w 2020 (ad 2)) s0)) (has := (fun k => (aI w 2040 (ad 4)) (1200 * k + d))) (Int32.not_le.mp c_28) hnr (by rw [show (byV (aI w 2010 (ad 1)) (aI w 2020 (ad 2)) s0) i = _ from (if_pos ((nI_eq (by omega) (by omega)).mp c_41)), show (byV (aI w 2010 (ad 1)) (aI w 2020 (ad 2)) s0) j = _ from (if_neg (fun z => c_84 (by rw [z])))]; exact Int32.not_le.mp c_109)
                      have h9 := ih (i + 1) (by omega)
                      rw [e9] at h9
                      exact g_lv2 [(0, .ref mo), (1, .int (nI s0)), (2, .int (nI d)), (3, .int kn), (4, .int (nI i)), (5, .int (nI (i + 1)))] rfl h9
                  · refine g_iconst C (-1) dX10_rainOn_87 (by rfl) ?_
                    refine g_goto C 109 dX10_rainOn_88 (by decide) ?_
                    refine g_icmp_ge C 117 dX10_rainOn_109 (by decide) (fun c_109 => ?_) (fun c_109 => ?_)
                    · refine g_iload C dX10_rainOn_117 rfl ?_
                      refine g_istore C dX10_rainOn_119 (by decide) ?_
                      refine g_iinc C dX10_rainOn_121 rfl (nI_1 i) (by decide) ?_
                      refine g_goto C 6 dX10_rainOn_124 (by decide) ?_
                      have e9 := rnF_3 (bv := (byV (aI w 2010 (ad 1)) (aI w 2020 (ad 2)) s0)) (has := (fun k => (aI w 2040 (ad 4)) (1200 * k + d))) (Int32.not_le.mp c_28) hnr (by rw [show (byV (aI w 2010 (ad 1)) (aI w 2020 (ad 2)) s0) i = _ from (if_pos ((nI_eq (by omega) (by omega)).mp c_41)), show (byV (aI w 2010 (ad 1)) (aI w 2020 (ad 2)) s0) j = _ from (if_pos ((nI_eq (by omega) (by omega)).mp c_84))]; exact Int32.not_lt.mpr c_109)
                      have h9 := ih (i + 1) (by omega)
                      rw [e9] at h9
                      exact g_lv2 [(0, .ref mo), (1, .int (nI s0)), (2, .int (nI d)), (3, .int kn), (4, .int (nI j)), (5, .int (nI (i + 1)))] rfl h9
                    · refine g_iload C dX10_rainOn_112 rfl ?_
                      refine g_goto C 119 dX10_rainOn_114 (by decide) ?_
                      refine g_istore C dX10_rainOn_119 (by decide) ?_
                      refine g_iinc C dX10_rainOn_121 rfl (nI_1 i) (by decide) ?_
                      refine g_goto C 6 dX10_rainOn_124 (by decide) ?_
                      have e9 := rnF_2 (bv := (byV (aI w 2010 (ad 1)) (aI w 2020 (ad 2)) s0)) (has := (fun k => (aI w 2040 (ad 4)) (1200 * k + d))) (Int32.not_le.mp c_28) hnr (by rw [show (byV (aI w 2010 (ad 1)) (aI w 2020 (ad 2)) s0) i = _ from (if_pos ((nI_eq (by omega) (by omega)).mp c_41)), show (byV (aI w 2010 (ad 1)) (aI w 2020 (ad 2)) s0) j = _ from (if_pos ((nI_eq (by omega) (by omega)).mp c_84))]; exact Int32.not_le.mp c_109)
                      have h9 := ih (i + 1) (by omega)
                      rw [e9] at h9
                      exact g_lv2 [(0, .ref mo), (1, .int (nI s0)), (2, .int (nI d)), (3, .int kn), (4, .int (nI i)), (5, .int (nI (i + 1)))] rfl h9
  refine g_iconst C (-1) dX10_rainOn_0 (by rfl) ?_
  refine g_istore C dX10_rainOn_1 (by decide) ?_
  refine g_iconst C 0 dX10_rainOn_3 (by rfl) ?_
  refine g_istore C dX10_rainOn_4 (by decide) ?_
  exact g_lv2 [(0, .ref mo), (1, .int (nI s0)), (2, .int (nI d)), (3, .int kn), (4, .int (-1)), (5, .int (nI 0))] rfl (loop nS 0 (by omega))
end REF14
end
section
section REF15
theorem g_cutS {p : Program} {l : Launch} {e : Env} {R : Room} {s : State} {m : MethodId} {args : Array Value} {below : List Frame} {meth : Method} {c : Code} {D : va_G} {cy : Nat → ClassId} {z nL : Nat} {w : Wd} {kc ns pc : Nat} {lv : List (Nat × Value)} {st : List Value} {Q : State → Prop} {pc' : Nat} (v : Value) (j : G p l e R s m args below meth c D cy z nL w kc ns pc' lv (v :: st) Q)
    (k : G p l e R s m args below meth c D cy z nL w kc ns pc' lv (v :: st) Q → G p l e R s m args below meth c D cy z nL w kc ns pc lv st Q) : G p l e R s m args below meth c D cy z nL w kc ns pc lv st Q := k j
theorem dry_r1 {f : Nat → Int32} {a n : Nat} (h : f (a + n) < 10) : nI (dryN f a n).2 + 1 = nI (dryN f a (n + 1)).2 := by
  rw [show (dryN f a (n + 1)).2 = (dryN f a n).2 + 1 from if_pos h]
  exact nI_1 _
theorem dry_r0 {f : Nat → Int32} {a n : Nat} (h : ¬ f (a + n) < 10) : (0 : Int32) = nI (dryN f a (n + 1)).2 := by
  rw [show (dryN f a (n + 1)).2 = 0 from if_neg h]
  rfl
theorem dry_21 {f : Nat → Int32} {a : Nat} : ∀ n, (dryN f a n).2 ≤ (dryN f a n).1
  | 0 => Nat.le_refl _
  | n + 1 => Nat.le_max_right _ _
theorem dry_m1 {f : Nat → Int32} {a n : Nat} (hn : n < 1000) (h : ¬ nI (dryN f a (n + 1)).2 ≤ nI (dryN f a n).1) : nI (dryN f a (n + 1)).2 = nI (dryN f a (n + 1)).1 := by
  have h1 := (dryN_le (f := f) (a := a) (n + 1)).2
  have h2 := (dryN_le (f := f) (a := a) n).1
  have h3 := nI_nle_of h (by omega) (by omega)
  exact congrArg nI (Nat.max_eq_right (a := (dryN f a n).1) (b := (dryN f a (n + 1)).2) (by omega)).symm
theorem dry_m0 {f : Nat → Int32} {a n : Nat} (hn : n < 1000) (h : nI (dryN f a (n + 1)).2 ≤ nI (dryN f a n).1) : nI (dryN f a n).1 = nI (dryN f a (n + 1)).1 := by
  have h1 := (dryN_le (f := f) (a := a) (n + 1)).2
  have h2 := (dryN_le (f := f) (a := a) n).1
  have h3 := nI_le_of h (by omega) (by omega)
  exact congrArg nI (Nat.max_eq_left (a := (dryN f a n).1) (b := (dryN f a (n + 1)).2) (by omega)).symm
def sevN (f : Nat → Int32) (a n : Nat) : Bool := decide (7 ≤ (dryN f a n).1)
theorem sev_1 {f : Nat → Int32} {a n : Nat} (h : ¬ bI (sevN f a n) = 0) : (1 : Int32) = bI (sevN f a (n + 1)) := by
  have h1 : 7 ≤ (dryN f a n).1 := of_decide_eq_true (bI_n0.mp h)
  have h2 : (dryN f a n).1 ≤ (dryN f a (n + 1)).1 := Nat.le_max_left _ _
  unfold sevN
  rw [decide_eq_true (p := 7 ≤ (dryN f a (n + 1)).1) (by omega)]
  rfl
theorem sev_2 {f : Nat → Int32} {a n : Nat} (hn : n < 1000) (h : nI (dryN f a (n + 1)).2 = 7) : (1 : Int32) = bI (sevN f a (n + 1)) := by
  have h1 := (dryN_le (f := f) (a := a) (n + 1)).2
  have h2 : (dryN f a (n + 1)).2 = 7 := (nI_eq (a := (dryN f a (n + 1)).2) (b := 7) (by omega) (by omega)).mp h
  have h3 := dry_21 (f := f) (a := a) (n + 1)
  unfold sevN
  rw [decide_eq_true (p := 7 ≤ (dryN f a (n + 1)).1) (by omega)]
  rfl
theorem sev_3 {f : Nat → Int32} {a n : Nat} (hn : n < 1000) (h0 : bI (sevN f a n) = 0) (h : ¬ nI (dryN f a (n + 1)).2 = 7) : (0 : Int32) = bI (sevN f a (n + 1)) := by
  have h1 := (dryN_le (f := f) (a := a) (n + 1)).2
  have h2 : ¬ (dryN f a (n + 1)).2 = 7 := fun z => h (by rw [z]; rfl)
  have h3 : ¬ 7 ≤ (dryN f a n).1 := of_decide_eq_false (bI_0.mp h0)
  have h4 := dry_21 (f := f) (a := a) n
  have h5 : (dryN f a (n + 1)).2 ≤ (dryN f a n).2 + 1 := by
    show (if f (a + n) < 10 then (dryN f a n).2 + 1 else 0) ≤ _
    split <;> omega
  have h6 : (dryN f a (n + 1)).1 = max (dryN f a n).1 (dryN f a (n + 1)).2 := rfl
  unfold sevN
  rw [decide_eq_false (p := 7 ≤ (dryN f a (n + 1)).1) (by omega)]
  rfl
theorem sum3 {f : Nat → Int32} {d : Nat} (h : 2 ≤ d) : f d + f (d - 1) + f (d - 2) = sumF f (d - 2) 3 := by
  obtain ⟨k, rfl⟩ : ∃ k, d = k + 2 := ⟨d - 2, by omega⟩
  show f (k + 2) + f (k + 1) + f k = 0 + f k + f (k + 1) + f (k + 2)
  rw [Int32.zero_add, Int32.add_comm (f (k + 2)), Int32.add_assoc, Int32.add_comm (f (k + 2)), ← Int32.add_assoc, Int32.add_comm (f (k + 1))]
theorem ix5 {a b : Nat} : (5 : Int32) * (3 * nI a + nI b) = nI (5 * (3 * a + b)) := by
  rw [show (3 : Int32) = nI 3 from rfl, pk_mul, nI_add, show (5 : Int32) = nI 5 from rfl, pk_mul]
/-- the phase i of product pr, its word k -/
def phV (w : Wd) (ad : Nat → Nat) (pr k i : Nat) : Int32 := aI w 2070 (ad 7) (5 * (3 * pr + i) + k)
def RPH (w : Wd) (ad : Nat → Nat) (pr n : Nat) (dN : Nat → Nat) : Prop := n ≤ 3 ∧ ∀ i, i < n → phV w ad pr 0 i = nI (dN i) ∧ dN i ≤ 30 ∧ (phV w ad pr 1 i = 0 ∨ phV w ad pr 1 i = 1)
theorem beg_b0 (f : Nat → Int32) : ∃ b0 : Nat, b0 ≤ 60 ∧ oI (begO f 58) + 1 = nI b0 ∧ ((oI (begO f 58) = -1 ∧ stN f = 60) ∨ (¬ oI (begO f 58) = -1 ∧ stN f = b0)) := by
  by_cases h : oI (begO f 58) = -1
  · exact ⟨0, by omega, by rw [h]; rfl, Or.inl ⟨h, stN_60 h⟩⟩
  · exact ⟨stN f, stN_le f, stN_s h, Or.inr ⟨h, rfl⟩⟩
theorem dX10_lays_0 : decode cX10_lays 0 = .ok (.iconst 0, 1) := by decide +kernel
theorem dX10_lays_1 : decode cX10_lays 1 = .ok (.istore 4, 2) := by decide +kernel
theorem dX10_lays_3 : decode cX10_lays 3 = .ok (.iload 4, 2) := by decide +kernel
theorem dX10_lays_5 : decode cX10_lays 5 = .ok (.bipush 60, 2) := by decide +kernel
theorem dX10_lays_7 : decode cX10_lays 7 = .ok (.if_icmp .ge 29, 3) := by decide +kernel
theorem dX10_lays_10 : decode cX10_lays 10 = .ok (.aload_n 0, 1) := by decide +kernel
theorem dX10_lays_11 : decode cX10_lays 11 = .ok (.getfield 72, 3) := by decide +kernel
theorem dX10_lays_14 : decode cX10_lays 14 = .ok (.iload 4, 2) := by decide +kernel
theorem dX10_lays_16 : decode cX10_lays 16 = .ok (.aload_n 0, 1) := by decide +kernel
theorem dX10_lays_17 : decode cX10_lays 17 = .ok (.iload_n 1, 1) := by decide +kernel
theorem dX10_lays_18 : decode cX10_lays 18 = .ok (.bipush 60, 2) := by decide +kernel
theorem dX10_lays_20 : decode cX10_lays 20 = .ok (.iload_n 2, 1) := by decide +kernel
theorem dX10_lays_21 : decode cX10_lays 21 = .ok (.imul, 1) := by decide +kernel
theorem dX10_lays_22 : decode cX10_lays 22 = .ok (.iload 4, 2) := by decide +kernel
theorem dX10_lays_24 : decode cX10_lays 24 = .ok (.iadd, 1) := by decide +kernel
theorem dX10_lays_25 : decode cX10_lays 25 = .ok (.iload_n 3, 1) := by decide +kernel
theorem dX10_lays_26 : decode cX10_lays 26 = .ok (.invokevirtual 110, 3) := by decide +kernel
theorem dX10_lays_29 : decode cX10_lays 29 = .ok (.iastore, 1) := by decide +kernel
theorem dX10_lays_30 : decode cX10_lays 30 = .ok (.iinc 4 1, 3) := by decide +kernel
theorem dX10_lays_33 : decode cX10_lays 33 = .ok (.goto (-30), 3) := by decide +kernel
theorem dX10_lays_36 : decode cX10_lays 36 = .ok (.return_, 1) := by decide +kernel
set_option maxHeartbeats 4000000 in
set_option maxRecDepth 100000 in
theorem c_X10_lays (de : Nat) (w : Wd) (mo : Nat) (ad : Nat → Nat) (hm : RM w mo ad) (nS s0 se : Nat) (kn : Int32) (hS : fI w 12 3 mo = nI nS) (hn5 : nS ≤ 5) (hs : s0 < nS) (hse : se < 20) : Ct yX10_lays cX10_lays 5 none 2 50 0 0 de [.ref mo, .int (nI s0), .int (nI se), .int kn] w (fun r w' => r = none ∧ ∃ g, w' = stR w 2280 (ad 28) g ∧ ∀ j, j < 60 → g j = rrV nS (aI w 2010 (ad 1)) (aI w 2020 (ad 2)) (aI w 2040 (ad 4)) (aI w 2050 (ad 5)) kn (60 * se + j) s0) := by
  refine Ct.mk (by decide +kernel) [(0, .ref mo), (1, .int (nI s0)), (2, .int (nI se)), (3, .int kn)] rfl (Nat.le_of_ble_eq_true rfl) ?_
  intro p l e R s m args below meth c D cy z C hnm
  obtain ⟨row, hrow⟩ : ∃ row : Nat → Int32, ∀ j, row j = rrV nS (aI w 2010 (ad 1)) (aI w 2020 (ad 2)) (aI w 2040 (ad 4)) (aI w 2050 (ad 5)) kn (60 * se + j) s0 := ⟨_, fun _ => rfl⟩
  simp only [← hrow]
  have loop : ∀ (k i : Nat) (g : Nat → Int32), i + k = 60 → (∀ j, j < i → g j = row j) → G p l e R s m args below meth c D cy z 5 (stR w 2280 (ad 28) g) 0 0 3 [(0, .ref mo), (1, .int (nI s0)), (2, .int (nI se)), (3, .int kn), (4, .int (nI i))] [] (QM below args s D cy z (fun r w' => r = none ∧ ∃ g, w' = stR w 2280 (ad 28) g ∧ ∀ j, j < 60 → g j = row j) 0 0) := by
    intro k
    induction k with
    | zero =>
      intro i g hik hg
      refine g_iload C dX10_lays_3 rfl ?_
      refine g_bipush C 60 dX10_lays_5 (by rfl) ?_
      refine g_icmp_ge C 36 dX10_lays_7 (by decide) (fun c_7 => ?_) (fun c_7 => ?_)
      · refine g_vret C rfl (by decide) (by decide) dX10_lays_36 ?_
        exact ⟨rfl, g, rfl, fun j hj => hg j (by omega)⟩
      · exact absurd (nI_le (a := 60) (b := i) (by omega) (by omega)) c_7
    | succ k ih =>
      intro i g hik hg
      refine g_iload C dX10_lays_3 rfl ?_
      refine g_bipush C 60 dX10_lays_5 (by rfl) ?_
      refine g_icmp_ge C 36 dX10_lays_7 (by decide) (fun c_7 => ?_) (fun c_7 => ?_)
      · exact absurd c_7 (nI_ge (a := i) (b := 60) (by omega) (by decide))
      · refine g_aload_n C dX10_lays_10 rfl ?_
        refine g_getR (b := (ad 28)) C cls_11 12 28 hm.1 (rm_28 hm).1 rfl k_943 dX10_lays_11 ?_
        refine g_iload C dX10_lays_14 rfl ?_
        refine g_aload_n C dX10_lays_16 rfl ?_
        refine g_iload_n C dX10_lays_17 rfl ?_
        refine g_bipush C 60 dX10_lays_18 (by rfl) ?_
        refine g_iload_n C dX10_lays_20 rfl ?_
        refine g_imul C dX10_lays_21 ?_
        refine g_iload C dX10_lays_22 rfl ?_
        refine g_iadd C dX10_lays_24 ?_
        rw [show (60 : Int32) * nI se + nI i = nI (60 * se + i) by rw [show (60 : Int32) = nI 60 from rfl, pk_mul, nI_add]]
        refine g_iload_n C dX10_lays_25 rfl ?_
        refine g_callV C cls_11 12 mt_X10_rainOn [.int (nI s0), .int (nI (60 * se + i)), .int kn] (c_X10_rainOn de (stR w 2280 (ad 28) g) mo ad hm nS s0 (60 * se + i) kn hS hn5 hs (by omega)) hm.1 (by decide) k_1041 rfl rfl (Nat.le_of_ble_eq_true rfl) (by decide) (by decide) (by decide) (by decide) dX10_lays_26 (fun r_26 w_26 hp_26 => ?_)
        obtain ⟨rfl, rfl⟩ := hp_26
        rw [show rrV nS (aI (stR w 2280 (ad 28) g) 2010 (ad 1)) (aI (stR w 2280 (ad 28) g) 2020 (ad 2)) (aI (stR w 2280 (ad 28) g) 2040 (ad 4)) (aI (stR w 2280 (ad 28) g) 2050 (ad 5)) kn (60 * se + i) s0 = row i from (hrow i).symm]
        refine g_iast C 2280 (rm_28 hm).2.1 rfl (show vp_in (nI i) (aL w (ad 28)) by rw [(rm_28 hm).2.2]; exact nI_vp (show i < 60 by omega) (by omega)) dX10_lays_29 ?_
        refine g_iinc C dX10_lays_30 rfl (nI_1 i) (by decide) ?_
        refine g_goto C 3 dX10_lays_33 (by decide) ?_
        have h9 := ih (i + 1) (upd g i (row i)) (by omega) (fun j hj => by by_cases e9 : j = i <;> simp [upd, e9] <;> exact hg j (by omega))
        refine g_eq rfl rfl (w' := stR w 2280 (ad 28) (upd g i (row i))) (by rw [nI_tn (by omega)]; exact pAI_stR) ?_
        exact g_lv2 [(0, .ref mo), (1, .int (nI s0)), (2, .int (nI se)), (3, .int kn), (4, .int (nI (i + 1)))] rfl h9
  refine g_iconst C 0 dX10_lays_0 (by rfl) ?_
  refine g_istore C dX10_lays_1 (by decide) ?_
  refine g_eq rfl rfl (w' := stR w 2280 (ad 28) (aI w 2280 (ad 28))) stR_self.symm ?_
  exact g_lv2 [(0, .ref mo), (1, .int (nI s0)), (2, .int (nI se)), (3, .int kn), (4, .int (nI 0))] rfl (loop 60 0 _ (by omega) (fun j hj => absurd hj (by omega)))
theorem dX10_isFalse_0 : decode cX10_isFalse 0 = .ok (.iconst 0, 1) := by decide +kernel
theorem dX10_isFalse_1 : decode cX10_isFalse 1 = .ok (.istore_n 2, 1) := by decide +kernel
theorem dX10_isFalse_2 : decode cX10_isFalse 2 = .ok (.iconst 0, 1) := by decide +kernel
theorem dX10_isFalse_3 : decode cX10_isFalse 3 = .ok (.istore_n 3, 1) := by decide +kernel
theorem dX10_isFalse_4 : decode cX10_isFalse 4 = .ok (.iload_n 1, 1) := by decide +kernel
theorem dX10_isFalse_5 : decode cX10_isFalse 5 = .ok (.iconst 1, 1) := by decide +kernel
theorem dX10_isFalse_6 : decode cX10_isFalse 6 = .ok (.iadd, 1) := by decide +kernel
theorem dX10_isFalse_7 : decode cX10_isFalse 7 = .ok (.istore 4, 2) := by decide +kernel
theorem dX10_isFalse_9 : decode cX10_isFalse 9 = .ok (.iload 4, 2) := by decide +kernel
theorem dX10_isFalse_11 : decode cX10_isFalse 11 = .ok (.iload_n 1, 1) := by decide +kernel
theorem dX10_isFalse_12 : decode cX10_isFalse 12 = .ok (.bipush 15, 2) := by decide +kernel
theorem dX10_isFalse_14 : decode cX10_isFalse 14 = .ok (.iadd, 1) := by decide +kernel
theorem dX10_isFalse_15 : decode cX10_isFalse 15 = .ok (.if_icmp .gt 52, 3) := by decide +kernel
theorem dX10_isFalse_18 : decode cX10_isFalse 18 = .ok (.iload 4, 2) := by decide +kernel
theorem dX10_isFalse_20 : decode cX10_isFalse 20 = .ok (.bipush 60, 2) := by decide +kernel
theorem dX10_isFalse_22 : decode cX10_isFalse 22 = .ok (.if_icmp .ge 45, 3) := by decide +kernel
theorem dX10_isFalse_25 : decode cX10_isFalse 25 = .ok (.aload_n 0, 1) := by decide +kernel
theorem dX10_isFalse_26 : decode cX10_isFalse 26 = .ok (.getfield 72, 3) := by decide +kernel
theorem dX10_isFalse_29 : decode cX10_isFalse 29 = .ok (.iload 4, 2) := by decide +kernel
theorem dX10_isFalse_31 : decode cX10_isFalse 31 = .ok (.iaload, 1) := by decide +kernel
theorem dX10_isFalse_32 : decode cX10_isFalse 32 = .ok (.bipush 10, 2) := by decide +kernel
theorem dX10_isFalse_34 : decode cX10_isFalse 34 = .ok (.if_icmp .ge 9, 3) := by decide +kernel
theorem dX10_isFalse_37 : decode cX10_isFalse 37 = .ok (.iload_n 2, 1) := by decide +kernel
theorem dX10_isFalse_38 : decode cX10_isFalse 38 = .ok (.iconst 1, 1) := by decide +kernel
theorem dX10_isFalse_39 : decode cX10_isFalse 39 = .ok (.iadd, 1) := by decide +kernel
theorem dX10_isFalse_40 : decode cX10_isFalse 40 = .ok (.goto 4, 3) := by decide +kernel
theorem dX10_isFalse_43 : decode cX10_isFalse 43 = .ok (.iconst 0, 1) := by decide +kernel
theorem dX10_isFalse_44 : decode cX10_isFalse 44 = .ok (.istore_n 2, 1) := by decide +kernel
theorem dX10_isFalse_45 : decode cX10_isFalse 45 = .ok (.iload_n 3, 1) := by decide +kernel
theorem dX10_isFalse_46 : decode cX10_isFalse 46 = .ok (.ifCond .ne 9, 3) := by decide +kernel
theorem dX10_isFalse_49 : decode cX10_isFalse 49 = .ok (.iload_n 2, 1) := by decide +kernel
theorem dX10_isFalse_50 : decode cX10_isFalse 50 = .ok (.bipush 7, 2) := by decide +kernel
theorem dX10_isFalse_52 : decode cX10_isFalse 52 = .ok (.if_icmp .ne 7, 3) := by decide +kernel
theorem dX10_isFalse_55 : decode cX10_isFalse 55 = .ok (.iconst 1, 1) := by decide +kernel
theorem dX10_isFalse_56 : decode cX10_isFalse 56 = .ok (.goto 4, 3) := by decide +kernel
theorem dX10_isFalse_59 : decode cX10_isFalse 59 = .ok (.iconst 0, 1) := by decide +kernel
theorem dX10_isFalse_60 : decode cX10_isFalse 60 = .ok (.istore_n 3, 1) := by decide +kernel
theorem dX10_isFalse_61 : decode cX10_isFalse 61 = .ok (.iinc 4 1, 3) := by decide +kernel
theorem dX10_isFalse_64 : decode cX10_isFalse 64 = .ok (.goto (-55), 3) := by decide +kernel
theorem dX10_isFalse_67 : decode cX10_isFalse 67 = .ok (.iload_n 3, 1) := by decide +kernel
theorem dX10_isFalse_68 : decode cX10_isFalse 68 = .ok (.ireturn, 1) := by decide +kernel
set_option maxHeartbeats 4000000 in
set_option maxRecDepth 100000 in
theorem c_X10_isFalse (de : Nat) (w : Wd) (mo : Nat) (ad : Nat → Nat) (hm : RM w mo ad) (fr : Nat) (hfr : fr < 60) : Ct yX10_isFalse cX10_isFalse 5 (some .boolean) 0 0 0 0 de [.ref mo, .int (nI fr)] w (fun r w' => r = some (.int (bI (sevN (aI w 2280 (ad 28)) (fr + 1) (min (fr + 16) 60 - (fr + 1))))) ∧ w = w') := by
  refine Ct.mk (by decide +kernel) [(0, .ref mo), (1, .int (nI fr))] rfl (Nat.le_of_ble_eq_true rfl) ?_
  intro p l e R s m args below meth c D cy z C hnm
  obtain ⟨N, hN⟩ : ∃ N : Nat, N = min (fr + 16) 60 - (fr + 1) := ⟨_, rfl⟩
  have loop : ∀ (k i : Nat), i + k = N → G p l e R s m args below meth c D cy z 5 w 0 0 9 [(0, .ref mo), (1, .int (nI fr)), (2, .int (nI (dryN (aI w 2280 (ad 28)) (fr + 1) i).2)), (3, .int (bI (sevN (aI w 2280 (ad 28)) (fr + 1) i))), (4, .int (nI (fr + 1 + i)))] [] (QM below args s D cy z (fun r w' => r = some (.int (bI (sevN (aI w 2280 (ad 28)) (fr + 1) N))) ∧ w = w') 0 0) := by
    intro k
    induction k with
    | zero =>
      intro i hik
      refine g_iload C dX10_isFalse_9 rfl ?_
      refine g_iload_n C dX10_isFalse_11 rfl ?_
      refine g_bipush C 15 dX10_isFalse_12 (by rfl) ?_
      refine g_iadd C dX10_isFalse_14 ?_
      rw [show nI fr + 15 = nI (fr + 15) from nI_add fr 15]
      refine g_icmp_gt C 67 dX10_isFalse_15 (by decide) (fun c_15 => ?_) (fun c_15 => ?_)
      · refine g_iload_n C dX10_isFalse_67 rfl ?_
        refine g_iret C rfl (bI_nar _) (by decide) (by decide) dX10_isFalse_68 ?_
        exact ⟨by rw [show i = N by omega], rfl⟩
      · refine g_iload C dX10_isFalse_18 rfl ?_
        refine g_bipush C 60 dX10_isFalse_20 (by rfl) ?_
        refine g_icmp_ge C 67 dX10_isFalse_22 (by decide) (fun c_22 => ?_) (fun c_22 => ?_)
        · refine g_iload_n C dX10_isFalse_67 rfl ?_
          refine g_iret C rfl (bI_nar _) (by decide) (by decide) dX10_isFalse_68 ?_
          exact ⟨by rw [show i = N by omega], rfl⟩
        · exact absurd (nI_nle_of (a := 60) c_22 (by omega) (by omega)) (by have := nI_nlt_of c_15 (by omega) (by omega); omega)
    | succ k ih =>
      intro i hik
      have hx9 : fr + 1 + i ≤ fr + 15 ∧ fr + 1 + i < 60 := by omega
      refine g_iload C dX10_isFalse_9 rfl ?_
      refine g_iload_n C dX10_isFalse_11 rfl ?_
      refine g_bipush C 15 dX10_isFalse_12 (by rfl) ?_
      refine g_iadd C dX10_isFalse_14 ?_
      rw [show nI fr + 15 = nI (fr + 15) from nI_add fr 15]
      refine g_icmp_gt C 67 dX10_isFalse_15 (by decide) (fun c_15 => ?_) (fun c_15 => ?_)
      · first
        | exact absurd (nI_lt_of c_15 (by omega) (by omega)) (by omega)
        | exact absurd (nI_le_of (a := 60) c_22 (by omega) (by omega)) (by omega)
      · refine g_iload C dX10_isFalse_18 rfl ?_
        refine g_bipush C 60 dX10_isFalse_20 (by rfl) ?_
        refine g_icmp_ge C 67 dX10_isFalse_22 (by decide) (fun c_22 => ?_) (fun c_22 => ?_)
        · first
          | exact absurd (nI_lt_of c_15 (by omega) (by omega)) (by omega)
          | exact absurd (nI_le_of (a := 60) c_22 (by omega) (by omega)) (by omega)
        · refine g_cutS (pc' := 44) (.int (nI (dryN (aI w 2280 (ad 28)) (fr + 1) (i + 1)).2)) ?_ (fun j_44 => ?_)
          · refine g_istore_n C dX10_isFalse_44 (by decide) ?_
            refine g_cutS (pc' := 60) (.int (bI (sevN (aI w 2280 (ad 28)) (fr + 1) (i + 1)))) ?_ (fun j_60 => ?_)
            · refine g_istore_n C dX10_isFalse_60 (by decide) ?_
              refine g_iinc C dX10_isFalse_61 rfl (nI_1 (fr + 1 + i)) (by decide) ?_
              refine g_goto C 9 dX10_isFalse_64 (by decide) ?_
              have h9 := ih (i + 1) (by omega)
              exact g_lv2 [(0, .ref mo), (1, .int (nI fr)), (2, .int (nI (dryN (aI w 2280 (ad 28)) (fr + 1) (i + 1)).2)), (3, .int (bI (sevN (aI w 2280 (ad 28)) (fr + 1) (i + 1)))), (4, .int (nI (fr + 1 + (i + 1))))] rfl h9
            · refine g_iload_n C dX10_isFalse_45 rfl ?_
              refine g_if_ne C 55 dX10_isFalse_46 (by decide) (fun c_46 => ?_) (fun c_46 => ?_)
              · refine g_iconst C 1 dX10_isFalse_55 (by rfl) ?_
                refine g_goto C 60 dX10_isFalse_56 (by decide) ?_
                exact g_eq rfl (congrArg (fun v => Value.int v :: _) (by first | exact sev_1 c_46 | exact sev_2 (by omega) c_52 | exact sev_3 (by omega) c_46 c_52)) rfl j_60
              · refine g_iload_n C dX10_isFalse_49 rfl ?_
                refine g_bipush C 7 dX10_isFalse_50 (by rfl) ?_
                refine g_icmp_ne C 59 dX10_isFalse_52 (by decide) (fun c_52 => ?_) (fun c_52 => ?_)
                · refine g_iconst C 0 dX10_isFalse_59 (by rfl) ?_
                  exact g_eq rfl (congrArg (fun v => Value.int v :: _) (by first | exact sev_1 c_46 | exact sev_2 (by omega) c_52 | exact sev_3 (by omega) c_46 c_52)) rfl j_60
                · refine g_iconst C 1 dX10_isFalse_55 (by rfl) ?_
                  refine g_goto C 60 dX10_isFalse_56 (by decide) ?_
                  exact g_eq rfl (congrArg (fun v => Value.int v :: _) (by first | exact sev_1 c_46 | exact sev_2 (by omega) c_52 | exact sev_3 (by omega) c_46 c_52)) rfl j_60
          · refine g_aload_n C dX10_isFalse_25 rfl ?_
            refine g_getR (b := (ad 28)) C cls_11 12 28 hm.1 (rm_28 hm).1 rfl k_943 dX10_isFalse_26 ?_
            refine g_iload C dX10_isFalse_29 rfl ?_
            refine g_iald C 2280 (rm_28 hm).2.1 rfl (by rw [(rm_28 hm).2.2]; exact nI_vp (show fr + 1 + i < 60 by omega) (by omega)) dX10_isFalse_31 ?_
            rw [nI_tn (by omega)]
            refine g_bipush C 10 dX10_isFalse_32 (by rfl) ?_
            refine g_icmp_ge C 43 dX10_isFalse_34 (by decide) (fun c_34 => ?_) (fun c_34 => ?_)
            · refine g_iconst C 0 dX10_isFalse_43 (by rfl) ?_
              exact g_eq rfl (congrArg (fun v => Value.int v :: _) (by first | exact dry_r1 (Int32.not_le.mp c_34) | exact dry_r0 (Int32.not_lt.mpr c_34))) rfl j_44
            · refine g_iload_n C dX10_isFalse_37 rfl ?_
              refine g_iconst C 1 dX10_isFalse_38 (by rfl) ?_
              refine g_iadd C dX10_isFalse_39 ?_
              refine g_goto C 44 dX10_isFalse_40 (by decide) ?_
              exact g_eq rfl (congrArg (fun v => Value.int v :: _) (by first | exact dry_r1 (Int32.not_le.mp c_34) | exact dry_r0 (Int32.not_lt.mpr c_34))) rfl j_44
  refine g_iconst C 0 dX10_isFalse_0 (by rfl) ?_
  refine g_istore_n C dX10_isFalse_1 (by decide) ?_
  refine g_iconst C 0 dX10_isFalse_2 (by rfl) ?_
  refine g_istore_n C dX10_isFalse_3 (by decide) ?_
  refine g_iload_n C dX10_isFalse_4 rfl ?_
  refine g_iconst C 1 dX10_isFalse_5 (by rfl) ?_
  refine g_iadd C dX10_isFalse_6 ?_
  rw [nI_1 fr]
  refine g_istore C dX10_isFalse_7 (by decide) ?_
  rw [← hN]
  exact g_lv2 [(0, .ref mo), (1, .int (nI fr)), (2, .int (nI (dryN (aI w 2280 (ad 28)) (fr + 1) 0).2)), (3, .int (bI (sevN (aI w 2280 (ad 28)) (fr + 1) 0))), (4, .int (nI (fr + 1 + 0)))] rfl (loop N 0 (by omega))
theorem dX10_beginning_0 : decode cX10_beginning 0 = .ok (.iconst 2, 1) := by decide +kernel
theorem dX10_beginning_1 : decode cX10_beginning 1 = .ok (.istore_n 1, 1) := by decide +kernel
theorem dX10_beginning_2 : decode cX10_beginning 2 = .ok (.iload_n 1, 1) := by decide +kernel
theorem dX10_beginning_3 : decode cX10_beginning 3 = .ok (.bipush 60, 2) := by decide +kernel
theorem dX10_beginning_5 : decode cX10_beginning 5 = .ok (.if_icmp .ge 49, 3) := by decide +kernel
theorem dX10_beginning_8 : decode cX10_beginning 8 = .ok (.aload_n 0, 1) := by decide +kernel
theorem dX10_beginning_9 : decode cX10_beginning 9 = .ok (.getfield 72, 3) := by decide +kernel
theorem dX10_beginning_12 : decode cX10_beginning 12 = .ok (.iload_n 1, 1) := by decide +kernel
theorem dX10_beginning_13 : decode cX10_beginning 13 = .ok (.iaload, 1) := by decide +kernel
theorem dX10_beginning_14 : decode cX10_beginning 14 = .ok (.aload_n 0, 1) := by decide +kernel
theorem dX10_beginning_15 : decode cX10_beginning 15 = .ok (.getfield 72, 3) := by decide +kernel
theorem dX10_beginning_18 : decode cX10_beginning 18 = .ok (.iload_n 1, 1) := by decide +kernel
theorem dX10_beginning_19 : decode cX10_beginning 19 = .ok (.iconst 1, 1) := by decide +kernel
theorem dX10_beginning_20 : decode cX10_beginning 20 = .ok (.isub, 1) := by decide +kernel
theorem dX10_beginning_21 : decode cX10_beginning 21 = .ok (.iaload, 1) := by decide +kernel
theorem dX10_beginning_22 : decode cX10_beginning 22 = .ok (.iadd, 1) := by decide +kernel
theorem dX10_beginning_23 : decode cX10_beginning 23 = .ok (.aload_n 0, 1) := by decide +kernel
theorem dX10_beginning_24 : decode cX10_beginning 24 = .ok (.getfield 72, 3) := by decide +kernel
theorem dX10_beginning_27 : decode cX10_beginning 27 = .ok (.iload_n 1, 1) := by decide +kernel
theorem dX10_beginning_28 : decode cX10_beginning 28 = .ok (.iconst 2, 1) := by decide +kernel
theorem dX10_beginning_29 : decode cX10_beginning 29 = .ok (.isub, 1) := by decide +kernel
theorem dX10_beginning_30 : decode cX10_beginning 30 = .ok (.iaload, 1) := by decide +kernel
theorem dX10_beginning_31 : decode cX10_beginning 31 = .ok (.iadd, 1) := by decide +kernel
theorem dX10_beginning_32 : decode cX10_beginning 32 = .ok (.sipush 200, 3) := by decide +kernel
theorem dX10_beginning_35 : decode cX10_beginning 35 = .ok (.if_icmp .lt 13, 3) := by decide +kernel
theorem dX10_beginning_38 : decode cX10_beginning 38 = .ok (.aload_n 0, 1) := by decide +kernel
theorem dX10_beginning_39 : decode cX10_beginning 39 = .ok (.iload_n 1, 1) := by decide +kernel
theorem dX10_beginning_40 : decode cX10_beginning 40 = .ok (.invokevirtual 113, 3) := by decide +kernel
theorem dX10_beginning_43 : decode cX10_beginning 43 = .ok (.ifCond .ne 5, 3) := by decide +kernel
theorem dX10_beginning_46 : decode cX10_beginning 46 = .ok (.iload_n 1, 1) := by decide +kernel
theorem dX10_beginning_47 : decode cX10_beginning 47 = .ok (.ireturn, 1) := by decide +kernel
theorem dX10_beginning_48 : decode cX10_beginning 48 = .ok (.iinc 1 1, 3) := by decide +kernel
theorem dX10_beginning_51 : decode cX10_beginning 51 = .ok (.goto (-49), 3) := by decide +kernel
theorem dX10_beginning_54 : decode cX10_beginning 54 = .ok (.iconst (-1), 1) := by decide +kernel
theorem dX10_beginning_55 : decode cX10_beginning 55 = .ok (.ireturn, 1) := by decide +kernel
theorem sub_i (a b : Nat) (h : b ≤ a) (ha : a < 100000) (hb : b < 100000) : nI a - nI b = nI (a - b) := by
  obtain ⟨q, rfl⟩ : ∃ q, a = b + q := ⟨a - b, by omega⟩
  rw [show b + q - b = q by omega, ← nI_add, Int32.add_comm, Int32.sub_eq_add_neg, Int32.add_assoc, Int32.add_right_neg, Int32.add_zero]
set_option maxHeartbeats 4000000 in
set_option maxRecDepth 100000 in
theorem c_X10_beginning (de : Nat) (w : Wd) (mo : Nat) (ad : Nat → Nat) (hm : RM w mo ad) : Ct yX10_beginning cX10_beginning 2 (some .int) 1 24 0 0 de [.ref mo] w (fun r w' => r = some (.int (oI (begO (aI w 2280 (ad 28)) 58))) ∧ w = w') := by
  refine Ct.mk (by decide +kernel) [(0, .ref mo)] rfl (Nat.le_of_ble_eq_true rfl) ?_
  intro p l e R s m args below meth c D cy z C hnm
  have loop : ∀ (k d : Nat), d + k = 60 → 2 ≤ d → begO (aI w 2280 (ad 28)) k = begO (aI w 2280 (ad 28)) 58 → G p l e R s m args below meth c D cy z 2 w 0 0 2 [(0, .ref mo), (1, .int (nI d))] [] (QM below args s D cy z (fun r w' => r = some (.int (oI (begO (aI w 2280 (ad 28)) 58))) ∧ w = w') 0 0) := by
    intro k
    induction k with
    | zero =>
      intro d hdk hd2 hb
      refine g_iload_n C dX10_beginning_2 rfl ?_
      refine g_bipush C 60 dX10_beginning_3 (by rfl) ?_
      refine g_icmp_ge C 54 dX10_beginning_5 (by decide) (fun c_5 => ?_) (fun c_5 => ?_)
      · refine g_iconst C (-1) dX10_beginning_54 (by rfl) ?_
        refine g_iret C rfl rfl (by decide) (by decide) dX10_beginning_55 ?_
        exact ⟨by rw [← hb]; rfl, rfl⟩
      · exact absurd (nI_le (a := 60) (b := d) (by omega) (by omega)) c_5
    | succ k ih =>
      intro d hdk hd2 hb
      refine g_iload_n C dX10_beginning_2 rfl ?_
      refine g_bipush C 60 dX10_beginning_3 (by rfl) ?_
      refine g_icmp_ge C 54 dX10_beginning_5 (by decide) (fun c_5 => ?_) (fun c_5 => ?_)
      · exact absurd c_5 (nI_ge (a := d) (b := 60) (by omega) (by decide))
      · refine g_aload_n C dX10_beginning_8 rfl ?_
        refine g_getR (b := (ad 28)) C cls_11 12 28 hm.1 (rm_28 hm).1 rfl k_943 dX10_beginning_9 ?_
        refine g_iload_n C dX10_beginning_12 rfl ?_
        refine g_iald C 2280 (rm_28 hm).2.1 rfl (by rw [(rm_28 hm).2.2]; exact nI_vp (show d < 60 by omega) (by omega)) dX10_beginning_13 ?_
        refine g_aload_n C dX10_beginning_14 rfl ?_
        refine g_getR (b := (ad 28)) C cls_11 12 28 hm.1 (rm_28 hm).1 rfl k_943 dX10_beginning_15 ?_
        refine g_iload_n C dX10_beginning_18 rfl ?_
        refine g_iconst C 1 dX10_beginning_19 (by rfl) ?_
        refine g_isub C dX10_beginning_20 ?_
        rw [show nI d - 1 = nI (d - 1) from sub_i d 1 (by omega) (by omega) (by omega)]
        refine g_iald C 2280 (rm_28 hm).2.1 rfl (by rw [(rm_28 hm).2.2]; exact nI_vp (show d - 1 < 60 by omega) (by omega)) dX10_beginning_21 ?_
        refine g_iadd C dX10_beginning_22 ?_
        refine g_aload_n C dX10_beginning_23 rfl ?_
        refine g_getR (b := (ad 28)) C cls_11 12 28 hm.1 (rm_28 hm).1 rfl k_943 dX10_beginning_24 ?_
        refine g_iload_n C dX10_beginning_27 rfl ?_
        refine g_iconst C 2 dX10_beginning_28 (by rfl) ?_
        refine g_isub C dX10_beginning_29 ?_
        rw [show nI d - 2 = nI (d - 2) from sub_i d 2 (by omega) (by omega) (by omega)]
        refine g_iald C 2280 (rm_28 hm).2.1 rfl (by rw [(rm_28 hm).2.2]; exact nI_vp (show d - 2 < 60 by omega) (by omega)) dX10_beginning_30 ?_
        refine g_iadd C dX10_beginning_31 ?_
        rw [nI_tn (show d ≤ 100000 by omega), nI_tn (show d - 1 ≤ 100000 by omega), nI_tn (show d - 2 ≤ 100000 by omega), sum3 hd2]
        refine g_sipush C 200 dX10_beginning_32 (by rfl) ?_
        refine g_icmp_lt C 48 dX10_beginning_35 (by decide) (fun c_35 => ?_) (fun c_35 => ?_)
        · refine g_iinc C dX10_beginning_48 rfl (nI_1 d) (by decide) ?_
          refine g_goto C 2 dX10_beginning_51 (by decide) ?_
          have h9 := ih (d + 1) (by omega) (by omega) (by rw [← begO_f (d := d) (by omega) (okD_f (by first | exact Or.inl c_35 | exact Or.inr (nI_le (of_decide_eq_true (bI_n0.mp c_43)) (by have := (dryN_le (f := (aI w 2280 (ad 28))) (a := d + 1) (min (d + 16) 60 - (d + 1))).1; omega))))]; exact hb)
          exact g_lv2 [(0, .ref mo), (1, .int (nI (d + 1)))] rfl h9
        · refine g_aload_n C dX10_beginning_38 rfl ?_
          refine g_iload_n C dX10_beginning_39 rfl ?_
          refine g_callV C cls_11 12 mt_X10_isFalse [.int (nI d)] (c_X10_isFalse de w mo ad hm d (by omega)) hm.1 (by decide) k_1064 rfl rfl (Nat.le_of_ble_eq_true rfl) (by decide) (by decide) (by decide) (by decide) dX10_beginning_40 (fun r_40 w_40 hp_40 => ?_)
          obtain ⟨rfl, rfl⟩ := hp_40
          refine g_if_ne C 48 dX10_beginning_43 (by decide) (fun c_43 => ?_) (fun c_43 => ?_)
          · refine g_iinc C dX10_beginning_48 rfl (nI_1 d) (by decide) ?_
            refine g_goto C 2 dX10_beginning_51 (by decide) ?_
            have h9 := ih (d + 1) (by omega) (by omega) (by rw [← begO_f (d := d) (by omega) (okD_f (by first | exact Or.inl c_35 | exact Or.inr (nI_le (of_decide_eq_true (bI_n0.mp c_43)) (by have := (dryN_le (f := (aI w 2280 (ad 28))) (a := d + 1) (min (d + 16) 60 - (d + 1))).1; omega))))]; exact hb)
            exact g_lv2 [(0, .ref mo), (1, .int (nI (d + 1)))] rfl h9
          · refine g_iload_n C dX10_beginning_46 rfl ?_
            refine g_iret C rfl rfl (by decide) (by decide) dX10_beginning_47 ?_
            exact ⟨by rw [← hb, begO_t (d := d) (by omega) (okD_t c_35 (fun z9 => of_decide_eq_false (bI_0.mp c_43) (nI_le_of (a := 7) z9 (by omega) (by have := (dryN_le (f := (aI w 2280 (ad 28))) (a := d + 1) (min (d + 16) 60 - (d + 1))).1; omega))))]; rfl, rfl⟩
  refine g_iconst C 2 dX10_beginning_0 (by rfl) ?_
  refine g_istore_n C dX10_beginning_1 (by decide) ?_
  exact g_lv2 [(0, .ref mo), (1, .int (nI 2))] rfl (loop 58 2 (by omega) (by omega) rfl)
end REF15
end
section
section REF16
theorem phV_e {w : Wd} {ad : Nat → Nat} {pr k i : Nat} : aI w 2070 (ad 7) (5 * (3 * pr + i) + k) = phV w ad pr k i := rfl
theorem phV_0 {w : Wd} {ad : Nat → Nat} {pr i : Nat} : aI w 2070 (ad 7) (5 * (3 * pr + i)) = phV w ad pr 0 i := rfl
theorem look_n {f : Nat → Int32} {dry : Int32} {days fr : Nat} (h : 60 ≤ fr) (hd : dry = 1) : (60 : Int32) = lookV f dry days fr := by
  unfold lookV
  rw [if_pos h, if_neg (by rw [hd]; decide)]
theorem look_n0 {f : Nat → Int32} {dry : Int32} {days fr : Nat} (h : 60 ≤ fr) (hd : dry = 0) : (0 : Int32) = lookV f dry days fr := by
  unfold lookV
  rw [if_pos h, if_pos hd]
theorem look_d {f : Nat → Int32} {dry : Int32} {days fr : Nat} (h : ¬ 60 ≤ fr) (hd : dry = 1) : nI (dryN f fr (min (fr + days) 60 - fr)).1 = lookV f dry days fr := by
  unfold lookV
  rw [if_neg h, if_neg (by rw [hd]; decide)]
theorem look_s {f : Nat → Int32} {dry : Int32} {days fr : Nat} (h : ¬ 60 ≤ fr) (hd : dry = 0) : sumF f fr (min (fr + days) 60 - fr) = lookV f dry days fr := by
  unfold lookV
  rw [if_neg h, if_pos hd]
theorem beg_j1 {f : Nat → Int32} {k : Nat} (h : oI (begO f 58) = -1) : (1 : Int32) = bI (decide (60 ≤ stN f + k)) := by
  rw [decide_eq_true (p := 60 ≤ stN f + k) (by rw [stN_60 h]; omega)]
  rfl
theorem beg_j2 {f : Nat → Int32} {k b0 f0 : Nat} (hb : (oI (begO f 58) = -1 ∧ stN f = 60) ∨ (¬ oI (begO f 58) = -1 ∧ stN f = b0)) (h : ¬ oI (begO f 58) = -1) (hf : f0 = b0 + k) (h2 : 60 ≤ f0) : (1 : Int32) = bI (decide (60 ≤ stN f + k)) := by
  rcases hb with ⟨h3, -⟩ | ⟨-, h3⟩
  · exact absurd h3 h
  · rw [decide_eq_true (p := 60 ≤ stN f + k) (by omega)]
    rfl
theorem beg_j3 {f : Nat → Int32} {k b0 f0 : Nat} (hb : (oI (begO f 58) = -1 ∧ stN f = 60) ∨ (¬ oI (begO f 58) = -1 ∧ stN f = b0)) (h : ¬ oI (begO f 58) = -1) (hf : f0 = b0 + k) (h2 : f0 < 60) : (0 : Int32) = bI (decide (60 ≤ stN f + k)) := by
  rcases hb with ⟨h3, -⟩ | ⟨-, h3⟩
  · exact absurd h3 h
  · rw [decide_eq_false (p := 60 ≤ stN f + k) (by omega)]
    rfl
theorem dry01 {x : Int32} (h : x = 0 ∨ x = 1) (h1 : ¬ x = 1) : x = 0 := h.resolve_right h1
theorem payV_4 {dry tr ex its by_ all : Int32} (h1 : by_ = if dry = 0 then tr - its else its - tr) (h2 : all = if dry = 0 then tr - ex else ex - tr) (h : ¬ by_ ≤ 0) (h3 : all ≤ by_) : payV dry tr ex its = 1000 := by
  by_cases h4 : all ≤ 0
  · exact payV_1 h1 h2 h h4
  · exact payV_2 h1 h2 h h4 h3
theorem payV_5 {dry tr ex its by_ all : Int32} (h1 : by_ = if dry = 0 then tr - its else its - tr) (h2 : all = if dry = 0 then tr - ex else ex - tr) (h : ¬ by_ ≤ 0) (h3 : by_ < all) : payV dry tr ex its = 1000 * by_ / all :=
  payV_3 h1 h2 h (fun z => by rw [i32_le] at z h; rw [i32_lt] at h3; omega) (Int32.not_le.mpr h3)
theorem pay_ne {by_ all : Int32} (h : 0 < by_) (h3 : by_ < all) : ¬ all = 0 := fun z => by subst z; rw [i32_lt] at h h3; omega
theorem dX10_looksAt_0 : decode cX10_looksAt 0 = .ok (.aload_n 0, 1) := by decide +kernel
theorem dX10_looksAt_1 : decode cX10_looksAt 1 = .ok (.invokevirtual 123, 3) := by decide +kernel
theorem dX10_looksAt_4 : decode cX10_looksAt 4 = .ok (.istore_n 3, 1) := by decide +kernel
theorem dX10_looksAt_5 : decode cX10_looksAt 5 = .ok (.iconst 5, 1) := by decide +kernel
theorem dX10_looksAt_6 : decode cX10_looksAt 6 = .ok (.iconst 3, 1) := by decide +kernel
theorem dX10_looksAt_7 : decode cX10_looksAt 7 = .ok (.iload_n 1, 1) := by decide +kernel
theorem dX10_looksAt_8 : decode cX10_looksAt 8 = .ok (.imul, 1) := by decide +kernel
theorem dX10_looksAt_9 : decode cX10_looksAt 9 = .ok (.iload_n 2, 1) := by decide +kernel
theorem dX10_looksAt_10 : decode cX10_looksAt 10 = .ok (.iadd, 1) := by decide +kernel
theorem dX10_looksAt_11 : decode cX10_looksAt 11 = .ok (.imul, 1) := by decide +kernel
theorem dX10_looksAt_12 : decode cX10_looksAt 12 = .ok (.istore 4, 2) := by decide +kernel
theorem dX10_looksAt_14 : decode cX10_looksAt 14 = .ok (.iload_n 3, 1) := by decide +kernel
theorem dX10_looksAt_15 : decode cX10_looksAt 15 = .ok (.iconst 1, 1) := by decide +kernel
theorem dX10_looksAt_16 : decode cX10_looksAt 16 = .ok (.iadd, 1) := by decide +kernel
theorem dX10_looksAt_17 : decode cX10_looksAt 17 = .ok (.istore 5, 2) := by decide +kernel
theorem dX10_looksAt_19 : decode cX10_looksAt 19 = .ok (.iconst 0, 1) := by decide +kernel
theorem dX10_looksAt_20 : decode cX10_looksAt 20 = .ok (.istore 6, 2) := by decide +kernel
theorem dX10_looksAt_22 : decode cX10_looksAt 22 = .ok (.iload 6, 2) := by decide +kernel
theorem dX10_looksAt_24 : decode cX10_looksAt 24 = .ok (.iload_n 2, 1) := by decide +kernel
theorem dX10_looksAt_25 : decode cX10_looksAt 25 = .ok (.if_icmp .ge 27, 3) := by decide +kernel
theorem dX10_looksAt_28 : decode cX10_looksAt 28 = .ok (.iload 5, 2) := by decide +kernel
theorem dX10_looksAt_30 : decode cX10_looksAt 30 = .ok (.aload_n 0, 1) := by decide +kernel
theorem dX10_looksAt_31 : decode cX10_looksAt 31 = .ok (.getfield 22, 3) := by decide +kernel
theorem dX10_looksAt_34 : decode cX10_looksAt 34 = .ok (.iconst 5, 1) := by decide +kernel
theorem dX10_looksAt_35 : decode cX10_looksAt 35 = .ok (.iconst 3, 1) := by decide +kernel
theorem dX10_looksAt_36 : decode cX10_looksAt 36 = .ok (.iload_n 1, 1) := by decide +kernel
theorem dX10_looksAt_37 : decode cX10_looksAt 37 = .ok (.imul, 1) := by decide +kernel
theorem dX10_looksAt_38 : decode cX10_looksAt 38 = .ok (.iload 6, 2) := by decide +kernel
theorem dX10_looksAt_40 : decode cX10_looksAt 40 = .ok (.iadd, 1) := by decide +kernel
theorem dX10_looksAt_41 : decode cX10_looksAt 41 = .ok (.imul, 1) := by decide +kernel
theorem dX10_looksAt_42 : decode cX10_looksAt 42 = .ok (.iaload, 1) := by decide +kernel
theorem dX10_looksAt_43 : decode cX10_looksAt 43 = .ok (.iadd, 1) := by decide +kernel
theorem dX10_looksAt_44 : decode cX10_looksAt 44 = .ok (.istore 5, 2) := by decide +kernel
theorem dX10_looksAt_46 : decode cX10_looksAt 46 = .ok (.iinc 6 1, 3) := by decide +kernel
theorem dX10_looksAt_49 : decode cX10_looksAt 49 = .ok (.goto (-27), 3) := by decide +kernel
theorem dX10_looksAt_52 : decode cX10_looksAt 52 = .ok (.iconst 0, 1) := by decide +kernel
theorem dX10_looksAt_53 : decode cX10_looksAt 53 = .ok (.istore 6, 2) := by decide +kernel
theorem dX10_looksAt_55 : decode cX10_looksAt 55 = .ok (.iconst 0, 1) := by decide +kernel
theorem dX10_looksAt_56 : decode cX10_looksAt 56 = .ok (.istore 7, 2) := by decide +kernel
theorem dX10_looksAt_58 : decode cX10_looksAt 58 = .ok (.iconst 0, 1) := by decide +kernel
theorem dX10_looksAt_59 : decode cX10_looksAt 59 = .ok (.istore 8, 2) := by decide +kernel
theorem dX10_looksAt_61 : decode cX10_looksAt 61 = .ok (.iload 5, 2) := by decide +kernel
theorem dX10_looksAt_63 : decode cX10_looksAt 63 = .ok (.istore 9, 2) := by decide +kernel
theorem dX10_looksAt_65 : decode cX10_looksAt 65 = .ok (.iload 9, 2) := by decide +kernel
theorem dX10_looksAt_67 : decode cX10_looksAt 67 = .ok (.iload 5, 2) := by decide +kernel
theorem dX10_looksAt_69 : decode cX10_looksAt 69 = .ok (.aload_n 0, 1) := by decide +kernel
theorem dX10_looksAt_70 : decode cX10_looksAt 70 = .ok (.getfield 22, 3) := by decide +kernel
theorem dX10_looksAt_73 : decode cX10_looksAt 73 = .ok (.iload 4, 2) := by decide +kernel
theorem dX10_looksAt_75 : decode cX10_looksAt 75 = .ok (.iaload, 1) := by decide +kernel
theorem dX10_looksAt_76 : decode cX10_looksAt 76 = .ok (.iadd, 1) := by decide +kernel
theorem dX10_looksAt_77 : decode cX10_looksAt 77 = .ok (.if_icmp .ge 66, 3) := by decide +kernel
theorem dX10_looksAt_80 : decode cX10_looksAt 80 = .ok (.iload 9, 2) := by decide +kernel
theorem dX10_looksAt_82 : decode cX10_looksAt 82 = .ok (.bipush 60, 2) := by decide +kernel
theorem dX10_looksAt_84 : decode cX10_looksAt 84 = .ok (.if_icmp .ge 59, 3) := by decide +kernel
theorem dX10_looksAt_87 : decode cX10_looksAt 87 = .ok (.iload 6, 2) := by decide +kernel
theorem dX10_looksAt_89 : decode cX10_looksAt 89 = .ok (.aload_n 0, 1) := by decide +kernel
theorem dX10_looksAt_90 : decode cX10_looksAt 90 = .ok (.getfield 72, 3) := by decide +kernel
theorem dX10_looksAt_93 : decode cX10_looksAt 93 = .ok (.iload 9, 2) := by decide +kernel
theorem dX10_looksAt_95 : decode cX10_looksAt 95 = .ok (.iaload, 1) := by decide +kernel
theorem dX10_looksAt_96 : decode cX10_looksAt 96 = .ok (.iadd, 1) := by decide +kernel
theorem dX10_looksAt_97 : decode cX10_looksAt 97 = .ok (.istore 6, 2) := by decide +kernel
theorem dX10_looksAt_99 : decode cX10_looksAt 99 = .ok (.aload_n 0, 1) := by decide +kernel
theorem dX10_looksAt_100 : decode cX10_looksAt 100 = .ok (.getfield 72, 3) := by decide +kernel
theorem dX10_looksAt_103 : decode cX10_looksAt 103 = .ok (.iload 9, 2) := by decide +kernel
theorem dX10_looksAt_105 : decode cX10_looksAt 105 = .ok (.iaload, 1) := by decide +kernel
theorem dX10_looksAt_106 : decode cX10_looksAt 106 = .ok (.bipush 10, 2) := by decide +kernel
theorem dX10_looksAt_108 : decode cX10_looksAt 108 = .ok (.if_icmp .ge 10, 3) := by decide +kernel
theorem dX10_looksAt_111 : decode cX10_looksAt 111 = .ok (.iload 7, 2) := by decide +kernel
theorem dX10_looksAt_113 : decode cX10_looksAt 113 = .ok (.iconst 1, 1) := by decide +kernel
theorem dX10_looksAt_114 : decode cX10_looksAt 114 = .ok (.iadd, 1) := by decide +kernel
theorem dX10_looksAt_115 : decode cX10_looksAt 115 = .ok (.goto 4, 3) := by decide +kernel
theorem dX10_looksAt_118 : decode cX10_looksAt 118 = .ok (.iconst 0, 1) := by decide +kernel
theorem dX10_looksAt_119 : decode cX10_looksAt 119 = .ok (.istore 7, 2) := by decide +kernel
theorem dX10_looksAt_121 : decode cX10_looksAt 121 = .ok (.iload 7, 2) := by decide +kernel
theorem dX10_looksAt_123 : decode cX10_looksAt 123 = .ok (.iload 8, 2) := by decide +kernel
theorem dX10_looksAt_125 : decode cX10_looksAt 125 = .ok (.if_icmp .le 8, 3) := by decide +kernel
theorem dX10_looksAt_128 : decode cX10_looksAt 128 = .ok (.iload 7, 2) := by decide +kernel
theorem dX10_looksAt_130 : decode cX10_looksAt 130 = .ok (.goto 5, 3) := by decide +kernel
theorem dX10_looksAt_133 : decode cX10_looksAt 133 = .ok (.iload 8, 2) := by decide +kernel
theorem dX10_looksAt_135 : decode cX10_looksAt 135 = .ok (.istore 8, 2) := by decide +kernel
theorem dX10_looksAt_137 : decode cX10_looksAt 137 = .ok (.iinc 9 1, 3) := by decide +kernel
theorem dX10_looksAt_140 : decode cX10_looksAt 140 = .ok (.goto (-75), 3) := by decide +kernel
theorem dX10_looksAt_143 : decode cX10_looksAt 143 = .ok (.iload_n 3, 1) := by decide +kernel
theorem dX10_looksAt_144 : decode cX10_looksAt 144 = .ok (.iconst (-1), 1) := by decide +kernel
theorem dX10_looksAt_145 : decode cX10_looksAt 145 = .ok (.if_icmp .eq 10, 3) := by decide +kernel
theorem dX10_looksAt_148 : decode cX10_looksAt 148 = .ok (.iload 5, 2) := by decide +kernel
theorem dX10_looksAt_150 : decode cX10_looksAt 150 = .ok (.bipush 60, 2) := by decide +kernel
theorem dX10_looksAt_152 : decode cX10_looksAt 152 = .ok (.if_icmp .lt 7, 3) := by decide +kernel
theorem dX10_looksAt_155 : decode cX10_looksAt 155 = .ok (.iconst 1, 1) := by decide +kernel
theorem dX10_looksAt_156 : decode cX10_looksAt 156 = .ok (.goto 4, 3) := by decide +kernel
theorem dX10_looksAt_159 : decode cX10_looksAt 159 = .ok (.iconst 0, 1) := by decide +kernel
theorem dX10_looksAt_160 : decode cX10_looksAt 160 = .ok (.istore 9, 2) := by decide +kernel
theorem dX10_looksAt_162 : decode cX10_looksAt 162 = .ok (.aload_n 0, 1) := by decide +kernel
theorem dX10_looksAt_163 : decode cX10_looksAt 163 = .ok (.getfield 22, 3) := by decide +kernel
theorem dX10_looksAt_166 : decode cX10_looksAt 166 = .ok (.iload 4, 2) := by decide +kernel
theorem dX10_looksAt_168 : decode cX10_looksAt 168 = .ok (.iconst 1, 1) := by decide +kernel
theorem dX10_looksAt_169 : decode cX10_looksAt 169 = .ok (.iadd, 1) := by decide +kernel
theorem dX10_looksAt_170 : decode cX10_looksAt 170 = .ok (.iaload, 1) := by decide +kernel
theorem dX10_looksAt_171 : decode cX10_looksAt 171 = .ok (.iconst 1, 1) := by decide +kernel
theorem dX10_looksAt_172 : decode cX10_looksAt 172 = .ok (.if_icmp .ne 18, 3) := by decide +kernel
theorem dX10_looksAt_175 : decode cX10_looksAt 175 = .ok (.iload 9, 2) := by decide +kernel
theorem dX10_looksAt_177 : decode cX10_looksAt 177 = .ok (.ifCond .eq 8, 3) := by decide +kernel
theorem dX10_looksAt_180 : decode cX10_looksAt 180 = .ok (.bipush 60, 2) := by decide +kernel
theorem dX10_looksAt_182 : decode cX10_looksAt 182 = .ok (.goto 19, 3) := by decide +kernel
theorem dX10_looksAt_185 : decode cX10_looksAt 185 = .ok (.iload 8, 2) := by decide +kernel
theorem dX10_looksAt_187 : decode cX10_looksAt 187 = .ok (.goto 14, 3) := by decide +kernel
theorem dX10_looksAt_190 : decode cX10_looksAt 190 = .ok (.iload 9, 2) := by decide +kernel
theorem dX10_looksAt_192 : decode cX10_looksAt 192 = .ok (.ifCond .eq 7, 3) := by decide +kernel
theorem dX10_looksAt_195 : decode cX10_looksAt 195 = .ok (.iconst 0, 1) := by decide +kernel
theorem dX10_looksAt_196 : decode cX10_looksAt 196 = .ok (.goto 5, 3) := by decide +kernel
theorem dX10_looksAt_199 : decode cX10_looksAt 199 = .ok (.iload 6, 2) := by decide +kernel
theorem dX10_looksAt_201 : decode cX10_looksAt 201 = .ok (.ireturn, 1) := by decide +kernel
set_option maxHeartbeats 4000000 in
set_option maxRecDepth 100000 in
theorem c_X10_looksAt (de : Nat) (w : Wd) (mo : Nat) (ad : Nat → Nat) (hm : RM w mo ad) (pr n : Nat) (dN : Nat → Nat) (hpr : pr < 7) (hp : RPH w ad pr n dN) (ph : Nat) (hph : ph < n) : Ct yX10_looksAt cX10_looksAt 10 (some .int) 2 45 0 0 de [.ref mo, .int (nI pr), .int (nI ph)] w (fun r w' => r = some (.int (lookV (aI w 2280 (ad 28)) (phV w ad pr 1 ph) (dN ph) (stN (aI w 2280 (ad 28)) + dSum dN ph))) ∧ w = w') := by
  refine Ct.mk (by decide +kernel) [(0, .ref mo), (1, .int (nI pr)), (2, .int (nI ph))] rfl (Nat.le_of_ble_eq_true rfl) ?_
  intro p l e R s m args below meth c D cy z C hnm
  obtain ⟨b0, hb0, hb1, hb2⟩ := beg_b0 (aI w 2280 (ad 28))
  obtain ⟨hn3, hel⟩ := hp
  have hds := dSum_le (dN := dN) (n := n) (fun i hi => (hel i hi).2.1)
  have hdp := hds ph (by omega)
  have hdq := (hel ph hph).2.1
  obtain ⟨f0, hf0⟩ : ∃ f0 : Nat, f0 = b0 + dSum dN ph := ⟨_, rfl⟩
  obtain ⟨N, hN⟩ : ∃ N : Nat, N = min (f0 + dN ph) 60 - f0 := ⟨_, rfl⟩
  have h01 := (hel ph hph).2.2
  have loop2 : ∀ (k i : Nat), i + k = N → G p l e R s m args below meth c D cy z 10 w 0 0 65 [(0, .ref mo), (1, .int (nI pr)), (2, .int (nI ph)), (3, .int (oI (begO (aI w 2280 (ad 28)) 58))), (4, .int (nI (5 * (3 * pr + ph)))), (5, .int (nI f0)), (6, .int (sumF (aI w 2280 (ad 28)) f0 i)), (7, .int (nI (dryN (aI w 2280 (ad 28)) f0 i).2)), (8, .int (nI (dryN (aI w 2280 (ad 28)) f0 i).1)), (9, .int (nI (f0 + i)))] [] (QM below args s D cy z (fun r w' => r = some (.int (lookV (aI w 2280 (ad 28)) (phV w ad pr 1 ph) (dN ph) (stN (aI w 2280 (ad 28)) + dSum dN ph))) ∧ w = w') 0 0) := by
    intro k
    induction k with
    | zero =>
      intro i hik
      refine g_iload C dX10_looksAt_65 rfl ?_
      refine g_iload C dX10_looksAt_67 rfl ?_
      refine g_aload_n C dX10_looksAt_69 rfl ?_
      refine g_getR (b := (ad 7)) C cls_11 12 7 hm.1 (rm_7 hm).1 rfl k_922 dX10_looksAt_70 ?_
      refine g_iload C dX10_looksAt_73 rfl ?_
      refine g_iald C 2070 (rm_7 hm).2.1 rfl (by rw [(rm_7 hm).2.2]; exact nI_vp (show 5 * (3 * pr + ph) < 105 by omega) (by omega)) dX10_looksAt_75 ?_
      rw [nI_tn (by omega), phV_0, (hel ph hph).1]
      refine g_iadd C dX10_looksAt_76 ?_
      rw [nI_add]
      refine g_icmp_ge C 143 dX10_looksAt_77 (by decide) (fun c_77 => ?_) (fun c_77 => ?_)
      · refine g_cutS (pc' := 160) (.int (bI (decide (60 ≤ stN (aI w 2280 (ad 28)) + dSum dN ph)))) ?_ (fun j_160 => ?_)
        · refine g_istore C dX10_looksAt_160 (by decide) ?_
          refine g_aload_n C dX10_looksAt_162 rfl ?_
          refine g_getR (b := (ad 7)) C cls_11 12 7 hm.1 (rm_7 hm).1 rfl k_922 dX10_looksAt_163 ?_
          refine g_iload C dX10_looksAt_166 rfl ?_
          refine g_iconst C 1 dX10_looksAt_168 (by rfl) ?_
          refine g_iadd C dX10_looksAt_169 ?_
          rw [show nI (5 * (3 * pr + ph)) + 1 = nI (5 * (3 * pr + ph) + 1) from nI_1 _]
          refine g_iald C 2070 (rm_7 hm).2.1 rfl (by rw [(rm_7 hm).2.2]; exact nI_vp (show 5 * (3 * pr + ph) + 1 < 105 by omega) (by omega)) dX10_looksAt_170 ?_
          rw [nI_tn (by omega), phV_e]
          refine g_iconst C 1 dX10_looksAt_171 (by rfl) ?_
          refine g_icmp_ne C 190 dX10_looksAt_172 (by decide) (fun c_172 => ?_) (fun c_172 => ?_)
          · refine g_iload C dX10_looksAt_190 rfl ?_
            refine g_if_eq C 199 dX10_looksAt_192 (by decide) (fun c_192 => ?_) (fun c_192 => ?_)
            · refine g_iload C dX10_looksAt_199 rfl ?_
              refine g_iret C rfl rfl (by decide) (by decide) dX10_looksAt_201 ?_
              first
              | exact ⟨congrArg (fun v => some (Value.int v)) (look_n (of_decide_eq_true (bI_n0.mp c_177)) c_172), rfl⟩
              | exact ⟨congrArg (fun v => some (Value.int v)) (look_n0 (of_decide_eq_true (bI_n0.mp c_192)) (dry01 h01 c_172)), rfl⟩
              | (have e9 : f0 = stN (aI w 2280 (ad 28)) + dSum dN ph := (by have h9 : ¬ 60 ≤ stN (aI w 2280 (ad 28)) + dSum dN ph := of_decide_eq_false (bI_0.mp c_177); rcases hb2 with ⟨-, h⟩ | ⟨-, h⟩ <;> omega); exact ⟨congrArg (fun v => some (Value.int v)) (by rw [show i = N by omega, hN, e9]; exact look_d (of_decide_eq_false (bI_0.mp c_177)) c_172), rfl⟩)
              | (have e9 : f0 = stN (aI w 2280 (ad 28)) + dSum dN ph := (by have h9 : ¬ 60 ≤ stN (aI w 2280 (ad 28)) + dSum dN ph := of_decide_eq_false (bI_0.mp c_192); rcases hb2 with ⟨-, h⟩ | ⟨-, h⟩ <;> omega); exact ⟨congrArg (fun v => some (Value.int v)) (by rw [show i = N by omega, hN, e9]; exact look_s (of_decide_eq_false (bI_0.mp c_192)) (dry01 h01 c_172)), rfl⟩)
            · refine g_iconst C 0 dX10_looksAt_195 (by rfl) ?_
              refine g_goto C 201 dX10_looksAt_196 (by decide) ?_
              refine g_iret C rfl rfl (by decide) (by decide) dX10_looksAt_201 ?_
              first
              | exact ⟨congrArg (fun v => some (Value.int v)) (look_n (of_decide_eq_true (bI_n0.mp c_177)) c_172), rfl⟩
              | exact ⟨congrArg (fun v => some (Value.int v)) (look_n0 (of_decide_eq_true (bI_n0.mp c_192)) (dry01 h01 c_172)), rfl⟩
              | (have e9 : f0 = stN (aI w 2280 (ad 28)) + dSum dN ph := (by have h9 : ¬ 60 ≤ stN (aI w 2280 (ad 28)) + dSum dN ph := of_decide_eq_false (bI_0.mp c_177); rcases hb2 with ⟨-, h⟩ | ⟨-, h⟩ <;> omega); exact ⟨congrArg (fun v => some (Value.int v)) (by rw [show i = N by omega, hN, e9]; exact look_d (of_decide_eq_false (bI_0.mp c_177)) c_172), rfl⟩)
              | (have e9 : f0 = stN (aI w 2280 (ad 28)) + dSum dN ph := (by have h9 : ¬ 60 ≤ stN (aI w 2280 (ad 28)) + dSum dN ph := of_decide_eq_false (bI_0.mp c_192); rcases hb2 with ⟨-, h⟩ | ⟨-, h⟩ <;> omega); exact ⟨congrArg (fun v => some (Value.int v)) (by rw [show i = N by omega, hN, e9]; exact look_s (of_decide_eq_false (bI_0.mp c_192)) (dry01 h01 c_172)), rfl⟩)
          · refine g_iload C dX10_looksAt_175 rfl ?_
            refine g_if_eq C 185 dX10_looksAt_177 (by decide) (fun c_177 => ?_) (fun c_177 => ?_)
            · refine g_iload C dX10_looksAt_185 rfl ?_
              refine g_goto C 201 dX10_looksAt_187 (by decide) ?_
              refine g_iret C rfl rfl (by decide) (by decide) dX10_looksAt_201 ?_
              first
              | exact ⟨congrArg (fun v => some (Value.int v)) (look_n (of_decide_eq_true (bI_n0.mp c_177)) c_172), rfl⟩
              | exact ⟨congrArg (fun v => some (Value.int v)) (look_n0 (of_decide_eq_true (bI_n0.mp c_192)) (dry01 h01 c_172)), rfl⟩
              | (have e9 : f0 = stN (aI w 2280 (ad 28)) + dSum dN ph := (by have h9 : ¬ 60 ≤ stN (aI w 2280 (ad 28)) + dSum dN ph := of_decide_eq_false (bI_0.mp c_177); rcases hb2 with ⟨-, h⟩ | ⟨-, h⟩ <;> omega); exact ⟨congrArg (fun v => some (Value.int v)) (by rw [show i = N by omega, hN, e9]; exact look_d (of_decide_eq_false (bI_0.mp c_177)) c_172), rfl⟩)
              | (have e9 : f0 = stN (aI w 2280 (ad 28)) + dSum dN ph := (by have h9 : ¬ 60 ≤ stN (aI w 2280 (ad 28)) + dSum dN ph := of_decide_eq_false (bI_0.mp c_192); rcases hb2 with ⟨-, h⟩ | ⟨-, h⟩ <;> omega); exact ⟨congrArg (fun v => some (Value.int v)) (by rw [show i = N by omega, hN, e9]; exact look_s (of_decide_eq_false (bI_0.mp c_192)) (dry01 h01 c_172)), rfl⟩)
            · refine g_bipush C 60 dX10_looksAt_180 (by rfl) ?_
              refine g_goto C 201 dX10_looksAt_182 (by decide) ?_
              refine g_iret C rfl rfl (by decide) (by decide) dX10_looksAt_201 ?_
              first
              | exact ⟨congrArg (fun v => some (Value.int v)) (look_n (of_decide_eq_true (bI_n0.mp c_177)) c_172), rfl⟩
              | exact ⟨congrArg (fun v => some (Value.int v)) (look_n0 (of_decide_eq_true (bI_n0.mp c_192)) (dry01 h01 c_172)), rfl⟩
              | (have e9 : f0 = stN (aI w 2280 (ad 28)) + dSum dN ph := (by have h9 : ¬ 60 ≤ stN (aI w 2280 (ad 28)) + dSum dN ph := of_decide_eq_false (bI_0.mp c_177); rcases hb2 with ⟨-, h⟩ | ⟨-, h⟩ <;> omega); exact ⟨congrArg (fun v => some (Value.int v)) (by rw [show i = N by omega, hN, e9]; exact look_d (of_decide_eq_false (bI_0.mp c_177)) c_172), rfl⟩)
              | (have e9 : f0 = stN (aI w 2280 (ad 28)) + dSum dN ph := (by have h9 : ¬ 60 ≤ stN (aI w 2280 (ad 28)) + dSum dN ph := of_decide_eq_false (bI_0.mp c_192); rcases hb2 with ⟨-, h⟩ | ⟨-, h⟩ <;> omega); exact ⟨congrArg (fun v => some (Value.int v)) (by rw [show i = N by omega, hN, e9]; exact look_s (of_decide_eq_false (bI_0.mp c_192)) (dry01 h01 c_172)), rfl⟩)
        · refine g_iload_n C dX10_looksAt_143 rfl ?_
          refine g_iconst C (-1) dX10_looksAt_144 (by rfl) ?_
          refine g_icmp_eq C 155 dX10_looksAt_145 (by decide) (fun c_145 => ?_) (fun c_145 => ?_)
          · refine g_iconst C 1 dX10_looksAt_155 (by rfl) ?_
            refine g_goto C 160 dX10_looksAt_156 (by decide) ?_
            exact g_eq rfl (congrArg (fun v => Value.int v :: _) (by first | exact beg_j1 c_145 | exact beg_j2 hb2 c_145 hf0 (nI_nlt_of (b := 60) c_152 (by omega) (by omega)) | exact beg_j3 hb2 c_145 hf0 (nI_lt_of (b := 60) c_152 (by omega) (by omega)))) rfl j_160
          · refine g_iload C dX10_looksAt_148 rfl ?_
            refine g_bipush C 60 dX10_looksAt_150 (by rfl) ?_
            refine g_icmp_lt C 159 dX10_looksAt_152 (by decide) (fun c_152 => ?_) (fun c_152 => ?_)
            · refine g_iconst C 0 dX10_looksAt_159 (by rfl) ?_
              exact g_eq rfl (congrArg (fun v => Value.int v :: _) (by first | exact beg_j1 c_145 | exact beg_j2 hb2 c_145 hf0 (nI_nlt_of (b := 60) c_152 (by omega) (by omega)) | exact beg_j3 hb2 c_145 hf0 (nI_lt_of (b := 60) c_152 (by omega) (by omega)))) rfl j_160
            · refine g_iconst C 1 dX10_looksAt_155 (by rfl) ?_
              refine g_goto C 160 dX10_looksAt_156 (by decide) ?_
              exact g_eq rfl (congrArg (fun v => Value.int v :: _) (by first | exact beg_j1 c_145 | exact beg_j2 hb2 c_145 hf0 (nI_nlt_of (b := 60) c_152 (by omega) (by omega)) | exact beg_j3 hb2 c_145 hf0 (nI_lt_of (b := 60) c_152 (by omega) (by omega)))) rfl j_160
      · refine g_iload C dX10_looksAt_80 rfl ?_
        refine g_bipush C 60 dX10_looksAt_82 (by rfl) ?_
        refine g_icmp_ge C 143 dX10_looksAt_84 (by decide) (fun c_84 => ?_) (fun c_84 => ?_)
        · refine g_cutS (pc' := 160) (.int (bI (decide (60 ≤ stN (aI w 2280 (ad 28)) + dSum dN ph)))) ?_ (fun j_160 => ?_)
          · refine g_istore C dX10_looksAt_160 (by decide) ?_
            refine g_aload_n C dX10_looksAt_162 rfl ?_
            refine g_getR (b := (ad 7)) C cls_11 12 7 hm.1 (rm_7 hm).1 rfl k_922 dX10_looksAt_163 ?_
            refine g_iload C dX10_looksAt_166 rfl ?_
            refine g_iconst C 1 dX10_looksAt_168 (by rfl) ?_
            refine g_iadd C dX10_looksAt_169 ?_
            rw [show nI (5 * (3 * pr + ph)) + 1 = nI (5 * (3 * pr + ph) + 1) from nI_1 _]
            refine g_iald C 2070 (rm_7 hm).2.1 rfl (by rw [(rm_7 hm).2.2]; exact nI_vp (show 5 * (3 * pr + ph) + 1 < 105 by omega) (by omega)) dX10_looksAt_170 ?_
            rw [nI_tn (by omega), phV_e]
            refine g_iconst C 1 dX10_looksAt_171 (by rfl) ?_
            refine g_icmp_ne C 190 dX10_looksAt_172 (by decide) (fun c_172 => ?_) (fun c_172 => ?_)
            · refine g_iload C dX10_looksAt_190 rfl ?_
              refine g_if_eq C 199 dX10_looksAt_192 (by decide) (fun c_192 => ?_) (fun c_192 => ?_)
              · refine g_iload C dX10_looksAt_199 rfl ?_
                refine g_iret C rfl rfl (by decide) (by decide) dX10_looksAt_201 ?_
                first
                | exact ⟨congrArg (fun v => some (Value.int v)) (look_n (of_decide_eq_true (bI_n0.mp c_177)) c_172), rfl⟩
                | exact ⟨congrArg (fun v => some (Value.int v)) (look_n0 (of_decide_eq_true (bI_n0.mp c_192)) (dry01 h01 c_172)), rfl⟩
                | (have e9 : f0 = stN (aI w 2280 (ad 28)) + dSum dN ph := (by have h9 : ¬ 60 ≤ stN (aI w 2280 (ad 28)) + dSum dN ph := of_decide_eq_false (bI_0.mp c_177); rcases hb2 with ⟨-, h⟩ | ⟨-, h⟩ <;> omega); exact ⟨congrArg (fun v => some (Value.int v)) (by rw [show i = N by omega, hN, e9]; exact look_d (of_decide_eq_false (bI_0.mp c_177)) c_172), rfl⟩)
                | (have e9 : f0 = stN (aI w 2280 (ad 28)) + dSum dN ph := (by have h9 : ¬ 60 ≤ stN (aI w 2280 (ad 28)) + dSum dN ph := of_decide_eq_false (bI_0.mp c_192); rcases hb2 with ⟨-, h⟩ | ⟨-, h⟩ <;> omega); exact ⟨congrArg (fun v => some (Value.int v)) (by rw [show i = N by omega, hN, e9]; exact look_s (of_decide_eq_false (bI_0.mp c_192)) (dry01 h01 c_172)), rfl⟩)
              · refine g_iconst C 0 dX10_looksAt_195 (by rfl) ?_
                refine g_goto C 201 dX10_looksAt_196 (by decide) ?_
                refine g_iret C rfl rfl (by decide) (by decide) dX10_looksAt_201 ?_
                first
                | exact ⟨congrArg (fun v => some (Value.int v)) (look_n (of_decide_eq_true (bI_n0.mp c_177)) c_172), rfl⟩
                | exact ⟨congrArg (fun v => some (Value.int v)) (look_n0 (of_decide_eq_true (bI_n0.mp c_192)) (dry01 h01 c_172)), rfl⟩
                | (have e9 : f0 = stN (aI w 2280 (ad 28)) + dSum dN ph := (by have h9 : ¬ 60 ≤ stN (aI w 2280 (ad 28)) + dSum dN ph := of_decide_eq_false (bI_0.mp c_177); rcases hb2 with ⟨-, h⟩ | ⟨-, h⟩ <;> omega); exact ⟨congrArg (fun v => some (Value.int v)) (by rw [show i = N by omega, hN, e9]; exact look_d (of_decide_eq_false (bI_0.mp c_177)) c_172), rfl⟩)
                | (have e9 : f0 = stN (aI w 2280 (ad 28)) + dSum dN ph := (by have h9 : ¬ 60 ≤ stN (aI w 2280 (ad 28)) + dSum dN ph := of_decide_eq_false (bI_0.mp c_192); rcases hb2 with ⟨-, h⟩ | ⟨-, h⟩ <;> omega); exact ⟨congrArg (fun v => some (Value.int v)) (by rw [show i = N by omega, hN, e9]; exact look_s (of_decide_eq_false (bI_0.mp c_192)) (dry01 h01 c_172)), rfl⟩)
            · refine g_iload C dX10_looksAt_175 rfl ?_
              refine g_if_eq C 185 dX10_looksAt_177 (by decide) (fun c_177 => ?_) (fun c_177 => ?_)
              · refine g_iload C dX10_looksAt_185 rfl ?_
                refine g_goto C 201 dX10_looksAt_187 (by decide) ?_
                refine g_iret C rfl rfl (by decide) (by decide) dX10_looksAt_201 ?_
                first
                | exact ⟨congrArg (fun v => some (Value.int v)) (look_n (of_decide_eq_true (bI_n0.mp c_177)) c_172), rfl⟩
                | exact ⟨congrArg (fun v => some (Value.int v)) (look_n0 (of_decide_eq_true (bI_n0.mp c_192)) (dry01 h01 c_172)), rfl⟩
                | (have e9 : f0 = stN (aI w 2280 (ad 28)) + dSum dN ph := (by have h9 : ¬ 60 ≤ stN (aI w 2280 (ad 28)) + dSum dN ph := of_decide_eq_false (bI_0.mp c_177); rcases hb2 with ⟨-, h⟩ | ⟨-, h⟩ <;> omega); exact ⟨congrArg (fun v => some (Value.int v)) (by rw [show i = N by omega, hN, e9]; exact look_d (of_decide_eq_false (bI_0.mp c_177)) c_172), rfl⟩)
                | (have e9 : f0 = stN (aI w 2280 (ad 28)) + dSum dN ph := (by have h9 : ¬ 60 ≤ stN (aI w 2280 (ad 28)) + dSum dN ph := of_decide_eq_false (bI_0.mp c_192); rcases hb2 with ⟨-, h⟩ | ⟨-, h⟩ <;> omega); exact ⟨congrArg (fun v => some (Value.int v)) (by rw [show i = N by omega, hN, e9]; exact look_s (of_decide_eq_false (bI_0.mp c_192)) (dry01 h01 c_172)), rfl⟩)
              · refine g_bipush C 60 dX10_looksAt_180 (by rfl) ?_
                refine g_goto C 201 dX10_looksAt_182 (by decide) ?_
                refine g_iret C rfl rfl (by decide) (by decide) dX10_looksAt_201 ?_
                first
                | exact ⟨congrArg (fun v => some (Value.int v)) (look_n (of_decide_eq_true (bI_n0.mp c_177)) c_172), rfl⟩
                | exact ⟨congrArg (fun v => some (Value.int v)) (look_n0 (of_decide_eq_true (bI_n0.mp c_192)) (dry01 h01 c_172)), rfl⟩
                | (have e9 : f0 = stN (aI w 2280 (ad 28)) + dSum dN ph := (by have h9 : ¬ 60 ≤ stN (aI w 2280 (ad 28)) + dSum dN ph := of_decide_eq_false (bI_0.mp c_177); rcases hb2 with ⟨-, h⟩ | ⟨-, h⟩ <;> omega); exact ⟨congrArg (fun v => some (Value.int v)) (by rw [show i = N by omega, hN, e9]; exact look_d (of_decide_eq_false (bI_0.mp c_177)) c_172), rfl⟩)
                | (have e9 : f0 = stN (aI w 2280 (ad 28)) + dSum dN ph := (by have h9 : ¬ 60 ≤ stN (aI w 2280 (ad 28)) + dSum dN ph := of_decide_eq_false (bI_0.mp c_192); rcases hb2 with ⟨-, h⟩ | ⟨-, h⟩ <;> omega); exact ⟨congrArg (fun v => some (Value.int v)) (by rw [show i = N by omega, hN, e9]; exact look_s (of_decide_eq_false (bI_0.mp c_192)) (dry01 h01 c_172)), rfl⟩)
          · refine g_iload_n C dX10_looksAt_143 rfl ?_
            refine g_iconst C (-1) dX10_looksAt_144 (by rfl) ?_
            refine g_icmp_eq C 155 dX10_looksAt_145 (by decide) (fun c_145 => ?_) (fun c_145 => ?_)
            · refine g_iconst C 1 dX10_looksAt_155 (by rfl) ?_
              refine g_goto C 160 dX10_looksAt_156 (by decide) ?_
              exact g_eq rfl (congrArg (fun v => Value.int v :: _) (by first | exact beg_j1 c_145 | exact beg_j2 hb2 c_145 hf0 (nI_nlt_of (b := 60) c_152 (by omega) (by omega)) | exact beg_j3 hb2 c_145 hf0 (nI_lt_of (b := 60) c_152 (by omega) (by omega)))) rfl j_160
            · refine g_iload C dX10_looksAt_148 rfl ?_
              refine g_bipush C 60 dX10_looksAt_150 (by rfl) ?_
              refine g_icmp_lt C 159 dX10_looksAt_152 (by decide) (fun c_152 => ?_) (fun c_152 => ?_)
              · refine g_iconst C 0 dX10_looksAt_159 (by rfl) ?_
                exact g_eq rfl (congrArg (fun v => Value.int v :: _) (by first | exact beg_j1 c_145 | exact beg_j2 hb2 c_145 hf0 (nI_nlt_of (b := 60) c_152 (by omega) (by omega)) | exact beg_j3 hb2 c_145 hf0 (nI_lt_of (b := 60) c_152 (by omega) (by omega)))) rfl j_160
              · refine g_iconst C 1 dX10_looksAt_155 (by rfl) ?_
                refine g_goto C 160 dX10_looksAt_156 (by decide) ?_
                exact g_eq rfl (congrArg (fun v => Value.int v :: _) (by first | exact beg_j1 c_145 | exact beg_j2 hb2 c_145 hf0 (nI_nlt_of (b := 60) c_152 (by omega) (by omega)) | exact beg_j3 hb2 c_145 hf0 (nI_lt_of (b := 60) c_152 (by omega) (by omega)))) rfl j_160
        · exact absurd (nI_nle_of (a := 60) c_84 (by omega) (by omega)) (by have := nI_nle_of c_77 (by omega) (by omega); omega)
    | succ k ih =>
      intro i hik
      have hx9 : f0 + i < f0 + dN ph ∧ f0 + i < 60 := by omega
      refine g_iload C dX10_looksAt_65 rfl ?_
      refine g_iload C dX10_looksAt_67 rfl ?_
      refine g_aload_n C dX10_looksAt_69 rfl ?_
      refine g_getR (b := (ad 7)) C cls_11 12 7 hm.1 (rm_7 hm).1 rfl k_922 dX10_looksAt_70 ?_
      refine g_iload C dX10_looksAt_73 rfl ?_
      refine g_iald C 2070 (rm_7 hm).2.1 rfl (by rw [(rm_7 hm).2.2]; exact nI_vp (show 5 * (3 * pr + ph) < 105 by omega) (by omega)) dX10_looksAt_75 ?_
      rw [nI_tn (by omega), phV_0, (hel ph hph).1]
      refine g_iadd C dX10_looksAt_76 ?_
      rw [nI_add]
      refine g_icmp_ge C 143 dX10_looksAt_77 (by decide) (fun c_77 => ?_) (fun c_77 => ?_)
      · first
        | exact absurd (nI_le_of c_77 (by omega) (by omega)) (by omega)
        | exact absurd (nI_le_of (a := 60) c_84 (by omega) (by omega)) (by omega)
      · refine g_iload C dX10_looksAt_80 rfl ?_
        refine g_bipush C 60 dX10_looksAt_82 (by rfl) ?_
        refine g_icmp_ge C 143 dX10_looksAt_84 (by decide) (fun c_84 => ?_) (fun c_84 => ?_)
        · first
          | exact absurd (nI_le_of c_77 (by omega) (by omega)) (by omega)
          | exact absurd (nI_le_of (a := 60) c_84 (by omega) (by omega)) (by omega)
        · refine g_iload C dX10_looksAt_87 rfl ?_
          refine g_aload_n C dX10_looksAt_89 rfl ?_
          refine g_getR (b := (ad 28)) C cls_11 12 28 hm.1 (rm_28 hm).1 rfl k_943 dX10_looksAt_90 ?_
          refine g_iload C dX10_looksAt_93 rfl ?_
          refine g_iald C 2280 (rm_28 hm).2.1 rfl (by rw [(rm_28 hm).2.2]; exact nI_vp (show f0 + i < 60 by omega) (by omega)) dX10_looksAt_95 ?_
          rw [nI_tn (by omega)]
          refine g_iadd C dX10_looksAt_96 ?_
          refine g_istore C dX10_looksAt_97 (by decide) ?_
          refine g_cutS (pc' := 119) (.int (nI (dryN (aI w 2280 (ad 28)) f0 (i + 1)).2)) ?_ (fun j_119 => ?_)
          · refine g_istore C dX10_looksAt_119 (by decide) ?_
            refine g_cutS (pc' := 135) (.int (nI (dryN (aI w 2280 (ad 28)) f0 (i + 1)).1)) ?_ (fun j_135 => ?_)
            · refine g_istore C dX10_looksAt_135 (by decide) ?_
              refine g_iinc C dX10_looksAt_137 rfl (nI_1 (f0 + i)) (by decide) ?_
              refine g_goto C 65 dX10_looksAt_140 (by decide) ?_
              have h9 := ih (i + 1) (by omega)
              exact g_lv2 [(0, .ref mo), (1, .int (nI pr)), (2, .int (nI ph)), (3, .int (oI (begO (aI w 2280 (ad 28)) 58))), (4, .int (nI (5 * (3 * pr + ph)))), (5, .int (nI f0)), (6, .int (sumF (aI w 2280 (ad 28)) f0 (i + 1))), (7, .int (nI (dryN (aI w 2280 (ad 28)) f0 (i + 1)).2)), (8, .int (nI (dryN (aI w 2280 (ad 28)) f0 (i + 1)).1)), (9, .int (nI (f0 + (i + 1))))] rfl h9
            · refine g_iload C dX10_looksAt_121 rfl ?_
              refine g_iload C dX10_looksAt_123 rfl ?_
              refine g_icmp_le C 133 dX10_looksAt_125 (by decide) (fun c_125 => ?_) (fun c_125 => ?_)
              · refine g_iload C dX10_looksAt_133 rfl ?_
                exact g_eq rfl (congrArg (fun v => Value.int v :: _) (by first | exact dry_m1 (by omega) c_125 | exact dry_m0 (by omega) c_125)) rfl j_135
              · refine g_iload C dX10_looksAt_128 rfl ?_
                refine g_goto C 135 dX10_looksAt_130 (by decide) ?_
                exact g_eq rfl (congrArg (fun v => Value.int v :: _) (by first | exact dry_m1 (by omega) c_125 | exact dry_m0 (by omega) c_125)) rfl j_135
          · refine g_aload_n C dX10_looksAt_99 rfl ?_
            refine g_getR (b := (ad 28)) C cls_11 12 28 hm.1 (rm_28 hm).1 rfl k_943 dX10_looksAt_100 ?_
            refine g_iload C dX10_looksAt_103 rfl ?_
            refine g_iald C 2280 (rm_28 hm).2.1 rfl (by rw [(rm_28 hm).2.2]; exact nI_vp (show f0 + i < 60 by omega) (by omega)) dX10_looksAt_105 ?_
            rw [nI_tn (by omega)]
            refine g_bipush C 10 dX10_looksAt_106 (by rfl) ?_
            refine g_icmp_ge C 118 dX10_looksAt_108 (by decide) (fun c_108 => ?_) (fun c_108 => ?_)
            · refine g_iconst C 0 dX10_looksAt_118 (by rfl) ?_
              exact g_eq rfl (congrArg (fun v => Value.int v :: _) (by first | exact dry_r1 (Int32.not_le.mp c_108) | exact dry_r0 (Int32.not_lt.mpr c_108))) rfl j_119
            · refine g_iload C dX10_looksAt_111 rfl ?_
              refine g_iconst C 1 dX10_looksAt_113 (by rfl) ?_
              refine g_iadd C dX10_looksAt_114 ?_
              refine g_goto C 119 dX10_looksAt_115 (by decide) ?_
              exact g_eq rfl (congrArg (fun v => Value.int v :: _) (by first | exact dry_r1 (Int32.not_le.mp c_108) | exact dry_r0 (Int32.not_lt.mpr c_108))) rfl j_119
  have loop1 : ∀ (k i : Nat), i + k = ph → G p l e R s m args below meth c D cy z 10 w 0 0 22 [(0, .ref mo), (1, .int (nI pr)), (2, .int (nI ph)), (3, .int (oI (begO (aI w 2280 (ad 28)) 58))), (4, .int (nI (5 * (3 * pr + ph)))), (5, .int (nI (b0 + dSum dN i))), (6, .int (nI i))] [] (QM below args s D cy z (fun r w' => r = some (.int (lookV (aI w 2280 (ad 28)) (phV w ad pr 1 ph) (dN ph) (stN (aI w 2280 (ad 28)) + dSum dN ph))) ∧ w = w') 0 0) := by
    intro k
    induction k with
    | zero =>
      intro i hik
      have hi9 : i = ph := by omega
      have hdi := hds i (by omega)
      refine g_iload C dX10_looksAt_22 rfl ?_
      refine g_iload_n C dX10_looksAt_24 rfl ?_
      refine g_icmp_ge C 52 dX10_looksAt_25 (by decide) (fun c_25 => ?_) (fun c_25 => ?_)
      · refine g_iconst C 0 dX10_looksAt_52 (by rfl) ?_
        refine g_istore C dX10_looksAt_53 (by decide) ?_
        refine g_iconst C 0 dX10_looksAt_55 (by rfl) ?_
        refine g_istore C dX10_looksAt_56 (by decide) ?_
        refine g_iconst C 0 dX10_looksAt_58 (by rfl) ?_
        refine g_istore C dX10_looksAt_59 (by decide) ?_
        refine g_iload C dX10_looksAt_61 rfl ?_
        refine g_istore C dX10_looksAt_63 (by decide) ?_
        rw [hi9, ← hf0]
        exact g_lv2 [(0, .ref mo), (1, .int (nI pr)), (2, .int (nI ph)), (3, .int (oI (begO (aI w 2280 (ad 28)) 58))), (4, .int (nI (5 * (3 * pr + ph)))), (5, .int (nI f0)), (6, .int (sumF (aI w 2280 (ad 28)) f0 0)), (7, .int (nI (dryN (aI w 2280 (ad 28)) f0 0).2)), (8, .int (nI (dryN (aI w 2280 (ad 28)) f0 0).1)), (9, .int (nI (f0 + 0)))] rfl (loop2 N 0 (by omega))
      · exact absurd (nI_nle_of c_25 (by omega) (by omega)) (by omega)
    | succ k ih =>
      intro i hik
      have hdi := hds i (by omega)
      refine g_iload C dX10_looksAt_22 rfl ?_
      refine g_iload_n C dX10_looksAt_24 rfl ?_
      refine g_icmp_ge C 52 dX10_looksAt_25 (by decide) (fun c_25 => ?_) (fun c_25 => ?_)
      · exact absurd (nI_le_of c_25 (by omega) (by omega)) (by omega)
      · refine g_iload C dX10_looksAt_28 rfl ?_
        refine g_aload_n C dX10_looksAt_30 rfl ?_
        refine g_getR (b := (ad 7)) C cls_11 12 7 hm.1 (rm_7 hm).1 rfl k_922 dX10_looksAt_31 ?_
        refine g_iconst C 5 dX10_looksAt_34 (by rfl) ?_
        refine g_iconst C 3 dX10_looksAt_35 (by rfl) ?_
        refine g_iload_n C dX10_looksAt_36 rfl ?_
        refine g_imul C dX10_looksAt_37 ?_
        refine g_iload C dX10_looksAt_38 rfl ?_
        refine g_iadd C dX10_looksAt_40 ?_
        refine g_imul C dX10_looksAt_41 ?_
        rw [ix5]
        refine g_iald C 2070 (rm_7 hm).2.1 rfl (by rw [(rm_7 hm).2.2]; exact nI_vp (show 5 * (3 * pr + i) < 105 by omega) (by omega)) dX10_looksAt_42 ?_
        rw [nI_tn (by omega), phV_0, (hel i (by omega)).1]
        refine g_iadd C dX10_looksAt_43 ?_
        rw [nI_add, show b0 + dSum dN i + dN i = b0 + dSum dN (i + 1) from Nat.add_assoc _ _ _]
        refine g_istore C dX10_looksAt_44 (by decide) ?_
        refine g_iinc C dX10_looksAt_46 rfl (nI_1 i) (by decide) ?_
        refine g_goto C 22 dX10_looksAt_49 (by decide) ?_
        have h9 := ih (i + 1) (by omega)
        exact g_lv2 [(0, .ref mo), (1, .int (nI pr)), (2, .int (nI ph)), (3, .int (oI (begO (aI w 2280 (ad 28)) 58))), (4, .int (nI (5 * (3 * pr + ph)))), (5, .int (nI (b0 + dSum dN (i + 1)))), (6, .int (nI (i + 1)))] rfl h9
  refine g_aload_n C dX10_looksAt_0 rfl ?_
  refine g_callV C cls_11 12 mt_X10_beginning [] (c_X10_beginning de w mo ad hm) hm.1 (by decide) k_1060 rfl rfl (Nat.le_of_ble_eq_true rfl) (by decide) (by decide) (by decide) (by decide) dX10_looksAt_1 (fun r_1 w_1 hp_1 => ?_)
  obtain ⟨rfl, rfl⟩ := hp_1
  refine g_istore_n C dX10_looksAt_4 (by decide) ?_
  refine g_iconst C 5 dX10_looksAt_5 (by rfl) ?_
  refine g_iconst C 3 dX10_looksAt_6 (by rfl) ?_
  refine g_iload_n C dX10_looksAt_7 rfl ?_
  refine g_imul C dX10_looksAt_8 ?_
  refine g_iload_n C dX10_looksAt_9 rfl ?_
  refine g_iadd C dX10_looksAt_10 ?_
  refine g_imul C dX10_looksAt_11 ?_
  rw [ix5]
  refine g_istore C dX10_looksAt_12 (by decide) ?_
  refine g_iload_n C dX10_looksAt_14 rfl ?_
  refine g_iconst C 1 dX10_looksAt_15 (by rfl) ?_
  refine g_iadd C dX10_looksAt_16 ?_
  rw [hb1]
  refine g_istore C dX10_looksAt_17 (by decide) ?_
  refine g_iconst C 0 dX10_looksAt_19 (by rfl) ?_
  refine g_istore C dX10_looksAt_20 (by decide) ?_
  exact g_lv2 [(0, .ref mo), (1, .int (nI pr)), (2, .int (nI ph)), (3, .int (oI (begO (aI w 2280 (ad 28)) 58))), (4, .int (nI (5 * (3 * pr + ph)))), (5, .int (nI (b0 + dSum dN 0))), (6, .int (nI 0))] rfl (loop1 ph 0 (by omega))
theorem dX10_pays_0 : decode cX10_pays 0 = .ok (.iconst 5, 1) := by decide +kernel
theorem dX10_pays_1 : decode cX10_pays 1 = .ok (.iconst 3, 1) := by decide +kernel
theorem dX10_pays_2 : decode cX10_pays 2 = .ok (.iload_n 1, 1) := by decide +kernel
theorem dX10_pays_3 : decode cX10_pays 3 = .ok (.imul, 1) := by decide +kernel
theorem dX10_pays_4 : decode cX10_pays 4 = .ok (.iload_n 2, 1) := by decide +kernel
theorem dX10_pays_5 : decode cX10_pays 5 = .ok (.iadd, 1) := by decide +kernel
theorem dX10_pays_6 : decode cX10_pays 6 = .ok (.imul, 1) := by decide +kernel
theorem dX10_pays_7 : decode cX10_pays 7 = .ok (.istore_n 3, 1) := by decide +kernel
theorem dX10_pays_8 : decode cX10_pays 8 = .ok (.aload_n 0, 1) := by decide +kernel
theorem dX10_pays_9 : decode cX10_pays 9 = .ok (.iload_n 1, 1) := by decide +kernel
theorem dX10_pays_10 : decode cX10_pays 10 = .ok (.iload_n 2, 1) := by decide +kernel
theorem dX10_pays_11 : decode cX10_pays 11 = .ok (.invokevirtual 130, 3) := by decide +kernel
theorem dX10_pays_14 : decode cX10_pays 14 = .ok (.istore 4, 2) := by decide +kernel
theorem dX10_pays_16 : decode cX10_pays 16 = .ok (.aload_n 0, 1) := by decide +kernel
theorem dX10_pays_17 : decode cX10_pays 17 = .ok (.getfield 22, 3) := by decide +kernel
theorem dX10_pays_20 : decode cX10_pays 20 = .ok (.iload_n 3, 1) := by decide +kernel
theorem dX10_pays_21 : decode cX10_pays 21 = .ok (.iconst 1, 1) := by decide +kernel
theorem dX10_pays_22 : decode cX10_pays 22 = .ok (.iadd, 1) := by decide +kernel
theorem dX10_pays_23 : decode cX10_pays 23 = .ok (.iaload, 1) := by decide +kernel
theorem dX10_pays_24 : decode cX10_pays 24 = .ok (.iconst 1, 1) := by decide +kernel
theorem dX10_pays_25 : decode cX10_pays 25 = .ok (.if_icmp .ne 17, 3) := by decide +kernel
theorem dX10_pays_28 : decode cX10_pays 28 = .ok (.iload 4, 2) := by decide +kernel
theorem dX10_pays_30 : decode cX10_pays 30 = .ok (.aload_n 0, 1) := by decide +kernel
theorem dX10_pays_31 : decode cX10_pays 31 = .ok (.getfield 22, 3) := by decide +kernel
theorem dX10_pays_34 : decode cX10_pays 34 = .ok (.iload_n 3, 1) := by decide +kernel
theorem dX10_pays_35 : decode cX10_pays 35 = .ok (.iconst 2, 1) := by decide +kernel
theorem dX10_pays_36 : decode cX10_pays 36 = .ok (.iadd, 1) := by decide +kernel
theorem dX10_pays_37 : decode cX10_pays 37 = .ok (.iaload, 1) := by decide +kernel
theorem dX10_pays_38 : decode cX10_pays 38 = .ok (.isub, 1) := by decide +kernel
theorem dX10_pays_39 : decode cX10_pays 39 = .ok (.goto 14, 3) := by decide +kernel
theorem dX10_pays_42 : decode cX10_pays 42 = .ok (.aload_n 0, 1) := by decide +kernel
theorem dX10_pays_43 : decode cX10_pays 43 = .ok (.getfield 22, 3) := by decide +kernel
theorem dX10_pays_46 : decode cX10_pays 46 = .ok (.iload_n 3, 1) := by decide +kernel
theorem dX10_pays_47 : decode cX10_pays 47 = .ok (.iconst 2, 1) := by decide +kernel
theorem dX10_pays_48 : decode cX10_pays 48 = .ok (.iadd, 1) := by decide +kernel
theorem dX10_pays_49 : decode cX10_pays 49 = .ok (.iaload, 1) := by decide +kernel
theorem dX10_pays_50 : decode cX10_pays 50 = .ok (.iload 4, 2) := by decide +kernel
theorem dX10_pays_52 : decode cX10_pays 52 = .ok (.isub, 1) := by decide +kernel
theorem dX10_pays_53 : decode cX10_pays 53 = .ok (.istore 5, 2) := by decide +kernel
theorem dX10_pays_55 : decode cX10_pays 55 = .ok (.aload_n 0, 1) := by decide +kernel
theorem dX10_pays_56 : decode cX10_pays 56 = .ok (.getfield 22, 3) := by decide +kernel
theorem dX10_pays_59 : decode cX10_pays 59 = .ok (.iload_n 3, 1) := by decide +kernel
theorem dX10_pays_60 : decode cX10_pays 60 = .ok (.iconst 1, 1) := by decide +kernel
theorem dX10_pays_61 : decode cX10_pays 61 = .ok (.iadd, 1) := by decide +kernel
theorem dX10_pays_62 : decode cX10_pays 62 = .ok (.iaload, 1) := by decide +kernel
theorem dX10_pays_63 : decode cX10_pays 63 = .ok (.iconst 1, 1) := by decide +kernel
theorem dX10_pays_64 : decode cX10_pays 64 = .ok (.if_icmp .ne 23, 3) := by decide +kernel
theorem dX10_pays_67 : decode cX10_pays 67 = .ok (.aload_n 0, 1) := by decide +kernel
theorem dX10_pays_68 : decode cX10_pays 68 = .ok (.getfield 22, 3) := by decide +kernel
theorem dX10_pays_71 : decode cX10_pays 71 = .ok (.iload_n 3, 1) := by decide +kernel
theorem dX10_pays_72 : decode cX10_pays 72 = .ok (.iconst 3, 1) := by decide +kernel
theorem dX10_pays_73 : decode cX10_pays 73 = .ok (.iadd, 1) := by decide +kernel
theorem dX10_pays_74 : decode cX10_pays 74 = .ok (.iaload, 1) := by decide +kernel
theorem dX10_pays_75 : decode cX10_pays 75 = .ok (.aload_n 0, 1) := by decide +kernel
theorem dX10_pays_76 : decode cX10_pays 76 = .ok (.getfield 22, 3) := by decide +kernel
theorem dX10_pays_79 : decode cX10_pays 79 = .ok (.iload_n 3, 1) := by decide +kernel
theorem dX10_pays_80 : decode cX10_pays 80 = .ok (.iconst 2, 1) := by decide +kernel
theorem dX10_pays_81 : decode cX10_pays 81 = .ok (.iadd, 1) := by decide +kernel
theorem dX10_pays_82 : decode cX10_pays 82 = .ok (.iaload, 1) := by decide +kernel
theorem dX10_pays_83 : decode cX10_pays 83 = .ok (.isub, 1) := by decide +kernel
theorem dX10_pays_84 : decode cX10_pays 84 = .ok (.goto 20, 3) := by decide +kernel
theorem dX10_pays_87 : decode cX10_pays 87 = .ok (.aload_n 0, 1) := by decide +kernel
theorem dX10_pays_88 : decode cX10_pays 88 = .ok (.getfield 22, 3) := by decide +kernel
theorem dX10_pays_91 : decode cX10_pays 91 = .ok (.iload_n 3, 1) := by decide +kernel
theorem dX10_pays_92 : decode cX10_pays 92 = .ok (.iconst 2, 1) := by decide +kernel
theorem dX10_pays_93 : decode cX10_pays 93 = .ok (.iadd, 1) := by decide +kernel
theorem dX10_pays_94 : decode cX10_pays 94 = .ok (.iaload, 1) := by decide +kernel
theorem dX10_pays_95 : decode cX10_pays 95 = .ok (.aload_n 0, 1) := by decide +kernel
theorem dX10_pays_96 : decode cX10_pays 96 = .ok (.getfield 22, 3) := by decide +kernel
theorem dX10_pays_99 : decode cX10_pays 99 = .ok (.iload_n 3, 1) := by decide +kernel
theorem dX10_pays_100 : decode cX10_pays 100 = .ok (.iconst 3, 1) := by decide +kernel
theorem dX10_pays_101 : decode cX10_pays 101 = .ok (.iadd, 1) := by decide +kernel
theorem dX10_pays_102 : decode cX10_pays 102 = .ok (.iaload, 1) := by decide +kernel
theorem dX10_pays_103 : decode cX10_pays 103 = .ok (.isub, 1) := by decide +kernel
theorem dX10_pays_104 : decode cX10_pays 104 = .ok (.istore 6, 2) := by decide +kernel
theorem dX10_pays_106 : decode cX10_pays 106 = .ok (.iload 5, 2) := by decide +kernel
theorem dX10_pays_108 : decode cX10_pays 108 = .ok (.ifCond .gt 7, 3) := by decide +kernel
theorem dX10_pays_111 : decode cX10_pays 111 = .ok (.iconst 0, 1) := by decide +kernel
theorem dX10_pays_112 : decode cX10_pays 112 = .ok (.goto 25, 3) := by decide +kernel
theorem dX10_pays_115 : decode cX10_pays 115 = .ok (.iload 5, 2) := by decide +kernel
theorem dX10_pays_117 : decode cX10_pays 117 = .ok (.iload 6, 2) := by decide +kernel
theorem dX10_pays_119 : decode cX10_pays 119 = .ok (.if_icmp .lt 9, 3) := by decide +kernel
theorem dX10_pays_122 : decode cX10_pays 122 = .ok (.sipush 1000, 3) := by decide +kernel
theorem dX10_pays_125 : decode cX10_pays 125 = .ok (.goto 12, 3) := by decide +kernel
theorem dX10_pays_128 : decode cX10_pays 128 = .ok (.sipush 1000, 3) := by decide +kernel
theorem dX10_pays_131 : decode cX10_pays 131 = .ok (.iload 5, 2) := by decide +kernel
theorem dX10_pays_133 : decode cX10_pays 133 = .ok (.imul, 1) := by decide +kernel
theorem dX10_pays_134 : decode cX10_pays 134 = .ok (.iload 6, 2) := by decide +kernel
theorem dX10_pays_136 : decode cX10_pays 136 = .ok (.idiv, 1) := by decide +kernel
theorem dX10_pays_137 : decode cX10_pays 137 = .ok (.ireturn, 1) := by decide +kernel
set_option maxHeartbeats 4000000 in
set_option maxRecDepth 100000 in
theorem c_X10_pays (de : Nat) (w : Wd) (mo : Nat) (ad : Nat → Nat) (hm : RM w mo ad) (pr n : Nat) (dN : Nat → Nat) (hpr : pr < 7) (hp : RPH w ad pr n dN) (ph : Nat) (hph : ph < n) : Ct yX10_pays cX10_pays 7 (some .int) 3 74 0 0 de [.ref mo, .int (nI pr), .int (nI ph)] w (fun r w' => r = some (.int (payV (phV w ad pr 1 ph) (phV w ad pr 2 ph) (phV w ad pr 3 ph) (lookV (aI w 2280 (ad 28)) (phV w ad pr 1 ph) (dN ph) (stN (aI w 2280 (ad 28)) + dSum dN ph)))) ∧ w = w') := by
  refine Ct.mk (by decide +kernel) [(0, .ref mo), (1, .int (nI pr)), (2, .int (nI ph))] rfl (Nat.le_of_ble_eq_true rfl) ?_
  intro p l e R s m args below meth c D cy z C hnm
  refine g_iconst C 5 dX10_pays_0 (by rfl) ?_
  refine g_iconst C 3 dX10_pays_1 (by rfl) ?_
  refine g_iload_n C dX10_pays_2 rfl ?_
  refine g_imul C dX10_pays_3 ?_
  refine g_iload_n C dX10_pays_4 rfl ?_
  refine g_iadd C dX10_pays_5 ?_
  refine g_imul C dX10_pays_6 ?_
  rw [ix5]
  have hn3 := hp.1
  have h01 := (hp.2 ph hph).2.2
  refine g_istore_n C dX10_pays_7 (by decide) ?_
  refine g_aload_n C dX10_pays_8 rfl ?_
  refine g_iload_n C dX10_pays_9 rfl ?_
  refine g_iload_n C dX10_pays_10 rfl ?_
  refine g_callV C cls_11 12 mt_X10_looksAt [.int (nI pr), .int (nI ph)] (c_X10_looksAt de w mo ad hm pr n dN hpr hp ph hph) hm.1 (by decide) k_1084 rfl rfl (Nat.le_of_ble_eq_true rfl) (by decide) (by decide) (by decide) (by decide) dX10_pays_11 (fun r_11 w_11 hp_11 => ?_)
  obtain ⟨rfl, rfl⟩ := hp_11
  refine g_istore C dX10_pays_14 (by decide) ?_
  refine g_cutS (pc' := 53) (.int (if phV w ad pr 1 ph = 0 then phV w ad pr 2 ph - (lookV (aI w 2280 (ad 28)) (phV w ad pr 1 ph) (dN ph) (stN (aI w 2280 (ad 28)) + dSum dN ph)) else (lookV (aI w 2280 (ad 28)) (phV w ad pr 1 ph) (dN ph) (stN (aI w 2280 (ad 28)) + dSum dN ph)) - phV w ad pr 2 ph)) ?_ (fun j_53 => ?_)
  · refine g_istore C dX10_pays_53 (by decide) ?_
    refine g_cutS (pc' := 104) (.int (if phV w ad pr 1 ph = 0 then phV w ad pr 2 ph - phV w ad pr 3 ph else phV w ad pr 3 ph - phV w ad pr 2 ph)) ?_ (fun j_104 => ?_)
    · refine g_istore C dX10_pays_104 (by decide) ?_
      refine g_iload C dX10_pays_106 rfl ?_
      refine g_if_gt C 115 dX10_pays_108 (by decide) (fun c_108 => ?_) (fun c_108 => ?_)
      · refine g_iload C dX10_pays_115 rfl ?_
        refine g_iload C dX10_pays_117 rfl ?_
        refine g_icmp_lt C 128 dX10_pays_119 (by decide) (fun c_119 => ?_) (fun c_119 => ?_)
        · refine g_sipush C 1000 dX10_pays_128 (by rfl) ?_
          refine g_iload C dX10_pays_131 rfl ?_
          refine g_imul C dX10_pays_133 ?_
          refine g_iload C dX10_pays_134 rfl ?_
          refine g_idiv C dX10_pays_136 (pay_ne c_108 c_119) ?_
          refine g_iret C rfl rfl (by decide) (by decide) dX10_pays_137 ?_
          first
          | exact ⟨congrArg (fun v => some (Value.int v)) (payV_0 rfl rfl (Int32.not_lt.mp c_108)).symm, rfl⟩
          | exact ⟨congrArg (fun v => some (Value.int v)) (payV_4 rfl rfl (Int32.not_le.mpr c_108) (Int32.not_lt.mp c_119)).symm, rfl⟩
          | exact ⟨congrArg (fun v => some (Value.int v)) (payV_5 rfl rfl (Int32.not_le.mpr c_108) c_119).symm, rfl⟩
        · refine g_sipush C 1000 dX10_pays_122 (by rfl) ?_
          refine g_goto C 137 dX10_pays_125 (by decide) ?_
          refine g_iret C rfl rfl (by decide) (by decide) dX10_pays_137 ?_
          first
          | exact ⟨congrArg (fun v => some (Value.int v)) (payV_0 rfl rfl (Int32.not_lt.mp c_108)).symm, rfl⟩
          | exact ⟨congrArg (fun v => some (Value.int v)) (payV_4 rfl rfl (Int32.not_le.mpr c_108) (Int32.not_lt.mp c_119)).symm, rfl⟩
          | exact ⟨congrArg (fun v => some (Value.int v)) (payV_5 rfl rfl (Int32.not_le.mpr c_108) c_119).symm, rfl⟩
      · refine g_iconst C 0 dX10_pays_111 (by rfl) ?_
        refine g_goto C 137 dX10_pays_112 (by decide) ?_
        refine g_iret C rfl rfl (by decide) (by decide) dX10_pays_137 ?_
        first
        | exact ⟨congrArg (fun v => some (Value.int v)) (payV_0 rfl rfl (Int32.not_lt.mp c_108)).symm, rfl⟩
        | exact ⟨congrArg (fun v => some (Value.int v)) (payV_4 rfl rfl (Int32.not_le.mpr c_108) (Int32.not_lt.mp c_119)).symm, rfl⟩
        | exact ⟨congrArg (fun v => some (Value.int v)) (payV_5 rfl rfl (Int32.not_le.mpr c_108) c_119).symm, rfl⟩
    · refine g_aload_n C dX10_pays_55 rfl ?_
      refine g_getR (b := (ad 7)) C cls_11 12 7 hm.1 (rm_7 hm).1 rfl k_922 dX10_pays_56 ?_
      refine g_iload_n C dX10_pays_59 rfl ?_
      refine g_iconst C 1 dX10_pays_60 (by rfl) ?_
      refine g_iadd C dX10_pays_61 ?_
      rw [show nI (5 * (3 * pr + ph)) + 1 = nI (5 * (3 * pr + ph) + 1) from nI_add _ 1]
      refine g_iald C 2070 (rm_7 hm).2.1 rfl (by rw [(rm_7 hm).2.2]; exact nI_vp (show 5 * (3 * pr + ph) + 1 < 105 by omega) (by omega)) dX10_pays_62 ?_
      rw [nI_tn (by omega), phV_e]
      refine g_iconst C 1 dX10_pays_63 (by rfl) ?_
      refine g_icmp_ne C 87 dX10_pays_64 (by decide) (fun c_64 => ?_) (fun c_64 => ?_)
      · refine g_aload_n C dX10_pays_87 rfl ?_
        refine g_getR (b := (ad 7)) C cls_11 12 7 hm.1 (rm_7 hm).1 rfl k_922 dX10_pays_88 ?_
        refine g_iload_n C dX10_pays_91 rfl ?_
        refine g_iconst C 2 dX10_pays_92 (by rfl) ?_
        refine g_iadd C dX10_pays_93 ?_
        rw [show nI (5 * (3 * pr + ph)) + 2 = nI (5 * (3 * pr + ph) + 2) from nI_add _ 2]
        refine g_iald C 2070 (rm_7 hm).2.1 rfl (by rw [(rm_7 hm).2.2]; exact nI_vp (show 5 * (3 * pr + ph) + 2 < 105 by omega) (by omega)) dX10_pays_94 ?_
        rw [nI_tn (by omega), phV_e]
        refine g_aload_n C dX10_pays_95 rfl ?_
        refine g_getR (b := (ad 7)) C cls_11 12 7 hm.1 (rm_7 hm).1 rfl k_922 dX10_pays_96 ?_
        refine g_iload_n C dX10_pays_99 rfl ?_
        refine g_iconst C 3 dX10_pays_100 (by rfl) ?_
        refine g_iadd C dX10_pays_101 ?_
        rw [show nI (5 * (3 * pr + ph)) + 3 = nI (5 * (3 * pr + ph) + 3) from nI_add _ 3]
        refine g_iald C 2070 (rm_7 hm).2.1 rfl (by rw [(rm_7 hm).2.2]; exact nI_vp (show 5 * (3 * pr + ph) + 3 < 105 by omega) (by omega)) dX10_pays_102 ?_
        rw [nI_tn (by omega), phV_e]
        refine g_isub C dX10_pays_103 ?_
        exact g_eq rfl (congrArg (fun v => Value.int v :: _) (by first | exact (if_neg (by rw [c_64]; decide)).symm | exact (if_pos (dry01 h01 c_64)).symm)) rfl j_104
      · refine g_aload_n C dX10_pays_67 rfl ?_
        refine g_getR (b := (ad 7)) C cls_11 12 7 hm.1 (rm_7 hm).1 rfl k_922 dX10_pays_68 ?_
        refine g_iload_n C dX10_pays_71 rfl ?_
        refine g_iconst C 3 dX10_pays_72 (by rfl) ?_
        refine g_iadd C dX10_pays_73 ?_
        rw [show nI (5 * (3 * pr + ph)) + 3 = nI (5 * (3 * pr + ph) + 3) from nI_add _ 3]
        refine g_iald C 2070 (rm_7 hm).2.1 rfl (by rw [(rm_7 hm).2.2]; exact nI_vp (show 5 * (3 * pr + ph) + 3 < 105 by omega) (by omega)) dX10_pays_74 ?_
        rw [nI_tn (by omega), phV_e]
        refine g_aload_n C dX10_pays_75 rfl ?_
        refine g_getR (b := (ad 7)) C cls_11 12 7 hm.1 (rm_7 hm).1 rfl k_922 dX10_pays_76 ?_
        refine g_iload_n C dX10_pays_79 rfl ?_
        refine g_iconst C 2 dX10_pays_80 (by rfl) ?_
        refine g_iadd C dX10_pays_81 ?_
        rw [show nI (5 * (3 * pr + ph)) + 2 = nI (5 * (3 * pr + ph) + 2) from nI_add _ 2]
        refine g_iald C 2070 (rm_7 hm).2.1 rfl (by rw [(rm_7 hm).2.2]; exact nI_vp (show 5 * (3 * pr + ph) + 2 < 105 by omega) (by omega)) dX10_pays_82 ?_
        rw [nI_tn (by omega), phV_e]
        refine g_isub C dX10_pays_83 ?_
        refine g_goto C 104 dX10_pays_84 (by decide) ?_
        exact g_eq rfl (congrArg (fun v => Value.int v :: _) (by first | exact (if_neg (by rw [c_64]; decide)).symm | exact (if_pos (dry01 h01 c_64)).symm)) rfl j_104
  · refine g_aload_n C dX10_pays_16 rfl ?_
    refine g_getR (b := (ad 7)) C cls_11 12 7 hm.1 (rm_7 hm).1 rfl k_922 dX10_pays_17 ?_
    refine g_iload_n C dX10_pays_20 rfl ?_
    refine g_iconst C 1 dX10_pays_21 (by rfl) ?_
    refine g_iadd C dX10_pays_22 ?_
    rw [show nI (5 * (3 * pr + ph)) + 1 = nI (5 * (3 * pr + ph) + 1) from nI_add _ 1]
    refine g_iald C 2070 (rm_7 hm).2.1 rfl (by rw [(rm_7 hm).2.2]; exact nI_vp (show 5 * (3 * pr + ph) + 1 < 105 by omega) (by omega)) dX10_pays_23 ?_
    rw [nI_tn (by omega), phV_e]
    refine g_iconst C 1 dX10_pays_24 (by rfl) ?_
    refine g_icmp_ne C 42 dX10_pays_25 (by decide) (fun c_25 => ?_) (fun c_25 => ?_)
    · refine g_aload_n C dX10_pays_42 rfl ?_
      refine g_getR (b := (ad 7)) C cls_11 12 7 hm.1 (rm_7 hm).1 rfl k_922 dX10_pays_43 ?_
      refine g_iload_n C dX10_pays_46 rfl ?_
      refine g_iconst C 2 dX10_pays_47 (by rfl) ?_
      refine g_iadd C dX10_pays_48 ?_
      rw [show nI (5 * (3 * pr + ph)) + 2 = nI (5 * (3 * pr + ph) + 2) from nI_add _ 2]
      refine g_iald C 2070 (rm_7 hm).2.1 rfl (by rw [(rm_7 hm).2.2]; exact nI_vp (show 5 * (3 * pr + ph) + 2 < 105 by omega) (by omega)) dX10_pays_49 ?_
      rw [nI_tn (by omega), phV_e]
      refine g_iload C dX10_pays_50 rfl ?_
      refine g_isub C dX10_pays_52 ?_
      exact g_eq rfl (congrArg (fun v => Value.int v :: _) (by first | exact (if_neg (by rw [c_25]; decide)).symm | exact (if_pos (dry01 h01 c_25)).symm)) rfl j_53
    · refine g_iload C dX10_pays_28 rfl ?_
      refine g_aload_n C dX10_pays_30 rfl ?_
      refine g_getR (b := (ad 7)) C cls_11 12 7 hm.1 (rm_7 hm).1 rfl k_922 dX10_pays_31 ?_
      refine g_iload_n C dX10_pays_34 rfl ?_
      refine g_iconst C 2 dX10_pays_35 (by rfl) ?_
      refine g_iadd C dX10_pays_36 ?_
      rw [show nI (5 * (3 * pr + ph)) + 2 = nI (5 * (3 * pr + ph) + 2) from nI_add _ 2]
      refine g_iald C 2070 (rm_7 hm).2.1 rfl (by rw [(rm_7 hm).2.2]; exact nI_vp (show 5 * (3 * pr + ph) + 2 < 105 by omega) (by omega)) dX10_pays_37 ?_
      rw [nI_tn (by omega), phV_e]
      refine g_isub C dX10_pays_38 ?_
      refine g_goto C 53 dX10_pays_39 (by decide) ?_
      exact g_eq rfl (congrArg (fun v => Value.int v :: _) (by first | exact (if_neg (by rw [c_25]; decide)).symm | exact (if_pos (dry01 h01 c_25)).symm)) rfl j_53
end REF16
end
section
section REF17
theorem less_m {x y : Int32} : (if x < y then x else y) = if y < x then y else x := by
  by_cases h : x < y
  · rw [if_pos h, if_neg (fun z => by rw [i32_lt] at h z; omega)]
  · by_cases h2 : y < x
    · rw [if_neg h, if_pos h2]
    · rw [if_neg h, if_neg h2, i32_eq]
      rw [i32_lt] at h h2
      omega
def rrow (w : Wd) (ad : Nat → Nat) (nS : Nat) (kn : Int32) (se s0 : Nat) : Nat → Int32 := fun j => rrV nS (aI w 2010 (ad 1)) (aI w 2020 (ad 2)) (aI w 2040 (ad 4)) (aI w 2050 (ad 5)) kn (60 * se + j) s0
/-- the reference's rate of product pr for a season at a station -/
def rrat (w : Wd) (ad : Nat → Nat) (nS pr n : Nat) (dN : Nat → Nat) (s0 se : Nat) : Int32 := rateV (rrow w ad nS (aI w 2090 (ad 9) pr) se s0) n dN (phV w ad pr 1) (phV w ad pr 2) (phV w ad pr 3) (phV w ad pr 4)
theorem dX10_rateOf_0 : decode cX10_rateOf 0 = .ok (.aload_n 0, 1) := by decide +kernel
theorem dX10_rateOf_1 : decode cX10_rateOf 1 = .ok (.iload_n 1, 1) := by decide +kernel
theorem dX10_rateOf_2 : decode cX10_rateOf 2 = .ok (.iload_n 2, 1) := by decide +kernel
theorem dX10_rateOf_3 : decode cX10_rateOf 3 = .ok (.aload_n 0, 1) := by decide +kernel
theorem dX10_rateOf_4 : decode cX10_rateOf 4 = .ok (.getfield 28, 3) := by decide +kernel
theorem dX10_rateOf_7 : decode cX10_rateOf 7 = .ok (.iload_n 3, 1) := by decide +kernel
theorem dX10_rateOf_8 : decode cX10_rateOf 8 = .ok (.iaload, 1) := by decide +kernel
theorem dX10_rateOf_9 : decode cX10_rateOf 9 = .ok (.invokevirtual 119, 3) := by decide +kernel
theorem dX10_rateOf_12 : decode cX10_rateOf 12 = .ok (.iconst 0, 1) := by decide +kernel
theorem dX10_rateOf_13 : decode cX10_rateOf 13 = .ok (.istore 4, 2) := by decide +kernel
theorem dX10_rateOf_15 : decode cX10_rateOf 15 = .ok (.iconst 0, 1) := by decide +kernel
theorem dX10_rateOf_16 : decode cX10_rateOf 16 = .ok (.istore 5, 2) := by decide +kernel
theorem dX10_rateOf_18 : decode cX10_rateOf 18 = .ok (.iload 5, 2) := by decide +kernel
theorem dX10_rateOf_20 : decode cX10_rateOf 20 = .ok (.aload_n 0, 1) := by decide +kernel
theorem dX10_rateOf_21 : decode cX10_rateOf 21 = .ok (.getfield 25, 3) := by decide +kernel
theorem dX10_rateOf_24 : decode cX10_rateOf 24 = .ok (.iload_n 3, 1) := by decide +kernel
theorem dX10_rateOf_25 : decode cX10_rateOf 25 = .ok (.iaload, 1) := by decide +kernel
theorem dX10_rateOf_26 : decode cX10_rateOf 26 = .ok (.if_icmp .ge 40, 3) := by decide +kernel
theorem dX10_rateOf_29 : decode cX10_rateOf 29 = .ok (.iload 4, 2) := by decide +kernel
theorem dX10_rateOf_31 : decode cX10_rateOf 31 = .ok (.aload_n 0, 1) := by decide +kernel
theorem dX10_rateOf_32 : decode cX10_rateOf 32 = .ok (.iload_n 3, 1) := by decide +kernel
theorem dX10_rateOf_33 : decode cX10_rateOf 33 = .ok (.iload 5, 2) := by decide +kernel
theorem dX10_rateOf_35 : decode cX10_rateOf 35 = .ok (.invokevirtual 134, 3) := by decide +kernel
theorem dX10_rateOf_38 : decode cX10_rateOf 38 = .ok (.aload_n 0, 1) := by decide +kernel
theorem dX10_rateOf_39 : decode cX10_rateOf 39 = .ok (.getfield 22, 3) := by decide +kernel
theorem dX10_rateOf_42 : decode cX10_rateOf 42 = .ok (.iconst 5, 1) := by decide +kernel
theorem dX10_rateOf_43 : decode cX10_rateOf 43 = .ok (.iconst 3, 1) := by decide +kernel
theorem dX10_rateOf_44 : decode cX10_rateOf 44 = .ok (.iload_n 3, 1) := by decide +kernel
theorem dX10_rateOf_45 : decode cX10_rateOf 45 = .ok (.imul, 1) := by decide +kernel
theorem dX10_rateOf_46 : decode cX10_rateOf 46 = .ok (.iload 5, 2) := by decide +kernel
theorem dX10_rateOf_48 : decode cX10_rateOf 48 = .ok (.iadd, 1) := by decide +kernel
theorem dX10_rateOf_49 : decode cX10_rateOf 49 = .ok (.imul, 1) := by decide +kernel
theorem dX10_rateOf_50 : decode cX10_rateOf 50 = .ok (.iconst 4, 1) := by decide +kernel
theorem dX10_rateOf_51 : decode cX10_rateOf 51 = .ok (.iadd, 1) := by decide +kernel
theorem dX10_rateOf_52 : decode cX10_rateOf 52 = .ok (.iaload, 1) := by decide +kernel
theorem dX10_rateOf_53 : decode cX10_rateOf 53 = .ok (.imul, 1) := by decide +kernel
theorem dX10_rateOf_54 : decode cX10_rateOf 54 = .ok (.bipush 100, 2) := by decide +kernel
theorem dX10_rateOf_56 : decode cX10_rateOf 56 = .ok (.idiv, 1) := by decide +kernel
theorem dX10_rateOf_57 : decode cX10_rateOf 57 = .ok (.iadd, 1) := by decide +kernel
theorem dX10_rateOf_58 : decode cX10_rateOf 58 = .ok (.istore 4, 2) := by decide +kernel
theorem dX10_rateOf_60 : decode cX10_rateOf 60 = .ok (.iinc 5 1, 3) := by decide +kernel
theorem dX10_rateOf_63 : decode cX10_rateOf 63 = .ok (.goto (-45), 3) := by decide +kernel
theorem dX10_rateOf_66 : decode cX10_rateOf 66 = .ok (.iload 4, 2) := by decide +kernel
theorem dX10_rateOf_68 : decode cX10_rateOf 68 = .ok (.sipush 1000, 3) := by decide +kernel
theorem dX10_rateOf_71 : decode cX10_rateOf 71 = .ok (.invokestatic 137, 3) := by decide +kernel
theorem dX10_rateOf_74 : decode cX10_rateOf 74 = .ok (.ireturn, 1) := by decide +kernel
set_option maxHeartbeats 4000000 in
set_option maxRecDepth 100000 in
theorem c_X10_rateOf (de : Nat) (w : Wd) (mo : Nat) (ad : Nat → Nat) (hm : RM w mo ad) (nS s0 : Nat) (hS : fI w 12 3 mo = nI nS) (hn5 : nS ≤ 5) (hs : s0 < nS) (pr n : Nat) (dN : Nat → Nat) (hpr : pr < 7) (hp : RPH w ad pr n dN) (se : Nat) (hse : se < 20) (hsz : aI w 2080 (ad 8) pr = nI n) : Ct yX10_rateOf cX10_rateOf 6 (some .int) 4 100 0 0 de [.ref mo, .int (nI s0), .int (nI se), .int (nI pr)] w (fun r w' => r = some (.int (rrat w ad nS pr n dN s0 se)) ∧ ∃ g, w' = stR w 2280 (ad 28) g) := by
  refine Ct.mk (by decide +kernel) [(0, .ref mo), (1, .int (nI s0)), (2, .int (nI se)), (3, .int (nI pr))] rfl (Nat.le_of_ble_eq_true rfl) ?_
  intro p l e R s m args below meth c D cy z C hnm
  have hn3 := hp.1
  have loop : ∀ g : Nat → Int32, (∀ j, j < 60 → g j = rrow w ad nS (aI w 2090 (ad 9) pr) se s0 j) → ∀ (k i : Nat), i + k = n → G p l e R s m args below meth c D cy z 6 (stR w 2280 (ad 28) g) 0 0 18 [(0, .ref mo), (1, .int (nI s0)), (2, .int (nI se)), (3, .int (nI pr)), (4, .int (ratV (aI (stR w 2280 (ad 28) g) 2280 (ad 28)) dN (phV w ad pr 1) (phV w ad pr 2) (phV w ad pr 3) (phV w ad pr 4) i)), (5, .int (nI i))] [] (QM below args s D cy z (fun r w' => r = some (.int (rrat w ad nS pr n dN s0 se)) ∧ ∃ g, w' = stR w 2280 (ad 28) g) 0 0) := by
    intro g hg
    intro k
    induction k with
    | zero =>
      intro i hik
      have hi9 : i = n := by omega
      refine g_iload C dX10_rateOf_18 rfl ?_
      refine g_aload_n C dX10_rateOf_20 rfl ?_
      refine g_getR (b := (ad 8)) C cls_11 12 8 hm.1 (rm_8 hm).1 rfl k_923 dX10_rateOf_21 ?_
      refine g_iload_n C dX10_rateOf_24 rfl ?_
      refine g_iald C 2080 (rm_8 hm).2.1 rfl (show vp_in (nI pr) (aL w (ad 8)) by rw [(rm_8 hm).2.2]; exact nI_vp (show pr < 7 by omega) (by omega)) dX10_rateOf_25 ?_
      rw [nI_tn (by omega), show aI (stR w 2280 (ad 28) g) 2080 (ad 8) pr = nI n from hsz]
      refine g_icmp_ge C 66 dX10_rateOf_26 (by decide) (fun c_26 => ?_) (fun c_26 => ?_)
      · rw [hi9]
        refine g_iload C dX10_rateOf_66 rfl ?_
        refine g_sipush C 1000 dX10_rateOf_68 (by rfl) ?_
        refine g_callS C mt_X10_lesser [.int (ratV (aI (stR w 2280 (ad 28) g) 2280 (ad 28)) dN (phV w ad pr 1) (phV w ad pr 2) (phV w ad pr 3) (phV w ad pr 4) n), .int 1000] (c_X10_lesser de (stR w 2280 (ad 28) g) (ratV (aI (stR w 2280 (ad 28) g) 2280 (ad 28)) dN (phV w ad pr 1) (phV w ad pr 2) (phV w ad pr 3) (phV w ad pr 4) n) 1000) k_1100 rfl rfl (Nat.le_of_ble_eq_true rfl) (by decide) (by decide) (by decide) (by decide) dX10_rateOf_71 (fun r_71 w_71 hp_71 => ?_)
        obtain ⟨rfl, rfl⟩ := hp_71
        refine g_iret C rfl rfl (by decide) (by decide) dX10_rateOf_74 ?_
        refine ⟨congrArg (fun v => some (Value.int v)) ?_, g, rfl⟩
        rw [show (if ratV (aI (stR w 2280 (ad 28) g) 2280 (ad 28)) dN (phV w ad pr 1) (phV w ad pr 2) (phV w ad pr 3) (phV w ad pr 4) n < 1000 then ratV (aI (stR w 2280 (ad 28) g) 2280 (ad 28)) dN (phV w ad pr 1) (phV w ad pr 2) (phV w ad pr 3) (phV w ad pr 4) n else 1000) = rateV (aI (stR w 2280 (ad 28) g) 2280 (ad 28)) n dN (phV w ad pr 1) (phV w ad pr 2) (phV w ad pr 3) (phV w ad pr 4) from less_m]
        rw [stR_at]
        exact rateV_congr hg
      · exact absurd (nI_nle_of c_26 (by omega) (by omega)) (by omega)
    | succ k ih =>
      intro i hik
      refine g_iload C dX10_rateOf_18 rfl ?_
      refine g_aload_n C dX10_rateOf_20 rfl ?_
      refine g_getR (b := (ad 8)) C cls_11 12 8 hm.1 (rm_8 hm).1 rfl k_923 dX10_rateOf_21 ?_
      refine g_iload_n C dX10_rateOf_24 rfl ?_
      refine g_iald C 2080 (rm_8 hm).2.1 rfl (show vp_in (nI pr) (aL w (ad 8)) by rw [(rm_8 hm).2.2]; exact nI_vp (show pr < 7 by omega) (by omega)) dX10_rateOf_25 ?_
      rw [nI_tn (by omega), show aI (stR w 2280 (ad 28) g) 2080 (ad 8) pr = nI n from hsz]
      refine g_icmp_ge C 66 dX10_rateOf_26 (by decide) (fun c_26 => ?_) (fun c_26 => ?_)
      · exact absurd (nI_le_of c_26 (by omega) (by omega)) (by omega)
      · refine g_iload C dX10_rateOf_29 rfl ?_
        refine g_aload_n C dX10_rateOf_31 rfl ?_
        refine g_iload_n C dX10_rateOf_32 rfl ?_
        refine g_iload C dX10_rateOf_33 rfl ?_
        refine g_callV C cls_11 12 mt_X10_pays [.int (nI pr), .int (nI i)] (c_X10_pays de (stR w 2280 (ad 28) g) mo ad hm pr n dN hpr hp i (by omega)) hm.1 (by decide) k_1096 rfl rfl (Nat.le_of_ble_eq_true rfl) (by decide) (by decide) (by decide) (by decide) dX10_rateOf_35 (fun r_35 w_35 hp_35 => ?_)
        obtain ⟨rfl, rfl⟩ := hp_35
        refine g_aload_n C dX10_rateOf_38 rfl ?_
        refine g_getR (b := (ad 7)) C cls_11 12 7 hm.1 (rm_7 hm).1 rfl k_922 dX10_rateOf_39 ?_
        refine g_iconst C 5 dX10_rateOf_42 (by rfl) ?_
        refine g_iconst C 3 dX10_rateOf_43 (by rfl) ?_
        refine g_iload_n C dX10_rateOf_44 rfl ?_
        refine g_imul C dX10_rateOf_45 ?_
        refine g_iload C dX10_rateOf_46 rfl ?_
        refine g_iadd C dX10_rateOf_48 ?_
        refine g_imul C dX10_rateOf_49 ?_
        refine g_iconst C 4 dX10_rateOf_50 (by rfl) ?_
        refine g_iadd C dX10_rateOf_51 ?_
        rw [ix5, show nI (5 * (3 * pr + i)) + 4 = nI (5 * (3 * pr + i) + 4) from nI_add _ 4]
        refine g_iald C 2070 (rm_7 hm).2.1 rfl (show vp_in (nI (5 * (3 * pr + i) + 4)) (aL w (ad 7)) by rw [(rm_7 hm).2.2]; exact nI_vp (show 5 * (3 * pr + i) + 4 < 105 by omega) (by omega)) dX10_rateOf_52 ?_
        rw [nI_tn (by omega)]
        refine g_imul C dX10_rateOf_53 ?_
        refine g_bipush C 100 dX10_rateOf_54 (by rfl) ?_
        refine g_idiv C dX10_rateOf_56 (by decide) ?_
        refine g_iadd C dX10_rateOf_57 ?_
        refine g_istore C dX10_rateOf_58 (by decide) ?_
        refine g_iinc C dX10_rateOf_60 rfl (nI_1 i) (by decide) ?_
        refine g_goto C 18 dX10_rateOf_63 (by decide) ?_
        have h9 := ih (i + 1) (by omega)
        exact g_lv2 [(0, .ref mo), (1, .int (nI s0)), (2, .int (nI se)), (3, .int (nI pr)), (4, .int (ratV (aI (stR w 2280 (ad 28) g) 2280 (ad 28)) dN (phV w ad pr 1) (phV w ad pr 2) (phV w ad pr 3) (phV w ad pr 4) (i + 1))), (5, .int (nI (i + 1)))] rfl h9
  refine g_aload_n C dX10_rateOf_0 rfl ?_
  refine g_iload_n C dX10_rateOf_1 rfl ?_
  refine g_iload_n C dX10_rateOf_2 rfl ?_
  refine g_aload_n C dX10_rateOf_3 rfl ?_
  refine g_getR (b := (ad 9)) C cls_11 12 9 hm.1 (rm_9 hm).1 rfl k_924 dX10_rateOf_4 ?_
  refine g_iload_n C dX10_rateOf_7 rfl ?_
  refine g_iald C 2090 (rm_9 hm).2.1 rfl (by rw [(rm_9 hm).2.2]; exact nI_vp (show pr < 7 by omega) (by omega)) dX10_rateOf_8 ?_
  rw [nI_tn (by omega)]
  refine g_callV C cls_11 12 mt_X10_lays [.int (nI s0), .int (nI se), .int (aI w 2090 (ad 9) pr)] (c_X10_lays de w mo ad hm nS s0 se (aI w 2090 (ad 9) pr) hS hn5 hs hse) hm.1 (by decide) k_1056 rfl rfl (Nat.le_of_ble_eq_true rfl) (by decide) (by decide) (by decide) (by decide) dX10_rateOf_9 (fun r_9 w_9 hp_9 => ?_)
  obtain ⟨rfl, g, rfl, hg⟩ := hp_9
  refine g_iconst C 0 dX10_rateOf_12 (by rfl) ?_
  refine g_istore C dX10_rateOf_13 (by decide) ?_
  refine g_iconst C 0 dX10_rateOf_15 (by rfl) ?_
  refine g_istore C dX10_rateOf_16 (by decide) ?_
  exact g_lv2 [(0, .ref mo), (1, .int (nI s0)), (2, .int (nI se)), (3, .int (nI pr)), (4, .int (ratV (aI (stR w 2280 (ad 28) g) 2280 (ad 28)) dN (phV w ad pr 1) (phV w ad pr 2) (phV w ad pr 3) (phV w ad pr 4) 0)), (5, .int (nI 0))] rfl (loop g hg n 0 (by omega))
theorem dX10_isOver_0 : decode cX10_isOver 0 = .ok (.aload_n 0, 1) := by decide +kernel
theorem dX10_isOver_1 : decode cX10_isOver 1 = .ok (.getfield 103, 3) := by decide +kernel
theorem dX10_isOver_4 : decode cX10_isOver 4 = .ok (.bipush 60, 2) := by decide +kernel
theorem dX10_isOver_6 : decode cX10_isOver 6 = .ok (.iload_n 1, 1) := by decide +kernel
theorem dX10_isOver_7 : decode cX10_isOver 7 = .ok (.imul, 1) := by decide +kernel
theorem dX10_isOver_8 : decode cX10_isOver 8 = .ok (.bipush 60, 2) := by decide +kernel
theorem dX10_isOver_10 : decode cX10_isOver 10 = .ok (.iadd, 1) := by decide +kernel
theorem dX10_isOver_11 : decode cX10_isOver 11 = .ok (.if_icmp .lt 7, 3) := by decide +kernel
theorem dX10_isOver_14 : decode cX10_isOver 14 = .ok (.iconst 1, 1) := by decide +kernel
theorem dX10_isOver_15 : decode cX10_isOver 15 = .ok (.goto 4, 3) := by decide +kernel
theorem dX10_isOver_18 : decode cX10_isOver 18 = .ok (.iconst 0, 1) := by decide +kernel
theorem dX10_isOver_19 : decode cX10_isOver 19 = .ok (.ireturn, 1) := by decide +kernel
set_option maxHeartbeats 4000000 in
set_option maxRecDepth 100000 in
theorem c_X10_isOver (de : Nat) (w : Wd) (mo : Nat) (ad : Nat → Nat) (hm : RM w mo ad) (i T : Nat) (hi : i ≤ 20) (hT : fI w 12 0 mo = nI T) (hT2 : T < 1200) : Ct yX10_isOver cX10_isOver 2 (some .boolean) 0 0 0 0 de [.ref mo, .int (nI i)] w (fun r w' => r = some (.int (bI (decide ((i + 1) * 60 ≤ T)))) ∧ w = w') := by
  refine Ct.mk (by decide +kernel) [(0, .ref mo), (1, .int (nI i))] rfl (Nat.le_of_ble_eq_true rfl) ?_
  intro p l e R s m args below meth c D cy z C hnm
  refine g_aload_n C dX10_isOver_0 rfl ?_
  refine g_getI C cls_11 12 0 hm.1 rfl k_915 dX10_isOver_1 ?_
  refine g_bipush C 60 dX10_isOver_4 (by rfl) ?_
  refine g_iload_n C dX10_isOver_6 rfl ?_
  refine g_imul C dX10_isOver_7 ?_
  refine g_bipush C 60 dX10_isOver_8 (by rfl) ?_
  refine g_iadd C dX10_isOver_10 ?_
  rw [show (60 : Int32) * nI i + 60 = nI ((i + 1) * 60) by rw [show (60 : Int32) = nI 60 from rfl, pk_mul, nI_add, show 60 * i + 60 = (i + 1) * 60 by omega], hT]
  refine g_icmp_lt C 18 dX10_isOver_11 (by decide) (fun c_11 => ?_) (fun c_11 => ?_)
  · refine g_iconst C 0 dX10_isOver_18 (by rfl) ?_
    refine g_iret C rfl rfl (by decide) (by decide) dX10_isOver_19 ?_
    first
    | exact ⟨congrArg (fun v => some (Value.int v)) (by rw [decide_eq_true (p := (i + 1) * 60 ≤ T) (nI_nlt_of c_11 (by omega) (by omega))]; rfl), rfl⟩
    | exact ⟨congrArg (fun v => some (Value.int v)) (by rw [decide_eq_false (p := (i + 1) * 60 ≤ T) (by have := nI_lt_of c_11 (by omega) (by omega); omega)]; rfl), rfl⟩
  · refine g_iconst C 1 dX10_isOver_14 (by rfl) ?_
    refine g_goto C 19 dX10_isOver_15 (by decide) ?_
    refine g_iret C rfl rfl (by decide) (by decide) dX10_isOver_19 ?_
    first
    | exact ⟨congrArg (fun v => some (Value.int v)) (by rw [decide_eq_true (p := (i + 1) * 60 ≤ T) (nI_nlt_of c_11 (by omega) (by omega))]; rfl), rfl⟩
    | exact ⟨congrArg (fun v => some (Value.int v)) (by rw [decide_eq_false (p := (i + 1) * 60 ≤ T) (by have := nI_lt_of c_11 (by omega) (by omega); omega)]; rfl), rfl⟩
theorem dX10_pricedOf_0 : decode cX10_pricedOf 0 = .ok (.iconst 0, 1) := by decide +kernel
theorem dX10_pricedOf_1 : decode cX10_pricedOf 1 = .ok (.istore_n 3, 1) := by decide +kernel
theorem dX10_pricedOf_2 : decode cX10_pricedOf 2 = .ok (.iconst 0, 1) := by decide +kernel
theorem dX10_pricedOf_3 : decode cX10_pricedOf 3 = .ok (.istore 4, 2) := by decide +kernel
theorem dX10_pricedOf_5 : decode cX10_pricedOf 5 = .ok (.iconst 0, 1) := by decide +kernel
theorem dX10_pricedOf_6 : decode cX10_pricedOf 6 = .ok (.istore 5, 2) := by decide +kernel
theorem dX10_pricedOf_8 : decode cX10_pricedOf 8 = .ok (.iload 5, 2) := by decide +kernel
theorem dX10_pricedOf_10 : decode cX10_pricedOf 10 = .ok (.bipush 20, 2) := by decide +kernel
theorem dX10_pricedOf_12 : decode cX10_pricedOf 12 = .ok (.if_icmp .ge 32, 3) := by decide +kernel
theorem dX10_pricedOf_15 : decode cX10_pricedOf 15 = .ok (.aload_n 0, 1) := by decide +kernel
theorem dX10_pricedOf_16 : decode cX10_pricedOf 16 = .ok (.iload 5, 2) := by decide +kernel
theorem dX10_pricedOf_18 : decode cX10_pricedOf 18 = .ok (.invokevirtual 146, 3) := by decide +kernel
theorem dX10_pricedOf_21 : decode cX10_pricedOf 21 = .ok (.ifCond .eq 23, 3) := by decide +kernel
theorem dX10_pricedOf_24 : decode cX10_pricedOf 24 = .ok (.iload_n 3, 1) := by decide +kernel
theorem dX10_pricedOf_25 : decode cX10_pricedOf 25 = .ok (.aload_n 0, 1) := by decide +kernel
theorem dX10_pricedOf_26 : decode cX10_pricedOf 26 = .ok (.iload_n 1, 1) := by decide +kernel
theorem dX10_pricedOf_27 : decode cX10_pricedOf 27 = .ok (.iload 5, 2) := by decide +kernel
theorem dX10_pricedOf_29 : decode cX10_pricedOf 29 = .ok (.iload_n 2, 1) := by decide +kernel
theorem dX10_pricedOf_30 : decode cX10_pricedOf 30 = .ok (.invokevirtual 143, 3) := by decide +kernel
theorem dX10_pricedOf_33 : decode cX10_pricedOf 33 = .ok (.iadd, 1) := by decide +kernel
theorem dX10_pricedOf_34 : decode cX10_pricedOf 34 = .ok (.istore_n 3, 1) := by decide +kernel
theorem dX10_pricedOf_35 : decode cX10_pricedOf 35 = .ok (.iinc 4 1, 3) := by decide +kernel
theorem dX10_pricedOf_38 : decode cX10_pricedOf 38 = .ok (.iinc 5 1, 3) := by decide +kernel
theorem dX10_pricedOf_41 : decode cX10_pricedOf 41 = .ok (.goto (-33), 3) := by decide +kernel
theorem dX10_pricedOf_44 : decode cX10_pricedOf 44 = .ok (.iload 4, 2) := by decide +kernel
theorem dX10_pricedOf_46 : decode cX10_pricedOf 46 = .ok (.ifCond .ne 8, 3) := by decide +kernel
theorem dX10_pricedOf_49 : decode cX10_pricedOf 49 = .ok (.bipush 100, 2) := by decide +kernel
theorem dX10_pricedOf_51 : decode cX10_pricedOf 51 = .ok (.goto 7, 3) := by decide +kernel
theorem dX10_pricedOf_54 : decode cX10_pricedOf 54 = .ok (.iload_n 3, 1) := by decide +kernel
theorem dX10_pricedOf_55 : decode cX10_pricedOf 55 = .ok (.iload 4, 2) := by decide +kernel
theorem dX10_pricedOf_57 : decode cX10_pricedOf 57 = .ok (.idiv, 1) := by decide +kernel
theorem dX10_pricedOf_58 : decode cX10_pricedOf 58 = .ok (.ireturn, 1) := by decide +kernel
set_option maxHeartbeats 4000000 in
set_option maxRecDepth 100000 in
theorem c_X10_pricedOf (de : Nat) (w : Wd) (mo : Nat) (ad : Nat → Nat) (hm : RM w mo ad) (nS s0 : Nat) (hS : fI w 12 3 mo = nI nS) (hn5 : nS ≤ 5) (hs : s0 < nS) (pr n : Nat) (dN : Nat → Nat) (hpr : pr < 7) (hp : RPH w ad pr n dN) (T : Nat) (hT : fI w 12 0 mo = nI T) (hT2 : T < 1200) (hsz : aI w 2080 (ad 8) pr = nI n) : Ct yX10_pricedOf cX10_pricedOf 6 (some .int) 5 125 0 0 de [.ref mo, .int (nI s0), .int (nI pr)] w (fun r w' => r = some (.int (prcV (rrat w ad nS pr n dN s0) (T / 60))) ∧ ∃ g, w' = stR w 2280 (ad 28) g) := by
  refine Ct.mk (by decide +kernel) [(0, .ref mo), (1, .int (nI s0)), (2, .int (nI pr))] rfl (Nat.le_of_ble_eq_true rfl) ?_
  intro p l e R s m args below meth c D cy z C hnm
  obtain ⟨rt, hrt⟩ : ∃ rt : Nat → Int32, ∀ se, rt se = rrat w ad nS pr n dN s0 se := ⟨_, fun _ => rfl⟩
  rw [show (rrat w ad nS pr n dN s0) = rt from funext fun se => (hrt se).symm]
  obtain ⟨M, hM⟩ : ∃ M : Nat, M = T / 60 := ⟨_, rfl⟩
  have loop : ∀ (k i : Nat) (g : Nat → Int32), i + k = M → G p l e R s m args below meth c D cy z 6 (stR w 2280 (ad 28) g) 0 0 8 [(0, .ref mo), (1, .int (nI s0)), (2, .int (nI pr)), (3, .int (sumS rt i)), (4, .int (nI i)), (5, .int (nI i))] [] (QM below args s D cy z (fun r w' => r = some (.int (prcV rt (T / 60))) ∧ ∃ g, w' = stR w 2280 (ad 28) g) 0 0) := by
    intro k
    induction k with
    | zero =>
      intro i g hik
      refine g_iload C dX10_pricedOf_8 rfl ?_
      refine g_bipush C 20 dX10_pricedOf_10 (by rfl) ?_
      refine g_icmp_ge C 44 dX10_pricedOf_12 (by decide) (fun c_12 => ?_) (fun c_12 => ?_)
      · refine g_iload C dX10_pricedOf_44 rfl ?_
        refine g_if_ne C 54 dX10_pricedOf_46 (by decide) (fun c_46 => ?_) (fun c_46 => ?_)
        · refine g_iload_n C dX10_pricedOf_54 rfl ?_
          refine g_iload C dX10_pricedOf_55 rfl ?_
          refine g_idiv C dX10_pricedOf_57 (fun z => c_46 z) ?_
          refine g_iret C rfl rfl (by decide) (by decide) dX10_pricedOf_58 ?_
          first
          | exact ⟨congrArg (fun v => some (Value.int v)) (by have e9 : i = 0 := by { by_cases e8 : i = 0; exact e8; exact absurd c_46 (nI_ne0 (by omega) (by omega)) }; rw [prcV, if_pos (by omega)]), g, rfl⟩
          | exact ⟨congrArg (fun v => some (Value.int v)) (by have e9 : ¬ T / 60 = 0 := fun z => c_46 (by rw [show i = 0 by omega]; rfl); rw [prcV, if_neg e9, ← hM, show i = M by omega]), g, rfl⟩
        · refine g_bipush C 100 dX10_pricedOf_49 (by rfl) ?_
          refine g_goto C 58 dX10_pricedOf_51 (by decide) ?_
          refine g_iret C rfl rfl (by decide) (by decide) dX10_pricedOf_58 ?_
          first
          | exact ⟨congrArg (fun v => some (Value.int v)) (by have e9 : i = 0 := by { by_cases e8 : i = 0; exact e8; exact absurd c_46 (nI_ne0 (by omega) (by omega)) }; rw [prcV, if_pos (by omega)]), g, rfl⟩
          | exact ⟨congrArg (fun v => some (Value.int v)) (by have e9 : ¬ T / 60 = 0 := fun z => c_46 (by rw [show i = 0 by omega]; rfl); rw [prcV, if_neg e9, ← hM, show i = M by omega]), g, rfl⟩
      · refine g_aload_n C dX10_pricedOf_15 rfl ?_
        refine g_iload C dX10_pricedOf_16 rfl ?_
        refine g_callV C cls_11 12 mt_X10_isOver [.int (nI i)] (c_X10_isOver de (stR w 2280 (ad 28) g) mo ad hm i T (by omega) hT hT2) hm.1 (by decide) k_1111 rfl rfl (Nat.le_of_ble_eq_true rfl) (by decide) (by decide) (by decide) (by decide) dX10_pricedOf_18 (fun r_18 w_18 hp_18 => ?_)
        obtain ⟨rfl, rfl⟩ := hp_18
        refine g_if_eq C 44 dX10_pricedOf_21 (by decide) (fun c_21 => ?_) (fun c_21 => ?_)
        · refine g_iload C dX10_pricedOf_44 rfl ?_
          refine g_if_ne C 54 dX10_pricedOf_46 (by decide) (fun c_46 => ?_) (fun c_46 => ?_)
          · refine g_iload_n C dX10_pricedOf_54 rfl ?_
            refine g_iload C dX10_pricedOf_55 rfl ?_
            refine g_idiv C dX10_pricedOf_57 (fun z => c_46 z) ?_
            refine g_iret C rfl rfl (by decide) (by decide) dX10_pricedOf_58 ?_
            first
            | exact ⟨congrArg (fun v => some (Value.int v)) (by have e9 : i = 0 := by { by_cases e8 : i = 0; exact e8; exact absurd c_46 (nI_ne0 (by omega) (by omega)) }; rw [prcV, if_pos (by omega)]), g, rfl⟩
            | exact ⟨congrArg (fun v => some (Value.int v)) (by have e9 : ¬ T / 60 = 0 := fun z => c_46 (by rw [show i = 0 by omega]; rfl); rw [prcV, if_neg e9, ← hM, show i = M by omega]), g, rfl⟩
          · refine g_bipush C 100 dX10_pricedOf_49 (by rfl) ?_
            refine g_goto C 58 dX10_pricedOf_51 (by decide) ?_
            refine g_iret C rfl rfl (by decide) (by decide) dX10_pricedOf_58 ?_
            first
            | exact ⟨congrArg (fun v => some (Value.int v)) (by have e9 : i = 0 := by { by_cases e8 : i = 0; exact e8; exact absurd c_46 (nI_ne0 (by omega) (by omega)) }; rw [prcV, if_pos (by omega)]), g, rfl⟩
            | exact ⟨congrArg (fun v => some (Value.int v)) (by have e9 : ¬ T / 60 = 0 := fun z => c_46 (by rw [show i = 0 by omega]; rfl); rw [prcV, if_neg e9, ← hM, show i = M by omega]), g, rfl⟩
        · exact absurd (of_decide_eq_true (bI_n0.mp c_21)) (by omega)
    | succ k ih =>
      intro i g hik
      refine g_iload C dX10_pricedOf_8 rfl ?_
      refine g_bipush C 20 dX10_pricedOf_10 (by rfl) ?_
      refine g_icmp_ge C 44 dX10_pricedOf_12 (by decide) (fun c_12 => ?_) (fun c_12 => ?_)
      · first
        | exact absurd (nI_le_of (a := 20) c_12 (by omega) (by omega)) (by omega)
        | exact absurd (of_decide_eq_false (bI_0.mp c_21)) (by omega)
      · refine g_aload_n C dX10_pricedOf_15 rfl ?_
        refine g_iload C dX10_pricedOf_16 rfl ?_
        refine g_callV C cls_11 12 mt_X10_isOver [.int (nI i)] (c_X10_isOver de (stR w 2280 (ad 28) g) mo ad hm i T (by omega) hT hT2) hm.1 (by decide) k_1111 rfl rfl (Nat.le_of_ble_eq_true rfl) (by decide) (by decide) (by decide) (by decide) dX10_pricedOf_18 (fun r_18 w_18 hp_18 => ?_)
        obtain ⟨rfl, rfl⟩ := hp_18
        refine g_if_eq C 44 dX10_pricedOf_21 (by decide) (fun c_21 => ?_) (fun c_21 => ?_)
        · first
          | exact absurd (nI_le_of (a := 20) c_12 (by omega) (by omega)) (by omega)
          | exact absurd (of_decide_eq_false (bI_0.mp c_21)) (by omega)
        · refine g_iload_n C dX10_pricedOf_24 rfl ?_
          refine g_aload_n C dX10_pricedOf_25 rfl ?_
          refine g_iload_n C dX10_pricedOf_26 rfl ?_
          refine g_iload C dX10_pricedOf_27 rfl ?_
          refine g_iload_n C dX10_pricedOf_29 rfl ?_
          refine g_callV C cls_11 12 mt_X10_rateOf [.int (nI s0), .int (nI i), .int (nI pr)] (c_X10_rateOf de (stR w 2280 (ad 28) g) mo ad hm nS s0 hS hn5 hs pr n dN hpr hp i (by omega) hsz) hm.1 (by decide) k_1092 rfl rfl (Nat.le_of_ble_eq_true rfl) (by decide) (by decide) (by decide) (by decide) dX10_pricedOf_30 (fun r_30 w_30 hp_30 => ?_)
          obtain ⟨rfl, g1, rfl⟩ := hp_30
          rw [show rrat (stR w 2280 (ad 28) g) ad nS pr n dN s0 i = rt i from (hrt i).symm]
          refine g_iadd C dX10_pricedOf_33 ?_
          refine g_istore_n C dX10_pricedOf_34 (by decide) ?_
          refine g_iinc C dX10_pricedOf_35 rfl (nI_1 i) (by decide) ?_
          refine g_iinc C dX10_pricedOf_38 rfl (nI_1 i) (by decide) ?_
          refine g_goto C 8 dX10_pricedOf_41 (by decide) ?_
          have h9 := ih (i + 1) g1 (by omega)
          refine g_eq rfl rfl (w' := stR w 2280 (ad 28) g1) ?_ ?_
          · exact stR_stR
          · exact g_lv2 [(0, .ref mo), (1, .int (nI s0)), (2, .int (nI pr)), (3, .int (sumS rt (i + 1))), (4, .int (nI (i + 1))), (5, .int (nI (i + 1)))] rfl h9
  refine g_iconst C 0 dX10_pricedOf_0 (by rfl) ?_
  refine g_istore_n C dX10_pricedOf_1 (by decide) ?_
  refine g_iconst C 0 dX10_pricedOf_2 (by rfl) ?_
  refine g_istore C dX10_pricedOf_3 (by decide) ?_
  refine g_iconst C 0 dX10_pricedOf_5 (by rfl) ?_
  refine g_istore C dX10_pricedOf_6 (by decide) ?_
  refine g_eq rfl rfl (w' := stR w 2280 (ad 28) (aI w 2280 (ad 28))) stR_self.symm ?_
  exact g_lv2 [(0, .ref mo), (1, .int (nI s0)), (2, .int (nI pr)), (3, .int (sumS rt 0)), (4, .int (nI 0)), (5, .int (nI 0))] rfl (loop M 0 _ (by omega))
end REF17
end
section
section REFM18
/-- the reference's arrays, by their fields -/
def isA (k : Nat) : Bool := [1, 2, 4, 5, 7, 8, 9, 12, 13, 14, 15, 16, 18, 19, 23, 25, 26, 28].contains k
def kq (k : Nat) : Nat := if k = 19 ∨ k = 26 then 2001 + 10 * k else 2000 + 10 * k
/-- the world w, but the reference at mo holds A, F, last L, rains g -/
def M (w : Wd) (mo : Nat) (ad : Nat → Nat) (A : Nat → Nat → Int32) (F : Nat → Int32) (L : Int32) (g : Nat → Int32) : Wd :=
  (w.1, (fun K k a => if K = 12 ∧ a = mo then (if k = 29 then L else F k) else w.2.1 K k a), w.2.2.1, w.2.2.2.1,
    (fun K a j => if isA ((K - 2000) / 10) = true ∧ K = kq ((K - 2000) / 10) ∧ a = ad ((K - 2000) / 10) then (if K = 2280 then g j else A ((K - 2000) / 10) j) else w.2.2.2.2.1 K a j), w.2.2.2.2.2)
def updF (F : Nat → Int32) (k : Nat) (v : Int32) : Nat → Int32 := fun i => if i = k then v else F i
def updA (A : Nat → Nat → Int32) (k j : Nat) (v : Int32) : Nat → Nat → Int32 := fun i q => if i = k ∧ q = j then v else A i q
section
variable {w : Wd} {mo : Nat} {ad : Nat → Nat} {A : Nat → Nat → Int32} {F : Nat → Int32} {L v : Int32} {g g1 : Nat → Int32} {j : Nat}
theorem M_RM (h : RM w mo ad) : RM (M w mo ad A F L g) mo ad := h
theorem M_L : fI (M w mo ad A F L g) 12 29 mo = L := (if_pos ⟨rfl, rfl⟩).trans (if_pos rfl)
theorem M_g : aI (M w mo ad A F L g) 2280 (ad 28) = g := funext fun _ => (if_pos ⟨by decide, by decide, rfl⟩).trans (if_pos rfl)
theorem M_fe {F' : Nat → Int32} (h : ∀ k, k ≠ 29 → F k = F' k) : M w mo ad A F L g = M w mo ad A F' L g := by
  have e : (M w mo ad A F L g).2.1 = (M w mo ad A F' L g).2.1 := by
    funext K k a
    show (if K = 12 ∧ a = mo then (if k = 29 then L else F k) else w.2.1 K k a) = if K = 12 ∧ a = mo then (if k = 29 then L else F' k) else w.2.1 K k a
    by_cases h1 : k = 29
    · rw [if_pos h1, if_pos h1]
    · rw [if_neg h1, if_neg h1, h k h1]
  show (w.1, (M w mo ad A F L g).2.1, _, _, _, _) = _
  rw [e]
  rfl
theorem M_pI {k : Nat} (hk : k ≠ 29) : pI (M w mo ad A F L g) 12 k mo v = M w mo ad A (updF F k v) L g := by
  have e : up3 (M w mo ad A F L g).2.1 12 k mo v = (M w mo ad A (updF F k v) L g).2.1 := by
    funext K i a
    show (if K = 12 ∧ i = k ∧ a = mo then v else if K = 12 ∧ a = mo then (if i = 29 then L else F i) else w.2.1 K i a) = if K = 12 ∧ a = mo then (if i = 29 then L else updF F k v i) else w.2.1 K i a
    by_cases h : K = 12 ∧ a = mo
    · rw [if_pos h, if_pos h]
      by_cases hi : i = k
      · rw [if_pos ⟨h.1, hi, h.2⟩, if_neg (by omega)]
        exact (if_pos hi).symm
      · rw [if_neg (fun z => hi z.2.1)]
        by_cases h2 : i = 29
        · rw [if_pos h2, if_pos h2]
        · rw [if_neg h2, if_neg h2]
          exact (if_neg hi).symm
    · rw [if_neg h, if_neg h, if_neg (fun z => h ⟨z.1, z.2.2⟩)]
  show (w.1, up3 (M w mo ad A F L g).2.1 12 k mo v, _, _, _, _) = _
  rw [e]
  rfl
theorem M_pL : pI (M w mo ad A F L g) 12 29 mo v = M w mo ad A F v g := by
  have e : up3 (M w mo ad A F L g).2.1 12 29 mo v = (M w mo ad A F v g).2.1 := by
    funext K i a
    show (if K = 12 ∧ i = 29 ∧ a = mo then v else if K = 12 ∧ a = mo then (if i = 29 then L else F i) else w.2.1 K i a) = if K = 12 ∧ a = mo then (if i = 29 then v else F i) else w.2.1 K i a
    by_cases h : K = 12 ∧ a = mo
    · rw [if_pos h, if_pos h]
      by_cases hi : i = 29
      · rw [if_pos ⟨h.1, hi, h.2⟩, if_pos hi]
      · rw [if_neg (fun z => hi z.2.1), if_neg hi, if_neg hi]
    · rw [if_neg h, if_neg h, if_neg (fun z => h ⟨z.1, z.2.2⟩)]
  show (w.1, up3 (M w mo ad A F L g).2.1 12 29 mo v, _, _, _, _) = _
  rw [e]
  rfl
theorem M_pA (k K : Nat) (h1 : (K - 2000) / 10 = k) (h2 : isA k = true) (h3 : K = kq k) (h4 : K ≠ 2280) : pAI (M w mo ad A F L g) K (ad k) j v = M w mo ad (updA A k j v) F L g := by
  have e : up3 (M w mo ad A F L g).2.2.2.2.1 K (ad k) j v = (M w mo ad (updA A k j v) F L g).2.2.2.2.1 := by
    funext K' a q
    show (if K' = K ∧ a = ad k ∧ q = j then v else if isA ((K' - 2000) / 10) = true ∧ K' = kq ((K' - 2000) / 10) ∧ a = ad ((K' - 2000) / 10) then (if K' = 2280 then g q else A ((K' - 2000) / 10) q) else w.2.2.2.2.1 K' a q)
      = if isA ((K' - 2000) / 10) = true ∧ K' = kq ((K' - 2000) / 10) ∧ a = ad ((K' - 2000) / 10) then (if K' = 2280 then g q else updA A k j v ((K' - 2000) / 10) q) else w.2.2.2.2.1 K' a q
    by_cases h : K' = K
    · subst h
      rw [h1]
      by_cases ha : a = ad k
      · rw [if_pos (c := isA k = true ∧ K' = kq k ∧ a = ad k) ⟨h2, h3, ha⟩, if_pos (c := isA k = true ∧ K' = kq k ∧ a = ad k) ⟨h2, h3, ha⟩, if_neg h4, if_neg h4]
        unfold updA
        by_cases hq : q = j
        · rw [if_pos ⟨rfl, ha, hq⟩, if_pos ⟨rfl, hq⟩]
        · rw [if_neg (fun z => hq z.2.2), if_neg (fun z => hq z.2)]
      · rw [if_neg (fun z => ha z.2.1), if_neg (fun z => ha z.2.2), if_neg (fun z => ha z.2.2)]
    · rw [if_neg (fun z => h z.1)]
      by_cases h5 : isA ((K' - 2000) / 10) = true ∧ K' = kq ((K' - 2000) / 10) ∧ a = ad ((K' - 2000) / 10)
      · rw [if_pos h5, if_pos h5]
        unfold updA
        rw [if_neg (c := (K' - 2000) / 10 = k ∧ q = j) (fun z => h (by rw [h5.2.1, z.1, ← h3]))]
      · rw [if_neg h5, if_neg h5]
  show (w.1, _, _, _, up3 (M w mo ad A F L g).2.2.2.2.1 K (ad k) j v, _) = _
  rw [e]
  rfl
theorem M_stR : stR (M w mo ad A F L g) 2280 (ad 28) g1 = M w mo ad A F L g1 := by
  have e : (stR (M w mo ad A F L g) 2280 (ad 28) g1).2.2.2.2.1 = (M w mo ad A F L g1).2.2.2.2.1 := by
    funext K' a q
    show (if K' = 2280 ∧ a = ad 28 then g1 q else if isA ((K' - 2000) / 10) = true ∧ K' = kq ((K' - 2000) / 10) ∧ a = ad ((K' - 2000) / 10) then (if K' = 2280 then g q else A ((K' - 2000) / 10) q) else w.2.2.2.2.1 K' a q)
      = if isA ((K' - 2000) / 10) = true ∧ K' = kq ((K' - 2000) / 10) ∧ a = ad ((K' - 2000) / 10) then (if K' = 2280 then g1 q else A ((K' - 2000) / 10) q) else w.2.2.2.2.1 K' a q
    by_cases h : K' = 2280
    · subst h
      by_cases ha : a = ad 28
      · rw [if_pos ⟨rfl, ha⟩, if_pos ⟨by decide, by decide, ha⟩, if_pos rfl]
      · rw [if_neg (fun z => ha z.2), if_neg (fun z => ha z.2.2), if_neg (fun z => ha z.2.2)]
    · rw [if_neg (fun z => h z.1), if_neg h, if_neg h]
  show (w.1, _, _, _, (stR (M w mo ad A F L g) 2280 (ad 28) g1).2.2.2.2.1, _) = _
  rw [e]
  rfl
theorem M_a1 : aI (M w mo ad A F L g) 2010 (ad 1) = A 1 := funext fun _ => (if_pos ⟨by decide, by decide, rfl⟩).trans (if_neg (by decide))
theorem M_p1 : pAI (M w mo ad A F L g) 2010 (ad 1) j v = M w mo ad (updA A 1 j v) F L g := M_pA 1 2010 (by decide) (by decide) (by decide) (by decide)
theorem M_a2 : aI (M w mo ad A F L g) 2020 (ad 2) = A 2 := funext fun _ => (if_pos ⟨by decide, by decide, rfl⟩).trans (if_neg (by decide))
theorem M_p2 : pAI (M w mo ad A F L g) 2020 (ad 2) j v = M w mo ad (updA A 2 j v) F L g := M_pA 2 2020 (by decide) (by decide) (by decide) (by decide)
theorem M_a4 : aI (M w mo ad A F L g) 2040 (ad 4) = A 4 := funext fun _ => (if_pos ⟨by decide, by decide, rfl⟩).trans (if_neg (by decide))
theorem M_p4 : pAI (M w mo ad A F L g) 2040 (ad 4) j v = M w mo ad (updA A 4 j v) F L g := M_pA 4 2040 (by decide) (by decide) (by decide) (by decide)
theorem M_a5 : aI (M w mo ad A F L g) 2050 (ad 5) = A 5 := funext fun _ => (if_pos ⟨by decide, by decide, rfl⟩).trans (if_neg (by decide))
theorem M_p5 : pAI (M w mo ad A F L g) 2050 (ad 5) j v = M w mo ad (updA A 5 j v) F L g := M_pA 5 2050 (by decide) (by decide) (by decide) (by decide)
theorem M_a7 : aI (M w mo ad A F L g) 2070 (ad 7) = A 7 := funext fun _ => (if_pos ⟨by decide, by decide, rfl⟩).trans (if_neg (by decide))
theorem M_p7 : pAI (M w mo ad A F L g) 2070 (ad 7) j v = M w mo ad (updA A 7 j v) F L g := M_pA 7 2070 (by decide) (by decide) (by decide) (by decide)
theorem M_a8 : aI (M w mo ad A F L g) 2080 (ad 8) = A 8 := funext fun _ => (if_pos ⟨by decide, by decide, rfl⟩).trans (if_neg (by decide))
theorem M_p8 : pAI (M w mo ad A F L g) 2080 (ad 8) j v = M w mo ad (updA A 8 j v) F L g := M_pA 8 2080 (by decide) (by decide) (by decide) (by decide)
theorem M_a9 : aI (M w mo ad A F L g) 2090 (ad 9) = A 9 := funext fun _ => (if_pos ⟨by decide, by decide, rfl⟩).trans (if_neg (by decide))
theorem M_p9 : pAI (M w mo ad A F L g) 2090 (ad 9) j v = M w mo ad (updA A 9 j v) F L g := M_pA 9 2090 (by decide) (by decide) (by decide) (by decide)
theorem M_a12 : aI (M w mo ad A F L g) 2120 (ad 12) = A 12 := funext fun _ => (if_pos ⟨by decide, by decide, rfl⟩).trans (if_neg (by decide))
theorem M_p12 : pAI (M w mo ad A F L g) 2120 (ad 12) j v = M w mo ad (updA A 12 j v) F L g := M_pA 12 2120 (by decide) (by decide) (by decide) (by decide)
theorem M_a13 : aI (M w mo ad A F L g) 2130 (ad 13) = A 13 := funext fun _ => (if_pos ⟨by decide, by decide, rfl⟩).trans (if_neg (by decide))
theorem M_p13 : pAI (M w mo ad A F L g) 2130 (ad 13) j v = M w mo ad (updA A 13 j v) F L g := M_pA 13 2130 (by decide) (by decide) (by decide) (by decide)
theorem M_a14 : aI (M w mo ad A F L g) 2140 (ad 14) = A 14 := funext fun _ => (if_pos ⟨by decide, by decide, rfl⟩).trans (if_neg (by decide))
theorem M_p14 : pAI (M w mo ad A F L g) 2140 (ad 14) j v = M w mo ad (updA A 14 j v) F L g := M_pA 14 2140 (by decide) (by decide) (by decide) (by decide)
theorem M_a15 : aI (M w mo ad A F L g) 2150 (ad 15) = A 15 := funext fun _ => (if_pos ⟨by decide, by decide, rfl⟩).trans (if_neg (by decide))
theorem M_p15 : pAI (M w mo ad A F L g) 2150 (ad 15) j v = M w mo ad (updA A 15 j v) F L g := M_pA 15 2150 (by decide) (by decide) (by decide) (by decide)
theorem M_a16 : aI (M w mo ad A F L g) 2160 (ad 16) = A 16 := funext fun _ => (if_pos ⟨by decide, by decide, rfl⟩).trans (if_neg (by decide))
theorem M_p16 : pAI (M w mo ad A F L g) 2160 (ad 16) j v = M w mo ad (updA A 16 j v) F L g := M_pA 16 2160 (by decide) (by decide) (by decide) (by decide)
theorem M_a18 : aI (M w mo ad A F L g) 2180 (ad 18) = A 18 := funext fun _ => (if_pos ⟨by decide, by decide, rfl⟩).trans (if_neg (by decide))
theorem M_p18 : pAI (M w mo ad A F L g) 2180 (ad 18) j v = M w mo ad (updA A 18 j v) F L g := M_pA 18 2180 (by decide) (by decide) (by decide) (by decide)
theorem M_a19 : aI (M w mo ad A F L g) 2191 (ad 19) = A 19 := funext fun _ => (if_pos ⟨by decide, by decide, rfl⟩).trans (if_neg (by decide))
theorem M_p19 : pAI (M w mo ad A F L g) 2191 (ad 19) j v = M w mo ad (updA A 19 j v) F L g := M_pA 19 2191 (by decide) (by decide) (by decide) (by decide)
theorem M_a23 : aI (M w mo ad A F L g) 2230 (ad 23) = A 23 := funext fun _ => (if_pos ⟨by decide, by decide, rfl⟩).trans (if_neg (by decide))
theorem M_p23 : pAI (M w mo ad A F L g) 2230 (ad 23) j v = M w mo ad (updA A 23 j v) F L g := M_pA 23 2230 (by decide) (by decide) (by decide) (by decide)
theorem M_a25 : aI (M w mo ad A F L g) 2250 (ad 25) = A 25 := funext fun _ => (if_pos ⟨by decide, by decide, rfl⟩).trans (if_neg (by decide))
theorem M_p25 : pAI (M w mo ad A F L g) 2250 (ad 25) j v = M w mo ad (updA A 25 j v) F L g := M_pA 25 2250 (by decide) (by decide) (by decide) (by decide)
theorem M_a26 : aI (M w mo ad A F L g) 2261 (ad 26) = A 26 := funext fun _ => (if_pos ⟨by decide, by decide, rfl⟩).trans (if_neg (by decide))
theorem M_p26 : pAI (M w mo ad A F L g) 2261 (ad 26) j v = M w mo ad (updA A 26 j v) F L g := M_pA 26 2261 (by decide) (by decide) (by decide) (by decide)
theorem M_f0 : fI (M w mo ad A F L g) 12 0 mo = F 0 := (if_pos ⟨rfl, rfl⟩).trans (if_neg (by decide))
theorem M_q0 : pI (M w mo ad A F L g) 12 0 mo v = M w mo ad A (updF F 0 v) L g := M_pI (by decide)
theorem M_f3 : fI (M w mo ad A F L g) 12 3 mo = F 3 := (if_pos ⟨rfl, rfl⟩).trans (if_neg (by decide))
theorem M_q3 : pI (M w mo ad A F L g) 12 3 mo v = M w mo ad A (updF F 3 v) L g := M_pI (by decide)
theorem M_f6 : fI (M w mo ad A F L g) 12 6 mo = F 6 := (if_pos ⟨rfl, rfl⟩).trans (if_neg (by decide))
theorem M_q6 : pI (M w mo ad A F L g) 12 6 mo v = M w mo ad A (updF F 6 v) L g := M_pI (by decide)
theorem M_f10 : fI (M w mo ad A F L g) 12 10 mo = F 10 := (if_pos ⟨rfl, rfl⟩).trans (if_neg (by decide))
theorem M_q10 : pI (M w mo ad A F L g) 12 10 mo v = M w mo ad A (updF F 10 v) L g := M_pI (by decide)
theorem M_f11 : fI (M w mo ad A F L g) 12 11 mo = F 11 := (if_pos ⟨rfl, rfl⟩).trans (if_neg (by decide))
theorem M_q11 : pI (M w mo ad A F L g) 12 11 mo v = M w mo ad A (updF F 11 v) L g := M_pI (by decide)
theorem M_f17 : fI (M w mo ad A F L g) 12 17 mo = F 17 := (if_pos ⟨rfl, rfl⟩).trans (if_neg (by decide))
theorem M_q17 : pI (M w mo ad A F L g) 12 17 mo v = M w mo ad A (updF F 17 v) L g := M_pI (by decide)
theorem M_f20 : fI (M w mo ad A F L g) 12 20 mo = F 20 := (if_pos ⟨rfl, rfl⟩).trans (if_neg (by decide))
theorem M_q20 : pI (M w mo ad A F L g) 12 20 mo v = M w mo ad A (updF F 20 v) L g := M_pI (by decide)
theorem M_f21 : fI (M w mo ad A F L g) 12 21 mo = F 21 := (if_pos ⟨rfl, rfl⟩).trans (if_neg (by decide))
theorem M_q21 : pI (M w mo ad A F L g) 12 21 mo v = M w mo ad A (updF F 21 v) L g := M_pI (by decide)
theorem M_f22 : fI (M w mo ad A F L g) 12 22 mo = F 22 := (if_pos ⟨rfl, rfl⟩).trans (if_neg (by decide))
theorem M_q22 : pI (M w mo ad A F L g) 12 22 mo v = M w mo ad A (updF F 22 v) L g := M_pI (by decide)
theorem M_f24 : fI (M w mo ad A F L g) 12 24 mo = F 24 := (if_pos ⟨rfl, rfl⟩).trans (if_neg (by decide))
theorem M_q24 : pI (M w mo ad A F L g) 12 24 mo v = M w mo ad A (updF F 24 v) L g := M_pI (by decide)
theorem M_f27 : fI (M w mo ad A F L g) 12 27 mo = F 27 := (if_pos ⟨rfl, rfl⟩).trans (if_neg (by decide))
theorem M_q27 : pI (M w mo ad A F L g) 12 27 mo v = M w mo ad A (updF F 27 v) L g := M_pI (by decide)
def phA (A : Nat → Nat → Int32) (pr k : Nat) : Nat → Int32 := fun i => A 7 (5 * (3 * pr + i) + k)
theorem M_phV {pr k : Nat} : phV (M w mo ad A F L g) ad pr k = phA A pr k := by
  funext i
  unfold phV phA
  rw [M_a7]
/-- the reference's row and rate -/
def rowA (A : Nat → Nat → Int32) (nS : Nat) (kn : Int32) (se s0 : Nat) : Nat → Int32 := fun j => rrV nS (A 1) (A 2) (A 4) (A 5) kn (60 * se + j) s0
def ratA (A : Nat → Nat → Int32) (nS pr n : Nat) (dN : Nat → Nat) (s0 se : Nat) : Int32 := rateV (rowA A nS (A 9 pr) se s0) n dN (phA A pr 1) (phA A pr 2) (phA A pr 3) (phA A pr 4)
theorem M_rrat {nS pr n s0 se : Nat} {dN : Nat → Nat} : rrat (M w mo ad A F L g) ad nS pr n dN s0 se = ratA A nS pr n dN s0 se := by
  unfold rrat ratA rrow rowA
  rw [M_a1, M_a2, M_a4, M_a5, M_a9, M_phV, M_phV, M_phV, M_phV]
def PHA (A : Nat → Nat → Int32) (pr n : Nat) (dN : Nat → Nat) : Prop := n ≤ 3 ∧ ∀ i, i < n → phA A pr 0 i = nI (dN i) ∧ dN i ≤ 30 ∧ (phA A pr 1 i = 0 ∨ phA A pr 1 i = 1)
theorem M_RPH {pr n : Nat} {dN : Nat → Nat} (h : PHA A pr n dN) : RPH (M w mo ad A F L g) ad pr n dN := by
  unfold RPH
  rw [M_phV, M_phV]
  exact h
end
theorem m_goes (de : Nat) (w : Wd) (mo : Nat) (ad : Nat → Nat) (A : Nat → Nat → Int32) (F : Nat → Int32) (L : Int32) (g : Nat → Int32) (hm : RM w mo ad) (a b cq : Int32) : Ct yX10_goes cX10_goes 4 (some .boolean) 0 0 0 0 de [.ref mo, .int a, .int b, .int cq] (M w mo ad A F L g) (fun r w' => r = some (.int (bI (decide (goV a b cq = 0)))) ∧ w' = M w mo ad A F (goV a b cq) g) := by
  have h := c_X10_goes de (M w mo ad A F L g) mo ad hm a b cq
  rw [M_pL] at h
  exact h
theorem m_isStation (de : Nat) (w : Wd) (mo : Nat) (ad : Nat → Nat) (A : Nat → Nat → Int32) (F : Nat → Int32) (L : Int32) (g : Nat → Int32) (hm : RM w mo ad) (a : Int32) : Ct yX10_isStation cX10_isStation 2 (some .boolean) 1 22 0 0 de [.ref mo, .int a] (M w mo ad A F L g) (fun r w' => r = some (.int (bI (inR a 0 (F 3 - 1)))) ∧ (M w mo ad A F L g) = w') := by
  have h := c_X10_isStation de (M w mo ad A F L g) mo ad hm a
  rw [M_f3] at h
  exact h
theorem m_isProduct (de : Nat) (w : Wd) (mo : Nat) (ad : Nat → Nat) (A : Nat → Nat → Int32) (F : Nat → Int32) (L : Int32) (g : Nat → Int32) (hm : RM w mo ad) (a : Int32) : Ct yX10_isProduct cX10_isProduct 2 (some .boolean) 1 22 0 0 de [.ref mo, .int a] (M w mo ad A F L g) (fun r w' => r = some (.int (bI (inR a 0 (F 10 - 1)))) ∧ (M w mo ad A F L g) = w') := by
  have h := c_X10_isProduct de (M w mo ad A F L g) mo ad hm a
  rw [M_f10] at h
  exact h
theorem m_isFarm (de : Nat) (w : Wd) (mo : Nat) (ad : Nat → Nat) (A : Nat → Nat → Int32) (F : Nat → Int32) (L : Int32) (g : Nat → Int32) (hm : RM w mo ad) (a : Int32) : Ct yX10_isFarm cX10_isFarm 2 (some .boolean) 1 22 0 0 de [.ref mo, .int a] (M w mo ad A F L g) (fun r w' => r = some (.int (bI (inR a 0 (F 17 - 1)))) ∧ (M w mo ad A F L g) = w') := by
  have h := c_X10_isFarm de (M w mo ad A F L g) mo ad hm a
  rw [M_f17] at h
  exact h
theorem m_off (de : Nat) (w : Wd) (mo : Nat) (ad : Nat → Nat) (A : Nat → Nat → Int32) (F : Nat → Int32) (L : Int32) (g : Nat → Int32) (hm : RM w mo ad) (x y : Int32) (k : Nat) (hk : k < 5) : Ct yX10_off cX10_off 4 (some .int) 0 0 0 0 de [.ref mo, .int x, .int y, .int (nI k)] (M w mo ad A F L g) (fun r w' => r = some (.int (offV (A 1) (A 2) x y k)) ∧ (M w mo ad A F L g) = w') := by
  have h := c_X10_off de (M w mo ad A F L g) mo ad hm x y k hk
  rw [M_a1, M_a2] at h
  exact h
theorem m_rainOn (de : Nat) (w : Wd) (mo : Nat) (ad : Nat → Nat) (A : Nat → Nat → Int32) (F : Nat → Int32) (L : Int32) (g : Nat → Int32) (hm : RM w mo ad) (nS s0 d : Nat) (kn : Int32) (hS : F 3 = nI nS) (hn5 : nS ≤ 5) (hs : s0 < nS) (hd : d < 1200) : Ct yX10_rainOn cX10_rainOn 8 (some .int) 1 23 0 0 de [.ref mo, .int (nI s0), .int (nI d), .int kn] (M w mo ad A F L g) (fun r w' => r = some (.int (rrV nS (A 1) (A 2) (A 4) (A 5) kn d s0)) ∧ (M w mo ad A F L g) = w') := by
  have h := c_X10_rainOn de (M w mo ad A F L g) mo ad hm nS s0 d kn (by rw [M_f3]; exact hS) hn5 hs hd
  rw [M_a1, M_a2, M_a4, M_a5] at h
  exact h
theorem m_lays (de : Nat) (w : Wd) (mo : Nat) (ad : Nat → Nat) (A : Nat → Nat → Int32) (F : Nat → Int32) (L : Int32) (g : Nat → Int32) (hm : RM w mo ad) (nS s0 se : Nat) (kn : Int32) (hS : F 3 = nI nS) (hn5 : nS ≤ 5) (hs : s0 < nS) (hse : se < 20) : Ct yX10_lays cX10_lays 5 none 2 50 0 0 de [.ref mo, .int (nI s0), .int (nI se), .int kn] (M w mo ad A F L g) (fun r w' => r = none ∧ ∃ g', w' = M w mo ad A F L g' ∧ ∀ j, j < 60 → g' j = rowA A nS kn se s0 j) := by
  have h := c_X10_lays de (M w mo ad A F L g) mo ad hm nS s0 se kn (by rw [M_f3]; exact hS) hn5 hs hse
  rw [M_a1, M_a2, M_a4, M_a5] at h
  simp only [M_stR] at h
  exact h
theorem m_beginning (de : Nat) (w : Wd) (mo : Nat) (ad : Nat → Nat) (A : Nat → Nat → Int32) (F : Nat → Int32) (L : Int32) (g : Nat → Int32) (hm : RM w mo ad)  : Ct yX10_beginning cX10_beginning 2 (some .int) 1 24 0 0 de [.ref mo] (M w mo ad A F L g) (fun r w' => r = some (.int (oI (begO g 58))) ∧ (M w mo ad A F L g) = w') := by
  have h := c_X10_beginning de (M w mo ad A F L g) mo ad hm
  rw [M_g] at h
  exact h
theorem m_looksAt (de : Nat) (w : Wd) (mo : Nat) (ad : Nat → Nat) (A : Nat → Nat → Int32) (F : Nat → Int32) (L : Int32) (g : Nat → Int32) (hm : RM w mo ad) (pr n : Nat) (dN : Nat → Nat) (hpr : pr < 7) (hp : PHA A pr n dN) (ph : Nat) (hph : ph < n) : Ct yX10_looksAt cX10_looksAt 10 (some .int) 2 45 0 0 de [.ref mo, .int (nI pr), .int (nI ph)] (M w mo ad A F L g) (fun r w' => r = some (.int (lookV g (phA A pr 1 ph) (dN ph) (stN g + dSum dN ph))) ∧ (M w mo ad A F L g) = w') := by
  have h := c_X10_looksAt de (M w mo ad A F L g) mo ad hm pr n dN hpr (M_RPH hp) ph hph
  rw [M_g, M_phV] at h
  exact h
theorem m_rateOf (de : Nat) (w : Wd) (mo : Nat) (ad : Nat → Nat) (A : Nat → Nat → Int32) (F : Nat → Int32) (L : Int32) (g : Nat → Int32) (hm : RM w mo ad) (nS s0 : Nat) (hS : F 3 = nI nS) (hn5 : nS ≤ 5) (hs : s0 < nS) (pr n : Nat) (dN : Nat → Nat) (hpr : pr < 7) (hp : PHA A pr n dN) (se : Nat) (hse : se < 20) (hsz : A 8 pr = nI n) : Ct yX10_rateOf cX10_rateOf 6 (some .int) 4 100 0 0 de [.ref mo, .int (nI s0), .int (nI se), .int (nI pr)] (M w mo ad A F L g) (fun r w' => r = some (.int (ratA A nS pr n dN s0 se)) ∧ ∃ g', w' = M w mo ad A F L g') := by
  have h := c_X10_rateOf de (M w mo ad A F L g) mo ad hm nS s0 (by rw [M_f3]; exact hS) hn5 hs pr n dN hpr (M_RPH hp) se hse (by rw [M_a8]; exact hsz)
  rw [M_rrat] at h
  simp only [M_stR] at h
  exact h
theorem m_isOver (de : Nat) (w : Wd) (mo : Nat) (ad : Nat → Nat) (A : Nat → Nat → Int32) (F : Nat → Int32) (L : Int32) (g : Nat → Int32) (hm : RM w mo ad) (i T : Nat) (hi : i ≤ 20) (hT : F 0 = nI T) (hT2 : T < 1200) : Ct yX10_isOver cX10_isOver 2 (some .boolean) 0 0 0 0 de [.ref mo, .int (nI i)] (M w mo ad A F L g) (fun r w' => r = some (.int (bI (decide ((i + 1) * 60 ≤ T)))) ∧ (M w mo ad A F L g) = w') := by
  exact c_X10_isOver de (M w mo ad A F L g) mo ad hm i T hi (by rw [M_f0]; exact hT) hT2
theorem m_pricedOf (de : Nat) (w : Wd) (mo : Nat) (ad : Nat → Nat) (A : Nat → Nat → Int32) (F : Nat → Int32) (L : Int32) (g : Nat → Int32) (hm : RM w mo ad) (nS s0 : Nat) (hS : F 3 = nI nS) (hn5 : nS ≤ 5) (hs : s0 < nS) (pr n : Nat) (dN : Nat → Nat) (hpr : pr < 7) (hp : PHA A pr n dN) (T : Nat) (hT : F 0 = nI T) (hT2 : T < 1200) (hsz : A 8 pr = nI n) : Ct yX10_pricedOf cX10_pricedOf 6 (some .int) 5 125 0 0 de [.ref mo, .int (nI s0), .int (nI pr)] (M w mo ad A F L g) (fun r w' => r = some (.int (prcV (ratA A nS pr n dN s0) (T / 60))) ∧ ∃ g', w' = M w mo ad A F L g') := by
  have h := c_X10_pricedOf de (M w mo ad A F L g) mo ad hm nS s0 (by rw [M_f3]; exact hS) hn5 hs pr n dN hpr (M_RPH hp) T (by rw [M_f0]; exact hT) hT2 (by rw [M_a8]; exact hsz)
  simp only [M_stR] at h
  rw [show rrat (M w mo ad A F L g) ad nS pr n dN s0 = ratA A nS pr n dN s0 from funext fun _ => M_rrat] at h
  exact h
end REFM18
end
section
section REF19
theorem ixm (a b c : Nat) : nI a * nI b + nI c = nI (a * b + c) := by rw [pk_mul, nI_add]
/-- the last of the first n with P -/
def lastO (P : Nat → Bool) : Nat → Option Nat
  | 0 => none
  | k + 1 => if P k = true then some k else lastO P k
theorem lastO_t {P : Nat → Bool} {k : Nat} (h : P k = true) : nI k = oI (lastO P (k + 1)) := by rw [lastO, if_pos h]; rfl
theorem lastO_f {P : Nat → Bool} {k : Nat} (h : ¬ P k = true) : oI (lastO P k) = oI (lastO P (k + 1)) := by rw [lastO, if_neg h]
def cntN (P : Nat → Bool) : Nat → Nat
  | 0 => 0
  | k + 1 => cntN P k + if P k = true then 1 else 0
theorem cntN_le {P : Nat → Bool} : ∀ n, cntN P n ≤ n
  | 0 => Nat.le_refl _
  | n + 1 => by
    have h := cntN_le (P := P) n
    show cntN P n + (if P n = true then 1 else 0) ≤ n + 1
    split <;> omega
theorem cntN_t {P : Nat → Bool} {n : Nat} (h : P n = true) : cntN P (n + 1) = cntN P n + 1 := by rw [cntN, if_pos h]
theorem cntN_f {P : Nat → Bool} {n : Nat} (h : ¬ P n = true) : cntN P (n + 1) = cntN P n := by rw [cntN, if_neg h]; rfl
def sumC (P : Nat → Bool) (v : Nat → Int32) : Nat → Int32
  | 0 => 0
  | k + 1 => if P k = true then sumC P v k + v k else sumC P v k
theorem sumC_t {P : Nat → Bool} {v : Nat → Int32} {n : Nat} (h : P n = true) : sumC P v (n + 1) = sumC P v n + v n := by rw [sumC, if_pos h]
theorem sumC_f {P : Nat → Bool} {v : Nat → Int32} {n : Nat} (h : ¬ P n = true) : sumC P v (n + 1) = sumC P v n := by rw [sumC, if_neg h]
/-- covers, farms, homes of the reference -/
def CVA (A : Nat → Nat → Int32) (nC nF nS : Nat) (cf cs ho : Nat → Nat) : Prop := nC ≤ 60 ∧ nF ≤ 16 ∧ nS ≤ 5 ∧ (∀ k, k < nC → A 23 (10 * k) = nI (cf k) ∧ cf k < nF ∧ A 23 (10 * k + 3) = nI (cs k) ∧ cs k < 20) ∧ ∀ f, f < nF → A 12 f = nI (ho f) ∧ ho f < nS
def truV (t lo paid : Int32) : Int32 := if t + (if 0 < paid then 10 else if 30 < lo - 1 then -20 else 0) < 0 then 0 else if 100 < t + (if 0 < paid then 10 else if 30 < lo - 1 then -20 else 0) then 100 else t + (if 0 < paid then 10 else if 30 < lo - 1 then -20 else 0)
def qF (cf cs : Nat → Nat) (fa se k : Nat) : Bool := decide (cf k = fa) && decide (cs k = se)
def qO (cf cs ho : Nat → Nat) (st se k : Nat) : Bool := decide (cs k = se) && decide (ho (cf k) = st)
theorem qF_t {cf cs : Nat → Nat} {fa se k : Nat} (h1 : nI (cf k) = nI fa) (h2 : nI (cs k) = nI se) (b1 : cf k < 100000) (b2 : fa < 100000) (b3 : cs k < 100000) (b4 : se < 100000) : qF cf cs fa se k = true := by
  unfold qF
  rw [decide_eq_true ((nI_eq (by omega) (by omega)).mp h1), decide_eq_true ((nI_eq (by omega) (by omega)).mp h2)]
  rfl
theorem qF_f1 {cf cs : Nat → Nat} {fa se k : Nat} (h1 : ¬ nI (cf k) = nI fa) : ¬ qF cf cs fa se k = true := by
  unfold qF
  rw [decide_eq_false (fun z : cf k = fa => h1 (by rw [z]))]
  simp
theorem qF_f2 {cf cs : Nat → Nat} {fa se k : Nat} (h1 : ¬ nI (cs k) = nI se) : ¬ qF cf cs fa se k = true := by
  unfold qF
  rw [decide_eq_false (fun z : cs k = se => h1 (by rw [z]))]
  simp
theorem qO_t {cf cs ho : Nat → Nat} {st se k : Nat} (h1 : nI (cs k) = nI se) (h2 : nI (ho (cf k)) = nI st) (b1 : cs k < 100000) (b2 : se < 100000) (b3 : ho (cf k) < 100000) (b4 : st < 100000) : (1 : Int32) = bI (qO cf cs ho st se k) := by
  unfold qO
  rw [decide_eq_true ((nI_eq (by omega) (by omega)).mp h1), decide_eq_true ((nI_eq (by omega) (by omega)).mp h2)]
  rfl
theorem qO_f1 {cf cs ho : Nat → Nat} {st se k : Nat} (h1 : ¬ nI (cs k) = nI se) : (0 : Int32) = bI (qO cf cs ho st se k) := by
  unfold qO
  rw [decide_eq_false (fun z : cs k = se => h1 (by rw [z]))]
  rfl
theorem qO_f2 {cf cs ho : Nat → Nat} {st se k : Nat} (h1 : ¬ nI (ho (cf k)) = nI st) : (0 : Int32) = bI (qO cf cs ho st se k) := by
  unfold qO
  rw [decide_eq_false (fun z : ho (cf k) = st => h1 (by rw [z])), Bool.and_false]
  rfl
def qC (A : Nat → Nat → Int32) (cf cs ho : Nat → Nat) (st se k : Nat) : Bool := qO cf cs ho st se k && !decide (A 19 (20 * cf k + se) = 0)
def qT (A : Nat → Nat → Int32) (cf cs ho : Nat → Nat) (st se k : Nat) : Bool := qO cf cs ho st se k && decide (0 < A 18 (20 * cf k + se))
/-- a second look at one cover -/
def lkM (A : Nat → Nat → Int32) (mean : Int32) (k : Nat) : Int32 := if 0 < A 23 (10 * k + 2) * (mean - 20) / 100 - A 23 (10 * k + 8) then A 23 (10 * k + 2) * (mean - 20) / 100 - A 23 (10 * k + 8) else 0
def lkF (cf cs ho : Nat → Nat) (st se : Nat) (mean : Int32) (A0 : Nat → Nat → Int32) : Nat → (Nat → Nat → Int32) × Int32
  | 0 => (A0, 0)
  | k + 1 => if qO cf cs ho st se k = true ∧ (lkF cf cs ho st se mean A0 k).1 23 (10 * k + 6) / 10 + 20 < mean then
      (updA (updA (lkF cf cs ho st se mean A0 k).1 23 (10 * k + 8) ((lkF cf cs ho st se mean A0 k).1 23 (10 * k + 8) + lkM (lkF cf cs ho st se mean A0 k).1 mean k)) 15 (cf k) ((lkF cf cs ho st se mean A0 k).1 15 (cf k) + lkM (lkF cf cs ho st se mean A0 k).1 mean k),
       (lkF cf cs ho st se mean A0 k).2 + lkM (lkF cf cs ho st se mean A0 k).1 mean k)
    else lkF cf cs ho st se mean A0 k
def lkC (A : Nat → Nat → Int32) (cf cs ho : Nat → Nat) (st se n : Nat) : Bool := !decide (A 26 (20 * st + se) = 0) || (decide (2 * cntN (qC A cf cs ho st se) n ≤ cntN (qO cf cs ho st se) n) || decide (cntN (qT A cf cs ho st se) n = 0))
def lkV (A : Nat → Nat → Int32) (cf cs ho : Nat → Nat) (st se n : Nat) : Int32 := sumC (qT A cf cs ho st se) (fun k => A 18 (20 * cf k + se) - 1) n / nI (cntN (qT A cf cs ho st se) n)
/-- a second look: the arrays after it and what is paid more -/
def lkR (A : Nat → Nat → Int32) (cf cs ho : Nat → Nat) (st se n : Nat) : (Nat → Nat → Int32) × Int32 :=
  if lkC A cf cs ho st se n = true then (A, 0) else lkF cf cs ho st se (lkV A cf cs ho st se n) (updA A 26 (20 * st + se) 1) n
theorem updA_ne {A : Nat → Nat → Int32} {k j k' j' : Nat} {v : Int32} (h : k' ≠ k ∨ j' ≠ j) : updA A k j v k' j' = A k' j' := if_neg (fun z => h.elim (fun q => q z.1) (fun q => q z.2))
theorem updA_eq {A : Nat → Nat → Int32} {k j : Nat} {v : Int32} : updA A k j v k j = v := if_pos ⟨rfl, rfl⟩
theorem CVA.upd {A : Nat → Nat → Int32} {nC nF nS k j : Nat} {cf cs ho : Nat → Nat} {v : Int32} (h : CVA A nC nF nS cf cs ho) (h1 : k ≠ 12) (h2 : k ≠ 23 ∨ (j % 10 ≠ 0 ∧ j % 10 ≠ 3)) : CVA (updA A k j v) nC nF nS cf cs ho :=
  ⟨h.1, h.2.1, h.2.2.1, fun i hi => ⟨by rw [updA_ne (by omega)]; exact (h.2.2.2.1 i hi).1, (h.2.2.2.1 i hi).2.1, by rw [updA_ne (by omega)]; exact (h.2.2.2.1 i hi).2.2.1, (h.2.2.2.1 i hi).2.2.2⟩, fun f hf => ⟨by rw [updA_ne (by omega)]; exact (h.2.2.2.2 f hf).1, (h.2.2.2.2 f hf).2⟩⟩
theorem lkF_CVA {A0 : Nat → Nat → Int32} {nC nF nS st se : Nat} {cf cs ho : Nat → Nat} {mean : Int32} (h : CVA A0 nC nF nS cf cs ho) : ∀ n, CVA (lkF cf cs ho st se mean A0 n).1 nC nF nS cf cs ho
  | 0 => h
  | n + 1 => by
    rw [lkF]
    split
    · exact ((lkF_CVA h n).upd (by decide) (Or.inr (by omega))).upd (by decide) (Or.inl (by decide))
    · exact lkF_CVA h n
theorem dX10_coverOf_0 : decode cX10_coverOf 0 = .ok (.iconst (-1), 1) := by decide +kernel
theorem dX10_coverOf_1 : decode cX10_coverOf 1 = .ok (.istore_n 3, 1) := by decide +kernel
theorem dX10_coverOf_2 : decode cX10_coverOf 2 = .ok (.iconst 0, 1) := by decide +kernel
theorem dX10_coverOf_3 : decode cX10_coverOf 3 = .ok (.istore 4, 2) := by decide +kernel
theorem dX10_coverOf_5 : decode cX10_coverOf 5 = .ok (.iload 4, 2) := by decide +kernel
theorem dX10_coverOf_7 : decode cX10_coverOf 7 = .ok (.aload_n 0, 1) := by decide +kernel
theorem dX10_coverOf_8 : decode cX10_coverOf 8 = .ok (.getfield 156, 3) := by decide +kernel
theorem dX10_coverOf_11 : decode cX10_coverOf 11 = .ok (.if_icmp .ge 46, 3) := by decide +kernel
theorem dX10_coverOf_14 : decode cX10_coverOf 14 = .ok (.aload_n 0, 1) := by decide +kernel
theorem dX10_coverOf_15 : decode cX10_coverOf 15 = .ok (.getfield 63, 3) := by decide +kernel
theorem dX10_coverOf_18 : decode cX10_coverOf 18 = .ok (.bipush 10, 2) := by decide +kernel
theorem dX10_coverOf_20 : decode cX10_coverOf 20 = .ok (.iload 4, 2) := by decide +kernel
theorem dX10_coverOf_22 : decode cX10_coverOf 22 = .ok (.imul, 1) := by decide +kernel
theorem dX10_coverOf_23 : decode cX10_coverOf 23 = .ok (.iaload, 1) := by decide +kernel
theorem dX10_coverOf_24 : decode cX10_coverOf 24 = .ok (.iload_n 1, 1) := by decide +kernel
theorem dX10_coverOf_25 : decode cX10_coverOf 25 = .ok (.if_icmp .ne 24, 3) := by decide +kernel
theorem dX10_coverOf_28 : decode cX10_coverOf 28 = .ok (.aload_n 0, 1) := by decide +kernel
theorem dX10_coverOf_29 : decode cX10_coverOf 29 = .ok (.getfield 63, 3) := by decide +kernel
theorem dX10_coverOf_32 : decode cX10_coverOf 32 = .ok (.bipush 10, 2) := by decide +kernel
theorem dX10_coverOf_34 : decode cX10_coverOf 34 = .ok (.iload 4, 2) := by decide +kernel
theorem dX10_coverOf_36 : decode cX10_coverOf 36 = .ok (.imul, 1) := by decide +kernel
theorem dX10_coverOf_37 : decode cX10_coverOf 37 = .ok (.iconst 3, 1) := by decide +kernel
theorem dX10_coverOf_38 : decode cX10_coverOf 38 = .ok (.iadd, 1) := by decide +kernel
theorem dX10_coverOf_39 : decode cX10_coverOf 39 = .ok (.iaload, 1) := by decide +kernel
theorem dX10_coverOf_40 : decode cX10_coverOf 40 = .ok (.iload_n 2, 1) := by decide +kernel
theorem dX10_coverOf_41 : decode cX10_coverOf 41 = .ok (.if_icmp .ne 8, 3) := by decide +kernel
theorem dX10_coverOf_44 : decode cX10_coverOf 44 = .ok (.iload 4, 2) := by decide +kernel
theorem dX10_coverOf_46 : decode cX10_coverOf 46 = .ok (.goto 4, 3) := by decide +kernel
theorem dX10_coverOf_49 : decode cX10_coverOf 49 = .ok (.iload_n 3, 1) := by decide +kernel
theorem dX10_coverOf_50 : decode cX10_coverOf 50 = .ok (.istore_n 3, 1) := by decide +kernel
theorem dX10_coverOf_51 : decode cX10_coverOf 51 = .ok (.iinc 4 1, 3) := by decide +kernel
theorem dX10_coverOf_54 : decode cX10_coverOf 54 = .ok (.goto (-49), 3) := by decide +kernel
theorem dX10_coverOf_57 : decode cX10_coverOf 57 = .ok (.iload_n 3, 1) := by decide +kernel
theorem dX10_coverOf_58 : decode cX10_coverOf 58 = .ok (.ireturn, 1) := by decide +kernel
set_option maxHeartbeats 4000000 in
set_option maxRecDepth 100000 in
theorem m_coverOf (de : Nat) (w : Wd) (mo : Nat) (ad : Nat → Nat) (A : Nat → Nat → Int32) (F : Nat → Int32) (L : Int32) (g : Nat → Int32) (hm : RM w mo ad) (nC nF nS : Nat) (cf cs ho : Nat → Nat) (hC : CVA A nC nF nS cf cs ho) (hN : F 24 = nI nC) (fa se : Nat) (hfa : fa < 100000) (hse : se < 100000) : Ct yX10_coverOf cX10_coverOf 5 (some .int) 0 0 0 0 de [.ref mo, .int (nI fa), .int (nI se)] (M w mo ad A F L g) (fun r w' => r = some (.int (oI (lastO (qF cf cs fa se) nC))) ∧ (M w mo ad A F L g) = w') := by
  refine Ct.mk (by decide +kernel) [(0, .ref mo), (1, .int (nI fa)), (2, .int (nI se))] rfl (Nat.le_of_ble_eq_true rfl) ?_
  intro p l e R s m args below meth c D cy z C hnm
  obtain ⟨h60, h16, h5, hcv, hho⟩ := id hC
  have loop : ∀ (k i : Nat), i + k = nC → G p l e R s m args below meth c D cy z 5 (M w mo ad A F L g) 0 0 5 [(0, .ref mo), (1, .int (nI fa)), (2, .int (nI se)), (3, .int (oI (lastO (qF cf cs fa se) i))), (4, .int (nI i))] [] (QM below args s D cy z (fun r w' => r = some (.int (oI (lastO (qF cf cs fa se) nC))) ∧ (M w mo ad A F L g) = w') 0 0) := by
    intro k
    induction k with
    | zero =>
      intro i hik
      refine g_iload C dX10_coverOf_5 rfl ?_
      refine g_aload_n C dX10_coverOf_7 rfl ?_
      refine g_getI C cls_11 12 24 hm.1 rfl k_939 dX10_coverOf_8 ?_
      rw [M_f24]
      rw [hN]
      refine g_icmp_ge C 57 dX10_coverOf_11 (by decide) (fun c_11 => ?_) (fun c_11 => ?_)
      · refine g_iload_n C dX10_coverOf_57 rfl ?_
        refine g_iret C rfl rfl (by decide) (by decide) dX10_coverOf_58 ?_
        exact ⟨by rw [show i = nC by omega], rfl⟩
      · exact absurd (nI_nle_of c_11 (by omega) (by omega)) (by omega)
    | succ k ih =>
      intro i hik
      have hi : i < nC := by omega
      refine g_iload C dX10_coverOf_5 rfl ?_
      refine g_aload_n C dX10_coverOf_7 rfl ?_
      refine g_getI C cls_11 12 24 hm.1 rfl k_939 dX10_coverOf_8 ?_
      rw [M_f24]
      rw [hN]
      refine g_icmp_ge C 57 dX10_coverOf_11 (by decide) (fun c_11 => ?_) (fun c_11 => ?_)
      · exact absurd (nI_le_of c_11 (by omega) (by omega)) (by omega)
      · refine g_cutS (pc' := 50) (.int (oI (lastO (qF cf cs fa se) (i + 1)))) ?_ (fun j_50 => ?_)
        · refine g_istore_n C dX10_coverOf_50 (by decide) ?_
          refine g_iinc C dX10_coverOf_51 rfl (nI_1 i) (by decide) ?_
          refine g_goto C 5 dX10_coverOf_54 (by decide) ?_
          have h9 := ih (i + 1) (by omega)
          exact g_lv2 [(0, .ref mo), (1, .int (nI fa)), (2, .int (nI se)), (3, .int (oI (lastO (qF cf cs fa se) (i + 1)))), (4, .int (nI (i + 1)))] rfl h9
        · refine g_aload_n C dX10_coverOf_14 rfl ?_
          refine g_getR (b := (ad 23)) C cls_11 12 23 hm.1 (rm_23 hm).1 rfl k_938 dX10_coverOf_15 ?_
          refine g_bipush C 10 dX10_coverOf_18 (by rfl) ?_
          refine g_iload C dX10_coverOf_20 rfl ?_
          refine g_imul C dX10_coverOf_22 ?_
          rw [show (10 : Int32) * nI i = nI (10 * i) from pk_mul 10 i]
          refine g_iald C 2230 (rm_23 hm).2.1 rfl (show vp_in (nI (10 * i)) (aL w (ad 23)) by rw [(rm_23 hm).2.2]; exact nI_vp (show 10 * i < 600 by omega) (by omega)) dX10_coverOf_23 ?_
          rw [M_a23, nI_tn (show 10 * i ≤ 100000 by omega)]
          rw [(hcv i hi).1]
          refine g_iload_n C dX10_coverOf_24 rfl ?_
          refine g_icmp_ne C 49 dX10_coverOf_25 (by decide) (fun c_25 => ?_) (fun c_25 => ?_)
          · refine g_iload_n C dX10_coverOf_49 rfl ?_
            exact g_eq rfl (congrArg (fun v => Value.int v :: _) (by first | exact lastO_t (qF_t c_25 c_41 (by have := hcv i hi; omega) (by omega) (by have := hcv i hi; omega) (by omega)) | exact lastO_f (qF_f1 c_25) | exact lastO_f (qF_f2 c_41))) rfl j_50
          · refine g_aload_n C dX10_coverOf_28 rfl ?_
            refine g_getR (b := (ad 23)) C cls_11 12 23 hm.1 (rm_23 hm).1 rfl k_938 dX10_coverOf_29 ?_
            refine g_bipush C 10 dX10_coverOf_32 (by rfl) ?_
            refine g_iload C dX10_coverOf_34 rfl ?_
            refine g_imul C dX10_coverOf_36 ?_
            refine g_iconst C 3 dX10_coverOf_37 (by rfl) ?_
            refine g_iadd C dX10_coverOf_38 ?_
            rw [show (10 : Int32) * nI i + 3 = nI (10 * i + 3) from ixm 10 i 3]
            refine g_iald C 2230 (rm_23 hm).2.1 rfl (show vp_in (nI (10 * i + 3)) (aL w (ad 23)) by rw [(rm_23 hm).2.2]; exact nI_vp (show 10 * i + 3 < 600 by omega) (by omega)) dX10_coverOf_39 ?_
            rw [M_a23, nI_tn (show 10 * i + 3 ≤ 100000 by omega)]
            rw [(hcv i hi).2.2.1]
            refine g_iload_n C dX10_coverOf_40 rfl ?_
            refine g_icmp_ne C 49 dX10_coverOf_41 (by decide) (fun c_41 => ?_) (fun c_41 => ?_)
            · refine g_iload_n C dX10_coverOf_49 rfl ?_
              exact g_eq rfl (congrArg (fun v => Value.int v :: _) (by first | exact lastO_t (qF_t c_25 c_41 (by have := hcv i hi; omega) (by omega) (by have := hcv i hi; omega) (by omega)) | exact lastO_f (qF_f1 c_25) | exact lastO_f (qF_f2 c_41))) rfl j_50
            · refine g_iload C dX10_coverOf_44 rfl ?_
              refine g_goto C 50 dX10_coverOf_46 (by decide) ?_
              exact g_eq rfl (congrArg (fun v => Value.int v :: _) (by first | exact lastO_t (qF_t c_25 c_41 (by have := hcv i hi; omega) (by omega) (by have := hcv i hi; omega) (by omega)) | exact lastO_f (qF_f1 c_25) | exact lastO_f (qF_f2 c_41))) rfl j_50
  refine g_iconst C (-1) dX10_coverOf_0 (by rfl) ?_
  refine g_istore_n C dX10_coverOf_1 (by decide) ?_
  refine g_iconst C 0 dX10_coverOf_2 (by rfl) ?_
  refine g_istore C dX10_coverOf_3 (by decide) ?_
  exact g_lv2 [(0, .ref mo), (1, .int (nI fa)), (2, .int (nI se)), (3, .int (oI (lastO (qF cf cs fa se) 0))), (4, .int (nI 0))] rfl (loop nC 0 (by omega))
theorem dX10_trusts_0 : decode cX10_trusts 0 = .ok (.aload_n 0, 1) := by decide +kernel
theorem dX10_trusts_1 : decode cX10_trusts 1 = .ok (.getfield 46, 3) := by decide +kernel
theorem dX10_trusts_4 : decode cX10_trusts 4 = .ok (.bipush 20, 2) := by decide +kernel
theorem dX10_trusts_6 : decode cX10_trusts 6 = .ok (.iload_n 1, 1) := by decide +kernel
theorem dX10_trusts_7 : decode cX10_trusts 7 = .ok (.imul, 1) := by decide +kernel
theorem dX10_trusts_8 : decode cX10_trusts 8 = .ok (.iload_n 2, 1) := by decide +kernel
theorem dX10_trusts_9 : decode cX10_trusts 9 = .ok (.iadd, 1) := by decide +kernel
theorem dX10_trusts_10 : decode cX10_trusts 10 = .ok (.iaload, 1) := by decide +kernel
theorem dX10_trusts_11 : decode cX10_trusts 11 = .ok (.iconst 1, 1) := by decide +kernel
theorem dX10_trusts_12 : decode cX10_trusts 12 = .ok (.isub, 1) := by decide +kernel
theorem dX10_trusts_13 : decode cX10_trusts 13 = .ok (.istore 4, 2) := by decide +kernel
theorem dX10_trusts_15 : decode cX10_trusts 15 = .ok (.aload_n 0, 1) := by decide +kernel
theorem dX10_trusts_16 : decode cX10_trusts 16 = .ok (.getfield 34, 3) := by decide +kernel
theorem dX10_trusts_19 : decode cX10_trusts 19 = .ok (.iload_n 1, 1) := by decide +kernel
theorem dX10_trusts_20 : decode cX10_trusts 20 = .ok (.iaload, 1) := by decide +kernel
theorem dX10_trusts_21 : decode cX10_trusts 21 = .ok (.iload_n 3, 1) := by decide +kernel
theorem dX10_trusts_22 : decode cX10_trusts 22 = .ok (.ifCond .le 8, 3) := by decide +kernel
theorem dX10_trusts_25 : decode cX10_trusts 25 = .ok (.bipush 10, 2) := by decide +kernel
theorem dX10_trusts_27 : decode cX10_trusts 27 = .ok (.goto 16, 3) := by decide +kernel
theorem dX10_trusts_30 : decode cX10_trusts 30 = .ok (.iload 4, 2) := by decide +kernel
theorem dX10_trusts_32 : decode cX10_trusts 32 = .ok (.bipush 30, 2) := by decide +kernel
theorem dX10_trusts_34 : decode cX10_trusts 34 = .ok (.if_icmp .le 8, 3) := by decide +kernel
theorem dX10_trusts_37 : decode cX10_trusts 37 = .ok (.bipush (-20), 2) := by decide +kernel
theorem dX10_trusts_39 : decode cX10_trusts 39 = .ok (.goto 4, 3) := by decide +kernel
theorem dX10_trusts_42 : decode cX10_trusts 42 = .ok (.iconst 0, 1) := by decide +kernel
theorem dX10_trusts_43 : decode cX10_trusts 43 = .ok (.iadd, 1) := by decide +kernel
theorem dX10_trusts_44 : decode cX10_trusts 44 = .ok (.istore 5, 2) := by decide +kernel
theorem dX10_trusts_46 : decode cX10_trusts 46 = .ok (.aload_n 0, 1) := by decide +kernel
theorem dX10_trusts_47 : decode cX10_trusts 47 = .ok (.getfield 34, 3) := by decide +kernel
theorem dX10_trusts_50 : decode cX10_trusts 50 = .ok (.iload_n 1, 1) := by decide +kernel
theorem dX10_trusts_51 : decode cX10_trusts 51 = .ok (.iload 5, 2) := by decide +kernel
theorem dX10_trusts_53 : decode cX10_trusts 53 = .ok (.ifCond .ge 7, 3) := by decide +kernel
theorem dX10_trusts_56 : decode cX10_trusts 56 = .ok (.iconst 0, 1) := by decide +kernel
theorem dX10_trusts_57 : decode cX10_trusts 57 = .ok (.goto 17, 3) := by decide +kernel
theorem dX10_trusts_60 : decode cX10_trusts 60 = .ok (.iload 5, 2) := by decide +kernel
theorem dX10_trusts_62 : decode cX10_trusts 62 = .ok (.bipush 100, 2) := by decide +kernel
theorem dX10_trusts_64 : decode cX10_trusts 64 = .ok (.if_icmp .le 8, 3) := by decide +kernel
theorem dX10_trusts_67 : decode cX10_trusts 67 = .ok (.bipush 100, 2) := by decide +kernel
theorem dX10_trusts_69 : decode cX10_trusts 69 = .ok (.goto 5, 3) := by decide +kernel
theorem dX10_trusts_72 : decode cX10_trusts 72 = .ok (.iload 5, 2) := by decide +kernel
theorem dX10_trusts_74 : decode cX10_trusts 74 = .ok (.iastore, 1) := by decide +kernel
theorem dX10_trusts_75 : decode cX10_trusts 75 = .ok (.return_, 1) := by decide +kernel
set_option maxHeartbeats 4000000 in
set_option maxRecDepth 100000 in
theorem m_trusts (de : Nat) (w : Wd) (mo : Nat) (ad : Nat → Nat) (A : Nat → Nat → Int32) (F : Nat → Int32) (L : Int32) (g : Nat → Int32) (hm : RM w mo ad) (fa se : Nat) (paid : Int32) (hfa : fa < 16) (hse : se < 20) : Ct yX10_trusts cX10_trusts 6 none 0 0 0 0 de [.ref mo, .int (nI fa), .int (nI se), .int paid] (M w mo ad A F L g) (fun r w' => r = none ∧ M w mo ad (updA A 13 fa (truV (A 13 fa) (A 18 (20 * fa + se)) paid)) F L g = w') := by
  refine Ct.mk (by decide +kernel) [(0, .ref mo), (1, .int (nI fa)), (2, .int (nI se)), (3, .int paid)] rfl (Nat.le_of_ble_eq_true rfl) ?_
  intro p l e R s m args below meth c D cy z C hnm
  refine g_aload_n C dX10_trusts_0 rfl ?_
  refine g_getR (b := (ad 18)) C cls_11 12 18 hm.1 (rm_18 hm).1 rfl k_933 dX10_trusts_1 ?_
  refine g_bipush C 20 dX10_trusts_4 (by rfl) ?_
  refine g_iload_n C dX10_trusts_6 rfl ?_
  refine g_imul C dX10_trusts_7 ?_
  refine g_iload_n C dX10_trusts_8 rfl ?_
  refine g_iadd C dX10_trusts_9 ?_
  rw [show (20 : Int32) * nI fa + nI se = nI (20 * fa + se) from ixm 20 fa se]
  refine g_iald C 2180 (rm_18 hm).2.1 rfl (show vp_in (nI (20 * fa + se)) (aL w (ad 18)) by rw [(rm_18 hm).2.2]; exact nI_vp (show 20 * fa + se < 320 by omega) (by omega)) dX10_trusts_10 ?_
  rw [M_a18, nI_tn (show 20 * fa + se ≤ 100000 by omega)]
  refine g_iconst C 1 dX10_trusts_11 (by rfl) ?_
  refine g_isub C dX10_trusts_12 ?_
  refine g_istore C dX10_trusts_13 (by decide) ?_
  refine g_aload_n C dX10_trusts_15 rfl ?_
  refine g_getR (b := (ad 13)) C cls_11 12 13 hm.1 (rm_13 hm).1 rfl k_928 dX10_trusts_16 ?_
  refine g_iload_n C dX10_trusts_19 rfl ?_
  refine g_iald C 2130 (rm_13 hm).2.1 rfl (show vp_in (nI (fa)) (aL w (ad 13)) by rw [(rm_13 hm).2.2]; exact nI_vp (show fa < 16 by omega) (by omega)) dX10_trusts_20 ?_
  rw [M_a13, nI_tn (show fa ≤ 100000 by omega)]
  refine g_cutS (pc' := 43) (.int (if 0 < paid then 10 else if 30 < A 18 (20 * fa + se) - 1 then -20 else 0)) ?_ (fun j_43 => ?_)
  · refine g_iadd C dX10_trusts_43 ?_
    refine g_istore C dX10_trusts_44 (by decide) ?_
    refine g_aload_n C dX10_trusts_46 rfl ?_
    refine g_getR (b := (ad 13)) C cls_11 12 13 hm.1 (rm_13 hm).1 rfl k_928 dX10_trusts_47 ?_
    refine g_iload_n C dX10_trusts_50 rfl ?_
    refine g_cutS (pc' := 74) (.int (truV (A 13 fa) (A 18 (20 * fa + se)) paid)) ?_ (fun j_74 => ?_)
    · refine g_iast C 2130 (rm_13 hm).2.1 rfl (show vp_in (nI (fa)) (aL w (ad 13)) by rw [(rm_13 hm).2.2]; exact nI_vp (show fa < 16 by omega) (by omega)) dX10_trusts_74 ?_
      rw [nI_tn (show fa ≤ 100000 by omega), M_p13]
      refine g_vret C rfl (by decide) (by decide) dX10_trusts_75 ?_
      exact ⟨rfl, rfl⟩
    · refine g_iload C dX10_trusts_51 rfl ?_
      refine g_if_ge C 60 dX10_trusts_53 (by decide) (fun c_53 => ?_) (fun c_53 => ?_)
      · refine g_iload C dX10_trusts_60 rfl ?_
        refine g_bipush C 100 dX10_trusts_62 (by rfl) ?_
        refine g_icmp_le C 72 dX10_trusts_64 (by decide) (fun c_64 => ?_) (fun c_64 => ?_)
        · refine g_iload C dX10_trusts_72 rfl ?_
          exact g_eq rfl (congrArg (fun v => Value.int v :: _) (by unfold truV; first | rw [if_pos (Int32.not_le.mp c_53)] | rw [if_neg (Int32.not_lt.mpr c_53), if_pos (Int32.not_le.mp c_64)] | rw [if_neg (Int32.not_lt.mpr c_53), if_neg (Int32.not_lt.mpr c_64)])) rfl j_74
        · refine g_bipush C 100 dX10_trusts_67 (by rfl) ?_
          refine g_goto C 74 dX10_trusts_69 (by decide) ?_
          exact g_eq rfl (congrArg (fun v => Value.int v :: _) (by unfold truV; first | rw [if_pos (Int32.not_le.mp c_53)] | rw [if_neg (Int32.not_lt.mpr c_53), if_pos (Int32.not_le.mp c_64)] | rw [if_neg (Int32.not_lt.mpr c_53), if_neg (Int32.not_lt.mpr c_64)])) rfl j_74
      · refine g_iconst C 0 dX10_trusts_56 (by rfl) ?_
        refine g_goto C 74 dX10_trusts_57 (by decide) ?_
        exact g_eq rfl (congrArg (fun v => Value.int v :: _) (by unfold truV; first | rw [if_pos (Int32.not_le.mp c_53)] | rw [if_neg (Int32.not_lt.mpr c_53), if_pos (Int32.not_le.mp c_64)] | rw [if_neg (Int32.not_lt.mpr c_53), if_neg (Int32.not_lt.mpr c_64)])) rfl j_74
  · refine g_iload_n C dX10_trusts_21 rfl ?_
    refine g_if_le C 30 dX10_trusts_22 (by decide) (fun c_22 => ?_) (fun c_22 => ?_)
    · refine g_iload C dX10_trusts_30 rfl ?_
      refine g_bipush C 30 dX10_trusts_32 (by rfl) ?_
      refine g_icmp_le C 42 dX10_trusts_34 (by decide) (fun c_34 => ?_) (fun c_34 => ?_)
      · refine g_iconst C 0 dX10_trusts_42 (by rfl) ?_
        exact g_eq rfl (congrArg (fun v => Value.int v :: _) (by first | (rw [if_pos c_22]; done) | (rw [if_pos c_22]) | rw [if_neg (Int32.not_lt.mpr c_22), if_pos c_34] | rw [if_neg (Int32.not_lt.mpr c_22), if_neg (Int32.not_lt.mpr c_34)] | rw [if_pos (Int32.not_le.mp c_22)] | rw [if_neg (Int32.not_lt.mpr c_22), if_pos (Int32.not_le.mp c_34)])) rfl j_43
      · refine g_bipush C (-20) dX10_trusts_37 (by rfl) ?_
        refine g_goto C 43 dX10_trusts_39 (by decide) ?_
        exact g_eq rfl (congrArg (fun v => Value.int v :: _) (by first | (rw [if_pos c_22]; done) | (rw [if_pos c_22]) | rw [if_neg (Int32.not_lt.mpr c_22), if_pos c_34] | rw [if_neg (Int32.not_lt.mpr c_22), if_neg (Int32.not_lt.mpr c_34)] | rw [if_pos (Int32.not_le.mp c_22)] | rw [if_neg (Int32.not_lt.mpr c_22), if_pos (Int32.not_le.mp c_34)])) rfl j_43
    · refine g_bipush C 10 dX10_trusts_25 (by rfl) ?_
      refine g_goto C 43 dX10_trusts_27 (by decide) ?_
      exact g_eq rfl (congrArg (fun v => Value.int v :: _) (by first | (rw [if_pos c_22]; done) | (rw [if_pos c_22]) | rw [if_neg (Int32.not_lt.mpr c_22), if_pos c_34] | rw [if_neg (Int32.not_lt.mpr c_22), if_neg (Int32.not_lt.mpr c_34)] | rw [if_pos (Int32.not_le.mp c_22)] | rw [if_neg (Int32.not_lt.mpr c_22), if_pos (Int32.not_le.mp c_34)])) rfl j_43
theorem dX10_isOf_0 : decode cX10_isOf 0 = .ok (.aload_n 0, 1) := by decide +kernel
theorem dX10_isOf_1 : decode cX10_isOf 1 = .ok (.getfield 63, 3) := by decide +kernel
theorem dX10_isOf_4 : decode cX10_isOf 4 = .ok (.bipush 10, 2) := by decide +kernel
theorem dX10_isOf_6 : decode cX10_isOf 6 = .ok (.iload_n 1, 1) := by decide +kernel
theorem dX10_isOf_7 : decode cX10_isOf 7 = .ok (.imul, 1) := by decide +kernel
theorem dX10_isOf_8 : decode cX10_isOf 8 = .ok (.iconst 3, 1) := by decide +kernel
theorem dX10_isOf_9 : decode cX10_isOf 9 = .ok (.iadd, 1) := by decide +kernel
theorem dX10_isOf_10 : decode cX10_isOf 10 = .ok (.iaload, 1) := by decide +kernel
theorem dX10_isOf_11 : decode cX10_isOf 11 = .ok (.iload_n 2, 1) := by decide +kernel
theorem dX10_isOf_12 : decode cX10_isOf 12 = .ok (.if_icmp .ne 25, 3) := by decide +kernel
theorem dX10_isOf_15 : decode cX10_isOf 15 = .ok (.aload_n 0, 1) := by decide +kernel
theorem dX10_isOf_16 : decode cX10_isOf 16 = .ok (.getfield 31, 3) := by decide +kernel
theorem dX10_isOf_19 : decode cX10_isOf 19 = .ok (.aload_n 0, 1) := by decide +kernel
theorem dX10_isOf_20 : decode cX10_isOf 20 = .ok (.getfield 63, 3) := by decide +kernel
theorem dX10_isOf_23 : decode cX10_isOf 23 = .ok (.bipush 10, 2) := by decide +kernel
theorem dX10_isOf_25 : decode cX10_isOf 25 = .ok (.iload_n 1, 1) := by decide +kernel
theorem dX10_isOf_26 : decode cX10_isOf 26 = .ok (.imul, 1) := by decide +kernel
theorem dX10_isOf_27 : decode cX10_isOf 27 = .ok (.iaload, 1) := by decide +kernel
theorem dX10_isOf_28 : decode cX10_isOf 28 = .ok (.iaload, 1) := by decide +kernel
theorem dX10_isOf_29 : decode cX10_isOf 29 = .ok (.iload_n 3, 1) := by decide +kernel
theorem dX10_isOf_30 : decode cX10_isOf 30 = .ok (.if_icmp .ne 7, 3) := by decide +kernel
theorem dX10_isOf_33 : decode cX10_isOf 33 = .ok (.iconst 1, 1) := by decide +kernel
theorem dX10_isOf_34 : decode cX10_isOf 34 = .ok (.goto 4, 3) := by decide +kernel
theorem dX10_isOf_37 : decode cX10_isOf 37 = .ok (.iconst 0, 1) := by decide +kernel
theorem dX10_isOf_38 : decode cX10_isOf 38 = .ok (.ireturn, 1) := by decide +kernel
set_option maxHeartbeats 4000000 in
set_option maxRecDepth 100000 in
theorem m_isOf (de : Nat) (w : Wd) (mo : Nat) (ad : Nat → Nat) (A : Nat → Nat → Int32) (F : Nat → Int32) (L : Int32) (g : Nat → Int32) (hm : RM w mo ad) (nC nF nS : Nat) (cf cs ho : Nat → Nat) (hC : CVA A nC nF nS cf cs ho) (k se st : Nat) (hk : k < nC) (hse : se < 100000) (hst : st < 100000) : Ct yX10_isOf cX10_isOf 4 (some .boolean) 0 0 0 0 de [.ref mo, .int (nI k), .int (nI se), .int (nI st)] (M w mo ad A F L g) (fun r w' => r = some (.int (bI (qO cf cs ho st se k))) ∧ (M w mo ad A F L g) = w') := by
  refine Ct.mk (by decide +kernel) [(0, .ref mo), (1, .int (nI k)), (2, .int (nI se)), (3, .int (nI st))] rfl (Nat.le_of_ble_eq_true rfl) ?_
  intro p l e R s m args below meth c D cy z C hnm
  obtain ⟨h60, h16, h5, hcv, hho⟩ := id hC
  refine g_aload_n C dX10_isOf_0 rfl ?_
  refine g_getR (b := (ad 23)) C cls_11 12 23 hm.1 (rm_23 hm).1 rfl k_938 dX10_isOf_1 ?_
  refine g_bipush C 10 dX10_isOf_4 (by rfl) ?_
  refine g_iload_n C dX10_isOf_6 rfl ?_
  refine g_imul C dX10_isOf_7 ?_
  refine g_iconst C 3 dX10_isOf_8 (by rfl) ?_
  refine g_iadd C dX10_isOf_9 ?_
  rw [show (10 : Int32) * nI k + 3 = nI (10 * k + 3) from ixm 10 k 3]
  refine g_iald C 2230 (rm_23 hm).2.1 rfl (show vp_in (nI (10 * k + 3)) (aL w (ad 23)) by rw [(rm_23 hm).2.2]; exact nI_vp (show 10 * k + 3 < 600 by omega) (by omega)) dX10_isOf_10 ?_
  rw [M_a23, nI_tn (show 10 * k + 3 ≤ 100000 by omega)]
  rw [(hcv k hk).2.2.1]
  refine g_iload_n C dX10_isOf_11 rfl ?_
  refine g_icmp_ne C 37 dX10_isOf_12 (by decide) (fun c_12 => ?_) (fun c_12 => ?_)
  · refine g_iconst C 0 dX10_isOf_37 (by rfl) ?_
    refine g_iret C rfl rfl (by decide) (by decide) dX10_isOf_38 ?_
    exact ⟨congrArg (fun v => some (Value.int v)) (by have h8 := hcv k hk; have h9 := hho (cf k) h8.2.1; first | exact qO_t c_12 c_30 (by omega) (by omega) (by omega) (by omega) | exact qO_f1 c_12 | exact qO_f2 c_30), rfl⟩
  · refine g_aload_n C dX10_isOf_15 rfl ?_
    refine g_getR (b := (ad 12)) C cls_11 12 12 hm.1 (rm_12 hm).1 rfl k_927 dX10_isOf_16 ?_
    refine g_aload_n C dX10_isOf_19 rfl ?_
    refine g_getR (b := (ad 23)) C cls_11 12 23 hm.1 (rm_23 hm).1 rfl k_938 dX10_isOf_20 ?_
    refine g_bipush C 10 dX10_isOf_23 (by rfl) ?_
    refine g_iload_n C dX10_isOf_25 rfl ?_
    refine g_imul C dX10_isOf_26 ?_
    rw [show (10 : Int32) * nI k = nI (10 * k) from pk_mul 10 k]
    refine g_iald C 2230 (rm_23 hm).2.1 rfl (show vp_in (nI (10 * k)) (aL w (ad 23)) by rw [(rm_23 hm).2.2]; exact nI_vp (show 10 * k < 600 by omega) (by omega)) dX10_isOf_27 ?_
    rw [M_a23, nI_tn (show 10 * k ≤ 100000 by omega)]
    rw [(hcv k hk).1]
    have hcf := (hcv k hk).2.1
    refine g_iald C 2120 (rm_12 hm).2.1 rfl (show vp_in (nI (cf k)) (aL w (ad 12)) by rw [(rm_12 hm).2.2]; exact nI_vp (show cf k < 16 by omega) (by omega)) dX10_isOf_28 ?_
    rw [M_a12, nI_tn (show cf k ≤ 100000 by omega)]
    rw [(hho (cf k) hcf).1]
    refine g_iload_n C dX10_isOf_29 rfl ?_
    refine g_icmp_ne C 37 dX10_isOf_30 (by decide) (fun c_30 => ?_) (fun c_30 => ?_)
    · refine g_iconst C 0 dX10_isOf_37 (by rfl) ?_
      refine g_iret C rfl rfl (by decide) (by decide) dX10_isOf_38 ?_
      exact ⟨congrArg (fun v => some (Value.int v)) (by have h8 := hcv k hk; have h9 := hho (cf k) h8.2.1; first | exact qO_t c_12 c_30 (by omega) (by omega) (by omega) (by omega) | exact qO_f1 c_12 | exact qO_f2 c_30), rfl⟩
    · refine g_iconst C 1 dX10_isOf_33 (by rfl) ?_
      refine g_goto C 38 dX10_isOf_34 (by decide) ?_
      refine g_iret C rfl rfl (by decide) (by decide) dX10_isOf_38 ?_
      exact ⟨congrArg (fun v => some (Value.int v)) (by have h8 := hcv k hk; have h9 := hho (cf k) h8.2.1; first | exact qO_t c_12 c_30 (by omega) (by omega) (by omega) (by omega) | exact qO_f1 c_12 | exact qO_f2 c_30), rfl⟩
theorem dX10_sumOf_0 : decode cX10_sumOf 0 = .ok (.iconst 0, 1) := by decide +kernel
theorem dX10_sumOf_1 : decode cX10_sumOf 1 = .ok (.istore_n 2, 1) := by decide +kernel
theorem dX10_sumOf_2 : decode cX10_sumOf 2 = .ok (.iconst 0, 1) := by decide +kernel
theorem dX10_sumOf_3 : decode cX10_sumOf 3 = .ok (.istore_n 3, 1) := by decide +kernel
theorem dX10_sumOf_4 : decode cX10_sumOf 4 = .ok (.iload_n 3, 1) := by decide +kernel
theorem dX10_sumOf_5 : decode cX10_sumOf 5 = .ok (.aload_n 0, 1) := by decide +kernel
theorem dX10_sumOf_6 : decode cX10_sumOf 6 = .ok (.getfield 156, 3) := by decide +kernel
theorem dX10_sumOf_9 : decode cX10_sumOf 9 = .ok (.if_icmp .ge 23, 3) := by decide +kernel
theorem dX10_sumOf_12 : decode cX10_sumOf 12 = .ok (.iload_n 2, 1) := by decide +kernel
theorem dX10_sumOf_13 : decode cX10_sumOf 13 = .ok (.aload_n 0, 1) := by decide +kernel
theorem dX10_sumOf_14 : decode cX10_sumOf 14 = .ok (.getfield 63, 3) := by decide +kernel
theorem dX10_sumOf_17 : decode cX10_sumOf 17 = .ok (.bipush 10, 2) := by decide +kernel
theorem dX10_sumOf_19 : decode cX10_sumOf 19 = .ok (.iload_n 3, 1) := by decide +kernel
theorem dX10_sumOf_20 : decode cX10_sumOf 20 = .ok (.imul, 1) := by decide +kernel
theorem dX10_sumOf_21 : decode cX10_sumOf 21 = .ok (.iload_n 1, 1) := by decide +kernel
theorem dX10_sumOf_22 : decode cX10_sumOf 22 = .ok (.iadd, 1) := by decide +kernel
theorem dX10_sumOf_23 : decode cX10_sumOf 23 = .ok (.iaload, 1) := by decide +kernel
theorem dX10_sumOf_24 : decode cX10_sumOf 24 = .ok (.iadd, 1) := by decide +kernel
theorem dX10_sumOf_25 : decode cX10_sumOf 25 = .ok (.istore_n 2, 1) := by decide +kernel
theorem dX10_sumOf_26 : decode cX10_sumOf 26 = .ok (.iinc 3 1, 3) := by decide +kernel
theorem dX10_sumOf_29 : decode cX10_sumOf 29 = .ok (.goto (-25), 3) := by decide +kernel
theorem dX10_sumOf_32 : decode cX10_sumOf 32 = .ok (.iload_n 2, 1) := by decide +kernel
theorem dX10_sumOf_33 : decode cX10_sumOf 33 = .ok (.ireturn, 1) := by decide +kernel
set_option maxHeartbeats 4000000 in
set_option maxRecDepth 100000 in
theorem m_sumOf (de : Nat) (w : Wd) (mo : Nat) (ad : Nat → Nat) (A : Nat → Nat → Int32) (F : Nat → Int32) (L : Int32) (g : Nat → Int32) (hm : RM w mo ad) (nC : Nat) (hN : F 24 = nI nC) (h60 : nC ≤ 60) (q : Nat) (hq : q < 10) : Ct yX10_sumOf cX10_sumOf 4 (some .int) 0 0 0 0 de [.ref mo, .int (nI q)] (M w mo ad A F L g) (fun r w' => r = some (.int (sumS (fun k => A 23 (10 * k + q)) nC)) ∧ (M w mo ad A F L g) = w') := by
  refine Ct.mk (by decide +kernel) [(0, .ref mo), (1, .int (nI q))] rfl (Nat.le_of_ble_eq_true rfl) ?_
  intro p l e R s m args below meth c D cy z C hnm
  have loop : ∀ (k i : Nat), i + k = nC → G p l e R s m args below meth c D cy z 4 (M w mo ad A F L g) 0 0 4 [(0, .ref mo), (1, .int (nI q)), (2, .int (sumS (fun k => A 23 (10 * k + q)) i)), (3, .int (nI i))] [] (QM below args s D cy z (fun r w' => r = some (.int (sumS (fun k => A 23 (10 * k + q)) nC)) ∧ (M w mo ad A F L g) = w') 0 0) := by
    intro k
    induction k with
    | zero =>
      intro i hik
      refine g_iload_n C dX10_sumOf_4 rfl ?_
      refine g_aload_n C dX10_sumOf_5 rfl ?_
      refine g_getI C cls_11 12 24 hm.1 rfl k_939 dX10_sumOf_6 ?_
      rw [M_f24]
      rw [hN]
      refine g_icmp_ge C 32 dX10_sumOf_9 (by decide) (fun c_9 => ?_) (fun c_9 => ?_)
      · refine g_iload_n C dX10_sumOf_32 rfl ?_
        refine g_iret C rfl rfl (by decide) (by decide) dX10_sumOf_33 ?_
        exact ⟨by rw [show i = nC by omega], rfl⟩
      · exact absurd (nI_nle_of c_9 (by omega) (by omega)) (by omega)
    | succ k ih =>
      intro i hik
      have hi : i < nC := by omega
      refine g_iload_n C dX10_sumOf_4 rfl ?_
      refine g_aload_n C dX10_sumOf_5 rfl ?_
      refine g_getI C cls_11 12 24 hm.1 rfl k_939 dX10_sumOf_6 ?_
      rw [M_f24]
      rw [hN]
      refine g_icmp_ge C 32 dX10_sumOf_9 (by decide) (fun c_9 => ?_) (fun c_9 => ?_)
      · exact absurd (nI_le_of c_9 (by omega) (by omega)) (by omega)
      · refine g_iload_n C dX10_sumOf_12 rfl ?_
        refine g_aload_n C dX10_sumOf_13 rfl ?_
        refine g_getR (b := (ad 23)) C cls_11 12 23 hm.1 (rm_23 hm).1 rfl k_938 dX10_sumOf_14 ?_
        refine g_bipush C 10 dX10_sumOf_17 (by rfl) ?_
        refine g_iload_n C dX10_sumOf_19 rfl ?_
        refine g_imul C dX10_sumOf_20 ?_
        refine g_iload_n C dX10_sumOf_21 rfl ?_
        refine g_iadd C dX10_sumOf_22 ?_
        rw [show (10 : Int32) * nI i + nI q = nI (10 * i + q) from ixm 10 i q]
        refine g_iald C 2230 (rm_23 hm).2.1 rfl (show vp_in (nI (10 * i + q)) (aL w (ad 23)) by rw [(rm_23 hm).2.2]; exact nI_vp (show 10 * i + q < 600 by omega) (by omega)) dX10_sumOf_23 ?_
        rw [M_a23, nI_tn (show 10 * i + q ≤ 100000 by omega)]
        refine g_iadd C dX10_sumOf_24 ?_
        refine g_istore_n C dX10_sumOf_25 (by decide) ?_
        refine g_iinc C dX10_sumOf_26 rfl (nI_1 i) (by decide) ?_
        refine g_goto C 4 dX10_sumOf_29 (by decide) ?_
        have h9 := ih (i + 1) (by omega)
        exact g_lv2 [(0, .ref mo), (1, .int (nI q)), (2, .int (sumS (fun k => A 23 (10 * k + q)) (i + 1))), (3, .int (nI (i + 1)))] rfl h9
  refine g_iconst C 0 dX10_sumOf_0 (by rfl) ?_
  refine g_istore_n C dX10_sumOf_1 (by decide) ?_
  refine g_iconst C 0 dX10_sumOf_2 (by rfl) ?_
  refine g_istore_n C dX10_sumOf_3 (by decide) ?_
  exact g_lv2 [(0, .ref mo), (1, .int (nI q)), (2, .int (sumS (fun k => A 23 (10 * k + q)) 0)), (3, .int (nI 0))] rfl (loop nC 0 (by omega))
end REF19
end
