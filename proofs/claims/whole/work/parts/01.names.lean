-- ===== PART A: goes FIRST, ahead of the names: the tables' words, and 'selects' of the private methods out of them =====
/-- a private method of a class that the tables say can be made, by its rows of tables_1 -/
def lw_okq (q : MethodName × Nat) : Prop := (q.1.cls ≠ "java/lang/invoke/MethodHandle" ∧ q.1.cls ≠ "java/lang/invoke/VarHandle") ∧ Cond.instantiable q.1.cls q.2 ∈ tables_1 ∧ Cond.privateMethod q.1 ∈ tables_1 ∧ Cond.instanceMethod q.1 ∈ tables_1
theorem lw_p0 : lw_okq (⟨"SleepersShop$Reader", "readItem", "()Z"⟩, 4) := ⟨⟨by decide +kernel, by decide +kernel⟩, List.mem_of_getElem? (i := 128) (by decide +kernel), List.mem_of_getElem? (i := 354) (by decide +kernel), List.mem_of_getElem? (i := 355) (by decide +kernel)⟩
theorem lw_p1 : lw_okq (⟨"SleepersShop$Reader", "readNumbers", "(I)Z"⟩, 4) := ⟨⟨by decide +kernel, by decide +kernel⟩, List.mem_of_getElem? (i := 128) (by decide +kernel), List.mem_of_getElem? (i := 362) (by decide +kernel), List.mem_of_getElem? (i := 363) (by decide +kernel)⟩
theorem lw_p2 : lw_okq (⟨"SleepersShop$Reader", "readNumber", "()I"⟩, 4) := ⟨⟨by decide +kernel, by decide +kernel⟩, List.mem_of_getElem? (i := 128) (by decide +kernel), List.mem_of_getElem? (i := 366) (by decide +kernel), List.mem_of_getElem? (i := 367) (by decide +kernel)⟩
theorem lw_p3 : lw_okq (⟨"SleepersShop$Reader", "figure", "()I"⟩, 4) := ⟨⟨by decide +kernel, by decide +kernel⟩, List.mem_of_getElem? (i := 128) (by decide +kernel), List.mem_of_getElem? (i := 370) (by decide +kernel), List.mem_of_getElem? (i := 371) (by decide +kernel)⟩
theorem lw_p4 : lw_okq (⟨"SleepersShop$Reader", "takeStaff", "()Z"⟩, 4) := ⟨⟨by decide +kernel, by decide +kernel⟩, List.mem_of_getElem? (i := 128) (by decide +kernel), List.mem_of_getElem? (i := 381) (by decide +kernel), List.mem_of_getElem? (i := 382) (by decide +kernel)⟩
theorem lw_p5 : lw_okq (⟨"SleepersShop$Reader", "takeQuarrel", "()Z"⟩, 4) := ⟨⟨by decide +kernel, by decide +kernel⟩, List.mem_of_getElem? (i := 128) (by decide +kernel), List.mem_of_getElem? (i := 398) (by decide +kernel), List.mem_of_getElem? (i := 399) (by decide +kernel)⟩
theorem lw_p6 : lw_okq (⟨"SleepersShop$Reader", "takeCustomer", "()Z"⟩, 4) := ⟨⟨by decide +kernel, by decide +kernel⟩, List.mem_of_getElem? (i := 128) (by decide +kernel), List.mem_of_getElem? (i := 414) (by decide +kernel), List.mem_of_getElem? (i := 415) (by decide +kernel)⟩
theorem lw_p7 : lw_okq (⟨"SleepersShop$Reader", "takeDog", "()Z"⟩, 4) := ⟨⟨by decide +kernel, by decide +kernel⟩, List.mem_of_getElem? (i := 128) (by decide +kernel), List.mem_of_getElem? (i := 418) (by decide +kernel), List.mem_of_getElem? (i := 419) (by decide +kernel)⟩
theorem lw_p8 : lw_okq (⟨"SleepersShop", "openDraft", "()V"⟩, 11) := ⟨⟨by decide +kernel, by decide +kernel⟩, List.mem_of_getElem? (i := 19) (by decide +kernel), List.mem_of_getElem? (i := 422) (by decide +kernel), List.mem_of_getElem? (i := 423) (by decide +kernel)⟩
theorem lw_p9 : lw_okq (⟨"SleepersShop", "isStaff", "(I)Z"⟩, 11) := ⟨⟨by decide +kernel, by decide +kernel⟩, List.mem_of_getElem? (i := 19) (by decide +kernel), List.mem_of_getElem? (i := 507) (by decide +kernel), List.mem_of_getElem? (i := 508) (by decide +kernel)⟩
theorem lw_p10 : lw_okq (⟨"SleepersShop", "walkersTonight", "()I"⟩, 11) := ⟨⟨by decide +kernel, by decide +kernel⟩, List.mem_of_getElem? (i := 19) (by decide +kernel), List.mem_of_getElem? (i := 512) (by decide +kernel), List.mem_of_getElem? (i := 513) (by decide +kernel)⟩
theorem lw_p11 : lw_okq (⟨"SleepersShop$Night", "isBarred", "(II)Z"⟩, 9) := ⟨⟨by decide +kernel, by decide +kernel⟩, List.mem_of_getElem? (i := 149) (by decide +kernel), List.mem_of_getElem? (i := 534) (by decide +kernel), List.mem_of_getElem? (i := 535) (by decide +kernel)⟩
theorem lw_p12 : lw_okq (⟨"SleepersShop", "isCustomer", "(I)Z"⟩, 11) := ⟨⟨by decide +kernel, by decide +kernel⟩, List.mem_of_getElem? (i := 19) (by decide +kernel), List.mem_of_getElem? (i := 546) (by decide +kernel), List.mem_of_getElem? (i := 547) (by decide +kernel)⟩
theorem lw_p13 : lw_okq (⟨"SleepersShop", "serverTonight", "(I)I"⟩, 11) := ⟨⟨by decide +kernel, by decide +kernel⟩, List.mem_of_getElem? (i := 19) (by decide +kernel), List.mem_of_getElem? (i := 554) (by decide +kernel), List.mem_of_getElem? (i := 555) (by decide +kernel)⟩
theorem lw_p14 : lw_okq (⟨"SleepersShop", "playTonight", "()V"⟩, 11) := ⟨⟨by decide +kernel, by decide +kernel⟩, List.mem_of_getElem? (i := 19) (by decide +kernel), List.mem_of_getElem? (i := 558) (by decide +kernel), List.mem_of_getElem? (i := 559) (by decide +kernel)⟩
theorem lw_p15 : lw_okq (⟨"SleepersShop$Night", "attend", "(I)V"⟩, 9) := ⟨⟨by decide +kernel, by decide +kernel⟩, List.mem_of_getElem? (i := 149) (by decide +kernel), List.mem_of_getElem? (i := 568) (by decide +kernel), List.mem_of_getElem? (i := 569) (by decide +kernel)⟩
def lw_privs_1 : List (MethodName × Nat) := [(⟨"SleepersShop$Reader", "readItem", "()Z"⟩, 4), (⟨"SleepersShop$Reader", "readNumbers", "(I)Z"⟩, 4), (⟨"SleepersShop$Reader", "readNumber", "()I"⟩, 4), (⟨"SleepersShop$Reader", "figure", "()I"⟩, 4), (⟨"SleepersShop$Reader", "takeStaff", "()Z"⟩, 4), (⟨"SleepersShop$Reader", "takeQuarrel", "()Z"⟩, 4), (⟨"SleepersShop$Reader", "takeCustomer", "()Z"⟩, 4), (⟨"SleepersShop$Reader", "takeDog", "()Z"⟩, 4), (⟨"SleepersShop", "openDraft", "()V"⟩, 11), (⟨"SleepersShop", "isStaff", "(I)Z"⟩, 11), (⟨"SleepersShop", "walkersTonight", "()I"⟩, 11), (⟨"SleepersShop$Night", "isBarred", "(II)Z"⟩, 9), (⟨"SleepersShop", "isCustomer", "(I)Z"⟩, 11), (⟨"SleepersShop", "serverTonight", "(I)I"⟩, 11), (⟨"SleepersShop", "playTonight", "()V"⟩, 11), (⟨"SleepersShop$Night", "attend", "(I)V"⟩, 9)]
theorem lw_r1 : ∀ q ∈ lw_privs_1, lw_okq q := List.forall_mem_cons.mpr ⟨lw_p0, List.forall_mem_cons.mpr ⟨lw_p1, List.forall_mem_cons.mpr ⟨lw_p2, List.forall_mem_cons.mpr ⟨lw_p3, List.forall_mem_cons.mpr ⟨lw_p4, List.forall_mem_cons.mpr ⟨lw_p5, List.forall_mem_cons.mpr ⟨lw_p6, List.forall_mem_cons.mpr ⟨lw_p7, List.forall_mem_cons.mpr ⟨lw_p8, List.forall_mem_cons.mpr ⟨lw_p9, List.forall_mem_cons.mpr ⟨lw_p10, List.forall_mem_cons.mpr ⟨lw_p11, List.forall_mem_cons.mpr ⟨lw_p12, List.forall_mem_cons.mpr ⟨lw_p13, List.forall_mem_cons.mpr ⟨lw_p14, List.forall_mem_cons.mpr ⟨lw_p15, fun _ h => absurd h List.not_mem_nil⟩⟩⟩⟩⟩⟩⟩⟩⟩⟩⟩⟩⟩⟩⟩⟩
theorem lw_p16 : lw_okq (⟨"SleepersShop$Night", "isReadyFor", "(II)Z"⟩, 9) := ⟨⟨by decide +kernel, by decide +kernel⟩, List.mem_of_getElem? (i := 149) (by decide +kernel), List.mem_of_getElem? (i := 572) (by decide +kernel), List.mem_of_getElem? (i := 573) (by decide +kernel)⟩
theorem lw_p17 : lw_okq (⟨"SleepersShop$Night", "sell", "(II)V"⟩, 9) := ⟨⟨by decide +kernel, by decide +kernel⟩, List.mem_of_getElem? (i := 149) (by decide +kernel), List.mem_of_getElem? (i := 583) (by decide +kernel), List.mem_of_getElem? (i := 584) (by decide +kernel)⟩
theorem lw_p18 : lw_okq (⟨"SleepersShop", "areTwoStaff", "(II)Z"⟩, 11) := ⟨⟨by decide +kernel, by decide +kernel⟩, List.mem_of_getElem? (i := 19) (by decide +kernel), List.mem_of_getElem? (i := 592) (by decide +kernel), List.mem_of_getElem? (i := 593) (by decide +kernel)⟩
theorem lw_p19 : lw_okq (⟨"SleepersShop$Shelf", "dropOldest", "()V"⟩, 2) := ⟨⟨by decide +kernel, by decide +kernel⟩, List.mem_of_getElem? (i := 235) (by decide +kernel), List.mem_of_getElem? (i := 609) (by decide +kernel), List.mem_of_getElem? (i := 610) (by decide +kernel)⟩
theorem lw_p20 : lw_okq (⟨"SleepersShop", "goBy", "(LSleepersShop$State;I)V"⟩, 11) := ⟨⟨by decide +kernel, by decide +kernel⟩, List.mem_of_getElem? (i := 19) (by decide +kernel), List.mem_of_getElem? (i := 618) (by decide +kernel), List.mem_of_getElem? (i := 619) (by decide +kernel)⟩
theorem lw_p21 : lw_okq (⟨"SleepersShop", "servedIfFed", "(I)I"⟩, 11) := ⟨⟨by decide +kernel, by decide +kernel⟩, List.mem_of_getElem? (i := 19) (by decide +kernel), List.mem_of_getElem? (i := 667) (by decide +kernel), List.mem_of_getElem? (i := 668) (by decide +kernel)⟩
theorem lw_p22 : lw_okq (⟨"SleepersShop", "servedIfMadeUp", "(II)I"⟩, 11) := ⟨⟨by decide +kernel, by decide +kernel⟩, List.mem_of_getElem? (i := 19) (by decide +kernel), List.mem_of_getElem? (i := 680) (by decide +kernel), List.mem_of_getElem? (i := 681) (by decide +kernel)⟩
theorem lw_p23 : lw_okq (⟨"SleepersShop", "isWithoutHam", "(II)Z"⟩, 11) := ⟨⟨by decide +kernel, by decide +kernel⟩, List.mem_of_getElem? (i := 19) (by decide +kernel), List.mem_of_getElem? (i := 728) (by decide +kernel), List.mem_of_getElem? (i := 729) (by decide +kernel)⟩
theorem lw_p24 : lw_okq (⟨"SleepersShopModel", "addOne", "(IIIII)V"⟩, 30) := ⟨⟨by decide +kernel, by decide +kernel⟩, List.mem_of_getElem? (i := 768) (by decide +kernel), List.mem_of_getElem? (i := 774) (by decide +kernel), List.mem_of_getElem? (i := 775) (by decide +kernel)⟩
theorem lw_p25 : lw_okq (⟨"SleepersShopModel", "addGuest", "(IIIII)V"⟩, 30) := ⟨⟨by decide +kernel, by decide +kernel⟩, List.mem_of_getElem? (i := 768) (by decide +kernel), List.mem_of_getElem? (i := 781) (by decide +kernel), List.mem_of_getElem? (i := 782) (by decide +kernel)⟩
theorem lw_p26 : lw_okq (⟨"SleepersShopModel", "isItem", "()Z"⟩, 30) := ⟨⟨by decide +kernel, by decide +kernel⟩, List.mem_of_getElem? (i := 768) (by decide +kernel), List.mem_of_getElem? (i := 891) (by decide +kernel), List.mem_of_getElem? (i := 892) (by decide +kernel)⟩
theorem lw_p27 : lw_okq (⟨"SleepersShopModel", "letterAt", "(I)I"⟩, 30) := ⟨⟨by decide +kernel, by decide +kernel⟩, List.mem_of_getElem? (i := 768) (by decide +kernel), List.mem_of_getElem? (i := 895) (by decide +kernel), List.mem_of_getElem? (i := 896) (by decide +kernel)⟩
theorem lw_p28 : lw_okq (⟨"SleepersShopModel", "least", "(II)I"⟩, 30) := ⟨⟨by decide +kernel, by decide +kernel⟩, List.mem_of_getElem? (i := 768) (by decide +kernel), List.mem_of_getElem? (i := 899) (by decide +kernel), List.mem_of_getElem? (i := 900) (by decide +kernel)⟩
theorem lw_p29 : lw_okq (⟨"SleepersShopModel", "most", "(II)I"⟩, 30) := ⟨⟨by decide +kernel, by decide +kernel⟩, List.mem_of_getElem? (i := 768) (by decide +kernel), List.mem_of_getElem? (i := 903) (by decide +kernel), List.mem_of_getElem? (i := 904) (by decide +kernel)⟩
theorem lw_p30 : lw_okq (⟨"SleepersShopModel", "isNumber", "(III)Z"⟩, 30) := ⟨⟨by decide +kernel, by decide +kernel⟩, List.mem_of_getElem? (i := 768) (by decide +kernel), List.mem_of_getElem? (i := 907) (by decide +kernel), List.mem_of_getElem? (i := 908) (by decide +kernel)⟩
theorem lw_p31 : lw_okq (⟨"SleepersShopModel", "isOne", "(I)Z"⟩, 30) := ⟨⟨by decide +kernel, by decide +kernel⟩, List.mem_of_getElem? (i := 768) (by decide +kernel), List.mem_of_getElem? (i := 932) (by decide +kernel), List.mem_of_getElem? (i := 933) (by decide +kernel)⟩
def lw_privs_2 : List (MethodName × Nat) := [(⟨"SleepersShop$Night", "isReadyFor", "(II)Z"⟩, 9), (⟨"SleepersShop$Night", "sell", "(II)V"⟩, 9), (⟨"SleepersShop", "areTwoStaff", "(II)Z"⟩, 11), (⟨"SleepersShop$Shelf", "dropOldest", "()V"⟩, 2), (⟨"SleepersShop", "goBy", "(LSleepersShop$State;I)V"⟩, 11), (⟨"SleepersShop", "servedIfFed", "(I)I"⟩, 11), (⟨"SleepersShop", "servedIfMadeUp", "(II)I"⟩, 11), (⟨"SleepersShop", "isWithoutHam", "(II)Z"⟩, 11), (⟨"SleepersShopModel", "addOne", "(IIIII)V"⟩, 30), (⟨"SleepersShopModel", "addGuest", "(IIIII)V"⟩, 30), (⟨"SleepersShopModel", "isItem", "()Z"⟩, 30), (⟨"SleepersShopModel", "letterAt", "(I)I"⟩, 30), (⟨"SleepersShopModel", "least", "(II)I"⟩, 30), (⟨"SleepersShopModel", "most", "(II)I"⟩, 30), (⟨"SleepersShopModel", "isNumber", "(III)Z"⟩, 30), (⟨"SleepersShopModel", "isOne", "(I)Z"⟩, 30)]
theorem lw_r2 : ∀ q ∈ lw_privs_2, lw_okq q := List.forall_mem_cons.mpr ⟨lw_p16, List.forall_mem_cons.mpr ⟨lw_p17, List.forall_mem_cons.mpr ⟨lw_p18, List.forall_mem_cons.mpr ⟨lw_p19, List.forall_mem_cons.mpr ⟨lw_p20, List.forall_mem_cons.mpr ⟨lw_p21, List.forall_mem_cons.mpr ⟨lw_p22, List.forall_mem_cons.mpr ⟨lw_p23, List.forall_mem_cons.mpr ⟨lw_p24, List.forall_mem_cons.mpr ⟨lw_p25, List.forall_mem_cons.mpr ⟨lw_p26, List.forall_mem_cons.mpr ⟨lw_p27, List.forall_mem_cons.mpr ⟨lw_p28, List.forall_mem_cons.mpr ⟨lw_p29, List.forall_mem_cons.mpr ⟨lw_p30, List.forall_mem_cons.mpr ⟨lw_p31, fun _ h => absurd h List.not_mem_nil⟩⟩⟩⟩⟩⟩⟩⟩⟩⟩⟩⟩⟩⟩⟩⟩
theorem lw_p32 : lw_okq (⟨"SleepersShopModel", "layNow", "()V"⟩, 30) := ⟨⟨by decide +kernel, by decide +kernel⟩, List.mem_of_getElem? (i := 768) (by decide +kernel), List.mem_of_getElem? (i := 936) (by decide +kernel), List.mem_of_getElem? (i := 937) (by decide +kernel)⟩
theorem lw_p33 : lw_okq (⟨"SleepersShopModel", "layNight", "([III)V"⟩, 30) := ⟨⟨by decide +kernel, by decide +kernel⟩, List.mem_of_getElem? (i := 768) (by decide +kernel), List.mem_of_getElem? (i := 940) (by decide +kernel), List.mem_of_getElem? (i := 941) (by decide +kernel)⟩
theorem lw_p34 : lw_okq (⟨"SleepersShopModel", "layWalks", "([I)V"⟩, 30) := ⟨⟨by decide +kernel, by decide +kernel⟩, List.mem_of_getElem? (i := 768) (by decide +kernel), List.mem_of_getElem? (i := 944) (by decide +kernel), List.mem_of_getElem? (i := 945) (by decide +kernel)⟩
theorem lw_p35 : lw_okq (⟨"SleepersShopModel", "isDogNight", "(I)Z"⟩, 30) := ⟨⟨by decide +kernel, by decide +kernel⟩, List.mem_of_getElem? (i := 768) (by decide +kernel), List.mem_of_getElem? (i := 948) (by decide +kernel), List.mem_of_getElem? (i := 949) (by decide +kernel)⟩
theorem lw_p36 : lw_okq (⟨"SleepersShopModel", "serves", "(II)Z"⟩, 30) := ⟨⟨by decide +kernel, by decide +kernel⟩, List.mem_of_getElem? (i := 768) (by decide +kernel), List.mem_of_getElem? (i := 952) (by decide +kernel), List.mem_of_getElem? (i := 953) (by decide +kernel)⟩
theorem lw_p37 : lw_okq (⟨"SleepersShopModel", "wakes", "(III)Z"⟩, 30) := ⟨⟨by decide +kernel, by decide +kernel⟩, List.mem_of_getElem? (i := 768) (by decide +kernel), List.mem_of_getElem? (i := 956) (by decide +kernel), List.mem_of_getElem? (i := 957) (by decide +kernel)⟩
theorem lw_p38 : lw_okq (⟨"SleepersShopModel", "isGuest", "(I)Z"⟩, 30) := ⟨⟨by decide +kernel, by decide +kernel⟩, List.mem_of_getElem? (i := 768) (by decide +kernel), List.mem_of_getElem? (i := 964) (by decide +kernel), List.mem_of_getElem? (i := 965) (by decide +kernel)⟩
theorem lw_p39 : lw_okq (⟨"SleepersShopModel", "areTwo", "(II)Z"⟩, 30) := ⟨⟨by decide +kernel, by decide +kernel⟩, List.mem_of_getElem? (i := 768) (by decide +kernel), List.mem_of_getElem? (i := 972) (by decide +kernel), List.mem_of_getElem? (i := 973) (by decide +kernel)⟩
theorem lw_p40 : lw_okq (⟨"SleepersShopModel", "note", "()V"⟩, 30) := ⟨⟨by decide +kernel, by decide +kernel⟩, List.mem_of_getElem? (i := 768) (by decide +kernel), List.mem_of_getElem? (i := 984) (by decide +kernel), List.mem_of_getElem? (i := 985) (by decide +kernel)⟩
theorem lw_p41 : lw_okq (⟨"SleepersShopModel", "goBy", "([I)I"⟩, 30) := ⟨⟨by decide +kernel, by decide +kernel⟩, List.mem_of_getElem? (i := 768) (by decide +kernel), List.mem_of_getElem? (i := 988) (by decide +kernel), List.mem_of_getElem? (i := 989) (by decide +kernel)⟩
theorem lw_p42 : lw_okq (⟨"SleepersShopModel", "begin", "()V"⟩, 30) := ⟨⟨by decide +kernel, by decide +kernel⟩, List.mem_of_getElem? (i := 768) (by decide +kernel), List.mem_of_getElem? (i := 1012) (by decide +kernel), List.mem_of_getElem? (i := 1013) (by decide +kernel)⟩
theorem lw_p43 : lw_okq (⟨"SleepersShopModel", "makeUp", "(I)V"⟩, 30) := ⟨⟨by decide +kernel, by decide +kernel⟩, List.mem_of_getElem? (i := 768) (by decide +kernel), List.mem_of_getElem? (i := 1028) (by decide +kernel), List.mem_of_getElem? (i := 1029) (by decide +kernel)⟩
def lw_privs_3 : List (MethodName × Nat) := [(⟨"SleepersShopModel", "layNow", "()V"⟩, 30), (⟨"SleepersShopModel", "layNight", "([III)V"⟩, 30), (⟨"SleepersShopModel", "layWalks", "([I)V"⟩, 30), (⟨"SleepersShopModel", "isDogNight", "(I)Z"⟩, 30), (⟨"SleepersShopModel", "serves", "(II)Z"⟩, 30), (⟨"SleepersShopModel", "wakes", "(III)Z"⟩, 30), (⟨"SleepersShopModel", "isGuest", "(I)Z"⟩, 30), (⟨"SleepersShopModel", "areTwo", "(II)Z"⟩, 30), (⟨"SleepersShopModel", "note", "()V"⟩, 30), (⟨"SleepersShopModel", "goBy", "([I)I"⟩, 30), (⟨"SleepersShopModel", "begin", "()V"⟩, 30), (⟨"SleepersShopModel", "makeUp", "(I)V"⟩, 30)]
theorem lw_r3 : ∀ q ∈ lw_privs_3, lw_okq q := List.forall_mem_cons.mpr ⟨lw_p32, List.forall_mem_cons.mpr ⟨lw_p33, List.forall_mem_cons.mpr ⟨lw_p34, List.forall_mem_cons.mpr ⟨lw_p35, List.forall_mem_cons.mpr ⟨lw_p36, List.forall_mem_cons.mpr ⟨lw_p37, List.forall_mem_cons.mpr ⟨lw_p38, List.forall_mem_cons.mpr ⟨lw_p39, List.forall_mem_cons.mpr ⟨lw_p40, List.forall_mem_cons.mpr ⟨lw_p41, List.forall_mem_cons.mpr ⟨lw_p42, List.forall_mem_cons.mpr ⟨lw_p43, fun _ h => absurd h List.not_mem_nil⟩⟩⟩⟩⟩⟩⟩⟩⟩⟩⟩⟩
def lw_privs : List (MethodName × Nat) := lw_privs_1 ++ (lw_privs_2 ++ (lw_privs_3))
def lw_tbl : List Cond := k2_sels lw_privs ++ tables_1
theorem lw_privs_ok : ∀ q ∈ lw_privs, lw_okq q := by
  show ∀ q ∈ lw_privs_1 ++ (lw_privs_2 ++ (lw_privs_3)), lw_okq q
  exact List.forall_mem_append.mpr ⟨lw_r1, List.forall_mem_append.mpr ⟨lw_r2, lw_r3⟩⟩

def RX0 : String := "SleepersShop$Choice"
def TX0 : u_T := fun k => match k with
  | 0 => ("SleepersShop$Choice", "set", "I", false)
  | _ => ("SleepersShop$Choice", "served", "I", false)
def tyX0 : Nat → FieldType := fun k => match k with
  | 0 => .int
  | _ => .int
theorem nmX0 : ∀ a, a < 2 → ∀ b, b < 2 → a ≠ b → (TX0 a).2.1 ≠ (TX0 b).2.1 := by decide +kernel
theorem tyX0_ok : ∀ k, k < 2 → parseFieldDescriptor (TX0 k).2.2.1 = some (tyX0 k) := by decide +kernel
abbrev cX0_init : ByteArray := prog_2_method_1_code
def yX0_init : MethodName := ⟨RX0, "<init>", "()V"⟩
abbrev cX0_clear : ByteArray := prog_2_method_2_code
def yX0_clear : MethodName := ⟨RX0, "clear", "()V"⟩
abbrev cX0_offer : ByteArray := prog_2_method_3_code
def yX0_offer : MethodName := ⟨RX0, "offer", "(II)V"⟩
def RX1 : String := "SleepersShop$Night"
def TX1 : u_T := fun k => match k with
  | 0 => ("SleepersShop$Night", "shop", "LSleepersShop$Shop;", true)
  | 1 => ("SleepersShop$Night", "sellers", "LSleepersShop$Row;", true)
  | 2 => ("SleepersShop$Night", "walkers", "I", false)
  | 3 => ("SleepersShop$Night", "wokenOnes", "I", false)
  | 4 => ("SleepersShop$Night", "served", "I", false)
  | 5 => ("SleepersShop$Night", "hams", "I", false)
  | 6 => ("SleepersShop$Night", "firstWithHam", "I", false)
  | 7 => ("SleepersShop$Night", "till", "I", false)
  | _ => ("SleepersShop$Night", "drawer", "I", false)
def tyX1 : Nat → FieldType := fun k => match k with
  | 0 => .object "SleepersShop$Shop"
  | 1 => .object "SleepersShop$Row"
  | 2 => .int
  | 3 => .int
  | 4 => .int
  | 5 => .int
  | 6 => .int
  | 7 => .int
  | _ => .int
theorem nmX1 : ∀ a, a < 9 → ∀ b, b < 9 → a ≠ b → (TX1 a).2.1 ≠ (TX1 b).2.1 := by decide +kernel
theorem tyX1_ok : ∀ k, k < 9 → parseFieldDescriptor (TX1 k).2.2.1 = some (tyX1 k) := by decide +kernel
abbrev cX1_init : ByteArray := prog_3_method_1_code
def yX1_init : MethodName := ⟨RX1, "<init>", "(LSleepersShop$Shop;)V"⟩
abbrev cX1_play : ByteArray := prog_3_method_2_code
def yX1_play : MethodName := ⟨RX1, "play", "(LSleepersShop$State;ZI)V"⟩
abbrev cX1_open : ByteArray := prog_3_method_3_code
def yX1_open : MethodName := ⟨RX1, "open", "(LSleepersShop$State;Z)V"⟩
abbrev cX1_isBarred : ByteArray := prog_3_method_4_code
def yX1_isBarred : MethodName := ⟨RX1, "isBarred", "(II)Z"⟩
abbrev cX1_attend : ByteArray := prog_3_method_5_code
def yX1_attend : MethodName := ⟨RX1, "attend", "(I)V"⟩
abbrev cX1_isReadyFor : ByteArray := prog_3_method_6_code
def yX1_isReadyFor : MethodName := ⟨RX1, "isReadyFor", "(II)Z"⟩
abbrev cX1_firstFor : ByteArray := prog_3_method_7_code
def yX1_firstFor : MethodName := ⟨RX1, "firstFor", "(I)I"⟩
abbrev cX1_sell : ByteArray := prog_3_method_8_code
def yX1_sell : MethodName := ⟨RX1, "sell", "(II)V"⟩
abbrev cX1_close : ByteArray := prog_3_method_9_code
def yX1_close : MethodName := ⟨RX1, "close", "(LSleepersShop$State;)V"⟩
def RX2 : String := "SleepersShop$Reader"
def TX2 : u_T := fun k => match k with
  | 0 => ("SleepersShop$Reader", "text", "LSleepersShop$Text;", true)
  | 1 => ("SleepersShop$Reader", "draft", "LSleepersShop$Shop;", true)
  | 2 => ("SleepersShop$Reader", "numbers", "LSleepersShop$Row;", true)
  | _ => ("SleepersShop$Reader", "place", "I", false)
def tyX2 : Nat → FieldType := fun k => match k with
  | 0 => .object "SleepersShop$Text"
  | 1 => .object "SleepersShop$Shop"
  | 2 => .object "SleepersShop$Row"
  | _ => .int
theorem nmX2 : ∀ a, a < 4 → ∀ b, b < 4 → a ≠ b → (TX2 a).2.1 ≠ (TX2 b).2.1 := by decide +kernel
theorem tyX2_ok : ∀ k, k < 4 → parseFieldDescriptor (TX2 k).2.2.1 = some (tyX2 k) := by decide +kernel
abbrev cX2_init : ByteArray := prog_4_method_1_code
def yX2_init : MethodName := ⟨RX2, "<init>", "(LSleepersShop$Text;LSleepersShop$Shop;)V"⟩
abbrev cX2_read : ByteArray := prog_4_method_2_code
def yX2_read : MethodName := ⟨RX2, "read", "()I"⟩
abbrev cX2_readItem : ByteArray := prog_4_method_3_code
def yX2_readItem : MethodName := ⟨RX2, "readItem", "()Z"⟩
abbrev cX2_readNumbers : ByteArray := prog_4_method_4_code
def yX2_readNumbers : MethodName := ⟨RX2, "readNumbers", "(I)Z"⟩
abbrev cX2_readNumber : ByteArray := prog_4_method_5_code
def yX2_readNumber : MethodName := ⟨RX2, "readNumber", "()I"⟩
abbrev cX2_figure : ByteArray := prog_4_method_6_code
def yX2_figure : MethodName := ⟨RX2, "figure", "()I"⟩
abbrev cX2_takeStaff : ByteArray := prog_4_method_7_code
def yX2_takeStaff : MethodName := ⟨RX2, "takeStaff", "()Z"⟩
abbrev cX2_takeQuarrel : ByteArray := prog_4_method_8_code
def yX2_takeQuarrel : MethodName := ⟨RX2, "takeQuarrel", "()Z"⟩
abbrev cX2_takeCustomer : ByteArray := prog_4_method_9_code
def yX2_takeCustomer : MethodName := ⟨RX2, "takeCustomer", "()Z"⟩
abbrev cX2_takeDog : ByteArray := prog_4_method_10_code
def yX2_takeDog : MethodName := ⟨RX2, "takeDog", "()Z"⟩
def RX3 : String := "SleepersShop$Row"
def TX3 : u_T := fun k => match k with
  | _ => ("SleepersShop$Row", "cells", "[I", true)
def tyX3 : Nat → FieldType := fun k => match k with
  | _ => .array .int
theorem nmX3 : ∀ a, a < 1 → ∀ b, b < 1 → a ≠ b → (TX3 a).2.1 ≠ (TX3 b).2.1 := by decide +kernel
theorem tyX3_ok : ∀ k, k < 1 → parseFieldDescriptor (TX3 k).2.2.1 = some (tyX3 k) := by decide +kernel
abbrev cX3_init : ByteArray := prog_5_method_1_code
def yX3_init : MethodName := ⟨RX3, "<init>", "(I)V"⟩
abbrev cX3_at : ByteArray := prog_5_method_2_code
def yX3_at : MethodName := ⟨RX3, "at", "(I)I"⟩
abbrev cX3_put : ByteArray := prog_5_method_3_code
def yX3_put : MethodName := ⟨RX3, "put", "(II)V"⟩
abbrev cX3_fill : ByteArray := prog_5_method_4_code
def yX3_fill : MethodName := ⟨RX3, "fill", "(I)V"⟩
abbrev cX3_copy : ByteArray := prog_5_method_5_code
def yX3_copy : MethodName := ⟨RX3, "copy", "(LSleepersShop$Row;)V"⟩
def RX4 : String := "SleepersShop$Shelf"
def TX4 : u_T := fun k => match k with
  | 0 => ("SleepersShop$Shelf", "states", "[LSleepersShop$State;", true)
  | _ => ("SleepersShop$Shelf", "size", "I", false)
def tyX4 : Nat → FieldType := fun k => match k with
  | 0 => .array (.object "SleepersShop$State")
  | _ => .int
theorem nmX4 : ∀ a, a < 2 → ∀ b, b < 2 → a ≠ b → (TX4 a).2.1 ≠ (TX4 b).2.1 := by decide +kernel
theorem tyX4_ok : ∀ k, k < 2 → parseFieldDescriptor (TX4 k).2.2.1 = some (tyX4 k) := by decide +kernel
abbrev cX4_init : ByteArray := prog_6_method_1_code
def yX4_init : MethodName := ⟨RX4, "<init>", "(I)V"⟩
abbrev cX4_clear : ByteArray := prog_6_method_2_code
def yX4_clear : MethodName := ⟨RX4, "clear", "()V"⟩
abbrev cX4_put : ByteArray := prog_6_method_3_code
def yX4_put : MethodName := ⟨RX4, "put", "(LSleepersShop$State;)V"⟩
abbrev cX4_dropOldest : ByteArray := prog_6_method_4_code
def yX4_dropOldest : MethodName := ⟨RX4, "dropOldest", "()V"⟩
abbrev cX4_takeInto : ByteArray := prog_6_method_5_code
def yX4_takeInto : MethodName := ⟨RX4, "takeInto", "(LSleepersShop$State;)V"⟩
def RX5 : String := "SleepersShop$Shop"
def TX5 : u_T := fun k => match k with
  | 0 => ("SleepersShop$Shop", "kinds", "LSleepersShop$Row;", true)
  | 1 => ("SleepersShop$Shop", "skills", "LSleepersShop$Row;", true)
  | 2 => ("SleepersShop$Shop", "everies", "LSleepersShop$Row;", true)
  | 3 => ("SleepersShop$Shop", "offsets", "LSleepersShop$Row;", true)
  | 4 => ("SleepersShop$Shop", "nights", "LSleepersShop$Row;", true)
  | 5 => ("SleepersShop$Shop", "things", "LSleepersShop$Row;", true)
  | 6 => ("SleepersShop$Shop", "ways", "LSleepersShop$Row;", true)
  | 7 => ("SleepersShop$Shop", "pences", "LSleepersShop$Row;", true)
  | 8 => ("SleepersShop$Shop", "servers", "LSleepersShop$Row;", true)
  | 9 => ("SleepersShop$Shop", "staffSize", "I", false)
  | 10 => ("SleepersShop$Shop", "customerSize", "I", false)
  | 11 => ("SleepersShop$Shop", "quarrels", "I", false)
  | _ => ("SleepersShop$Shop", "dogEvery", "I", false)
def tyX5 : Nat → FieldType := fun k => match k with
  | 0 => .object "SleepersShop$Row"
  | 1 => .object "SleepersShop$Row"
  | 2 => .object "SleepersShop$Row"
  | 3 => .object "SleepersShop$Row"
  | 4 => .object "SleepersShop$Row"
  | 5 => .object "SleepersShop$Row"
  | 6 => .object "SleepersShop$Row"
  | 7 => .object "SleepersShop$Row"
  | 8 => .object "SleepersShop$Row"
  | 9 => .int
  | 10 => .int
  | 11 => .int
  | _ => .int
theorem nmX5 : ∀ a, a < 13 → ∀ b, b < 13 → a ≠ b → (TX5 a).2.1 ≠ (TX5 b).2.1 := by decide +kernel
theorem tyX5_ok : ∀ k, k < 13 → parseFieldDescriptor (TX5 k).2.2.1 = some (tyX5 k) := by decide +kernel
abbrev cX5_init : ByteArray := prog_7_method_1_code
def yX5_init : MethodName := ⟨RX5, "<init>", "()V"⟩
abbrev cX5_clear : ByteArray := prog_7_method_2_code
def yX5_clear : MethodName := ⟨RX5, "clear", "()V"⟩
abbrev cX5_copy : ByteArray := prog_7_method_3_code
def yX5_copy : MethodName := ⟨RX5, "copy", "(LSleepersShop$Shop;)V"⟩
abbrev cX5_hasDog : ByteArray := prog_7_method_4_code
def yX5_hasDog : MethodName := ⟨RX5, "hasDog", "(I)Z"⟩
abbrev cX5_isDue : ByteArray := prog_7_method_5_code
def yX5_isDue : MethodName := ⟨RX5, "isDue", "(II)Z"⟩
abbrev cX5_comes : ByteArray := prog_7_method_6_code
def yX5_comes : MethodName := ⟨RX5, "comes", "(II)Z"⟩
abbrev cX5_addServer : ByteArray := prog_7_method_7_code
def yX5_addServer : MethodName := ⟨RX5, "addServer", "(II)V"⟩
abbrev cX5_rouses : ByteArray := prog_7_method_8_code
def yX5_rouses : MethodName := ⟨RX5, "rouses", "(II)Z"⟩
def RX6 : String := "SleepersShop$Sightings"
def TX6 : u_T := fun k => match k with
  | 0 => ("SleepersShop$Sightings", "who", "LSleepersShop$Row;", true)
  | 1 => ("SleepersShop$Sightings", "when", "LSleepersShop$Row;", true)
  | 2 => ("SleepersShop$Sightings", "walked", "LSleepersShop$Row;", true)
  | _ => ("SleepersShop$Sightings", "size", "I", false)
def tyX6 : Nat → FieldType := fun k => match k with
  | 0 => .object "SleepersShop$Row"
  | 1 => .object "SleepersShop$Row"
  | 2 => .object "SleepersShop$Row"
  | _ => .int
theorem nmX6 : ∀ a, a < 4 → ∀ b, b < 4 → a ≠ b → (TX6 a).2.1 ≠ (TX6 b).2.1 := by decide +kernel
theorem tyX6_ok : ∀ k, k < 4 → parseFieldDescriptor (TX6 k).2.2.1 = some (tyX6 k) := by decide +kernel
abbrev cX6_init : ByteArray := prog_8_method_1_code
def yX6_init : MethodName := ⟨RX6, "<init>", "()V"⟩
abbrev cX6_clear : ByteArray := prog_8_method_2_code
def yX6_clear : MethodName := ⟨RX6, "clear", "()V"⟩
abbrev cX6_add : ByteArray := prog_8_method_3_code
def yX6_add : MethodName := ⟨RX6, "add", "(IIZ)V"⟩
abbrev cX6_allow : ByteArray := prog_8_method_4_code
def yX6_allow : MethodName := ⟨RX6, "allow", "(III)Z"⟩
def RX7 : String := "SleepersShop$State"
def TX7 : u_T := fun k => match k with
  | 0 => ("SleepersShop$State", "night", "I", false)
  | 1 => ("SleepersShop$State", "till", "I", false)
  | 2 => ("SleepersShop$State", "drawer", "I", false)
  | 3 => ("SleepersShop$State", "hams", "I", false)
  | 4 => ("SleepersShop$State", "quarrels", "I", false)
  | 5 => ("SleepersShop$State", "fed", "I", false)
  | _ => ("SleepersShop$State", "awake", "LSleepersShop$Row;", true)
def tyX7 : Nat → FieldType := fun k => match k with
  | 0 => .int
  | 1 => .int
  | 2 => .int
  | 3 => .int
  | 4 => .int
  | 5 => .int
  | _ => .object "SleepersShop$Row"
theorem nmX7 : ∀ a, a < 7 → ∀ b, b < 7 → a ≠ b → (TX7 a).2.1 ≠ (TX7 b).2.1 := by decide +kernel
theorem tyX7_ok : ∀ k, k < 7 → parseFieldDescriptor (TX7 k).2.2.1 = some (tyX7 k) := by decide +kernel
abbrev cX7_init : ByteArray := prog_9_method_1_code
def yX7_init : MethodName := ⟨RX7, "<init>", "()V"⟩
abbrev cX7_begin : ByteArray := prog_9_method_2_code
def yX7_begin : MethodName := ⟨RX7, "begin", "(I)V"⟩
abbrev cX7_copy : ByteArray := prog_9_method_3_code
def yX7_copy : MethodName := ⟨RX7, "copy", "(LSleepersShop$State;)V"⟩
def RX8 : String := "SleepersShop$Text"
def TX8 : u_T := fun k => match k with
  | 0 => ("SleepersShop$Text", "letters", "[I", true)
  | _ => ("SleepersShop$Text", "length", "I", false)
def tyX8 : Nat → FieldType := fun k => match k with
  | 0 => .array .int
  | _ => .int
theorem nmX8 : ∀ a, a < 2 → ∀ b, b < 2 → a ≠ b → (TX8 a).2.1 ≠ (TX8 b).2.1 := by decide +kernel
theorem tyX8_ok : ∀ k, k < 2 → parseFieldDescriptor (TX8 k).2.2.1 = some (tyX8 k) := by decide +kernel
abbrev cX8_init : ByteArray := prog_10_method_1_code
def yX8_init : MethodName := ⟨RX8, "<init>", "()V"⟩
abbrev cX8_clear : ByteArray := prog_10_method_2_code
def yX8_clear : MethodName := ⟨RX8, "clear", "()V"⟩
abbrev cX8_add : ByteArray := prog_10_method_3_code
def yX8_add : MethodName := ⟨RX8, "add", "(I)V"⟩
abbrev cX8_letter : ByteArray := prog_10_method_4_code
def yX8_letter : MethodName := ⟨RX8, "letter", "(I)I"⟩
def RX9 : String := "SleepersShop"
def TX9 : u_T := fun k => match k with
  | 0 => ("SleepersShop", "text", "LSleepersShop$Text;", true)
  | 1 => ("SleepersShop", "shop", "LSleepersShop$Shop;", true)
  | 2 => ("SleepersShop", "draft", "LSleepersShop$Shop;", true)
  | 3 => ("SleepersShop", "reader", "LSleepersShop$Reader;", true)
  | 4 => ("SleepersShop", "night", "LSleepersShop$Night;", true)
  | 5 => ("SleepersShop", "now", "LSleepersShop$State;", true)
  | 6 => ("SleepersShop", "trial", "LSleepersShop$State;", true)
  | 7 => ("SleepersShop", "undone", "LSleepersShop$Shelf;", true)
  | 8 => ("SleepersShop", "kept", "LSleepersShop$Shelf;", true)
  | 9 => ("SleepersShop", "seen", "LSleepersShop$Sightings;", true)
  | _ => ("SleepersShop", "choice", "LSleepersShop$Choice;", true)
def tyX9 : Nat → FieldType := fun k => match k with
  | 0 => .object "SleepersShop$Text"
  | 1 => .object "SleepersShop$Shop"
  | 2 => .object "SleepersShop$Shop"
  | 3 => .object "SleepersShop$Reader"
  | 4 => .object "SleepersShop$Night"
  | 5 => .object "SleepersShop$State"
  | 6 => .object "SleepersShop$State"
  | 7 => .object "SleepersShop$Shelf"
  | 8 => .object "SleepersShop$Shelf"
  | 9 => .object "SleepersShop$Sightings"
  | _ => .object "SleepersShop$Choice"
theorem nmX9 : ∀ a, a < 11 → ∀ b, b < 11 → a ≠ b → (TX9 a).2.1 ≠ (TX9 b).2.1 := by decide +kernel
theorem tyX9_ok : ∀ k, k < 11 → parseFieldDescriptor (TX9 k).2.2.1 = some (tyX9 k) := by decide +kernel
abbrev cX9_init : ByteArray := prog_1_method_1_code
def yX9_init : MethodName := ⟨RX9, "<init>", "()V"⟩
abbrev cX9_write : ByteArray := prog_1_method_2_code
def yX9_write : MethodName := ⟨RX9, "write", "(I)I"⟩
abbrev cX9_wipe : ByteArray := prog_1_method_3_code
def yX9_wipe : MethodName := ⟨RX9, "wipe", "()I"⟩
abbrev cX9_fault : ByteArray := prog_1_method_4_code
def yX9_fault : MethodName := ⟨RX9, "fault", "()I"⟩
abbrev cX9_lay : ByteArray := prog_1_method_5_code
def yX9_lay : MethodName := ⟨RX9, "lay", "()I"⟩
abbrev cX9_staff : ByteArray := prog_1_method_6_code
def yX9_staff : MethodName := ⟨RX9, "staff", "(II)I"⟩
abbrev cX9_customer : ByteArray := prog_1_method_7_code
def yX9_customer : MethodName := ⟨RX9, "customer", "(II)I"⟩
abbrev cX9_quarrel : ByteArray := prog_1_method_8_code
def yX9_quarrel : MethodName := ⟨RX9, "quarrel", "(II)I"⟩
abbrev cX9_woken : ByteArray := prog_1_method_9_code
def yX9_woken : MethodName := ⟨RX9, "woken", "()I"⟩
abbrev cX9_pass : ByteArray := prog_1_method_10_code
def yX9_pass : MethodName := ⟨RX9, "pass", "(I)I"⟩
abbrev cX9_supper : ByteArray := prog_1_method_11_code
def yX9_supper : MethodName := ⟨RX9, "supper", "(I)I"⟩
abbrev cX9_settle : ByteArray := prog_1_method_12_code
def yX9_settle : MethodName := ⟨RX9, "settle", "(II)I"⟩
abbrev cX9_lull : ByteArray := prog_1_method_13_code
def yX9_lull : MethodName := ⟨RX9, "lull", "(I)I"⟩
abbrev cX9_undo : ByteArray := prog_1_method_14_code
def yX9_undo : MethodName := ⟨RX9, "undo", "()I"⟩
abbrev cX9_behind : ByteArray := prog_1_method_15_code
def yX9_behind : MethodName := ⟨RX9, "behind", "(II)I"⟩
abbrev cX9_ham : ByteArray := prog_1_method_16_code
def yX9_ham : MethodName := ⟨RX9, "ham", "(I)I"⟩
abbrev cX9_suppers : ByteArray := prog_1_method_17_code
def yX9_suppers : MethodName := ⟨RX9, "suppers", "(I)I"⟩
abbrev cX9_apart : ByteArray := prog_1_method_18_code
def yX9_apart : MethodName := ⟨RX9, "apart", "(II)I"⟩
abbrev cX9_ask : ByteArray := prog_1_method_19_code
def yX9_ask : MethodName := ⟨RX9, "ask", "(I)I"⟩
abbrev cX9_see : ByteArray := prog_1_method_20_code
def yX9_see : MethodName := ⟨RX9, "see", "(IIZ)I"⟩
abbrev cX9_forget : ByteArray := prog_1_method_21_code
def yX9_forget : MethodName := ⟨RX9, "forget", "()I"⟩
abbrev cX9_law : ByteArray := prog_1_method_22_code
def yX9_law : MethodName := ⟨RX9, "law", "(II)I"⟩
abbrev cX9_did : ByteArray := prog_1_method_23_code
def yX9_did : MethodName := ⟨RX9, "did", "(I)I"⟩
abbrev cX9_dogs : ByteArray := prog_1_method_24_code
def yX9_dogs : MethodName := ⟨RX9, "dogs", "(III)I"⟩
abbrev cX9_year : ByteArray := prog_1_method_25_code
def yX9_year : MethodName := ⟨RX9, "year", "(III)I"⟩
abbrev cX9_keep : ByteArray := prog_1_method_26_code
def yX9_keep : MethodName := ⟨RX9, "keep", "()I"⟩
abbrev cX9_back : ByteArray := prog_1_method_27_code
def yX9_back : MethodName := ⟨RX9, "back", "()I"⟩
abbrev cX9_count : ByteArray := prog_1_method_28_code
def yX9_count : MethodName := ⟨RX9, "count", "(I)I"⟩
abbrev cX9_openDraft : ByteArray := prog_1_method_29_code
def yX9_openDraft : MethodName := ⟨RX9, "openDraft", "()V"⟩
abbrev cX9_isStaff : ByteArray := prog_1_method_30_code
def yX9_isStaff : MethodName := ⟨RX9, "isStaff", "(I)Z"⟩
abbrev cX9_isCustomer : ByteArray := prog_1_method_31_code
def yX9_isCustomer : MethodName := ⟨RX9, "isCustomer", "(I)Z"⟩
abbrev cX9_areTwoStaff : ByteArray := prog_1_method_32_code
def yX9_areTwoStaff : MethodName := ⟨RX9, "areTwoStaff", "(II)Z"⟩
abbrev cX9_goBy : ByteArray := prog_1_method_33_code
def yX9_goBy : MethodName := ⟨RX9, "goBy", "(LSleepersShop$State;I)V"⟩
abbrev cX9_playTonight : ByteArray := prog_1_method_34_code
def yX9_playTonight : MethodName := ⟨RX9, "playTonight", "()V"⟩
abbrev cX9_walkersTonight : ByteArray := prog_1_method_35_code
def yX9_walkersTonight : MethodName := ⟨RX9, "walkersTonight", "()I"⟩
abbrev cX9_serverTonight : ByteArray := prog_1_method_36_code
def yX9_serverTonight : MethodName := ⟨RX9, "serverTonight", "(I)I"⟩
abbrev cX9_servedIfFed : ByteArray := prog_1_method_37_code
def yX9_servedIfFed : MethodName := ⟨RX9, "servedIfFed", "(I)I"⟩
abbrev cX9_servedIfMadeUp : ByteArray := prog_1_method_38_code
def yX9_servedIfMadeUp : MethodName := ⟨RX9, "servedIfMadeUp", "(II)I"⟩
abbrev cX9_without : ByteArray := prog_1_method_39_code
def yX9_without : MethodName := ⟨RX9, "without", "(II)I"⟩
abbrev cX9_isWithoutHam : ByteArray := prog_1_method_40_code
def yX9_isWithoutHam : MethodName := ⟨RX9, "isWithoutHam", "(II)Z"⟩
abbrev cX9_weight : ByteArray := prog_1_method_41_code
def yX9_weight : MethodName := ⟨RX9, "weight", "(III)I"⟩
abbrev cX9_sharedDivisor : ByteArray := prog_1_method_42_code
def yX9_sharedDivisor : MethodName := ⟨RX9, "sharedDivisor", "(III)I"⟩
abbrev cX9_dividesBoth : ByteArray := prog_1_method_43_code
def yX9_dividesBoth : MethodName := ⟨RX9, "dividesBoth", "(III)Z"⟩
abbrev cX9_draw : ByteArray := prog_1_method_44_code
def yX9_draw : MethodName := ⟨RX9, "draw", "(II)I"⟩
abbrev cX9_wakes : ByteArray := prog_1_method_45_code
def yX9_wakes : MethodName := ⟨RX9, "wakes", "(III)Z"⟩
abbrev cX9_pair : ByteArray := prog_1_method_46_code
def yX9_pair : MethodName := ⟨RX9, "pair", "(II)I"⟩
abbrev cX9_has : ByteArray := prog_1_method_47_code
def yX9_has : MethodName := ⟨RX9, "has", "(II)Z"⟩
abbrev cX9_bit : ByteArray := prog_1_method_48_code
def yX9_bit : MethodName := ⟨RX9, "bit", "(II)I"⟩
abbrev cX9_mod : ByteArray := prog_1_method_49_code
def yX9_mod : MethodName := ⟨RX9, "mod", "(II)I"⟩
abbrev cX9_quotient : ByteArray := prog_1_method_50_code
def yX9_quotient : MethodName := ⟨RX9, "quotient", "(II)I"⟩
abbrev cX9_isWithin : ByteArray := prog_1_method_51_code
def yX9_isWithin : MethodName := ⟨RX9, "isWithin", "(III)Z"⟩
def RX10 : String := "SleepersShopModel"
def TX10 : u_T := fun k => match k with
  | 0 => ("SleepersShopModel", "letters", "I", false)
  | 1 => ("SleepersShopModel", "text", "[I", true)
  | 2 => ("SleepersShopModel", "position", "I", false)
  | 3 => ("SleepersShopModel", "number", "I", false)
  | 4 => ("SleepersShopModel", "readStaff", "I", false)
  | 5 => ("SleepersShopModel", "readCustomers", "I", false)
  | 6 => ("SleepersShopModel", "readDog", "I", false)
  | 7 => ("SleepersShopModel", "readOne", "[I", true)
  | 8 => ("SleepersShopModel", "readGuest", "[I", true)
  | 9 => ("SleepersShopModel", "readQuarrel", "[I", true)
  | 10 => ("SleepersShopModel", "many", "I", false)
  | 11 => ("SleepersShopModel", "guests", "I", false)
  | 12 => ("SleepersShopModel", "dog", "I", false)
  | 13 => ("SleepersShopModel", "one", "[I", true)
  | 14 => ("SleepersShopModel", "guest", "[I", true)
  | 15 => ("SleepersShopModel", "now", "[I", true)
  | 16 => ("SleepersShopModel", "tried", "[I", true)
  | 17 => ("SleepersShopModel", "back", "[I", true)
  | 18 => ("SleepersShopModel", "backs", "I", false)
  | 19 => ("SleepersShopModel", "kept", "[I", true)
  | 20 => ("SleepersShopModel", "keptMany", "I", false)
  | 21 => ("SleepersShopModel", "seen", "I", false)
  | 22 => ("SleepersShopModel", "sight", "[I", true)
  | 23 => ("SleepersShopModel", "walks", "I", false)
  | 24 => ("SleepersShopModel", "woken", "I", false)
  | 25 => ("SleepersShopModel", "dogBy", "I", false)
  | 26 => ("SleepersShopModel", "firstHam", "I", false)
  | 27 => ("SleepersShopModel", "served", "I", false)
  | 28 => ("SleepersShopModel", "wayOf", "I", false)
  | _ => ("SleepersShopModel", "by", "[I", true)
def tyX10 : Nat → FieldType := fun k => match k with
  | 0 => .int
  | 1 => .array .int
  | 2 => .int
  | 3 => .int
  | 4 => .int
  | 5 => .int
  | 6 => .int
  | 7 => .array .int
  | 8 => .array .int
  | 9 => .array .int
  | 10 => .int
  | 11 => .int
  | 12 => .int
  | 13 => .array .int
  | 14 => .array .int
  | 15 => .array .int
  | 16 => .array .int
  | 17 => .array .int
  | 18 => .int
  | 19 => .array .int
  | 20 => .int
  | 21 => .int
  | 22 => .array .int
  | 23 => .int
  | 24 => .int
  | 25 => .int
  | 26 => .int
  | 27 => .int
  | 28 => .int
  | _ => .array .int
theorem nmX10 : ∀ a, a < 30 → ∀ b, b < 30 → a ≠ b → (TX10 a).2.1 ≠ (TX10 b).2.1 := by decide +kernel
theorem tyX10_ok : ∀ k, k < 30 → parseFieldDescriptor (TX10 k).2.2.1 = some (tyX10 k) := by decide +kernel
abbrev cX10_init : ByteArray := prog_12_method_1_code
def yX10_init : MethodName := ⟨RX10, "<init>", "()V"⟩
abbrev cX10_addOne : ByteArray := prog_12_method_2_code
def yX10_addOne : MethodName := ⟨RX10, "addOne", "(IIIII)V"⟩
abbrev cX10_addGuest : ByteArray := prog_12_method_3_code
def yX10_addGuest : MethodName := ⟨RX10, "addGuest", "(IIIII)V"⟩
abbrev cX10_in : ByteArray := prog_12_method_4_code
def yX10_in : MethodName := ⟨RX10, "in", "(III)Z"⟩
abbrev cX10_has : ByteArray := prog_12_method_5_code
def yX10_has : MethodName := ⟨RX10, "has", "(II)Z"⟩
abbrev cX10_bits : ByteArray := prog_12_method_6_code
def yX10_bits : MethodName := ⟨RX10, "bits", "(I)I"⟩
abbrev cX10_bring : ByteArray := prog_12_method_7_code
def yX10_bring : MethodName := ⟨RX10, "bring", "([II[III)V"⟩
abbrev cX10_isOne : ByteArray := prog_12_method_8_code
def yX10_isOne : MethodName := ⟨RX10, "isOne", "(I)Z"⟩
abbrev cX10_isGuest : ByteArray := prog_12_method_9_code
def yX10_isGuest : MethodName := ⟨RX10, "isGuest", "(I)Z"⟩
abbrev cX10_areTwo : ByteArray := prog_12_method_10_code
def yX10_areTwo : MethodName := ⟨RX10, "areTwo", "(II)Z"⟩
abbrev cX10_turn : ByteArray := prog_12_method_11_code
def yX10_turn : MethodName := ⟨RX10, "turn", "([IIII)V"⟩
abbrev cX10_quarrelsIn : ByteArray := prog_12_method_12_code
def yX10_quarrelsIn : MethodName := ⟨RX10, "quarrelsIn", "([II)I"⟩
abbrev cX10_write : ByteArray := prog_12_method_13_code
def yX10_write : MethodName := ⟨RX10, "write", "(I)I"⟩
abbrev cX10_wipe : ByteArray := prog_12_method_14_code
def yX10_wipe : MethodName := ⟨RX10, "wipe", "()I"⟩
abbrev cX10_letterAt : ByteArray := prog_12_method_15_code
def yX10_letterAt : MethodName := ⟨RX10, "letterAt", "(I)I"⟩
abbrev cX10_isNumber : ByteArray := prog_12_method_16_code
def yX10_isNumber : MethodName := ⟨RX10, "isNumber", "(III)Z"⟩
abbrev cX10_least : ByteArray := prog_12_method_17_code
def yX10_least : MethodName := ⟨RX10, "least", "(II)I"⟩
abbrev cX10_most : ByteArray := prog_12_method_18_code
def yX10_most : MethodName := ⟨RX10, "most", "(II)I"⟩
abbrev cX10_isItem : ByteArray := prog_12_method_19_code
def yX10_isItem : MethodName := ⟨RX10, "isItem", "()Z"⟩
abbrev cX10_fault : ByteArray := prog_12_method_20_code
def yX10_fault : MethodName := ⟨RX10, "fault", "()I"⟩
abbrev cX10_lay : ByteArray := prog_12_method_21_code
def yX10_lay : MethodName := ⟨RX10, "lay", "()I"⟩
abbrev cX10_serves : ByteArray := prog_12_method_22_code
def yX10_serves : MethodName := ⟨RX10, "serves", "(II)Z"⟩
abbrev cX10_wakes : ByteArray := prog_12_method_23_code
def yX10_wakes : MethodName := ⟨RX10, "wakes", "(III)Z"⟩
abbrev cX10_isDogNight : ByteArray := prog_12_method_24_code
def yX10_isDogNight : MethodName := ⟨RX10, "isDogNight", "(I)Z"⟩
abbrev cX10_layWalks : ByteArray := prog_12_method_25_code
def yX10_layWalks : MethodName := ⟨RX10, "layWalks", "([I)V"⟩
abbrev cX10_layNight : ByteArray := prog_12_method_26_code
def yX10_layNight : MethodName := ⟨RX10, "layNight", "([III)V"⟩
abbrev cX10_goBy : ByteArray := prog_12_method_27_code
def yX10_goBy : MethodName := ⟨RX10, "goBy", "([I)I"⟩
abbrev cX10_layNow : ByteArray := prog_12_method_28_code
def yX10_layNow : MethodName := ⟨RX10, "layNow", "()V"⟩
abbrev cX10_staff : ByteArray := prog_12_method_29_code
def yX10_staff : MethodName := ⟨RX10, "staff", "(II)I"⟩
abbrev cX10_customer : ByteArray := prog_12_method_30_code
def yX10_customer : MethodName := ⟨RX10, "customer", "(II)I"⟩
abbrev cX10_quarrel : ByteArray := prog_12_method_31_code
def yX10_quarrel : MethodName := ⟨RX10, "quarrel", "(II)I"⟩
abbrev cX10_woken : ByteArray := prog_12_method_32_code
def yX10_woken : MethodName := ⟨RX10, "woken", "()I"⟩
abbrev cX10_note : ByteArray := prog_12_method_33_code
def yX10_note : MethodName := ⟨RX10, "note", "()V"⟩
abbrev cX10_pass : ByteArray := prog_12_method_34_code
def yX10_pass : MethodName := ⟨RX10, "pass", "(I)I"⟩
abbrev cX10_supper : ByteArray := prog_12_method_35_code
def yX10_supper : MethodName := ⟨RX10, "supper", "(I)I"⟩
abbrev cX10_settle : ByteArray := prog_12_method_36_code
def yX10_settle : MethodName := ⟨RX10, "settle", "(II)I"⟩
abbrev cX10_lull : ByteArray := prog_12_method_37_code
def yX10_lull : MethodName := ⟨RX10, "lull", "(I)I"⟩
abbrev cX10_undo : ByteArray := prog_12_method_38_code
def yX10_undo : MethodName := ⟨RX10, "undo", "()I"⟩
abbrev cX10_begin : ByteArray := prog_12_method_39_code
def yX10_begin : MethodName := ⟨RX10, "begin", "()V"⟩
abbrev cX10_behind : ByteArray := prog_12_method_40_code
def yX10_behind : MethodName := ⟨RX10, "behind", "(II)I"⟩
abbrev cX10_ham : ByteArray := prog_12_method_41_code
def yX10_ham : MethodName := ⟨RX10, "ham", "(I)I"⟩
abbrev cX10_suppers : ByteArray := prog_12_method_42_code
def yX10_suppers : MethodName := ⟨RX10, "suppers", "(I)I"⟩
abbrev cX10_makeUp : ByteArray := prog_12_method_43_code
def yX10_makeUp : MethodName := ⟨RX10, "makeUp", "(I)V"⟩
abbrev cX10_apart : ByteArray := prog_12_method_44_code
def yX10_apart : MethodName := ⟨RX10, "apart", "(II)I"⟩
abbrev cX10_ask : ByteArray := prog_12_method_45_code
def yX10_ask : MethodName := ⟨RX10, "ask", "(I)I"⟩
abbrev cX10_see : ByteArray := prog_12_method_46_code
def yX10_see : MethodName := ⟨RX10, "see", "(IIZ)I"⟩
abbrev cX10_forget : ByteArray := prog_12_method_47_code
def yX10_forget : MethodName := ⟨RX10, "forget", "()I"⟩
abbrev cX10_law : ByteArray := prog_12_method_48_code
def yX10_law : MethodName := ⟨RX10, "law", "(II)I"⟩
abbrev cX10_did : ByteArray := prog_12_method_49_code
def yX10_did : MethodName := ⟨RX10, "did", "(I)I"⟩
abbrev cX10_dogs : ByteArray := prog_12_method_50_code
def yX10_dogs : MethodName := ⟨RX10, "dogs", "(III)I"⟩
abbrev cX10_year : ByteArray := prog_12_method_51_code
def yX10_year : MethodName := ⟨RX10, "year", "(III)I"⟩
abbrev cX10_keep : ByteArray := prog_12_method_52_code
def yX10_keep : MethodName := ⟨RX10, "keep", "()I"⟩
abbrev cX10_back : ByteArray := prog_12_method_53_code
def yX10_back : MethodName := ⟨RX10, "back", "()I"⟩
abbrev cX10_count : ByteArray := prog_12_method_54_code
def yX10_count : MethodName := ⟨RX10, "count", "(I)I"⟩
def RJ6 : String := "java/lang/Integer"
def TJ6 : u_T := fun k => match k with
  | _ => ("", "", "", false)
def tyJ6 : Nat → FieldType := fun k => match k with
  | _ => .int
abbrev wsJ60 : List Cond := u_ws RJ6 TJ6 0
theorem nmJ6 : ∀ a, a < 0 → ∀ b, b < 0 → a ≠ b → (TJ6 a).2.1 ≠ (TJ6 b).2.1 := by decide +kernel
theorem tyJ6_ok : ∀ k, k < 0 → parseFieldDescriptor (TJ6 k).2.2.1 = some (tyJ6 k) := by decide +kernel
abbrev cJ6_bitCount_0f7a4 : ByteArray := prog_13_method_49_code
def yJ6_bitCount_0f7a4 : MethodName := ⟨RJ6, "bitCount", "(I)I"⟩
def RJ9 : String := "java/lang/Math"
def TJ9 : u_T := fun k => match k with
  | _ => ("", "", "", false)
def tyJ9 : Nat → FieldType := fun k => match k with
  | _ => .int
abbrev wsJ90 : List Cond := u_ws RJ9 TJ9 0
theorem nmJ9 : ∀ a, a < 0 → ∀ b, b < 0 → a ≠ b → (TJ9 a).2.1 ≠ (TJ9 b).2.1 := by decide +kernel
theorem tyJ9_ok : ∀ k, k < 0 → parseFieldDescriptor (TJ9 k).2.2.1 = some (tyJ9 k) := by decide +kernel
abbrev cJ9_max_7cf53 : ByteArray := prog_14_method_65_code
def yJ9_max_7cf53 : MethodName := ⟨RJ9, "max", "(II)I"⟩
def RJ0 : String := "java/lang/String"
def TJ0 : u_T := fun k => match k with
  | _ => ("", "", "", false)
def tyJ0 : Nat → FieldType := fun k => match k with
  | _ => .int
abbrev wsJ00 : List Cond := u_ws RJ0 TJ0 0
theorem nmJ0 : ∀ a, a < 0 → ∀ b, b < 0 → a ≠ b → (TJ0 a).2.1 ≠ (TJ0 b).2.1 := by decide +kernel
theorem tyJ0_ok : ∀ k, k < 0 → parseFieldDescriptor (TJ0 k).2.2.1 = some (tyJ0 k) := by decide +kernel
abbrev cJ0_length_8abf5 : ByteArray := prog_15_method_54_code
def yJ0_length_8abf5 : MethodName := ⟨RJ0, "length", "()I"⟩
abbrev cJ0_charAt_5068e : ByteArray := prog_15_method_56_code
def yJ0_charAt_5068e : MethodName := ⟨RJ0, "charAt", "(I)C"⟩
abbrev cJ0_coder_7d493 : ByteArray := prog_15_method_152_code
def yJ0_coder_7d493 : MethodName := ⟨RJ0, "coder", "()B"⟩
abbrev cJ0_isLatin1_aae02 : ByteArray := prog_15_method_154_code
def yJ0_isLatin1_aae02 : MethodName := ⟨RJ0, "isLatin1", "()Z"⟩
abbrev cJ0_checkIndex_df160 : ByteArray := prog_15_method_155_code
def yJ0_checkIndex_df160 : MethodName := ⟨RJ0, "checkIndex", "(II)V"⟩
def RJ1 : String := "java/lang/StringLatin1"
def TJ1 : u_T := fun k => match k with
  | _ => ("", "", "", false)
def tyJ1 : Nat → FieldType := fun k => match k with
  | _ => .int
abbrev wsJ10 : List Cond := u_ws RJ1 TJ1 0
theorem nmJ1 : ∀ a, a < 0 → ∀ b, b < 0 → a ≠ b → (TJ1 a).2.1 ≠ (TJ1 b).2.1 := by decide +kernel
theorem tyJ1_ok : ∀ k, k < 0 → parseFieldDescriptor (TJ1 k).2.2.1 = some (tyJ1 k) := by decide +kernel
abbrev cJ1_charAt_3b067 : ByteArray := prog_16_method_2_code
def yJ1_charAt_3b067 : MethodName := ⟨RJ1, "charAt", "([BI)C"⟩
def RJ2 : String := "java/lang/StringUTF16"
def TJ2 : u_T := fun k => match k with
  | _ => ("", "", "", false)
def tyJ2 : Nat → FieldType := fun k => match k with
  | _ => .int
abbrev wsJ20 : List Cond := u_ws RJ2 TJ2 0
theorem nmJ2 : ∀ a, a < 0 → ∀ b, b < 0 → a ≠ b → (TJ2 a).2.1 ≠ (TJ2 b).2.1 := by decide +kernel
theorem tyJ2_ok : ∀ k, k < 0 → parseFieldDescriptor (TJ2 k).2.2.1 = some (tyJ2 k) := by decide +kernel
abbrev cJ2_getChar_3b067 : ByteArray := prog_17_method_5_code
def yJ2_getChar_3b067 : MethodName := ⟨RJ2, "getChar", "([BI)C"⟩
abbrev cJ2_length_9d52b : ByteArray := prog_17_method_6_code
def yJ2_length_9d52b : MethodName := ⟨RJ2, "length", "([B)I"⟩
abbrev cJ2_charAt_3b067 : ByteArray := prog_17_method_83_code
def yJ2_charAt_3b067 : MethodName := ⟨RJ2, "charAt", "([BI)C"⟩
abbrev cJ2_checkIndex_2214a : ByteArray := prog_17_method_91_code
def yJ2_checkIndex_2214a : MethodName := ⟨RJ2, "checkIndex", "(I[B)V"⟩
def RJ3 : String := "jdk/internal/util/Preconditions"
def TJ3 : u_T := fun k => match k with
  | _ => ("", "", "", false)
def tyJ3 : Nat → FieldType := fun k => match k with
  | _ => .int
abbrev wsJ30 : List Cond := u_ws RJ3 TJ3 0
theorem nmJ3 : ∀ a, a < 0 → ∀ b, b < 0 → a ≠ b → (TJ3 a).2.1 ≠ (TJ3 b).2.1 := by decide +kernel
theorem tyJ3_ok : ∀ k, k < 0 → parseFieldDescriptor (TJ3 k).2.2.1 = some (tyJ3 k) := by decide +kernel
abbrev cJ3_checkIndex_8e157 : ByteArray := prog_18_method_11_code
def yJ3_checkIndex_8e157 : MethodName := ⟨RJ3, "checkIndex", "(IILjava/util/function/BiFunction;)I"⟩
def RL : String := "SleepersShopLaw"
abbrev cL_law : ByteArray := code
def yL_law : MethodName := ⟨RL, "law", "([I)Z"⟩
abbrev z_M : Type := MethodName × ByteArray × Nat × Option FieldType
def mX0_init : z_M := (yX0_init, cX0_init, 1, none)
def mX0_clear : z_M := (yX0_clear, cX0_clear, 1, none)
def mJ6_bitCount_0f7a4 : z_M := (yJ6_bitCount_0f7a4, cJ6_bitCount_0f7a4, 1, (some .int))
def mX0_offer : z_M := (yX0_offer, cX0_offer, 3, none)
def mX3_init : z_M := (yX3_init, cX3_init, 2, none)
def mX1_init : z_M := (yX1_init, cX1_init, 2, none)
def mX3_fill : z_M := (yX3_fill, cX3_fill, 3, none)
def mX3_at : z_M := (yX3_at, cX3_at, 2, (some .int))
def mX9_mod : z_M := (yX9_mod, cX9_mod, 2, (some .int))
def mX5_isDue : z_M := (yX5_isDue, cX5_isDue, 4, (some .boolean))
def mX9_has : z_M := (yX9_has, cX9_has, 2, (some .boolean))
def mX9_pair : z_M := (yX9_pair, cX9_pair, 2, (some .int))
def mX1_isBarred : z_M := (yX1_isBarred, cX1_isBarred, 4, (some .boolean))
def mX1_open : z_M := (yX1_open, cX1_open, 4, none)
def mX5_comes : z_M := (yX5_comes, cX5_comes, 3, (some .boolean))
def mX1_isReadyFor : z_M := (yX1_isReadyFor, cX1_isReadyFor, 3, (some .boolean))
def mX9_wakes : z_M := (yX9_wakes, cX9_wakes, 3, (some .boolean))
def mX5_rouses : z_M := (yX5_rouses, cX5_rouses, 3, (some .boolean))
def mX3_put : z_M := (yX3_put, cX3_put, 3, none)
def mX1_sell : z_M := (yX1_sell, cX1_sell, 5, none)
def mX1_attend : z_M := (yX1_attend, cX1_attend, 4, none)
def mX1_play : z_M := (yX1_play, cX1_play, 5, none)
def mX1_firstFor : z_M := (yX1_firstFor, cX1_firstFor, 3, (some .int))
def mX1_close : z_M := (yX1_close, cX1_close, 4, none)
def mX2_init : z_M := (yX2_init, cX2_init, 3, none)
def mX5_clear : z_M := (yX5_clear, cX5_clear, 1, none)
def mX8_letter : z_M := (yX8_letter, cX8_letter, 2, (some .int))
def mX9_isWithin : z_M := (yX9_isWithin, cX9_isWithin, 3, (some .boolean))
def mX2_figure : z_M := (yX2_figure, cX2_figure, 2, (some .int))
def mX2_readNumber : z_M := (yX2_readNumber, cX2_readNumber, 3, (some .int))
def mX2_readNumbers : z_M := (yX2_readNumbers, cX2_readNumbers, 4, (some .boolean))
def mX5_addServer : z_M := (yX5_addServer, cX5_addServer, 3, none)
def mX2_takeStaff : z_M := (yX2_takeStaff, cX2_takeStaff, 2, (some .boolean))
def mX2_takeQuarrel : z_M := (yX2_takeQuarrel, cX2_takeQuarrel, 3, (some .boolean))
def mX2_takeCustomer : z_M := (yX2_takeCustomer, cX2_takeCustomer, 2, (some .boolean))
def mX2_takeDog : z_M := (yX2_takeDog, cX2_takeDog, 1, (some .boolean))
def mX2_readItem : z_M := (yX2_readItem, cX2_readItem, 2, (some .boolean))
def mX2_read : z_M := (yX2_read, cX2_read, 3, (some .int))
def mX3_copy : z_M := (yX3_copy, cX3_copy, 3, none)
def mX7_init : z_M := (yX7_init, cX7_init, 1, none)
def mX4_init : z_M := (yX4_init, cX4_init, 3, none)
def mX4_clear : z_M := (yX4_clear, cX4_clear, 1, none)
def mX4_dropOldest : z_M := (yX4_dropOldest, cX4_dropOldest, 3, none)
def mX7_copy : z_M := (yX7_copy, cX7_copy, 2, none)
def mX4_put : z_M := (yX4_put, cX4_put, 2, none)
def mX4_takeInto : z_M := (yX4_takeInto, cX4_takeInto, 3, none)
def mX5_init : z_M := (yX5_init, cX5_init, 1, none)
def mX5_copy : z_M := (yX5_copy, cX5_copy, 2, none)
def mX5_hasDog : z_M := (yX5_hasDog, cX5_hasDog, 2, (some .boolean))
def mX6_init : z_M := (yX6_init, cX6_init, 1, none)
def mX6_clear : z_M := (yX6_clear, cX6_clear, 1, none)
def mX6_add : z_M := (yX6_add, cX6_add, 4, none)
def mX6_allow : z_M := (yX6_allow, cX6_allow, 6, (some .boolean))
def mX7_begin : z_M := (yX7_begin, cX7_begin, 2, none)
def mX8_init : z_M := (yX8_init, cX8_init, 1, none)
def mX8_clear : z_M := (yX8_clear, cX8_clear, 1, none)
def mX8_add : z_M := (yX8_add, cX8_add, 2, none)
def mJ0_coder_7d493 : z_M := (yJ0_coder_7d493, cJ0_coder_7d493, 1, (some .byte))
def mJ0_length_8abf5 : z_M := (yJ0_length_8abf5, cJ0_length_8abf5, 1, (some .int))
def mJ0_isLatin1_aae02 : z_M := (yJ0_isLatin1_aae02, cJ0_isLatin1_aae02, 1, (some .boolean))
def mJ3_checkIndex_8e157 : z_M := (yJ3_checkIndex_8e157, cJ3_checkIndex_8e157, 3, (some .int))
def mJ0_checkIndex_df160 : z_M := (yJ0_checkIndex_df160, cJ0_checkIndex_df160, 2, none)
def mJ1_charAt_3b067 : z_M := (yJ1_charAt_3b067, cJ1_charAt_3b067, 2, (some .char))
def mJ2_length_9d52b : z_M := (yJ2_length_9d52b, cJ2_length_9d52b, 1, (some .int))
def mJ2_checkIndex_2214a : z_M := (yJ2_checkIndex_2214a, cJ2_checkIndex_2214a, 2, none)
def mJ2_getChar_3b067 : z_M := (yJ2_getChar_3b067, cJ2_getChar_3b067, 2, (some .char))
def mJ2_charAt_3b067 : z_M := (yJ2_charAt_3b067, cJ2_charAt_3b067, 2, (some .char))
def mJ0_charAt_5068e : z_M := (yJ0_charAt_5068e, cJ0_charAt_5068e, 2, (some .char))
def mX9_openDraft : z_M := (yX9_openDraft, cX9_openDraft, 1, none)
def mX9_init : z_M := (yX9_init, cX9_init, 2, none)
def mX9_write : z_M := (yX9_write, cX9_write, 2, (some .int))
def mX9_wipe : z_M := (yX9_wipe, cX9_wipe, 2, (some .int))
def mX9_fault : z_M := (yX9_fault, cX9_fault, 1, (some .int))
def mX9_lay : z_M := (yX9_lay, cX9_lay, 1, (some .int))
def mX9_isStaff : z_M := (yX9_isStaff, cX9_isStaff, 2, (some .boolean))
def mX9_walkersTonight : z_M := (yX9_walkersTonight, cX9_walkersTonight, 1, (some .int))
def mX9_bit : z_M := (yX9_bit, cX9_bit, 2, (some .int))
def mX9_staff : z_M := (yX9_staff, cX9_staff, 3, (some .int))
def mX9_isCustomer : z_M := (yX9_isCustomer, cX9_isCustomer, 2, (some .boolean))
def mX9_playTonight : z_M := (yX9_playTonight, cX9_playTonight, 1, none)
def mX9_serverTonight : z_M := (yX9_serverTonight, cX9_serverTonight, 2, (some .int))
def mX9_customer : z_M := (yX9_customer, cX9_customer, 3, (some .int))
def mX9_areTwoStaff : z_M := (yX9_areTwoStaff, cX9_areTwoStaff, 3, (some .boolean))
def mX9_quarrel : z_M := (yX9_quarrel, cX9_quarrel, 3, (some .int))
def mX9_woken : z_M := (yX9_woken, cX9_woken, 1, (some .int))
def mX9_goBy : z_M := (yX9_goBy, cX9_goBy, 4, none)
def mX9_pass : z_M := (yX9_pass, cX9_pass, 2, (some .int))
def mX9_supper : z_M := (yX9_supper, cX9_supper, 2, (some .int))
def mX9_settle : z_M := (yX9_settle, cX9_settle, 4, (some .int))
def mX9_lull : z_M := (yX9_lull, cX9_lull, 3, (some .int))
def mX9_undo : z_M := (yX9_undo, cX9_undo, 1, (some .int))
def mX9_behind : z_M := (yX9_behind, cX9_behind, 3, (some .int))
def mX9_ham : z_M := (yX9_ham, cX9_ham, 3, (some .int))
def mX9_servedIfFed : z_M := (yX9_servedIfFed, cX9_servedIfFed, 2, (some .int))
def mX9_suppers : z_M := (yX9_suppers, cX9_suppers, 3, (some .int))
def mX9_without : z_M := (yX9_without, cX9_without, 5, (some .int))
def mX9_servedIfMadeUp : z_M := (yX9_servedIfMadeUp, cX9_servedIfMadeUp, 5, (some .int))
def mX9_apart : z_M := (yX9_apart, cX9_apart, 5, (some .int))
def mX9_ask : z_M := (yX9_ask, cX9_ask, 4, (some .int))
def mX9_see : z_M := (yX9_see, cX9_see, 4, (some .int))
def mX9_forget : z_M := (yX9_forget, cX9_forget, 2, (some .int))
def mX9_law : z_M := (yX9_law, cX9_law, 7, (some .int))
def mX9_did : z_M := (yX9_did, cX9_did, 4, (some .int))
def mX9_isWithoutHam : z_M := (yX9_isWithoutHam, cX9_isWithoutHam, 4, (some .boolean))
def mX9_weight : z_M := (yX9_weight, cX9_weight, 5, (some .int))
def mX9_dividesBoth : z_M := (yX9_dividesBoth, cX9_dividesBoth, 3, (some .boolean))
def mX9_sharedDivisor : z_M := (yX9_sharedDivisor, cX9_sharedDivisor, 5, (some .int))
def mX9_quotient : z_M := (yX9_quotient, cX9_quotient, 2, (some .int))
def mX9_dogs : z_M := (yX9_dogs, cX9_dogs, 7, (some .int))
def mX9_draw : z_M := (yX9_draw, cX9_draw, 4, (some .int))
def mX9_year : z_M := (yX9_year, cX9_year, 6, (some .int))
def mX9_keep : z_M := (yX9_keep, cX9_keep, 1, (some .int))
def mX9_back : z_M := (yX9_back, cX9_back, 1, (some .int))
def mX9_count : z_M := (yX9_count, cX9_count, 2, (some .int))
def mX10_addOne : z_M := (yX10_addOne, cX10_addOne, 6, none)
def mX10_turn : z_M := (yX10_turn, cX10_turn, 4, none)
def mX10_addGuest : z_M := (yX10_addGuest, cX10_addGuest, 6, none)
def mX10_init : z_M := (yX10_init, cX10_init, 1, none)
def mX10_in : z_M := (yX10_in, cX10_in, 3, (some .boolean))
def mX10_has : z_M := (yX10_has, cX10_has, 2, (some .boolean))
def mX10_bits : z_M := (yX10_bits, cX10_bits, 3, (some .int))
def mX10_bring : z_M := (yX10_bring, cX10_bring, 6, none)
def mX10_isOne : z_M := (yX10_isOne, cX10_isOne, 2, (some .boolean))
def mX10_isGuest : z_M := (yX10_isGuest, cX10_isGuest, 2, (some .boolean))
def mX10_areTwo : z_M := (yX10_areTwo, cX10_areTwo, 3, (some .boolean))
def mX10_quarrelsIn : z_M := (yX10_quarrelsIn, cX10_quarrelsIn, 4, (some .int))
def mX10_write : z_M := (yX10_write, cX10_write, 2, (some .int))
def mX10_wipe : z_M := (yX10_wipe, cX10_wipe, 2, (some .int))
def mX10_letterAt : z_M := (yX10_letterAt, cX10_letterAt, 2, (some .int))
def mX10_isNumber : z_M := (yX10_isNumber, cX10_isNumber, 5, (some .boolean))
def mX10_least : z_M := (yX10_least, cX10_least, 3, (some .int))
def mX10_most : z_M := (yX10_most, cX10_most, 3, (some .int))
def mX10_isItem : z_M := (yX10_isItem, cX10_isItem, 6, (some .boolean))
def mX10_fault : z_M := (yX10_fault, cX10_fault, 2, (some .int))
def mX10_lay : z_M := (yX10_lay, cX10_lay, 2, (some .int))
def mX10_serves : z_M := (yX10_serves, cX10_serves, 4, (some .boolean))
def mX10_wakes : z_M := (yX10_wakes, cX10_wakes, 5, (some .boolean))
def mX10_isDogNight : z_M := (yX10_isDogNight, cX10_isDogNight, 2, (some .boolean))
def mX10_layWalks : z_M := (yX10_layWalks, cX10_layWalks, 5, none)
def mX10_layNight : z_M := (yX10_layNight, cX10_layNight, 10, none)
def mX10_goBy : z_M := (yX10_goBy, cX10_goBy, 6, (some .int))
def mX10_layNow : z_M := (yX10_layNow, cX10_layNow, 1, none)
def mX10_staff : z_M := (yX10_staff, cX10_staff, 3, (some .int))
def mX10_customer : z_M := (yX10_customer, cX10_customer, 3, (some .int))
def mX10_quarrel : z_M := (yX10_quarrel, cX10_quarrel, 3, (some .int))
def mX10_woken : z_M := (yX10_woken, cX10_woken, 1, (some .int))
def mX10_note : z_M := (yX10_note, cX10_note, 1, none)
def mX10_pass : z_M := (yX10_pass, cX10_pass, 3, (some .int))
def mX10_supper : z_M := (yX10_supper, cX10_supper, 2, (some .int))
def mX10_settle : z_M := (yX10_settle, cX10_settle, 3, (some .int))
def mX10_lull : z_M := (yX10_lull, cX10_lull, 3, (some .int))
def mX10_undo : z_M := (yX10_undo, cX10_undo, 1, (some .int))
def mX10_begin : z_M := (yX10_begin, cX10_begin, 1, none)
def mX10_behind : z_M := (yX10_behind, cX10_behind, 4, (some .int))
def mX10_ham : z_M := (yX10_ham, cX10_ham, 3, (some .int))
def mX10_suppers : z_M := (yX10_suppers, cX10_suppers, 6, (some .int))
def mX10_makeUp : z_M := (yX10_makeUp, cX10_makeUp, 5, none)
def mX10_apart : z_M := (yX10_apart, cX10_apart, 8, (some .int))
def mX10_ask : z_M := (yX10_ask, cX10_ask, 3, (some .int))
def mX10_see : z_M := (yX10_see, cX10_see, 4, (some .int))
def mX10_forget : z_M := (yX10_forget, cX10_forget, 2, (some .int))
def mX10_law : z_M := (yX10_law, cX10_law, 9, (some .int))
def mX10_did : z_M := (yX10_did, cX10_did, 5, (some .int))
def mX10_dogs : z_M := (yX10_dogs, cX10_dogs, 10, (some .int))
def mX10_year : z_M := (yX10_year, cX10_year, 8, (some .int))
def mX10_keep : z_M := (yX10_keep, cX10_keep, 1, (some .int))
def mX10_back : z_M := (yX10_back, cX10_back, 1, (some .int))
def mX10_count : z_M := (yX10_count, cX10_count, 2, (some .int))
def mJ9_max_7cf53 : z_M := (yJ9_max_7cf53, cJ9_max_7cf53, 2, (some .int))
