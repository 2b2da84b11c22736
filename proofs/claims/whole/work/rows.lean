section
-- ===== PART A: goes FIRST, ahead of the names: the tables' words, and 'selects' of the private methods out of them =====
/-- a private method of a class that the tables say can be made, by its rows of tables_1 -/
def lw_okq (q : MethodName × Nat) : Prop := (q.1.cls ≠ "java/lang/invoke/MethodHandle" ∧ q.1.cls ≠ "java/lang/invoke/VarHandle") ∧ Cond.instantiable q.1.cls q.2 ∈ tables_1 ∧ Cond.privateMethod q.1 ∈ tables_1 ∧ Cond.instanceMethod q.1 ∈ tables_1
theorem lw_p0 : lw_okq (⟨"SleepersShop$Reader", "readItem", "()Z"⟩, 4) := ⟨⟨by decide +kernel, by decide +kernel⟩, List.mem_of_getElem? (i := 128) (by decide +kernel), List.mem_of_getElem? (i := 354) (by decide +kernel), List.mem_of_getElem? (i := 355) (by decide +kernel)⟩
theorem lw_p1 : lw_okq (⟨"SleepersShop$Reader", "readNumbers", "(I)Z"⟩, 4) := ⟨⟨by decide +kernel, by decide +kernel⟩, List.mem_of_getElem? (i := 128) (by decide +kernel), List.mem_of_getElem? (i := 362) (by decide +kernel), List.mem_of_getElem? (i := 363) (by decide +kernel)⟩
theorem lw_p2 : lw_okq (⟨"SleepersShop$Reader", "readNumber", "()I"⟩, 4) := ⟨⟨by decide +kernel, by decide +kernel⟩, List.mem_of_getElem? (i := 128) (by decide +kernel), List.mem_of_getElem? (i := 366) (by decide +kernel), List.mem_of_getElem? (i := 367) (by decide +kernel)⟩
theorem lw_p3 : lw_okq (⟨"SleepersShop$Reader", "figure", "()I"⟩, 4) := ⟨⟨by decide +kernel, by decide +kernel⟩, List.mem_of_getElem? (i := 128) (by decide +kernel), List.mem_of_getElem? (i := 370) (by decide +kernel), List.mem_of_getElem? (i := 371) (by decide +kernel)⟩
theorem lw_p4 : lw_okq (⟨"SleepersShop$Reader", "takeStaff", "()Z"⟩, 4) := ⟨⟨by decide +kernel, by decide +kernel⟩, List.mem_of_getElem? (i := 128) (by decide +kernel), List.mem_of_getElem? (i := 381) (by decide +kernel), List.mem_of_getElem? (i := 382) (by decide +kernel)⟩
theorem lw_p5 : lw_okq (⟨"SleepersShop$Reader", "takeQuarrel", "()Z"⟩, 4) := ⟨⟨by decide +kernel, by decide +kernel⟩, List.mem_of_getElem? (i := 128) (by decide +kernel), List.mem_of_getElem? (i := 398) (by decide +kernel), List.mem_of_getElem? (i := 399) (by decide +kernel)⟩
theorem lw_p6 : lw_okq (⟨"SleepersShop$Reader", "takeCustomer", "()Z"⟩, 4) := ⟨⟨by decide +kernel, by decide +kernel⟩, List.mem_of_getElem? (i := 128) (by decide +kernel), List.mem_of_getElem? (i := 414) (by decide +kernel), List.mem_of_getElem? (i := 415) (by decide +kernel)⟩
theorem lw_p7 : lw_okq (⟨"SleepersShop$Reader", "takeDog", "()Z"⟩, 4) := ⟨⟨by decide +kernel, by decide +kernel⟩, List.mem_of_getElem? (i := 128) (by decide +kernel), List.mem_of_getElem? (i := 418) (by decide +kernel), List.mem_of_getElem? (i := 419) (by decide +kernel)⟩
theorem lw_p8 : lw_okq (⟨"SleepersShop", "openDraft", "()V"⟩, 11) := ⟨⟨by decide +kernel, by decide +kernel⟩, List.mem_of_getElem? (i := 19) (by decide +kernel), List.mem_of_getElem? (i := 422) (by decide +kernel), List.mem_of_getElem? (i := 423) (by decide +kernel)⟩
theorem lw_p9 : lw_okq (⟨"SleepersShop", "isStaff", "(I)Z"⟩, 11) := ⟨⟨by decide +kernel, by decide +kernel⟩, List.mem_of_getElem? (i := 19) (by decide +kernel), List.mem_of_getElem? (i := 507) (by decide +kernel), List.mem_of_getElem? (i := 508) (by decide +kernel)⟩
theorem lw_p10 : lw_okq (⟨"SleepersShop", "walkersTonight", "()I"⟩, 11) := ⟨⟨by decide +kernel, by decide +kernel⟩, List.mem_of_getElem? (i := 19) (by decide +kernel), List.mem_of_getElem? (i := 512) (by decide +kernel), List.mem_of_getElem? (i := 513) (by decide +kernel)⟩
theorem lw_p11 : lw_okq (⟨"SleepersShop$Night", "isBarred", "(II)Z"⟩, 9) := ⟨⟨by decide +kernel, by decide +kernel⟩, List.mem_of_getElem? (i := 149) (by decide +kernel), List.mem_of_getElem? (i := 534) (by decide +kernel), List.mem_of_getElem? (i := 535) (by decide +kernel)⟩
theorem lw_p12 : lw_okq (⟨"SleepersShop", "isCustomer", "(I)Z"⟩, 11) := ⟨⟨by decide +kernel, by decide +kernel⟩, List.mem_of_getElem? (i := 19) (by decide +kernel), List.mem_of_getElem? (i := 546) (by decide +kernel), List.mem_of_getElem? (i := 547) (by decide +kernel)⟩
theorem lw_p13 : lw_okq (⟨"SleepersShop", "serverTonight", "(I)I"⟩, 11) := ⟨⟨by decide +kernel, by decide +kernel⟩, List.mem_of_getElem? (i := 19) (by decide +kernel), List.mem_of_getElem? (i := 554) (by decide +kernel), List.mem_of_getElem? (i := 555) (by decide +kernel)⟩
theorem lw_p14 : lw_okq (⟨"SleepersShop", "playTonight", "()V"⟩, 11) := ⟨⟨by decide +kernel, by decide +kernel⟩, List.mem_of_getElem? (i := 19) (by decide +kernel), List.mem_of_getElem? (i := 558) (by decide +kernel), List.mem_of_getElem? (i := 559) (by decide +kernel)⟩
theorem lw_p15 : lw_okq (⟨"SleepersShop$Night", "attend", "(I)V"⟩, 9) := ⟨⟨by decide +kernel, by decide +kernel⟩, List.mem_of_getElem? (i := 149) (by decide +kernel), List.mem_of_getElem? (i := 568) (by decide +kernel), List.mem_of_getElem? (i := 569) (by decide +kernel)⟩
def lw_privs_1 : List (MethodName × Nat) := [(⟨"SleepersShop$Reader", "readItem", "()Z"⟩, 4), (⟨"SleepersShop$Reader", "readNumbers", "(I)Z"⟩, 4), (⟨"SleepersShop$Reader", "readNumber", "()I"⟩, 4), (⟨"SleepersShop$Reader", "figure", "()I"⟩, 4), (⟨"SleepersShop$Reader", "takeStaff", "()Z"⟩, 4), (⟨"SleepersShop$Reader", "takeQuarrel", "()Z"⟩, 4), (⟨"SleepersShop$Reader", "takeCustomer", "()Z"⟩, 4), (⟨"SleepersShop$Reader", "takeDog", "()Z"⟩, 4), (⟨"SleepersShop", "openDraft", "()V"⟩, 11), (⟨"SleepersShop", "isStaff", "(I)Z"⟩, 11), (⟨"SleepersShop", "walkersTonight", "()I"⟩, 11), (⟨"SleepersShop$Night", "isBarred", "(II)Z"⟩, 9), (⟨"SleepersShop", "isCustomer", "(I)Z"⟩, 11), (⟨"SleepersShop", "serverTonight", "(I)I"⟩, 11), (⟨"SleepersShop", "playTonight", "()V"⟩, 11), (⟨"SleepersShop$Night", "attend", "(I)V"⟩, 9)]
theorem lw_r1 : ∀ q ∈ lw_privs_1, lw_okq q := List.forall_mem_cons.mpr ⟨lw_p0, List.forall_mem_cons.mpr ⟨lw_p1, List.forall_mem_cons.mpr ⟨lw_p2, List.forall_mem_cons.mpr ⟨lw_p3, List.forall_mem_cons.mpr ⟨lw_p4, List.forall_mem_cons.mpr ⟨lw_p5, List.forall_mem_cons.mpr ⟨lw_p6, List.forall_mem_cons.mpr ⟨lw_p7, List.forall_mem_cons.mpr ⟨lw_p8, List.forall_mem_cons.mpr ⟨lw_p9, List.forall_mem_cons.mpr ⟨lw_p10, List.forall_mem_cons.mpr ⟨lw_p11, List.forall_mem_cons.mpr ⟨lw_p12, List.forall_mem_cons.mpr ⟨lw_p13, List.forall_mem_cons.mpr ⟨lw_p14, List.forall_mem_cons.mpr ⟨lw_p15, fun _ h => absurd h List.not_mem_nil⟩⟩⟩⟩⟩⟩⟩⟩⟩⟩⟩⟩⟩⟩⟩⟩
theorem lw_p16 : lw_okq (⟨"SleepersShop$Night", "isReadyFor", "(II)Z"⟩, 9) := ⟨⟨by decide +kernel, by decide +kernel⟩, List.mem_of_getElem? (i := 149) (by decide +kernel), List.mem_of_getElem? (i := 572) (by decide +kernel), List.mem_of_getElem? (i := 573) (by decide +kernel)⟩
theorem lw_p17 : lw_okq (⟨"SleepersShop$Night", "sell", "(II)V"⟩, 9) := ⟨⟨by decide +kernel, by decide +kernel⟩, List.mem_of_getElem? (i := 149) (by decide +kernel), List.mem_of_getElem? (i := 583) (by decide +kernel), List.mem_of_getElem? (i := 584) (by decide +kernel)⟩
theorem lw_p18 : lw_okq (⟨"SleepersShop", "areTwoStaff", "(II)Z"⟩, 11) := ⟨⟨by decide +kernel, by decide +kernel⟩, List.mem_of_getElem? (i := 19) (by decide +kernel), List.mem_of_getElem? (i := 592) (by decide +kernel), List.mem_of_getElem? (i := 593) (by decide +kernel)⟩
theorem lw_p19 : lw_okq (⟨"SleepersShop$Shelf", "dropOldest", "()V"⟩, 2) := ⟨⟨by decide +kernel, by decide +kernel⟩, List.mem_of_getElem? (i := 235) (by decide +kernel), List.mem_of_getElem? (i := 609) (by decide +kernel), List.mem_of_getElem? (i := 610) (by decide +kernel)⟩
theorem lw_p20 : lw_okq (⟨"SleepersShop", "goBy", "(LSleepersShop$State;I)V"⟩, 11) := ⟨⟨by decide +kernel, by decide +kernel⟩, List.mem_of_getElem? (i := 19) (by decide +kernel), List.mem_of_getElem? (i := 618) (by decide +kernel), List.mem_of_getElem? (i := 619) (by decide +kernel)⟩
theorem lw_p21 : lw_okq (⟨"SleepersShop", "servedIfFed", "(I)I"⟩, 11) := ⟨⟨by decide +kernel, by decide +kernel⟩, List.mem_of_getElem? (i := 19) (by decide +kernel), List.mem_of_getElem? (i := 667) (by decide +kernel), List.mem_of_getElem? (i := 668) (by decide +kernel)⟩
theorem lw_p22 : lw_okq (⟨"SleepersShop", "servedIfMadeUp", "(II)I"⟩, 11) := ⟨⟨by decide +kernel, by decide +kernel⟩, List.mem_of_getElem? (i := 19) (by decide +kernel), List.mem_of_getElem? (i := 680) (by decide +kernel), List.mem_of_getElem? (i := 681) (by decide +kernel)⟩
theorem lw_p23 : lw_okq (⟨"SleepersShop", "isWithoutHam", "(II)Z"⟩, 11) := ⟨⟨by decide +kernel, by decide +kernel⟩, List.mem_of_getElem? (i := 19) (by decide +kernel), List.mem_of_getElem? (i := 728) (by decide +kernel), List.mem_of_getElem? (i := 729) (by decide +kernel)⟩
theorem lw_p24 : lw_okq (⟨"SleepersShopModel", "addOne", "(IIIII)V"⟩, 30) := ⟨⟨by decide +kernel, by decide +kernel⟩, List.mem_of_getElem? (i := 768) (by decide +kernel), List.mem_of_getElem? (i := 774) (by decide +kernel), List.mem_of_getElem? (i := 775) (by decide +kernel)⟩
theorem lw_p25 : lw_okq (⟨"SleepersShopModel", "addGuest", "(IIIII)V"⟩, 30) := ⟨⟨by decide +kernel, by decide +kernel⟩, List.mem_of_getElem? (i := 768) (by decide +kernel), List.mem_of_getElem? (i := 781) (by decide +kernel), List.mem_of_getElem? (i := 782) (by decide +kernel)⟩
theorem lw_p26 : lw_okq (⟨"SleepersShopModel", "isItem", "()Z"⟩, 30) := ⟨⟨by decide +kernel, by decide +kernel⟩, List.mem_of_getElem? (i := 768) (by decide +kernel), List.mem_of_getElem? (i := 891) (by decide +kernel), List.mem_of_getElem? (i := 892) (by decide +kernel)⟩
theorem lw_p27 : lw_okq (⟨"SleepersShopModel", "letterAt", "(I)I"⟩, 30) := ⟨⟨by decide +kernel, by decide +kernel⟩, List.mem_of_getElem? (i := 768) (by decide +kernel), List.mem_of_getElem? (i := 895) (by decide +kernel), List.mem_of_getElem? (i := 896) (by decide +kernel)⟩
theorem lw_p28 : lw_okq (⟨"SleepersShopModel", "least", "(II)I"⟩, 30) := ⟨⟨by decide +kernel, by decide +kernel⟩, List.mem_of_getElem? (i := 768) (by decide +kernel), List.mem_of_getElem? (i := 899) (by decide +kernel), List.mem_of_getElem? (i := 900) (by decide +kernel)⟩
theorem lw_p29 : lw_okq (⟨"SleepersShopModel", "most", "(II)I"⟩, 30) := ⟨⟨by decide +kernel, by decide +kernel⟩, List.mem_of_getElem? (i := 768) (by decide +kernel), List.mem_of_getElem? (i := 903) (by decide +kernel), List.mem_of_getElem? (i := 904) (by decide +kernel)⟩
theorem lw_p30 : lw_okq (⟨"SleepersShopModel", "isNumber", "(III)Z"⟩, 30) := ⟨⟨by decide +kernel, by decide +kernel⟩, List.mem_of_getElem? (i := 768) (by decide +kernel), List.mem_of_getElem? (i := 907) (by decide +kernel), List.mem_of_getElem? (i := 908) (by decide +kernel)⟩
theorem lw_p31 : lw_okq (⟨"SleepersShopModel", "isOne", "(I)Z"⟩, 30) := ⟨⟨by decide +kernel, by decide +kernel⟩, List.mem_of_getElem? (i := 768) (by decide +kernel), List.mem_of_getElem? (i := 932) (by decide +kernel), List.mem_of_getElem? (i := 933) (by decide +kernel)⟩
def lw_privs_2 : List (MethodName × Nat) := [(⟨"SleepersShop$Night", "isReadyFor", "(II)Z"⟩, 9), (⟨"SleepersShop$Night", "sell", "(II)V"⟩, 9), (⟨"SleepersShop", "areTwoStaff", "(II)Z"⟩, 11), (⟨"SleepersShop$Shelf", "dropOldest", "()V"⟩, 2), (⟨"SleepersShop", "goBy", "(LSleepersShop$State;I)V"⟩, 11), (⟨"SleepersShop", "servedIfFed", "(I)I"⟩, 11), (⟨"SleepersShop", "servedIfMadeUp", "(II)I"⟩, 11), (⟨"SleepersShop", "isWithoutHam", "(II)Z"⟩, 11), (⟨"SleepersShopModel", "addOne", "(IIIII)V"⟩, 30), (⟨"SleepersShopModel", "addGuest", "(IIIII)V"⟩, 30), (⟨"SleepersShopModel", "isItem", "()Z"⟩, 30), (⟨"SleepersShopModel", "letterAt", "(I)I"⟩, 30), (⟨"SleepersShopModel", "least", "(II)I"⟩, 30), (⟨"SleepersShopModel", "most", "(II)I"⟩, 30), (⟨"SleepersShopModel", "isNumber", "(III)Z"⟩, 30), (⟨"SleepersShopModel", "isOne", "(I)Z"⟩, 30)]
theorem lw_r2 : ∀ q ∈ lw_privs_2, lw_okq q := List.forall_mem_cons.mpr ⟨lw_p16, List.forall_mem_cons.mpr ⟨lw_p17, List.forall_mem_cons.mpr ⟨lw_p18, List.forall_mem_cons.mpr ⟨lw_p19, List.forall_mem_cons.mpr ⟨lw_p20, List.forall_mem_cons.mpr ⟨lw_p21, List.forall_mem_cons.mpr ⟨lw_p22, List.forall_mem_cons.mpr ⟨lw_p23, List.forall_mem_cons.mpr ⟨lw_p24, List.forall_mem_cons.mpr ⟨lw_p25, List.forall_mem_cons.mpr ⟨lw_p26, List.forall_mem_cons.mpr ⟨lw_p27, List.forall_mem_cons.mpr ⟨lw_p28, List.forall_mem_cons.mpr ⟨lw_p29, List.forall_mem_cons.mpr ⟨lw_p30, List.forall_mem_cons.mpr ⟨lw_p31, fun _ h => absurd h List.not_mem_nil⟩⟩⟩⟩⟩⟩⟩⟩⟩⟩⟩⟩⟩⟩⟩⟩
theorem lw_p32 : lw_okq (⟨"SleepersShopModel", "layNow", "()V"⟩, 30) := ⟨⟨by decide +kernel, by decide +kernel⟩, List.mem_of_getElem? (i := 768) (by decide +kernel), List.mem_of_getElem? (i := 936) (by decide +kernel), List.mem_of_getElem? (i := 937) (by decide +kernel)⟩
theorem lw_p33 : lw_okq (⟨"SleepersShopModel", "layNight", "([III)V"⟩, 30) := ⟨⟨by decide +kernel, by decide +kernel⟩, List.mem_of_getElem? (i := 768) (by decide +kernel), List.mem_of_getElem? (i := 940) (by decide +kernel), List.mem_of_getElem? (i := 941) (by decide +kernel)⟩
theorem lw_p34 : lw_okq (⟨"SleepersShopModel", "layWalks", "([I)V"⟩, 30) := ⟨⟨by decide +kernel, by decide +kernel⟩, List.mem_of_getElem? (i := 768) (by decide +kernel), List.mem_of_getElem? (i := 944) (by decide +kernel), List.mem_of_getElem? (i := 945) (by decide +kernel)⟩
theorem lw_p35 : lw_okq (⟨"SleepersShopModel", "isDogNight", "(I)Z"⟩, 30) := ⟨⟨by decide +kernel, by decide +kernel⟩, List.mem_of_getElem? (i := 768) (by decide +kernel), List.mem_of_getElem? (i := 948) (by decide +kernel), List.mem_of_getElem? (i := 949) (by decide +kernel)⟩
theorem lw_p36 : lw_okq (⟨"SleepersShopModel", "serves", "(II)Z"⟩, 30) := ⟨⟨by decide +kernel, by decide +kernel⟩, List.mem_of_getElem? (i := 768) (by decide +kernel), List.mem_of_getElem? (i := 952) (by decide +kernel), List.mem_of_getElem? (i := 953) (by decide +kernel)⟩
theorem lw_p37 : lw_okq (⟨"SleepersShopModel", "wakes", "(III)Z"⟩, 30) := ⟨⟨by decide +kernel, by decide +kernel⟩, List.mem_of_getElem? (i := 768) (by decide +kernel), List.mem_of_getElem? (i := 956) (by decide +kernel), List.mem_of_getElem? (i := 957) (by decide +kernel)⟩
theorem lw_p38 : lw_okq (⟨"SleepersShopModel", "isGuest", "(I)Z"⟩, 30) := ⟨⟨by decide +kernel, by decide +kernel⟩, List.mem_of_getElem? (i := 768) (by decide +kernel), List.mem_of_getElem? (i := 964) (by decide +kernel), List.mem_of_getElem? (i := 965) (by decide +kernel)⟩
theorem lw_p39 : lw_okq (⟨"SleepersShopModel", "areTwo", "(II)Z"⟩, 30) := ⟨⟨by decide +kernel, by decide +kernel⟩, List.mem_of_getElem? (i := 768) (by decide +kernel), List.mem_of_getElem? (i := 972) (by decide +kernel), List.mem_of_getElem? (i := 973) (by decide +kernel)⟩
theorem lw_p40 : lw_okq (⟨"SleepersShopModel", "note", "()V"⟩, 30) := ⟨⟨by decide +kernel, by decide +kernel⟩, List.mem_of_getElem? (i := 768) (by decide +kernel), List.mem_of_getElem? (i := 984) (by decide +kernel), List.mem_of_getElem? (i := 985) (by decide +kernel)⟩
theorem lw_p41 : lw_okq (⟨"SleepersShopModel", "goBy", "([I)I"⟩, 30) := ⟨⟨by decide +kernel, by decide +kernel⟩, List.mem_of_getElem? (i := 768) (by decide +kernel), List.mem_of_getElem? (i := 988) (by decide +kernel), List.mem_of_getElem? (i := 989) (by decide +kernel)⟩
theorem lw_p42 : lw_okq (⟨"SleepersShopModel", "begin", "()V"⟩, 30) := ⟨⟨by decide +kernel, by decide +kernel⟩, List.mem_of_getElem? (i := 768) (by decide +kernel), List.mem_of_getElem? (i := 1012) (by decide +kernel), List.mem_of_getElem? (i := 1013) (by decide +kernel)⟩
theorem lw_p43 : lw_okq (⟨"SleepersShopModel", "makeUp", "(I)V"⟩, 30) := ⟨⟨by decide +kernel, by decide +kernel⟩, List.mem_of_getElem? (i := 768) (by decide +kernel), List.mem_of_getElem? (i := 1028) (by decide +kernel), List.mem_of_getElem? (i := 1029) (by decide +kernel)⟩
def lw_privs_3 : List (MethodName × Nat) := [(⟨"SleepersShopModel", "layNow", "()V"⟩, 30), (⟨"SleepersShopModel", "layNight", "([III)V"⟩, 30), (⟨"SleepersShopModel", "layWalks", "([I)V"⟩, 30), (⟨"SleepersShopModel", "isDogNight", "(I)Z"⟩, 30), (⟨"SleepersShopModel", "serves", "(II)Z"⟩, 30), (⟨"SleepersShopModel", "wakes", "(III)Z"⟩, 30), (⟨"SleepersShopModel", "isGuest", "(I)Z"⟩, 30), (⟨"SleepersShopModel", "areTwo", "(II)Z"⟩, 30), (⟨"SleepersShopModel", "note", "()V"⟩, 30), (⟨"SleepersShopModel", "goBy", "([I)I"⟩, 30), (⟨"SleepersShopModel", "begin", "()V"⟩, 30), (⟨"SleepersShopModel", "makeUp", "(I)V"⟩, 30)]
theorem lw_r3 : ∀ q ∈ lw_privs_3, lw_okq q := List.forall_mem_cons.mpr ⟨lw_p32, List.forall_mem_cons.mpr ⟨lw_p33, List.forall_mem_cons.mpr ⟨lw_p34, List.forall_mem_cons.mpr ⟨lw_p35, List.forall_mem_cons.mpr ⟨lw_p36, List.forall_mem_cons.mpr ⟨lw_p37, List.forall_mem_cons.mpr ⟨lw_p38, List.forall_mem_cons.mpr ⟨lw_p39, List.forall_mem_cons.mpr ⟨lw_p40, List.forall_mem_cons.mpr ⟨lw_p41, List.forall_mem_cons.mpr ⟨lw_p42, List.forall_mem_cons.mpr ⟨lw_p43, fun _ h => absurd h List.not_mem_nil⟩⟩⟩⟩⟩⟩⟩⟩⟩⟩⟩⟩
def lw_privs : List (MethodName × Nat) := lw_privs_1 ++ (lw_privs_2 ++ (lw_privs_3))
def lw_tbl : List Cond := k2_sels lw_privs ++ tables_1
theorem lw_privs_ok : ∀ q ∈ lw_privs, lw_okq q := by
  show ∀ q ∈ lw_privs_1 ++ (lw_privs_2 ++ (lw_privs_3)), lw_okq q
  exact List.forall_mem_append.mpr ⟨lw_r1, List.forall_mem_append.mpr ⟨lw_r2, lw_r3⟩⟩

def RX0 : String := "SleepersShop$Choice"
def TX0 : u_T := fun k => match k with
  | 0 => ("SleepersShop$Choice", "set", "I", false)
  | _ => ("SleepersShop$Choice", "served", "I", false)
def tyX0 : Nat → FieldType := fun k => match k with
  | 0 => .int
  | _ => .int
theorem nmX0 : ∀ a, a < 2 → ∀ b, b < 2 → a ≠ b → (TX0 a).2.1 ≠ (TX0 b).2.1 := by decide +kernel
theorem tyX0_ok : ∀ k, k < 2 → parseFieldDescriptor (TX0 k).2.2.1 = some (tyX0 k) := by decide +kernel
abbrev cX0_init : ByteArray := prog_2_method_1_code
def yX0_init : MethodName := ⟨RX0, "<init>", "()V"⟩
abbrev cX0_clear : ByteArray := prog_2_method_2_code
def yX0_clear : MethodName := ⟨RX0, "clear", "()V"⟩
abbrev cX0_offer : ByteArray := prog_2_method_3_code
def yX0_offer : MethodName := ⟨RX0, "offer", "(II)V"⟩
def RX1 : String := "SleepersShop$Night"
def TX1 : u_T := fun k => match k with
  | 0 => ("SleepersShop$Night", "shop", "LSleepersShop$Shop;", true)
  | 1 => ("SleepersShop$Night", "sellers", "LSleepersShop$Row;", true)
  | 2 => ("SleepersShop$Night", "walkers", "I", false)
  | 3 => ("SleepersShop$Night", "wokenOnes", "I", false)
  | 4 => ("SleepersShop$Night", "served", "I", false)
  | 5 => ("SleepersShop$Night", "hams", "I", false)
  | 6 => ("SleepersShop$Night", "firstWithHam", "I", false)
  | 7 => ("SleepersShop$Night", "till", "I", false)
  | _ => ("SleepersShop$Night", "drawer", "I", false)
def tyX1 : Nat → FieldType := fun k => match k with
  | 0 => .object "SleepersShop$Shop"
  | 1 => .object "SleepersShop$Row"
  | 2 => .int
  | 3 => .int
  | 4 => .int
  | 5 => .int
  | 6 => .int
  | 7 => .int
  | _ => .int
theorem nmX1 : ∀ a, a < 9 → ∀ b, b < 9 → a ≠ b → (TX1 a).2.1 ≠ (TX1 b).2.1 := by decide +kernel
theorem tyX1_ok : ∀ k, k < 9 → parseFieldDescriptor (TX1 k).2.2.1 = some (tyX1 k) := by decide +kernel
abbrev cX1_init : ByteArray := prog_3_method_1_code
def yX1_init : MethodName := ⟨RX1, "<init>", "(LSleepersShop$Shop;)V"⟩
abbrev cX1_play : ByteArray := prog_3_method_2_code
def yX1_play : MethodName := ⟨RX1, "play", "(LSleepersShop$State;ZI)V"⟩
abbrev cX1_open : ByteArray := prog_3_method_3_code
def yX1_open : MethodName := ⟨RX1, "open", "(LSleepersShop$State;Z)V"⟩
abbrev cX1_isBarred : ByteArray := prog_3_method_4_code
def yX1_isBarred : MethodName := ⟨RX1, "isBarred", "(II)Z"⟩
abbrev cX1_attend : ByteArray := prog_3_method_5_code
def yX1_attend : MethodName := ⟨RX1, "attend", "(I)V"⟩
abbrev cX1_isReadyFor : ByteArray := prog_3_method_6_code
def yX1_isReadyFor : MethodName := ⟨RX1, "isReadyFor", "(II)Z"⟩
abbrev cX1_firstFor : ByteArray := prog_3_method_7_code
def yX1_firstFor : MethodName := ⟨RX1, "firstFor", "(I)I"⟩
abbrev cX1_sell : ByteArray := prog_3_method_8_code
def yX1_sell : MethodName := ⟨RX1, "sell", "(II)V"⟩
abbrev cX1_close : ByteArray := prog_3_method_9_code
def yX1_close : MethodName := ⟨RX1, "close", "(LSleepersShop$State;)V"⟩
def RX2 : String := "SleepersShop$Reader"
def TX2 : u_T := fun k => match k with
  | 0 => ("SleepersShop$Reader", "text", "LSleepersShop$Text;", true)
  | 1 => ("SleepersShop$Reader", "draft", "LSleepersShop$Shop;", true)
  | 2 => ("SleepersShop$Reader", "numbers", "LSleepersShop$Row;", true)
  | _ => ("SleepersShop$Reader", "place", "I", false)
def tyX2 : Nat → FieldType := fun k => match k with
  | 0 => .object "SleepersShop$Text"
  | 1 => .object "SleepersShop$Shop"
  | 2 => .object "SleepersShop$Row"
  | _ => .int
theorem nmX2 : ∀ a, a < 4 → ∀ b, b < 4 → a ≠ b → (TX2 a).2.1 ≠ (TX2 b).2.1 := by decide +kernel
theorem tyX2_ok : ∀ k, k < 4 → parseFieldDescriptor (TX2 k).2.2.1 = some (tyX2 k) := by decide +kernel
abbrev cX2_init : ByteArray := prog_4_method_1_code
def yX2_init : MethodName := ⟨RX2, "<init>", "(LSleepersShop$Text;LSleepersShop$Shop;)V"⟩
abbrev cX2_read : ByteArray := prog_4_method_2_code
def yX2_read : MethodName := ⟨RX2, "read", "()I"⟩
abbrev cX2_readItem : ByteArray := prog_4_method_3_code
def yX2_readItem : MethodName := ⟨RX2, "readItem", "()Z"⟩
abbrev cX2_readNumbers : ByteArray := prog_4_method_4_code
def yX2_readNumbers : MethodName := ⟨RX2, "readNumbers", "(I)Z"⟩
abbrev cX2_readNumber : ByteArray := prog_4_method_5_code
def yX2_readNumber : MethodName := ⟨RX2, "readNumber", "()I"⟩
abbrev cX2_figure : ByteArray := prog_4_method_6_code
def yX2_figure : MethodName := ⟨RX2, "figure", "()I"⟩
abbrev cX2_takeStaff : ByteArray := prog_4_method_7_code
def yX2_takeStaff : MethodName := ⟨RX2, "takeStaff", "()Z"⟩
abbrev cX2_takeQuarrel : ByteArray := prog_4_method_8_code
def yX2_takeQuarrel : MethodName := ⟨RX2, "takeQuarrel", "()Z"⟩
abbrev cX2_takeCustomer : ByteArray := prog_4_method_9_code
def yX2_takeCustomer : MethodName := ⟨RX2, "takeCustomer", "()Z"⟩
abbrev cX2_takeDog : ByteArray := prog_4_method_10_code
def yX2_takeDog : MethodName := ⟨RX2, "takeDog", "()Z"⟩
def RX3 : String := "SleepersShop$Row"
def TX3 : u_T := fun k => match k with
  | _ => ("SleepersShop$Row", "cells", "[I", true)
def tyX3 : Nat → FieldType := fun k => match k with
  | _ => .array .int
theorem nmX3 : ∀ a, a < 1 → ∀ b, b < 1 → a ≠ b → (TX3 a).2.1 ≠ (TX3 b).2.1 := by decide +kernel
theorem tyX3_ok : ∀ k, k < 1 → parseFieldDescriptor (TX3 k).2.2.1 = some (tyX3 k) := by decide +kernel
abbrev cX3_init : ByteArray := prog_5_method_1_code
def yX3_init : MethodName := ⟨RX3, "<init>", "(I)V"⟩
abbrev cX3_at : ByteArray := prog_5_method_2_code
def yX3_at : MethodName := ⟨RX3, "at", "(I)I"⟩
abbrev cX3_put : ByteArray := prog_5_method_3_code
def yX3_put : MethodName := ⟨RX3, "put", "(II)V"⟩
abbrev cX3_fill : ByteArray := prog_5_method_4_code
def yX3_fill : MethodName := ⟨RX3, "fill", "(I)V"⟩
abbrev cX3_copy : ByteArray := prog_5_method_5_code
def yX3_copy : MethodName := ⟨RX3, "copy", "(LSleepersShop$Row;)V"⟩
def RX4 : String := "SleepersShop$Shelf"
def TX4 : u_T := fun k => match k with
  | 0 => ("SleepersShop$Shelf", "states", "[LSleepersShop$State;", true)
  | _ => ("SleepersShop$Shelf", "size", "I", false)
def tyX4 : Nat → FieldType := fun k => match k with
  | 0 => .array (.object "SleepersShop$State")
  | _ => .int
theorem nmX4 : ∀ a, a < 2 → ∀ b, b < 2 → a ≠ b → (TX4 a).2.1 ≠ (TX4 b).2.1 := by decide +kernel
theorem tyX4_ok : ∀ k, k < 2 → parseFieldDescriptor (TX4 k).2.2.1 = some (tyX4 k) := by decide +kernel
abbrev cX4_init : ByteArray := prog_6_method_1_code
def yX4_init : MethodName := ⟨RX4, "<init>", "(I)V"⟩
abbrev cX4_clear : ByteArray := prog_6_method_2_code
def yX4_clear : MethodName := ⟨RX4, "clear", "()V"⟩
abbrev cX4_put : ByteArray := prog_6_method_3_code
def yX4_put : MethodName := ⟨RX4, "put", "(LSleepersShop$State;)V"⟩
abbrev cX4_dropOldest : ByteArray := prog_6_method_4_code
def yX4_dropOldest : MethodName := ⟨RX4, "dropOldest", "()V"⟩
abbrev cX4_takeInto : ByteArray := prog_6_method_5_code
def yX4_takeInto : MethodName := ⟨RX4, "takeInto", "(LSleepersShop$State;)V"⟩
def RX5 : String := "SleepersShop$Shop"
def TX5 : u_T := fun k => match k with
  | 0 => ("SleepersShop$Shop", "kinds", "LSleepersShop$Row;", true)
  | 1 => ("SleepersShop$Shop", "skills", "LSleepersShop$Row;", true)
  | 2 => ("SleepersShop$Shop", "everies", "LSleepersShop$Row;", true)
  | 3 => ("SleepersShop$Shop", "offsets", "LSleepersShop$Row;", true)
  | 4 => ("SleepersShop$Shop", "nights", "LSleepersShop$Row;", true)
  | 5 => ("SleepersShop$Shop", "things", "LSleepersShop$Row;", true)
  | 6 => ("SleepersShop$Shop", "ways", "LSleepersShop$Row;", true)
  | 7 => ("SleepersShop$Shop", "pences", "LSleepersShop$Row;", true)
  | 8 => ("SleepersShop$Shop", "servers", "LSleepersShop$Row;", true)
  | 9 => ("SleepersShop$Shop", "staffSize", "I", false)
  | 10 => ("SleepersShop$Shop", "customerSize", "I", false)
  | 11 => ("SleepersShop$Shop", "quarrels", "I", false)
  | _ => ("SleepersShop$Shop", "dogEvery", "I", false)
def tyX5 : Nat → FieldType := fun k => match k with
  | 0 => .object "SleepersShop$Row"
  | 1 => .object "SleepersShop$Row"
  | 2 => .object "SleepersShop$Row"
  | 3 => .object "SleepersShop$Row"
  | 4 => .object "SleepersShop$Row"
  | 5 => .object "SleepersShop$Row"
  | 6 => .object "SleepersShop$Row"
  | 7 => .object "SleepersShop$Row"
  | 8 => .object "SleepersShop$Row"
  | 9 => .int
  | 10 => .int
  | 11 => .int
  | _ => .int
theorem nmX5 : ∀ a, a < 13 → ∀ b, b < 13 → a ≠ b → (TX5 a).2.1 ≠ (TX5 b).2.1 := by decide +kernel
theorem tyX5_ok : ∀ k, k < 13 → parseFieldDescriptor (TX5 k).2.2.1 = some (tyX5 k) := by decide +kernel
abbrev cX5_init : ByteArray := prog_7_method_1_code
def yX5_init : MethodName := ⟨RX5, "<init>", "()V"⟩
abbrev cX5_clear : ByteArray := prog_7_method_2_code
def yX5_clear : MethodName := ⟨RX5, "clear", "()V"⟩
abbrev cX5_copy : ByteArray := prog_7_method_3_code
def yX5_copy : MethodName := ⟨RX5, "copy", "(LSleepersShop$Shop;)V"⟩
abbrev cX5_hasDog : ByteArray := prog_7_method_4_code
def yX5_hasDog : MethodName := ⟨RX5, "hasDog", "(I)Z"⟩
abbrev cX5_isDue : ByteArray := prog_7_method_5_code
def yX5_isDue : MethodName := ⟨RX5, "isDue", "(II)Z"⟩
abbrev cX5_comes : ByteArray := prog_7_method_6_code
def yX5_comes : MethodName := ⟨RX5, "comes", "(II)Z"⟩
abbrev cX5_addServer : ByteArray := prog_7_method_7_code
def yX5_addServer : MethodName := ⟨RX5, "addServer", "(II)V"⟩
abbrev cX5_rouses : ByteArray := prog_7_method_8_code
def yX5_rouses : MethodName := ⟨RX5, "rouses", "(II)Z"⟩
def RX6 : String := "SleepersShop$Sightings"
def TX6 : u_T := fun k => match k with
  | 0 => ("SleepersShop$Sightings", "who", "LSleepersShop$Row;", true)
  | 1 => ("SleepersShop$Sightings", "when", "LSleepersShop$Row;", true)
  | 2 => ("SleepersShop$Sightings", "walked", "LSleepersShop$Row;", true)
  | _ => ("SleepersShop$Sightings", "size", "I", false)
def tyX6 : Nat → FieldType := fun k => match k with
  | 0 => .object "SleepersShop$Row"
  | 1 => .object "SleepersShop$Row"
  | 2 => .object "SleepersShop$Row"
  | _ => .int
theorem nmX6 : ∀ a, a < 4 → ∀ b, b < 4 → a ≠ b → (TX6 a).2.1 ≠ (TX6 b).2.1 := by decide +kernel
theorem tyX6_ok : ∀ k, k < 4 → parseFieldDescriptor (TX6 k).2.2.1 = some (tyX6 k) := by decide +kernel
abbrev cX6_init : ByteArray := prog_8_method_1_code
def yX6_init : MethodName := ⟨RX6, "<init>", "()V"⟩
abbrev cX6_clear : ByteArray := prog_8_method_2_code
def yX6_clear : MethodName := ⟨RX6, "clear", "()V"⟩
abbrev cX6_add : ByteArray := prog_8_method_3_code
def yX6_add : MethodName := ⟨RX6, "add", "(IIZ)V"⟩
abbrev cX6_allow : ByteArray := prog_8_method_4_code
def yX6_allow : MethodName := ⟨RX6, "allow", "(III)Z"⟩
def RX7 : String := "SleepersShop$State"
def TX7 : u_T := fun k => match k with
  | 0 => ("SleepersShop$State", "night", "I", false)
  | 1 => ("SleepersShop$State", "till", "I", false)
  | 2 => ("SleepersShop$State", "drawer", "I", false)
  | 3 => ("SleepersShop$State", "hams", "I", false)
  | 4 => ("SleepersShop$State", "quarrels", "I", false)
  | 5 => ("SleepersShop$State", "fed", "I", false)
  | _ => ("SleepersShop$State", "awake", "LSleepersShop$Row;", true)
def tyX7 : Nat → FieldType := fun k => match k with
  | 0 => .int
  | 1 => .int
  | 2 => .int
  | 3 => .int
  | 4 => .int
  | 5 => .int
  | _ => .object "SleepersShop$Row"
theorem nmX7 : ∀ a, a < 7 → ∀ b, b < 7 → a ≠ b → (TX7 a).2.1 ≠ (TX7 b).2.1 := by decide +kernel
theorem tyX7_ok : ∀ k, k < 7 → parseFieldDescriptor (TX7 k).2.2.1 = some (tyX7 k) := by decide +kernel
abbrev cX7_init : ByteArray := prog_9_method_1_code
def yX7_init : MethodName := ⟨RX7, "<init>", "()V"⟩
abbrev cX7_begin : ByteArray := prog_9_method_2_code
def yX7_begin : MethodName := ⟨RX7, "begin", "(I)V"⟩
abbrev cX7_copy : ByteArray := prog_9_method_3_code
def yX7_copy : MethodName := ⟨RX7, "copy", "(LSleepersShop$State;)V"⟩
def RX8 : String := "SleepersShop$Text"
def TX8 : u_T := fun k => match k with
  | 0 => ("SleepersShop$Text", "letters", "[I", true)
  | _ => ("SleepersShop$Text", "length", "I", false)
def tyX8 : Nat → FieldType := fun k => match k with
  | 0 => .array .int
  | _ => .int
theorem nmX8 : ∀ a, a < 2 → ∀ b, b < 2 → a ≠ b → (TX8 a).2.1 ≠ (TX8 b).2.1 := by decide +kernel
theorem tyX8_ok : ∀ k, k < 2 → parseFieldDescriptor (TX8 k).2.2.1 = some (tyX8 k) := by decide +kernel
abbrev cX8_init : ByteArray := prog_10_method_1_code
def yX8_init : MethodName := ⟨RX8, "<init>", "()V"⟩
abbrev cX8_clear : ByteArray := prog_10_method_2_code
def yX8_clear : MethodName := ⟨RX8, "clear", "()V"⟩
abbrev cX8_add : ByteArray := prog_10_method_3_code
def yX8_add : MethodName := ⟨RX8, "add", "(I)V"⟩
abbrev cX8_letter : ByteArray := prog_10_method_4_code
def yX8_letter : MethodName := ⟨RX8, "letter", "(I)I"⟩
def RX9 : String := "SleepersShop"
def TX9 : u_T := fun k => match k with
  | 0 => ("SleepersShop", "text", "LSleepersShop$Text;", true)
  | 1 => ("SleepersShop", "shop", "LSleepersShop$Shop;", true)
  | 2 => ("SleepersShop", "draft", "LSleepersShop$Shop;", true)
  | 3 => ("SleepersShop", "reader", "LSleepersShop$Reader;", true)
  | 4 => ("SleepersShop", "night", "LSleepersShop$Night;", true)
  | 5 => ("SleepersShop", "now", "LSleepersShop$State;", true)
  | 6 => ("SleepersShop", "trial", "LSleepersShop$State;", true)
  | 7 => ("SleepersShop", "undone", "LSleepersShop$Shelf;", true)
  | 8 => ("SleepersShop", "kept", "LSleepersShop$Shelf;", true)
  | 9 => ("SleepersShop", "seen", "LSleepersShop$Sightings;", true)
  | _ => ("SleepersShop", "choice", "LSleepersShop$Choice;", true)
def tyX9 : Nat → FieldType := fun k => match k with
  | 0 => .object "SleepersShop$Text"
  | 1 => .object "SleepersShop$Shop"
  | 2 => .object "SleepersShop$Shop"
  | 3 => .object "SleepersShop$Reader"
  | 4 => .object "SleepersShop$Night"
  | 5 => .object "SleepersShop$State"
  | 6 => .object "SleepersShop$State"
  | 7 => .object "SleepersShop$Shelf"
  | 8 => .object "SleepersShop$Shelf"
  | 9 => .object "SleepersShop$Sightings"
  | _ => .object "SleepersShop$Choice"
theorem nmX9 : ∀ a, a < 11 → ∀ b, b < 11 → a ≠ b → (TX9 a).2.1 ≠ (TX9 b).2.1 := by decide +kernel
theorem tyX9_ok : ∀ k, k < 11 → parseFieldDescriptor (TX9 k).2.2.1 = some (tyX9 k) := by decide +kernel
abbrev cX9_init : ByteArray := prog_1_method_1_code
def yX9_init : MethodName := ⟨RX9, "<init>", "()V"⟩
abbrev cX9_write : ByteArray := prog_1_method_2_code
def yX9_write : MethodName := ⟨RX9, "write", "(I)I"⟩
abbrev cX9_wipe : ByteArray := prog_1_method_3_code
def yX9_wipe : MethodName := ⟨RX9, "wipe", "()I"⟩
abbrev cX9_fault : ByteArray := prog_1_method_4_code
def yX9_fault : MethodName := ⟨RX9, "fault", "()I"⟩
abbrev cX9_lay : ByteArray := prog_1_method_5_code
def yX9_lay : MethodName := ⟨RX9, "lay", "()I"⟩
abbrev cX9_staff : ByteArray := prog_1_method_6_code
def yX9_staff : MethodName := ⟨RX9, "staff", "(II)I"⟩
abbrev cX9_customer : ByteArray := prog_1_method_7_code
def yX9_customer : MethodName := ⟨RX9, "customer", "(II)I"⟩
abbrev cX9_quarrel : ByteArray := prog_1_method_8_code
def yX9_quarrel : MethodName := ⟨RX9, "quarrel", "(II)I"⟩
abbrev cX9_woken : ByteArray := prog_1_method_9_code
def yX9_woken : MethodName := ⟨RX9, "woken", "()I"⟩
abbrev cX9_pass : ByteArray := prog_1_method_10_code
def yX9_pass : MethodName := ⟨RX9, "pass", "(I)I"⟩
abbrev cX9_supper : ByteArray := prog_1_method_11_code
def yX9_supper : MethodName := ⟨RX9, "supper", "(I)I"⟩
abbrev cX9_settle : ByteArray := prog_1_method_12_code
def yX9_settle : MethodName := ⟨RX9, "settle", "(II)I"⟩
abbrev cX9_lull : ByteArray := prog_1_method_13_code
def yX9_lull : MethodName := ⟨RX9, "lull", "(I)I"⟩
abbrev cX9_undo : ByteArray := prog_1_method_14_code
def yX9_undo : MethodName := ⟨RX9, "undo", "()I"⟩
abbrev cX9_behind : ByteArray := prog_1_method_15_code
def yX9_behind : MethodName := ⟨RX9, "behind", "(II)I"⟩
abbrev cX9_ham : ByteArray := prog_1_method_16_code
def yX9_ham : MethodName := ⟨RX9, "ham", "(I)I"⟩
abbrev cX9_suppers : ByteArray := prog_1_method_17_code
def yX9_suppers : MethodName := ⟨RX9, "suppers", "(I)I"⟩
abbrev cX9_apart : ByteArray := prog_1_method_18_code
def yX9_apart : MethodName := ⟨RX9, "apart", "(II)I"⟩
abbrev cX9_ask : ByteArray := prog_1_method_19_code
def yX9_ask : MethodName := ⟨RX9, "ask", "(I)I"⟩
abbrev cX9_see : ByteArray := prog_1_method_20_code
def yX9_see : MethodName := ⟨RX9, "see", "(IIZ)I"⟩
abbrev cX9_forget : ByteArray := prog_1_method_21_code
def yX9_forget : MethodName := ⟨RX9, "forget", "()I"⟩
abbrev cX9_law : ByteArray := prog_1_method_22_code
def yX9_law : MethodName := ⟨RX9, "law", "(II)I"⟩
abbrev cX9_did : ByteArray := prog_1_method_23_code
def yX9_did : MethodName := ⟨RX9, "did", "(I)I"⟩
abbrev cX9_dogs : ByteArray := prog_1_method_24_code
def yX9_dogs : MethodName := ⟨RX9, "dogs", "(III)I"⟩
abbrev cX9_year : ByteArray := prog_1_method_25_code
def yX9_year : MethodName := ⟨RX9, "year", "(III)I"⟩
abbrev cX9_keep : ByteArray := prog_1_method_26_code
def yX9_keep : MethodName := ⟨RX9, "keep", "()I"⟩
abbrev cX9_back : ByteArray := prog_1_method_27_code
def yX9_back : MethodName := ⟨RX9, "back", "()I"⟩
abbrev cX9_count : ByteArray := prog_1_method_28_code
def yX9_count : MethodName := ⟨RX9, "count", "(I)I"⟩
abbrev cX9_openDraft : ByteArray := prog_1_method_29_code
def yX9_openDraft : MethodName := ⟨RX9, "openDraft", "()V"⟩
abbrev cX9_isStaff : ByteArray := prog_1_method_30_code
def yX9_isStaff : MethodName := ⟨RX9, "isStaff", "(I)Z"⟩
abbrev cX9_isCustomer : ByteArray := prog_1_method_31_code
def yX9_isCustomer : MethodName := ⟨RX9, "isCustomer", "(I)Z"⟩
abbrev cX9_areTwoStaff : ByteArray := prog_1_method_32_code
def yX9_areTwoStaff : MethodName := ⟨RX9, "areTwoStaff", "(II)Z"⟩
abbrev cX9_goBy : ByteArray := prog_1_method_33_code
def yX9_goBy : MethodName := ⟨RX9, "goBy", "(LSleepersShop$State;I)V"⟩
abbrev cX9_playTonight : ByteArray := prog_1_method_34_code
def yX9_playTonight : MethodName := ⟨RX9, "playTonight", "()V"⟩
abbrev cX9_walkersTonight : ByteArray := prog_1_method_35_code
def yX9_walkersTonight : MethodName := ⟨RX9, "walkersTonight", "()I"⟩
abbrev cX9_serverTonight : ByteArray := prog_1_method_36_code
def yX9_serverTonight : MethodName := ⟨RX9, "serverTonight", "(I)I"⟩
abbrev cX9_servedIfFed : ByteArray := prog_1_method_37_code
def yX9_servedIfFed : MethodName := ⟨RX9, "servedIfFed", "(I)I"⟩
abbrev cX9_servedIfMadeUp : ByteArray := prog_1_method_38_code
def yX9_servedIfMadeUp : MethodName := ⟨RX9, "servedIfMadeUp", "(II)I"⟩
abbrev cX9_without : ByteArray := prog_1_method_39_code
def yX9_without : MethodName := ⟨RX9, "without", "(II)I"⟩
abbrev cX9_isWithoutHam : ByteArray := prog_1_method_40_code
def yX9_isWithoutHam : MethodName := ⟨RX9, "isWithoutHam", "(II)Z"⟩
abbrev cX9_weight : ByteArray := prog_1_method_41_code
def yX9_weight : MethodName := ⟨RX9, "weight", "(III)I"⟩
abbrev cX9_sharedDivisor : ByteArray := prog_1_method_42_code
def yX9_sharedDivisor : MethodName := ⟨RX9, "sharedDivisor", "(III)I"⟩
abbrev cX9_dividesBoth : ByteArray := prog_1_method_43_code
def yX9_dividesBoth : MethodName := ⟨RX9, "dividesBoth", "(III)Z"⟩
abbrev cX9_draw : ByteArray := prog_1_method_44_code
def yX9_draw : MethodName := ⟨RX9, "draw", "(II)I"⟩
abbrev cX9_wakes : ByteArray := prog_1_method_45_code
def yX9_wakes : MethodName := ⟨RX9, "wakes", "(III)Z"⟩
abbrev cX9_pair : ByteArray := prog_1_method_46_code
def yX9_pair : MethodName := ⟨RX9, "pair", "(II)I"⟩
abbrev cX9_has : ByteArray := prog_1_method_47_code
def yX9_has : MethodName := ⟨RX9, "has", "(II)Z"⟩
abbrev cX9_bit : ByteArray := prog_1_method_48_code
def yX9_bit : MethodName := ⟨RX9, "bit", "(II)I"⟩
abbrev cX9_mod : ByteArray := prog_1_method_49_code
def yX9_mod : MethodName := ⟨RX9, "mod", "(II)I"⟩
abbrev cX9_quotient : ByteArray := prog_1_method_50_code
def yX9_quotient : MethodName := ⟨RX9, "quotient", "(II)I"⟩
abbrev cX9_isWithin : ByteArray := prog_1_method_51_code
def yX9_isWithin : MethodName := ⟨RX9, "isWithin", "(III)Z"⟩
def RX10 : String := "SleepersShopModel"
def TX10 : u_T := fun k => match k with
  | 0 => ("SleepersShopModel", "letters", "I", false)
  | 1 => ("SleepersShopModel", "text", "[I", true)
  | 2 => ("SleepersShopModel", "position", "I", false)
  | 3 => ("SleepersShopModel", "number", "I", false)
  | 4 => ("SleepersShopModel", "readStaff", "I", false)
  | 5 => ("SleepersShopModel", "readCustomers", "I", false)
  | 6 => ("SleepersShopModel", "readDog", "I", false)
  | 7 => ("SleepersShopModel", "readOne", "[I", true)
  | 8 => ("SleepersShopModel", "readGuest", "[I", true)
  | 9 => ("SleepersShopModel", "readQuarrel", "[I", true)
  | 10 => ("SleepersShopModel", "many", "I", false)
  | 11 => ("SleepersShopModel", "guests", "I", false)
  | 12 => ("SleepersShopModel", "dog", "I", false)
  | 13 => ("SleepersShopModel", "one", "[I", true)
  | 14 => ("SleepersShopModel", "guest", "[I", true)
  | 15 => ("SleepersShopModel", "now", "[I", true)
  | 16 => ("SleepersShopModel", "tried", "[I", true)
  | 17 => ("SleepersShopModel", "back", "[I", true)
  | 18 => ("SleepersShopModel", "backs", "I", false)
  | 19 => ("SleepersShopModel", "kept", "[I", true)
  | 20 => ("SleepersShopModel", "keptMany", "I", false)
  | 21 => ("SleepersShopModel", "seen", "I", false)
  | 22 => ("SleepersShopModel", "sight", "[I", true)
  | 23 => ("SleepersShopModel", "walks", "I", false)
  | 24 => ("SleepersShopModel", "woken", "I", false)
  | 25 => ("SleepersShopModel", "dogBy", "I", false)
  | 26 => ("SleepersShopModel", "firstHam", "I", false)
  | 27 => ("SleepersShopModel", "served", "I", false)
  | 28 => ("SleepersShopModel", "wayOf", "I", false)
  | _ => ("SleepersShopModel", "by", "[I", true)
def tyX10 : Nat → FieldType := fun k => match k with
  | 0 => .int
  | 1 => .array .int
  | 2 => .int
  | 3 => .int
  | 4 => .int
  | 5 => .int
  | 6 => .int
  | 7 => .array .int
  | 8 => .array .int
  | 9 => .array .int
  | 10 => .int
  | 11 => .int
  | 12 => .int
  | 13 => .array .int
  | 14 => .array .int
  | 15 => .array .int
  | 16 => .array .int
  | 17 => .array .int
  | 18 => .int
  | 19 => .array .int
  | 20 => .int
  | 21 => .int
  | 22 => .array .int
  | 23 => .int
  | 24 => .int
  | 25 => .int
  | 26 => .int
  | 27 => .int
  | 28 => .int
  | _ => .array .int
theorem nmX10 : ∀ a, a < 30 → ∀ b, b < 30 → a ≠ b → (TX10 a).2.1 ≠ (TX10 b).2.1 := by decide +kernel
theorem tyX10_ok : ∀ k, k < 30 → parseFieldDescriptor (TX10 k).2.2.1 = some (tyX10 k) := by decide +kernel
abbrev cX10_init : ByteArray := prog_12_method_1_code
def yX10_init : MethodName := ⟨RX10, "<init>", "()V"⟩
abbrev cX10_addOne : ByteArray := prog_12_method_2_code
def yX10_addOne : MethodName := ⟨RX10, "addOne", "(IIIII)V"⟩
abbrev cX10_addGuest : ByteArray := prog_12_method_3_code
def yX10_addGuest : MethodName := ⟨RX10, "addGuest", "(IIIII)V"⟩
abbrev cX10_in : ByteArray := prog_12_method_4_code
def yX10_in : MethodName := ⟨RX10, "in", "(III)Z"⟩
abbrev cX10_has : ByteArray := prog_12_method_5_code
def yX10_has : MethodName := ⟨RX10, "has", "(II)Z"⟩
abbrev cX10_bits : ByteArray := prog_12_method_6_code
def yX10_bits : MethodName := ⟨RX10, "bits", "(I)I"⟩
abbrev cX10_bring : ByteArray := prog_12_method_7_code
def yX10_bring : MethodName := ⟨RX10, "bring", "([II[III)V"⟩
abbrev cX10_isOne : ByteArray := prog_12_method_8_code
def yX10_isOne : MethodName := ⟨RX10, "isOne", "(I)Z"⟩
abbrev cX10_isGuest : ByteArray := prog_12_method_9_code
def yX10_isGuest : MethodName := ⟨RX10, "isGuest", "(I)Z"⟩
abbrev cX10_areTwo : ByteArray := prog_12_method_10_code
def yX10_areTwo : MethodName := ⟨RX10, "areTwo", "(II)Z"⟩
abbrev cX10_turn : ByteArray := prog_12_method_11_code
def yX10_turn : MethodName := ⟨RX10, "turn", "([IIII)V"⟩
abbrev cX10_quarrelsIn : ByteArray := prog_12_method_12_code
def yX10_quarrelsIn : MethodName := ⟨RX10, "quarrelsIn", "([II)I"⟩
abbrev cX10_write : ByteArray := prog_12_method_13_code
def yX10_write : MethodName := ⟨RX10, "write", "(I)I"⟩
abbrev cX10_wipe : ByteArray := prog_12_method_14_code
def yX10_wipe : MethodName := ⟨RX10, "wipe", "()I"⟩
abbrev cX10_letterAt : ByteArray := prog_12_method_15_code
def yX10_letterAt : MethodName := ⟨RX10, "letterAt", "(I)I"⟩
abbrev cX10_isNumber : ByteArray := prog_12_method_16_code
def yX10_isNumber : MethodName := ⟨RX10, "isNumber", "(III)Z"⟩
abbrev cX10_least : ByteArray := prog_12_method_17_code
def yX10_least : MethodName := ⟨RX10, "least", "(II)I"⟩
abbrev cX10_most : ByteArray := prog_12_method_18_code
def yX10_most : MethodName := ⟨RX10, "most", "(II)I"⟩
abbrev cX10_isItem : ByteArray := prog_12_method_19_code
def yX10_isItem : MethodName := ⟨RX10, "isItem", "()Z"⟩
abbrev cX10_fault : ByteArray := prog_12_method_20_code
def yX10_fault : MethodName := ⟨RX10, "fault", "()I"⟩
abbrev cX10_lay : ByteArray := prog_12_method_21_code
def yX10_lay : MethodName := ⟨RX10, "lay", "()I"⟩
abbrev cX10_serves : ByteArray := prog_12_method_22_code
def yX10_serves : MethodName := ⟨RX10, "serves", "(II)Z"⟩
abbrev cX10_wakes : ByteArray := prog_12_method_23_code
def yX10_wakes : MethodName := ⟨RX10, "wakes", "(III)Z"⟩
abbrev cX10_isDogNight : ByteArray := prog_12_method_24_code
def yX10_isDogNight : MethodName := ⟨RX10, "isDogNight", "(I)Z"⟩
abbrev cX10_layWalks : ByteArray := prog_12_method_25_code
def yX10_layWalks : MethodName := ⟨RX10, "layWalks", "([I)V"⟩
abbrev cX10_layNight : ByteArray := prog_12_method_26_code
def yX10_layNight : MethodName := ⟨RX10, "layNight", "([III)V"⟩
abbrev cX10_goBy : ByteArray := prog_12_method_27_code
def yX10_goBy : MethodName := ⟨RX10, "goBy", "([I)I"⟩
abbrev cX10_layNow : ByteArray := prog_12_method_28_code
def yX10_layNow : MethodName := ⟨RX10, "layNow", "()V"⟩
abbrev cX10_staff : ByteArray := prog_12_method_29_code
def yX10_staff : MethodName := ⟨RX10, "staff", "(II)I"⟩
abbrev cX10_customer : ByteArray := prog_12_method_30_code
def yX10_customer : MethodName := ⟨RX10, "customer", "(II)I"⟩
abbrev cX10_quarrel : ByteArray := prog_12_method_31_code
def yX10_quarrel : MethodName := ⟨RX10, "quarrel", "(II)I"⟩
abbrev cX10_woken : ByteArray := prog_12_method_32_code
def yX10_woken : MethodName := ⟨RX10, "woken", "()I"⟩
abbrev cX10_note : ByteArray := prog_12_method_33_code
def yX10_note : MethodName := ⟨RX10, "note", "()V"⟩
abbrev cX10_pass : ByteArray := prog_12_method_34_code
def yX10_pass : MethodName := ⟨RX10, "pass", "(I)I"⟩
abbrev cX10_supper : ByteArray := prog_12_method_35_code
def yX10_supper : MethodName := ⟨RX10, "supper", "(I)I"⟩
abbrev cX10_settle : ByteArray := prog_12_method_36_code
def yX10_settle : MethodName := ⟨RX10, "settle", "(II)I"⟩
abbrev cX10_lull : ByteArray := prog_12_method_37_code
def yX10_lull : MethodName := ⟨RX10, "lull", "(I)I"⟩
abbrev cX10_undo : ByteArray := prog_12_method_38_code
def yX10_undo : MethodName := ⟨RX10, "undo", "()I"⟩
abbrev cX10_begin : ByteArray := prog_12_method_39_code
def yX10_begin : MethodName := ⟨RX10, "begin", "()V"⟩
abbrev cX10_behind : ByteArray := prog_12_method_40_code
def yX10_behind : MethodName := ⟨RX10, "behind", "(II)I"⟩
abbrev cX10_ham : ByteArray := prog_12_method_41_code
def yX10_ham : MethodName := ⟨RX10, "ham", "(I)I"⟩
abbrev cX10_suppers : ByteArray := prog_12_method_42_code
def yX10_suppers : MethodName := ⟨RX10, "suppers", "(I)I"⟩
abbrev cX10_makeUp : ByteArray := prog_12_method_43_code
def yX10_makeUp : MethodName := ⟨RX10, "makeUp", "(I)V"⟩
abbrev cX10_apart : ByteArray := prog_12_method_44_code
def yX10_apart : MethodName := ⟨RX10, "apart", "(II)I"⟩
abbrev cX10_ask : ByteArray := prog_12_method_45_code
def yX10_ask : MethodName := ⟨RX10, "ask", "(I)I"⟩
abbrev cX10_see : ByteArray := prog_12_method_46_code
def yX10_see : MethodName := ⟨RX10, "see", "(IIZ)I"⟩
abbrev cX10_forget : ByteArray := prog_12_method_47_code
def yX10_forget : MethodName := ⟨RX10, "forget", "()I"⟩
abbrev cX10_law : ByteArray := prog_12_method_48_code
def yX10_law : MethodName := ⟨RX10, "law", "(II)I"⟩
abbrev cX10_did : ByteArray := prog_12_method_49_code
def yX10_did : MethodName := ⟨RX10, "did", "(I)I"⟩
abbrev cX10_dogs : ByteArray := prog_12_method_50_code
def yX10_dogs : MethodName := ⟨RX10, "dogs", "(III)I"⟩
abbrev cX10_year : ByteArray := prog_12_method_51_code
def yX10_year : MethodName := ⟨RX10, "year", "(III)I"⟩
abbrev cX10_keep : ByteArray := prog_12_method_52_code
def yX10_keep : MethodName := ⟨RX10, "keep", "()I"⟩
abbrev cX10_back : ByteArray := prog_12_method_53_code
def yX10_back : MethodName := ⟨RX10, "back", "()I"⟩
abbrev cX10_count : ByteArray := prog_12_method_54_code
def yX10_count : MethodName := ⟨RX10, "count", "(I)I"⟩
def RJ6 : String := "java/lang/Integer"
def TJ6 : u_T := fun k => match k with
  | _ => ("", "", "", false)
def tyJ6 : Nat → FieldType := fun k => match k with
  | _ => .int
abbrev wsJ60 : List Cond := u_ws RJ6 TJ6 0
theorem nmJ6 : ∀ a, a < 0 → ∀ b, b < 0 → a ≠ b → (TJ6 a).2.1 ≠ (TJ6 b).2.1 := by decide +kernel
theorem tyJ6_ok : ∀ k, k < 0 → parseFieldDescriptor (TJ6 k).2.2.1 = some (tyJ6 k) := by decide +kernel
abbrev cJ6_bitCount_0f7a4 : ByteArray := prog_13_method_49_code
def yJ6_bitCount_0f7a4 : MethodName := ⟨RJ6, "bitCount", "(I)I"⟩
def RJ9 : String := "java/lang/Math"
def TJ9 : u_T := fun k => match k with
  | _ => ("", "", "", false)
def tyJ9 : Nat → FieldType := fun k => match k with
  | _ => .int
abbrev wsJ90 : List Cond := u_ws RJ9 TJ9 0
theorem nmJ9 : ∀ a, a < 0 → ∀ b, b < 0 → a ≠ b → (TJ9 a).2.1 ≠ (TJ9 b).2.1 := by decide +kernel
theorem tyJ9_ok : ∀ k, k < 0 → parseFieldDescriptor (TJ9 k).2.2.1 = some (tyJ9 k) := by decide +kernel
abbrev cJ9_max_7cf53 : ByteArray := prog_14_method_65_code
def yJ9_max_7cf53 : MethodName := ⟨RJ9, "max", "(II)I"⟩
def RJ0 : String := "java/lang/String"
def TJ0 : u_T := fun k => match k with
  | _ => ("", "", "", false)
def tyJ0 : Nat → FieldType := fun k => match k with
  | _ => .int
abbrev wsJ00 : List Cond := u_ws RJ0 TJ0 0
theorem nmJ0 : ∀ a, a < 0 → ∀ b, b < 0 → a ≠ b → (TJ0 a).2.1 ≠ (TJ0 b).2.1 := by decide +kernel
theorem tyJ0_ok : ∀ k, k < 0 → parseFieldDescriptor (TJ0 k).2.2.1 = some (tyJ0 k) := by decide +kernel
abbrev cJ0_length_8abf5 : ByteArray := prog_15_method_54_code
def yJ0_length_8abf5 : MethodName := ⟨RJ0, "length", "()I"⟩
abbrev cJ0_charAt_5068e : ByteArray := prog_15_method_56_code
def yJ0_charAt_5068e : MethodName := ⟨RJ0, "charAt", "(I)C"⟩
abbrev cJ0_coder_7d493 : ByteArray := prog_15_method_152_code
def yJ0_coder_7d493 : MethodName := ⟨RJ0, "coder", "()B"⟩
abbrev cJ0_isLatin1_aae02 : ByteArray := prog_15_method_154_code
def yJ0_isLatin1_aae02 : MethodName := ⟨RJ0, "isLatin1", "()Z"⟩
abbrev cJ0_checkIndex_df160 : ByteArray := prog_15_method_155_code
def yJ0_checkIndex_df160 : MethodName := ⟨RJ0, "checkIndex", "(II)V"⟩
def RJ1 : String := "java/lang/StringLatin1"
def TJ1 : u_T := fun k => match k with
  | _ => ("", "", "", false)
def tyJ1 : Nat → FieldType := fun k => match k with
  | _ => .int
abbrev wsJ10 : List Cond := u_ws RJ1 TJ1 0
theorem nmJ1 : ∀ a, a < 0 → ∀ b, b < 0 → a ≠ b → (TJ1 a).2.1 ≠ (TJ1 b).2.1 := by decide +kernel
theorem tyJ1_ok : ∀ k, k < 0 → parseFieldDescriptor (TJ1 k).2.2.1 = some (tyJ1 k) := by decide +kernel
abbrev cJ1_charAt_3b067 : ByteArray := prog_16_method_2_code
def yJ1_charAt_3b067 : MethodName := ⟨RJ1, "charAt", "([BI)C"⟩
def RJ2 : String := "java/lang/StringUTF16"
def TJ2 : u_T := fun k => match k with
  | _ => ("", "", "", false)
def tyJ2 : Nat → FieldType := fun k => match k with
  | _ => .int
abbrev wsJ20 : List Cond := u_ws RJ2 TJ2 0
theorem nmJ2 : ∀ a, a < 0 → ∀ b, b < 0 → a ≠ b → (TJ2 a).2.1 ≠ (TJ2 b).2.1 := by decide +kernel
theorem tyJ2_ok : ∀ k, k < 0 → parseFieldDescriptor (TJ2 k).2.2.1 = some (tyJ2 k) := by decide +kernel
abbrev cJ2_getChar_3b067 : ByteArray := prog_17_method_5_code
def yJ2_getChar_3b067 : MethodName := ⟨RJ2, "getChar", "([BI)C"⟩
abbrev cJ2_length_9d52b : ByteArray := prog_17_method_6_code
def yJ2_length_9d52b : MethodName := ⟨RJ2, "length", "([B)I"⟩
abbrev cJ2_charAt_3b067 : ByteArray := prog_17_method_83_code
def yJ2_charAt_3b067 : MethodName := ⟨RJ2, "charAt", "([BI)C"⟩
abbrev cJ2_checkIndex_2214a : ByteArray := prog_17_method_91_code
def yJ2_checkIndex_2214a : MethodName := ⟨RJ2, "checkIndex", "(I[B)V"⟩
def RJ3 : String := "jdk/internal/util/Preconditions"
def TJ3 : u_T := fun k => match k with
  | _ => ("", "", "", false)
def tyJ3 : Nat → FieldType := fun k => match k with
  | _ => .int
abbrev wsJ30 : List Cond := u_ws RJ3 TJ3 0
theorem nmJ3 : ∀ a, a < 0 → ∀ b, b < 0 → a ≠ b → (TJ3 a).2.1 ≠ (TJ3 b).2.1 := by decide +kernel
theorem tyJ3_ok : ∀ k, k < 0 → parseFieldDescriptor (TJ3 k).2.2.1 = some (tyJ3 k) := by decide +kernel
abbrev cJ3_checkIndex_8e157 : ByteArray := prog_18_method_11_code
def yJ3_checkIndex_8e157 : MethodName := ⟨RJ3, "checkIndex", "(IILjava/util/function/BiFunction;)I"⟩
def RL : String := "SleepersShopLaw"
abbrev cL_law : ByteArray := code
def yL_law : MethodName := ⟨RL, "law", "([I)Z"⟩
abbrev z_M : Type := MethodName × ByteArray × Nat × Option FieldType
def mX0_init : z_M := (yX0_init, cX0_init, 1, none)
def mX0_clear : z_M := (yX0_clear, cX0_clear, 1, none)
def mJ6_bitCount_0f7a4 : z_M := (yJ6_bitCount_0f7a4, cJ6_bitCount_0f7a4, 1, (some .int))
def mX0_offer : z_M := (yX0_offer, cX0_offer, 3, none)
def mX3_init : z_M := (yX3_init, cX3_init, 2, none)
def mX1_init : z_M := (yX1_init, cX1_init, 2, none)
def mX3_fill : z_M := (yX3_fill, cX3_fill, 3, none)
def mX3_at : z_M := (yX3_at, cX3_at, 2, (some .int))
def mX9_mod : z_M := (yX9_mod, cX9_mod, 2, (some .int))
def mX5_isDue : z_M := (yX5_isDue, cX5_isDue, 4, (some .boolean))
def mX9_has : z_M := (yX9_has, cX9_has, 2, (some .boolean))
def mX9_pair : z_M := (yX9_pair, cX9_pair, 2, (some .int))
def mX1_isBarred : z_M := (yX1_isBarred, cX1_isBarred, 4, (some .boolean))
def mX1_open : z_M := (yX1_open, cX1_open, 4, none)
def mX5_comes : z_M := (yX5_comes, cX5_comes, 3, (some .boolean))
def mX1_isReadyFor : z_M := (yX1_isReadyFor, cX1_isReadyFor, 3, (some .boolean))
def mX9_wakes : z_M := (yX9_wakes, cX9_wakes, 3, (some .boolean))
def mX5_rouses : z_M := (yX5_rouses, cX5_rouses, 3, (some .boolean))
def mX3_put : z_M := (yX3_put, cX3_put, 3, none)
def mX1_sell : z_M := (yX1_sell, cX1_sell, 5, none)
def mX1_attend : z_M := (yX1_attend, cX1_attend, 4, none)
def mX1_play : z_M := (yX1_play, cX1_play, 5, none)
def mX1_firstFor : z_M := (yX1_firstFor, cX1_firstFor, 3, (some .int))
def mX1_close : z_M := (yX1_close, cX1_close, 4, none)
def mX2_init : z_M := (yX2_init, cX2_init, 3, none)
def mX5_clear : z_M := (yX5_clear, cX5_clear, 1, none)
def mX8_letter : z_M := (yX8_letter, cX8_letter, 2, (some .int))
def mX9_isWithin : z_M := (yX9_isWithin, cX9_isWithin, 3, (some .boolean))
def mX2_figure : z_M := (yX2_figure, cX2_figure, 2, (some .int))
def mX2_readNumber : z_M := (yX2_readNumber, cX2_readNumber, 3, (some .int))
def mX2_readNumbers : z_M := (yX2_readNumbers, cX2_readNumbers, 4, (some .boolean))
def mX5_addServer : z_M := (yX5_addServer, cX5_addServer, 3, none)
def mX2_takeStaff : z_M := (yX2_takeStaff, cX2_takeStaff, 2, (some .boolean))
def mX2_takeQuarrel : z_M := (yX2_takeQuarrel, cX2_takeQuarrel, 3, (some .boolean))
def mX2_takeCustomer : z_M := (yX2_takeCustomer, cX2_takeCustomer, 2, (some .boolean))
def mX2_takeDog : z_M := (yX2_takeDog, cX2_takeDog, 1, (some .boolean))
def mX2_readItem : z_M := (yX2_readItem, cX2_readItem, 2, (some .boolean))
def mX2_read : z_M := (yX2_read, cX2_read, 3, (some .int))
def mX3_copy : z_M := (yX3_copy, cX3_copy, 3, none)
def mX7_init : z_M := (yX7_init, cX7_init, 1, none)
def mX4_init : z_M := (yX4_init, cX4_init, 3, none)
def mX4_clear : z_M := (yX4_clear, cX4_clear, 1, none)
def mX4_dropOldest : z_M := (yX4_dropOldest, cX4_dropOldest, 3, none)
def mX7_copy : z_M := (yX7_copy, cX7_copy, 2, none)
def mX4_put : z_M := (yX4_put, cX4_put, 2, none)
def mX4_takeInto : z_M := (yX4_takeInto, cX4_takeInto, 3, none)
def mX5_init : z_M := (yX5_init, cX5_init, 1, none)
def mX5_copy : z_M := (yX5_copy, cX5_copy, 2, none)
def mX5_hasDog : z_M := (yX5_hasDog, cX5_hasDog, 2, (some .boolean))
def mX6_init : z_M := (yX6_init, cX6_init, 1, none)
def mX6_clear : z_M := (yX6_clear, cX6_clear, 1, none)
def mX6_add : z_M := (yX6_add, cX6_add, 4, none)
def mX6_allow : z_M := (yX6_allow, cX6_allow, 6, (some .boolean))
def mX7_begin : z_M := (yX7_begin, cX7_begin, 2, none)
def mX8_init : z_M := (yX8_init, cX8_init, 1, none)
def mX8_clear : z_M := (yX8_clear, cX8_clear, 1, none)
def mX8_add : z_M := (yX8_add, cX8_add, 2, none)
def mJ0_coder_7d493 : z_M := (yJ0_coder_7d493, cJ0_coder_7d493, 1, (some .byte))
def mJ0_length_8abf5 : z_M := (yJ0_length_8abf5, cJ0_length_8abf5, 1, (some .int))
def mJ0_isLatin1_aae02 : z_M := (yJ0_isLatin1_aae02, cJ0_isLatin1_aae02, 1, (some .boolean))
def mJ3_checkIndex_8e157 : z_M := (yJ3_checkIndex_8e157, cJ3_checkIndex_8e157, 3, (some .int))
def mJ0_checkIndex_df160 : z_M := (yJ0_checkIndex_df160, cJ0_checkIndex_df160, 2, none)
def mJ1_charAt_3b067 : z_M := (yJ1_charAt_3b067, cJ1_charAt_3b067, 2, (some .char))
def mJ2_length_9d52b : z_M := (yJ2_length_9d52b, cJ2_length_9d52b, 1, (some .int))
def mJ2_checkIndex_2214a : z_M := (yJ2_checkIndex_2214a, cJ2_checkIndex_2214a, 2, none)
def mJ2_getChar_3b067 : z_M := (yJ2_getChar_3b067, cJ2_getChar_3b067, 2, (some .char))
def mJ2_charAt_3b067 : z_M := (yJ2_charAt_3b067, cJ2_charAt_3b067, 2, (some .char))
def mJ0_charAt_5068e : z_M := (yJ0_charAt_5068e, cJ0_charAt_5068e, 2, (some .char))
def mX9_openDraft : z_M := (yX9_openDraft, cX9_openDraft, 1, none)
def mX9_init : z_M := (yX9_init, cX9_init, 2, none)
def mX9_write : z_M := (yX9_write, cX9_write, 2, (some .int))
def mX9_wipe : z_M := (yX9_wipe, cX9_wipe, 2, (some .int))
def mX9_fault : z_M := (yX9_fault, cX9_fault, 1, (some .int))
def mX9_lay : z_M := (yX9_lay, cX9_lay, 1, (some .int))
def mX9_isStaff : z_M := (yX9_isStaff, cX9_isStaff, 2, (some .boolean))
def mX9_walkersTonight : z_M := (yX9_walkersTonight, cX9_walkersTonight, 1, (some .int))
def mX9_bit : z_M := (yX9_bit, cX9_bit, 2, (some .int))
def mX9_staff : z_M := (yX9_staff, cX9_staff, 3, (some .int))
def mX9_isCustomer : z_M := (yX9_isCustomer, cX9_isCustomer, 2, (some .boolean))
def mX9_playTonight : z_M := (yX9_playTonight, cX9_playTonight, 1, none)
def mX9_serverTonight : z_M := (yX9_serverTonight, cX9_serverTonight, 2, (some .int))
def mX9_customer : z_M := (yX9_customer, cX9_customer, 3, (some .int))
def mX9_areTwoStaff : z_M := (yX9_areTwoStaff, cX9_areTwoStaff, 3, (some .boolean))
def mX9_quarrel : z_M := (yX9_quarrel, cX9_quarrel, 3, (some .int))
def mX9_woken : z_M := (yX9_woken, cX9_woken, 1, (some .int))
def mX9_goBy : z_M := (yX9_goBy, cX9_goBy, 4, none)
def mX9_pass : z_M := (yX9_pass, cX9_pass, 2, (some .int))
def mX9_supper : z_M := (yX9_supper, cX9_supper, 2, (some .int))
def mX9_settle : z_M := (yX9_settle, cX9_settle, 4, (some .int))
def mX9_lull : z_M := (yX9_lull, cX9_lull, 3, (some .int))
def mX9_undo : z_M := (yX9_undo, cX9_undo, 1, (some .int))
def mX9_behind : z_M := (yX9_behind, cX9_behind, 3, (some .int))
def mX9_ham : z_M := (yX9_ham, cX9_ham, 3, (some .int))
def mX9_servedIfFed : z_M := (yX9_servedIfFed, cX9_servedIfFed, 2, (some .int))
def mX9_suppers : z_M := (yX9_suppers, cX9_suppers, 3, (some .int))
def mX9_without : z_M := (yX9_without, cX9_without, 5, (some .int))
def mX9_servedIfMadeUp : z_M := (yX9_servedIfMadeUp, cX9_servedIfMadeUp, 5, (some .int))
def mX9_apart : z_M := (yX9_apart, cX9_apart, 5, (some .int))
def mX9_ask : z_M := (yX9_ask, cX9_ask, 4, (some .int))
def mX9_see : z_M := (yX9_see, cX9_see, 4, (some .int))
def mX9_forget : z_M := (yX9_forget, cX9_forget, 2, (some .int))
def mX9_law : z_M := (yX9_law, cX9_law, 7, (some .int))
def mX9_did : z_M := (yX9_did, cX9_did, 4, (some .int))
def mX9_isWithoutHam : z_M := (yX9_isWithoutHam, cX9_isWithoutHam, 4, (some .boolean))
def mX9_weight : z_M := (yX9_weight, cX9_weight, 5, (some .int))
def mX9_dividesBoth : z_M := (yX9_dividesBoth, cX9_dividesBoth, 3, (some .boolean))
def mX9_sharedDivisor : z_M := (yX9_sharedDivisor, cX9_sharedDivisor, 5, (some .int))
def mX9_quotient : z_M := (yX9_quotient, cX9_quotient, 2, (some .int))
def mX9_dogs : z_M := (yX9_dogs, cX9_dogs, 7, (some .int))
def mX9_draw : z_M := (yX9_draw, cX9_draw, 4, (some .int))
def mX9_year : z_M := (yX9_year, cX9_year, 6, (some .int))
def mX9_keep : z_M := (yX9_keep, cX9_keep, 1, (some .int))
def mX9_back : z_M := (yX9_back, cX9_back, 1, (some .int))
def mX9_count : z_M := (yX9_count, cX9_count, 2, (some .int))
def mX10_addOne : z_M := (yX10_addOne, cX10_addOne, 6, none)
def mX10_turn : z_M := (yX10_turn, cX10_turn, 4, none)
def mX10_addGuest : z_M := (yX10_addGuest, cX10_addGuest, 6, none)
def mX10_init : z_M := (yX10_init, cX10_init, 1, none)
def mX10_in : z_M := (yX10_in, cX10_in, 3, (some .boolean))
def mX10_has : z_M := (yX10_has, cX10_has, 2, (some .boolean))
def mX10_bits : z_M := (yX10_bits, cX10_bits, 3, (some .int))
def mX10_bring : z_M := (yX10_bring, cX10_bring, 6, none)
def mX10_isOne : z_M := (yX10_isOne, cX10_isOne, 2, (some .boolean))
def mX10_isGuest : z_M := (yX10_isGuest, cX10_isGuest, 2, (some .boolean))
def mX10_areTwo : z_M := (yX10_areTwo, cX10_areTwo, 3, (some .boolean))
def mX10_quarrelsIn : z_M := (yX10_quarrelsIn, cX10_quarrelsIn, 4, (some .int))
def mX10_write : z_M := (yX10_write, cX10_write, 2, (some .int))
def mX10_wipe : z_M := (yX10_wipe, cX10_wipe, 2, (some .int))
def mX10_letterAt : z_M := (yX10_letterAt, cX10_letterAt, 2, (some .int))
def mX10_isNumber : z_M := (yX10_isNumber, cX10_isNumber, 5, (some .boolean))
def mX10_least : z_M := (yX10_least, cX10_least, 3, (some .int))
def mX10_most : z_M := (yX10_most, cX10_most, 3, (some .int))
def mX10_isItem : z_M := (yX10_isItem, cX10_isItem, 6, (some .boolean))
def mX10_fault : z_M := (yX10_fault, cX10_fault, 2, (some .int))
def mX10_lay : z_M := (yX10_lay, cX10_lay, 2, (some .int))
def mX10_serves : z_M := (yX10_serves, cX10_serves, 4, (some .boolean))
def mX10_wakes : z_M := (yX10_wakes, cX10_wakes, 5, (some .boolean))
def mX10_isDogNight : z_M := (yX10_isDogNight, cX10_isDogNight, 2, (some .boolean))
def mX10_layWalks : z_M := (yX10_layWalks, cX10_layWalks, 5, none)
def mX10_layNight : z_M := (yX10_layNight, cX10_layNight, 10, none)
def mX10_goBy : z_M := (yX10_goBy, cX10_goBy, 6, (some .int))
def mX10_layNow : z_M := (yX10_layNow, cX10_layNow, 1, none)
def mX10_staff : z_M := (yX10_staff, cX10_staff, 3, (some .int))
def mX10_customer : z_M := (yX10_customer, cX10_customer, 3, (some .int))
def mX10_quarrel : z_M := (yX10_quarrel, cX10_quarrel, 3, (some .int))
def mX10_woken : z_M := (yX10_woken, cX10_woken, 1, (some .int))
def mX10_note : z_M := (yX10_note, cX10_note, 1, none)
def mX10_pass : z_M := (yX10_pass, cX10_pass, 3, (some .int))
def mX10_supper : z_M := (yX10_supper, cX10_supper, 2, (some .int))
def mX10_settle : z_M := (yX10_settle, cX10_settle, 3, (some .int))
def mX10_lull : z_M := (yX10_lull, cX10_lull, 3, (some .int))
def mX10_undo : z_M := (yX10_undo, cX10_undo, 1, (some .int))
def mX10_begin : z_M := (yX10_begin, cX10_begin, 1, none)
def mX10_behind : z_M := (yX10_behind, cX10_behind, 4, (some .int))
def mX10_ham : z_M := (yX10_ham, cX10_ham, 3, (some .int))
def mX10_suppers : z_M := (yX10_suppers, cX10_suppers, 6, (some .int))
def mX10_makeUp : z_M := (yX10_makeUp, cX10_makeUp, 5, none)
def mX10_apart : z_M := (yX10_apart, cX10_apart, 8, (some .int))
def mX10_ask : z_M := (yX10_ask, cX10_ask, 3, (some .int))
def mX10_see : z_M := (yX10_see, cX10_see, 4, (some .int))
def mX10_forget : z_M := (yX10_forget, cX10_forget, 2, (some .int))
def mX10_law : z_M := (yX10_law, cX10_law, 9, (some .int))
def mX10_did : z_M := (yX10_did, cX10_did, 5, (some .int))
def mX10_dogs : z_M := (yX10_dogs, cX10_dogs, 10, (some .int))
def mX10_year : z_M := (yX10_year, cX10_year, 8, (some .int))
def mX10_keep : z_M := (yX10_keep, cX10_keep, 1, (some .int))
def mX10_back : z_M := (yX10_back, cX10_back, 1, (some .int))
def mX10_count : z_M := (yX10_count, cX10_count, 2, (some .int))
def mJ9_max_7cf53 : z_M := (yJ9_max_7cf53, cJ9_max_7cf53, 2, (some .int))
end
section
/-! THE LAYER: a world of numbered cells (id 0: the script; ids 1, 2, ..: the cells in the order of their making, at base, base + 1, ..), and the kit's walk over it with all that it carries put away. -/
def z_cl : List vw_C := [(RX0, TX0, 2), (RX1, TX1, 9), (RX2, TX2, 4), (RX3, TX3, 1), (RX4, TX4, 2), (RX5, TX5, 13), (RX6, TX6, 4), (RX7, TX7, 7), (RX8, TX8, 2), (RX9, TX9, 11), (RX10, TX10, 30)]
def z_isNest : Cond → Bool
  | .fieldLinkNest .. => true
  | .methodLinkNest .. => true
  | _ => false
def z_tbl : List Cond := lw_tbl.filter goodWord
def z_nst : List Cond := lw_tbl.filter z_isNest
theorem z_tblI {w : Cond} (i : Nat) (h : lw_tbl[i]? = some w) (hg : goodWord w = true) : w ∈ z_tbl := List.mem_filter.mpr ⟨List.mem_of_getElem? h, hg⟩
theorem z_nstI {w : Cond} (i : Nat) (h : lw_tbl[i]? = some w) (hg : z_isNest w = true) : w ∈ z_nst := List.mem_filter.mpr ⟨List.mem_of_getElem? h, hg⟩
/-- kinds (0: object of a class; 1: int row of a length; 2: row of States), numbers, references, how many -/
abbrev z_S : Type := (Nat → Nat × Nat) × (Nat → Nat → Int32) × (Nat → Nat → Option Nat) × Nat
def z_kd (S : z_S) : Nat → Nat × Nat := S.1
def z_I (S : z_S) : Nat → Nat → Int32 := S.2.1
def z_R (S : z_S) : Nat → Nat → Option Nat := S.2.2.1
def z_nx (S : z_S) : Nat := S.2.2.2
def z_u2 {α : Type} (f : Nat → Nat → α) (o k : Nat) (v : α) : Nat → Nat → α := fun o' k' => if o' = o ∧ k' = k then v else f o' k'
def z_pI (S : z_S) (o k : Nat) (v : Int32) : z_S := (S.1, z_u2 S.2.1 o k v, S.2.2)
def z_pR (S : z_S) (o k : Nat) (v : Option Nat) : z_S := (S.1, S.2.1, z_u2 S.2.2.1 o k v, S.2.2.2)
/-- a new cell: its numbers 0, its references null -/
def z_new (S : z_S) (q : Nat × Nat) : z_S := (fun o => if o = S.2.2.2 + 4 then q else S.1 o, fun o k => if o = S.2.2.2 + 4 then 0 else S.2.1 o k, fun o k => if o = S.2.2.2 + 4 then none else S.2.2.1 o k, S.2.2.2 + 1)
/-- launch, the tables' numbers, the int rows' class, the State rows' class, base; the four old cells that are spoken of (script, text, its bytes, a formatter); the heap at the law's entry -/
abbrev z_U : Type := Launch × va_G × ClassId × ClassId × Nat × (Nat → Nat) × Heap
def z_base (g : z_U) : Nat := g.2.2.2.2.1
def z_old (g : z_U) : Nat → Nat := g.2.2.2.2.2.1
def z_H0 (g : z_U) : Heap := g.2.2.2.2.2.2
def z_ad (g : z_U) (o : Nat) : Nat := match o with
  | 0 => z_old g 0
  | 1 => z_old g 1
  | 2 => z_old g 2
  | 3 => z_old g 3
  | k + 4 => z_base g + k
def z_val (g : z_U) (v : Value) : Value := match v with
  | .ref o => .ref (z_ad g o)
  | w => w
def z_n (ci : Nat) : Nat := match z_cl[ci]? with
  | some q => q.2.2
  | none => 0
def z_isI (ci k : Nat) : Bool := match z_cl[ci]? with
  | some q => (q.2.1 k).2.2.1 == "I"
  | none => false
def z_fld (g : z_U) (S : z_S) (ci o k : Nat) : Value := if z_isI ci k = true then .int (z_I S o k) else va_rf ((z_R S o k).map (z_ad g))
def z_ent (g : z_U) (S : z_S) (o : Nat) : va_E := match z_kd S o with
  | (0, ci) => .inr (ci, (List.range (z_n ci)).map (z_fld g S ci o))
  | (1, n) => .inl (g.2.2.1, n, .inl (z_I S o))
  | (_, n) => .inl (g.2.2.2.1, n, .inr (.inr (.inr (.inr (fun j => (z_R S o j).map (z_ad g))))))
def z_ws (g : z_U) (S : z_S) : va_W := (List.range (z_nx S)).map (fun k => (z_ad g (k + 4), z_ent g S (k + 4)))
def z_A (g : z_U) : Nat → Prop := fun q => z_base g ≤ q
def z_Wd (g : z_U) (S : z_S) (H : Heap) : Prop := H.size = z_base g + z_nx S ∧ va_P g.2.1 z_cl (z_ws g S) H ∧ ∀ q : Nat, q < z_base g → H[q]? = (z_H0 g)[q]?
abbrev z_tys (g : z_U) : List (ClassId × FieldType) := [(g.2.2.1, .int), (g.2.2.2.1, .object RX7)]
/-- what is known of the one text, and of three statics -/
def z_tx : String := "s0,1,2,0;s1,2,3,1;s2,1,1,0;s3,4,2,1;s0,2,4,2;q0,2;q1,3;c0,1,0,12;c0,2,1,5;c1,4,2,30;c1,1,1,8;c2,2,0,9;c3,4,3,20;c4,1,2,15;h5;"
def z_by : List Int32 := (z_tx.toUTF8.toList).map (fun c => c.toUInt32.toInt32)
def z_KS (g : z_U) (U : State) : Prop := vk_R RX9 80 z_tx (z_old g 1) U ∧ vk_S 1 [125] [z_by] (fun _ => z_old g 1) (fun _ => z_old g 2) (z_A g) U (z_H0 g) ∧ va_Z RJ0 "COMPACT_STRINGS" "Z" (.int 1) (z_A g) U (z_H0 g) ∧ (va_Z RJ3 "SIOOBE_FORMATTER" "Ljava/util/function/BiFunction;" .null (z_A g) U (z_H0 g) ∨ va_Z RJ3 "SIOOBE_FORMATTER" "Ljava/util/function/BiFunction;" (.ref (z_old g 3)) (z_A g) U (z_H0 g))
def z_Kn (g : z_U) (U : State) : Prop := va_K g.2.1 z_cl (z_tys g) U ∧ (∀ w ∈ z_nst, va_Nw w U) ∧ va_AO RX7 U ∧ z_KS g U
theorem z_KS.moved {g : z_U} {s U : State} (hA : s.vm.Alike U.vm) (hR : vk_R RX9 80 z_tx (z_old g 1) U) (h : z_KS g s) : z_KS g U :=
  ⟨hR, vk_S.moved hA h.2.1, va_Z.moved hA h.2.2.1, h.2.2.2.imp (fun q => va_Z.moved hA q) (fun q => va_Z.moved hA q)⟩
theorem z_Kn.warm {g : z_U} {s U : State} (hW : s.WarmedH U.vm) (h : z_Kn g s) : z_Kn g U := by
  refine ⟨va_K.moved hW.alike h.1, fun w hw => ?_, va_AO.moved hW.alike h.2.2.1, z_KS.moved hW.alike (vk_R.warm hW h.2.2.2.1) h.2.2.2⟩
  have hn := (List.mem_filter.mp hw).2
  have hk := h.2.1 w hw
  cases w with
  | fieldLinkNest a i b n d q => exact va_Nw.warmF hW hk
  | methodLinkNest a i x q => exact va_Nw.warmM hW hk
  | _ => simp [z_isNest] at hn
theorem z_Kn.same {g : z_U} {s U : State} (hv : s.vm = U.vm) (h : z_Kn g s) : z_Kn g U := by
  have hA : s.vm.Alike U.vm := by rw [hv]; exact Vm.Alike.refl _
  refine ⟨va_K.moved hA h.1, fun w hw => ?_, va_AO.moved hA h.2.2.1, z_KS.moved hA (vk_R.same hv.symm h.2.2.2.1) h.2.2.2⟩
  have hn := (List.mem_filter.mp hw).2
  have hk := h.2.1 w hw
  cases w with
  | fieldLinkNest a i b n d q => exact va_Nw.same rfl hv hk
  | methodLinkNest a i x q => exact va_Nw.same rfl hv hk
  | _ => simp [z_isNest] at hn
/-- a cell of a kind -/
def z_is (S : z_S) (o : Nat) (q : Nat × Nat) : Prop := z_kd S o = q ∧ 4 ≤ o ∧ o < z_nx S + 4
theorem z_ws_len (g : z_U) (S : z_S) : (z_ws g S).length = z_nx S := by simp [z_ws]
theorem z_ws_at {g : z_U} {S : z_S} {k : Nat} (h : k < z_nx S) : (z_ws g S)[k]? = some (z_ad g (k + 4), z_ent g S (k + 4)) := by
  simp [z_ws, List.getElem?_map, List.getElem?_range h]
theorem z_ws_of {g : z_U} {S : z_S} {k : Nat} {q : Nat × va_E} (h : (z_ws g S)[k]? = some q) : k < z_nx S ∧ q = (z_ad g (k + 4), z_ent g S (k + 4)) := by
  have hl : k < z_nx S := by rw [← z_ws_len g S]; exact (List.getElem?_eq_some_iff.mp h).1
  exact ⟨hl, (Option.some.inj ((z_ws_at hl).symm.trans h)).symm⟩
theorem z_ws_o {g : z_U} {S : z_S} {o : Nat} {q : Nat × Nat} (h : z_is S o q) : (z_ws g S)[o - 4]? = some (z_ad g o, z_ent g S o) := by
  obtain ⟨-, h1, h2⟩ := h
  have := z_ws_at (g := g) (S := S) (k := o - 4) (by omega)
  rwa [show o - 4 + 4 = o by omega] at this
theorem z_D (g : z_U) (S : z_S) : va_D (z_A g) (z_ws g S) := by
  refine ⟨fun i j p q hi hj he => ?_, fun k q hk => ?_⟩
  · obtain ⟨-, rfl⟩ := z_ws_of hi
    obtain ⟨-, rfl⟩ := z_ws_of hj
    simp only [z_ad] at he
    omega
  · obtain ⟨-, rfl⟩ := z_ws_of hk
    show z_base g ≤ z_base g + k
    omega
/-- one cell set: the world of the new store -/
theorem z_ws_set {g : z_U} {S S' : z_S} {o : Nat} (h1 : 4 ≤ o) (h2 : o < z_nx S + 4) (hn : z_nx S' = z_nx S) (hoff : ∀ q, q ≠ o → z_ent g S' q = z_ent g S q) : (z_ws g S).set (o - 4) (z_ad g o, z_ent g S' o) = z_ws g S' := by
  apply List.ext_getElem?
  intro k
  by_cases hk : k = o - 4
  · subst hk
    rw [List.getElem?_set_self (by rw [z_ws_len]; omega), z_ws_at (by omega), show o - 4 + 4 = o by omega]
  · rw [List.getElem?_set_ne (Ne.symm hk)]
    by_cases hl : k < z_nx S
    · rw [z_ws_at hl, z_ws_at (by omega), hoff (k + 4) (by omega)]
    · rw [List.getElem?_eq_none (by rw [z_ws_len]; omega), List.getElem?_eq_none (by rw [z_ws_len]; omega)]
theorem z_ent_obj {g : z_U} {S : z_S} {o ci : Nat} (h : z_kd S o = (0, ci)) : z_ent g S o = .inr (ci, (List.range (z_n ci)).map (z_fld g S ci o)) := by
  unfold z_ent; rw [h]; rfl
theorem z_ent_row {g : z_U} {S : z_S} {o n : Nat} (h : z_kd S o = (1, n)) : z_ent g S o = .inl (g.2.2.1, n, .inl (z_I S o)) := by
  unfold z_ent; rw [h]; rfl
theorem z_ent_refs {g : z_U} {S : z_S} {o n : Nat} (h : z_kd S o = (2, n)) : z_ent g S o = .inl (g.2.2.2.1, n, .inr (.inr (.inr (.inr (fun j => (z_R S o j).map (z_ad g)))))) := by
  unfold z_ent; rw [h]; rfl
/-- the other cells don't see a put -/
theorem z_ent_pI {g : z_U} {S : z_S} {o k q : Nat} {v : Int32} (h : q ≠ o) : z_ent g (z_pI S o k v) q = z_ent g S q := by
  have hI : z_I (z_pI S o k v) q = z_I S q := by
    funext j
    simp [z_I, z_pI, z_u2, h]
  unfold z_ent
  have e1 : z_kd (z_pI S o k v) q = z_kd S q := rfl
  rw [e1, hI]
  have e2 : z_fld g (z_pI S o k v) = fun ci q' k' => if z_isI ci k' = true then .int (z_I (z_pI S o k v) q' k') else va_rf ((z_R S q' k').map (z_ad g)) := rfl
  have e3 : ∀ ci, z_fld g (z_pI S o k v) ci q = z_fld g S ci q := by
    intro ci
    funext j
    simp only [z_fld]
    rw [hI]
    rfl
  have e4 : z_R (z_pI S o k v) q = z_R S q := rfl
  simp only [e3, e4]
theorem z_ent_pR {g : z_U} {S : z_S} {o k q : Nat} {v : Option Nat} (h : q ≠ o) : z_ent g (z_pR S o k v) q = z_ent g S q := by
  have hI : z_R (z_pR S o k v) q = z_R S q := by
    funext j
    simp [z_R, z_pR, z_u2, h]
  unfold z_ent
  have e1 : z_kd (z_pR S o k v) q = z_kd S q := rfl
  have e3 : ∀ ci, z_fld g (z_pR S o k v) ci q = z_fld g S ci q := by
    intro ci
    funext j
    simp only [z_fld]
    rw [hI]
    rfl
  have e4 : z_I (z_pR S o k v) q = z_I S q := rfl
  rw [e1, hI, e4]
  simp only [e3]
theorem z_fs_setI {g : z_U} {S : z_S} {ci o k : Nat} {v : Int32} (hk : k < z_n ci) (hi : z_isI ci k = true) : ((List.range (z_n ci)).map (z_fld g S ci o)).set k (.int v) = (List.range (z_n ci)).map (z_fld g (z_pI S o k v) ci o) := by
  apply List.ext_getElem?
  intro j
  by_cases hj : j = k
  · subst hj
    rw [List.getElem?_set_self (by simpa using hk)]
    simp [List.getElem?_map, List.getElem?_range hk, z_fld, hi, z_I, z_pI, z_u2]
  · rw [List.getElem?_set_ne (Ne.symm hj)]
    by_cases hl : j < z_n ci
    · simp [List.getElem?_map, List.getElem?_range hl, z_fld, z_I, z_pI, z_u2, hj, z_R]
    · simp [List.getElem?_map, List.getElem?_eq_none, hl]
theorem z_fs_setR {g : z_U} {S : z_S} {ci o k : Nat} {v : Option Nat} (hk : k < z_n ci) (hi : z_isI ci k = false) : ((List.range (z_n ci)).map (z_fld g S ci o)).set k (va_rf (v.map (z_ad g))) = (List.range (z_n ci)).map (z_fld g (z_pR S o k v) ci o) := by
  apply List.ext_getElem?
  intro j
  by_cases hj : j = k
  · subst hj
    rw [List.getElem?_set_self (by simpa using hk)]
    simp [List.getElem?_map, List.getElem?_range hk, z_fld, hi, z_R, z_pR, z_u2]
  · rw [List.getElem?_set_ne (Ne.symm hj)]
    by_cases hl : j < z_n ci
    · simp [List.getElem?_map, List.getElem?_range hl, z_fld, z_I, z_pR, z_u2, hj, z_R]
    · simp [List.getElem?_map, List.getElem?_eq_none, hl]
theorem z_setI {g : z_U} {S : z_S} {ci o k : Nat} {v : Int32} (h : z_is S o (0, ci)) (hk : k < z_n ci) (hi : z_isI ci k = true) : (z_ws g S).set (o - 4) (z_ad g o, .inr (ci, ((List.range (z_n ci)).map (z_fld g S ci o)).set k (.int v))) = z_ws g (z_pI S o k v) := by
  rw [z_fs_setI hk hi, ← z_ent_obj (g := g) (S := z_pI S o k v) (o := o) h.1]
  exact z_ws_set h.2.1 h.2.2 rfl (fun q hq => z_ent_pI hq)
theorem z_setR {g : z_U} {S : z_S} {ci o k : Nat} {v : Option Nat} (h : z_is S o (0, ci)) (hk : k < z_n ci) (hi : z_isI ci k = false) : (z_ws g S).set (o - 4) (z_ad g o, .inr (ci, ((List.range (z_n ci)).map (z_fld g S ci o)).set k (va_rf (v.map (z_ad g))))) = z_ws g (z_pR S o k v) := by
  rw [z_fs_setR hk hi, ← z_ent_obj (g := g) (S := z_pR S o k v) (o := o) h.1]
  exact z_ws_set h.2.1 h.2.2 rfl (fun q hq => z_ent_pR hq)
theorem z_setA {g : z_U} {S : z_S} {n o k : Nat} {v : Int32} (h : z_is S o (1, n)) : (z_ws g S).set (o - 4) (z_ad g o, .inl (g.2.2.1, n, .inl (upd (z_I S o) k v))) = z_ws g (z_pI S o k v) := by
  have e : upd (z_I S o) k v = z_I (z_pI S o k v) o := by
    funext j
    simp [upd, z_I, z_pI, z_u2]
  rw [e, ← z_ent_row (g := g) (S := z_pI S o k v) (o := o) h.1]
  exact z_ws_set h.2.1 h.2.2 rfl (fun q hq => z_ent_pI hq)
theorem z_setQ {g : z_U} {S : z_S} {n o k : Nat} {v : Option Nat} (h : z_is S o (2, n)) : (z_ws g S).set (o - 4) (z_ad g o, .inl (g.2.2.2.1, n, .inr (.inr (.inr (.inr (va_up (fun j => (z_R S o j).map (z_ad g)) k (v.map (z_ad g)))))))) = z_ws g (z_pR S o k v) := by
  have e : va_up (fun j => (z_R S o j).map (z_ad g)) k (v.map (z_ad g)) = fun j => (z_R (z_pR S o k v) o j).map (z_ad g) := by
    funext j
    by_cases hj : j = k <;> simp [va_up, z_R, z_pR, z_u2, hj]
  rw [e, ← z_ent_refs (g := g) (S := z_pR S o k v) (o := o) h.1]
  exact z_ws_set h.2.1 h.2.2 rfl (fun q hq => z_ent_pR hq)
/-- locals by their places -/
def z_as (g : z_U) (ls : List (Option Value)) : List (Nat × Value) := (List.range ls.length).filterMap (fun k => match ls[k]? with
  | some (some v) => some (k, z_val g v)
  | _ => none)
theorem z_as_mem {g : z_U} {ls : List (Option Value)} {q : Nat × Value} : q ∈ z_as g ls ↔ ∃ v, ls[q.1]? = some (some v) ∧ q.2 = z_val g v := by
  unfold z_as
  rw [List.mem_filterMap]
  constructor
  · rintro ⟨k, hk, h⟩
    split at h
    next v hv => cases h; exact ⟨v, hv, rfl⟩
    next => cases h
  · rintro ⟨v, h1, h2⟩
    refine ⟨q.1, List.mem_range.mpr (List.getElem?_eq_some_iff.mp h1).1, ?_⟩
    rw [h1]
    show some (q.1, z_val g v) = some q
    rw [← h2]
theorem z_cat {g : z_U} {v : Value} : (z_val g v).category = v.category := by cases v <;> rfl
def z_has (g : z_U) (ls : List (Option Value)) (Ls : Array Slot) (nL : Nat) : Prop := ls.length = nL ∧ lv_has Ls nL (z_as g ls)
theorem z_has.at {g : z_U} {ls : List (Option Value)} {Ls : Array Slot} {nL i : Nat} {v : Value} (h : z_has g ls Ls nL) (hi : ls[i]? = some (some v)) : Ls[i]? = some (.val (z_val g v)) := h.2.2.2 (i, z_val g v) (z_as_mem.mpr ⟨v, hi, rfl⟩)
/-- the local ahead isn't a long -/
def z_ok1 (ls : List (Option Value)) (i : Nat) : Bool := match i with
  | 0 => true
  | j + 1 => match ls[j]? with
    | some (some (.long _)) => false
    | some (some (.double _)) => false
    | _ => true
theorem z_ok1_cat {ls : List (Option Value)} {j i : Nat} {v : Value} (h : z_ok1 ls i = true) (hj : j + 1 = i) (hv : ls[j]? = some (some v)) : ¬ v.category = 2 := by
  subst hj
  simp only [z_ok1, hv] at h
  cases v <;> simp_all [Value.category]
theorem z_has.set1 {g : z_U} {ls : List (Option Value)} {Ls : Array Slot} {nL i : Nat} {v : Value} (hlen : ls.length = nL) (hok : z_ok1 ls i = true) (hc : v.category = 1)
    (h : lv_has Ls nL ((i, z_val g v) :: (z_as g ls).filter (fun q => !(q.1 == i) && !(q.1 + 1 == i && q.2.category == 2)))) : z_has g (ls.set i (some v)) Ls nL := by
  refine ⟨by simpa using hlen, h.1, h.2.1, fun q hq => h.2.2 q ?_⟩
  obtain ⟨w, h1, h2⟩ := z_as_mem.mp hq
  by_cases hqi : q.1 = i
  · rw [hqi, List.getElem?_set] at h1
    split at h1
    · split at h1
      · cases h1
        rw [show q = (i, z_val g v) from Prod.ext hqi h2]
        exact List.mem_cons_self
      · cases h1
    · next hne => exact absurd rfl hne
  · rw [List.getElem?_set_ne (Ne.symm hqi)] at h1
    refine List.mem_cons_of_mem _ (List.mem_filter.mpr ⟨z_as_mem.mpr ⟨w, h1, h2⟩, ?_⟩)
    have h3 : ¬ (q.1 + 1 = i ∧ q.2.category = 2) := by
      rintro ⟨e1, e2⟩
      rw [h2, z_cat] at e2
      exact z_ok1_cat hok e1 h1 e2
    simp only [Bool.and_eq_true, Bool.not_eq_true', beq_eq_false_iff_ne, ne_eq, Bool.and_eq_false_iff]
    refine ⟨hqi, ?_⟩
    by_cases e : q.1 + 1 = i
    · exact Or.inr (fun z => h3 ⟨e, z⟩)
    · exact Or.inl e
theorem z_has.set2 {g : z_U} {ls : List (Option Value)} {Ls : Array Slot} {nL i : Nat} {v : Value} (hlen : ls.length = nL) (hok : z_ok1 ls i = true) (hc : v.category = 2)
    (h : lv_has Ls nL ((i, z_val g v) :: (z_as g ls).filter (fun q => !(q.1 == i) && (!(q.1 == i + 1) && !(q.1 + 1 == i && q.2.category == 2))))) : z_has g ((ls.set i (some v)).set (i + 1) none) Ls nL := by
  refine ⟨by simpa using hlen, h.1, h.2.1, fun q hq => h.2.2 q ?_⟩
  obtain ⟨w, h1, h2⟩ := z_as_mem.mp hq
  by_cases hq1 : q.1 = i + 1
  · rw [hq1, List.getElem?_set] at h1
    split at h1
    · split at h1 <;> simp at h1
    · next hne => exact absurd rfl hne
  rw [List.getElem?_set_ne (Ne.symm hq1)] at h1
  by_cases hqi : q.1 = i
  · rw [hqi, List.getElem?_set] at h1
    split at h1
    · split at h1
      · cases h1
        rw [show q = (i, z_val g v) from Prod.ext hqi h2]
        exact List.mem_cons_self
      · cases h1
    · next hne => exact absurd rfl hne
  · rw [List.getElem?_set_ne (Ne.symm hqi)] at h1
    refine List.mem_cons_of_mem _ (List.mem_filter.mpr ⟨z_as_mem.mpr ⟨w, h1, h2⟩, ?_⟩)
    have h3 : ¬ (q.1 + 1 = i ∧ q.2.category = 2) := by
      rintro ⟨e1, e2⟩
      rw [h2, z_cat] at e2
      exact z_ok1_cat hok e1 h1 e2
    simp only [Bool.and_eq_true, Bool.not_eq_true', beq_eq_false_iff_ne, ne_eq, Bool.and_eq_false_iff]
    refine ⟨hqi, hq1, ?_⟩
    by_cases e : q.1 + 1 = i
    · exact Or.inr (fun z => h3 ⟨e, z⟩)
    · exact Or.inl e
end
section
/-! THE WALK over numbered cells: what stays for a method's whole body is put into one bundle. -/
abbrev z_X : Type := Program × Env × Room × State × MethodId × Array Value × List Frame × Method × Code × (State → Prop) × Nat
def z_Xp (X : z_X) : Program := X.1
def z_Xe (X : z_X) : Env := X.2.1
def z_XR (X : z_X) : Room := X.2.2.1
def z_Xs (X : z_X) : State := X.2.2.2.1
def z_Xm (X : z_X) : MethodId := X.2.2.2.2.1
def z_Xa (X : z_X) : Array Value := X.2.2.2.2.2.1
def z_Xb (X : z_X) : List Frame := X.2.2.2.2.2.2.1
def z_Xh (X : z_X) : Method := X.2.2.2.2.2.2.2.1
def z_Xc (X : z_X) : Code := X.2.2.2.2.2.2.2.2.1
def z_XQ (X : z_X) : State → Prop := X.2.2.2.2.2.2.2.2.2.1
def z_XL (X : z_X) : Nat := X.2.2.2.2.2.2.2.2.2.2
def z_W (g : z_U) (X : z_X) (pc : Nat) (ls : List (Option Value)) (st : List Value) (cl sl : Nat) (S : z_S) : Prop :=
  ∀ (H : Heap) (locs : List Loc) (Ls : Array Slot), z_Wd g S H → va_S (z_A g) (z_Xs X).heap H locs → z_has g ls Ls (z_XL X) →
    W (z_Xp X) g.1 (z_Xe X) (z_XR X) (z_Xs X) (z_Xm X) (z_Xa X) (z_Xb X) (z_Xh X) (z_Xc X) H locs cl sl (z_XQ X) (F0 (z_Xm X) pc Ls (st.map (z_val g)))
def z_B (g : z_U) (X : z_X) (own : String) (cc : ByteArray) (nL : Nat) : Prop :=
  (z_Xp X).tables.exec = Jvm.exec ∧ (z_Xc X).code = cc ∧ (z_Xc X).maxLocals = nL ∧ (z_Xs X).vm.findClass own = some (z_Xm X).cls ∧ (∀ w ∈ z_tbl, w.before (z_Xa X) (z_Xs X) = true) ∧ z_Kn g (z_Xs X) ∧ z_base g ≤ (z_Xs X).heap.size ∧ z_XL X = nL
/-- written numbers, as numerals -/
def z_k1 {α : Type} (n : Int) (f : Int32 → α) (h : Int32) : α := match n with
  | .ofNat m => match m with
    | 0 => f 0
    | 1 => f 1
    | 2 => f 2
    | 3 => f 3
    | 4 => f 4
    | 5 => f 5
    | _ => f h
  | .negSucc m => match m with
    | 0 => f (-1)
    | _ => f h
def z_k2 {α : Type} (n : Int) (f : Int32 → α) (h : Int32) : α := match n with
  | .ofNat m => match m with
    | 6 => f 6
    | 7 => f 7
    | 8 => f 8
    | 9 => f 9
    | 10 => f 10
    | 11 => f 11
    | 12 => f 12
    | 13 => f 13
    | 14 => f 14
    | 15 => f 15
    | 16 => f 16
    | 17 => f 17
    | 20 => f 20
    | 24 => f 24
    | 28 => f 28
    | 30 => f 30
    | 31 => f 31
    | 32 => f 32
    | 34 => f 34
    | 40 => f 40
    | 44 => f 44
    | 48 => f 48
    | 57 => f 57
    | 59 => f 59
    | 60 => f 60
    | 63 => f 63
    | 99 => f 99
    | 100 => f 100
    | 104 => f 104
    | 113 => f 113
    | 115 => f 115
    | 119 => f 119
    | 126 => f 126
    | _ => f h
  | .negSucc m => match m with
    | 3 => f (-4)
    | 2 => f (-3)
    | 1 => f (-2)
    | _ => f h
def z_k3 {α : Type} (n : Int) (f : Int32 → α) (h : Int32) : α := match n with
  | .ofNat m => match m with
    | 136 => f 136
    | 200 => f 200
    | 255 => f 255
    | 9999 => f 9999
    | _ => f h
  | .negSucc _ => f h
theorem z_k1_eq {α : Type} (n : Int) (f : Int32 → α) : z_k1 n f (Int32.ofInt n) = f (Int32.ofInt n) := by
  unfold z_k1
  split
  · split <;> rfl
  · split <;> rfl
theorem z_k2_eq {α : Type} (n : Int) (f : Int32 → α) : z_k2 n f (Int8.ofInt n).toInt32 = f (Int8.ofInt n).toInt32 := by
  unfold z_k2
  split
  · split <;> rfl
  · first | (split <;> rfl) | rfl
theorem z_k3_eq {α : Type} (n : Int) (f : Int32 → α) : z_k3 n f (Int16.ofInt n).toInt32 = f (Int16.ofInt n).toInt32 := by
  unfold z_k3
  split
  · split <;> rfl
  · first | (split <;> rfl) | rfl
/-- one instruction on stack and locals -/
def z_sx (ins : Instr) (ls : List (Option Value)) (st : List Value) : Option (List (Option Value) × List Value) :=
  match ins with
  | .iconst n => z_k1 n (fun v => some (ls, .int v :: st)) (Int32.ofInt n)
  | .bipush n => z_k2 n (fun v => some (ls, .int v :: st)) (Int8.ofInt n).toInt32
  | .sipush n => z_k3 n (fun v => some (ls, .int v :: st)) (Int16.ofInt n).toInt32
  | .lconst n => some (ls, .long (Int64.ofNat (n : Nat)) :: st)
  | .iload_n k => match ls[(k : Nat)]? with
    | some (some (.int x)) => some (ls, .int x :: st)
    | _ => none
  | .iload k => match ls[k]? with
    | some (some (.int x)) => some (ls, .int x :: st)
    | _ => none
  | .aload_n k => match ls[(k : Nat)]? with
    | some (some (.ref x)) => some (ls, .ref x :: st)
    | _ => none
  | .aload k => match ls[k]? with
    | some (some (.ref x)) => some (ls, .ref x :: st)
    | _ => none
  | .lload_n k => match ls[(k : Nat)]? with
    | some (some (.long x)) => some (ls, .long x :: st)
    | _ => none
  | .lload k => match ls[k]? with
    | some (some (.long x)) => some (ls, .long x :: st)
    | _ => none
  | .istore_n k => match st with
    | .int x :: r => if (z_ok1 ls k && decide ((k : Nat) < ls.length)) = true then some (ls.set k (some (.int x)), r) else none
    | _ => none
  | .istore k => match st with
    | .int x :: r => if (z_ok1 ls k && decide ((k : Nat) < ls.length)) = true then some (ls.set k (some (.int x)), r) else none
    | _ => none
  | .astore_n k => match st with
    | .ref x :: r => if (z_ok1 ls k && decide ((k : Nat) < ls.length)) = true then some (ls.set k (some (.ref x)), r) else none
    | _ => none
  | .astore k => match st with
    | .ref x :: r => if (z_ok1 ls k && decide ((k : Nat) < ls.length)) = true then some (ls.set k (some (.ref x)), r) else none
    | _ => none
  | .lstore_n k => match st with
    | .long x :: r => if (z_ok1 ls k && decide (k + 1 < ls.length)) = true then some ((ls.set k (some (.long x))).set (k + 1) none, r) else none
    | _ => none
  | .lstore k => match st with
    | .long x :: r => if (z_ok1 ls k && decide (k + 1 < ls.length)) = true then some ((ls.set k (some (.long x))).set (k + 1) none, r) else none
    | _ => none
  | .iinc k n => match ls[k]? with
    | some (some (.int x)) => if (z_ok1 ls k && decide ((k : Nat) < ls.length)) = true then z_k1 n (fun v => some (ls.set k (some (.int (x + v))), st)) (Int32.ofInt n) else none
    | _ => none
  | .iadd => match st with
    | .int y :: .int x :: r => some (ls, .int (x + y) :: r)
    | _ => none
  | .isub => match st with
    | .int y :: .int x :: r => some (ls, .int (x - y) :: r)
    | _ => none
  | .imul => match st with
    | .int y :: .int x :: r => some (ls, .int (x * y) :: r)
    | _ => none
  | .iand => match st with
    | .int y :: .int x :: r => some (ls, .int (x &&& y) :: r)
    | _ => none
  | .ior => match st with
    | .int y :: .int x :: r => some (ls, .int (x ||| y) :: r)
    | _ => none
  | .ixor => match st with
    | .int y :: .int x :: r => some (ls, .int (x ^^^ y) :: r)
    | _ => none
  | .ishl => match st with
    | .int y :: .int x :: r => some (ls, .int (x <<< (y &&& 31)) :: r)
    | _ => none
  | .ishr => match st with
    | .int y :: .int x :: r => some (ls, .int (x >>> (y &&& 31)) :: r)
    | _ => none
  | .iushr => match st with
    | .int y :: .int x :: r => some (ls, .int (x.toUInt32 >>> (y.toUInt32 &&& Int32.toUInt32 31)).toInt32 :: r)
    | _ => none
  | .ladd => match st with
    | .long y :: .long x :: r => some (ls, .long (x + y) :: r)
    | _ => none
  | .lmul => match st with
    | .long y :: .long x :: r => some (ls, .long (x * y) :: r)
    | _ => none
  | .i2l => match st with
    | .int x :: r => some (ls, .long x.toInt64 :: r)
    | _ => none
  | .l2i => match st with
    | .long x :: r => some (ls, .int x.toInt32 :: r)
    | _ => none
  | .dup => match st with
    | .int x :: r => some (ls, .int x :: .int x :: r)
    | .ref x :: r => some (ls, .ref x :: .ref x :: r)
    | _ => none
  | .pop => match st with
    | .int x :: r => some (ls, r)
    | .ref x :: r => some (ls, r)
    | _ => none
  | .dup2 => match st with
    | .int y :: .ref x :: r => some (ls, .int y :: .ref x :: .int y :: .ref x :: r)
    | .long x :: r => some (ls, .long x :: .long x :: r)
    | _ => none
  | _ => none
def z_len (ins : Instr) : Nat := match ins with
  | .iload _ | .istore _ | .aload _ | .astore _ | .lload _ | .lstore _ | .bipush _ => 2
  | .sipush _ | .iinc _ _ => 3
  | _ => 1
section ZW
variable {g : z_U} {X : z_X} {own : String} {cc : ByteArray} {nL pc : Nat} {ls ls' : List (Option Value)} {st st' : List Value} {cl sl : Nat} {S : z_S}
set_option maxHeartbeats 4000000 in
theorem z_s (n : Nat) {ins : Instr} (hB : z_B g X own cc nL) (hd : decode cc pc = .ok (ins, z_len ins)) (hs : z_sx ins ls st = some (ls', st')) (hn : pc + z_len ins = n)
    (k : z_W g X n ls' st' cl sl S) : z_W g X pc ls st cl sl S := by
  obtain ⟨hx, hb, hml, -⟩ := hB
  subst hn
  intro H locs Ls hW hS hh
  have hlen := hh.1
  cases ins with
  | iconst n =>
    simp only [z_sx, z_k1_eq] at hs
    cases hs
    exact lv_iconst hx hb hd rfl (k H locs Ls hW hS hh)
  | bipush n =>
    simp only [z_sx, z_k2_eq] at hs
    cases hs
    exact lv_bipush hx hb hd rfl (k H locs Ls hW hS hh)
  | sipush n =>
    simp only [z_sx, z_k3_eq] at hs
    cases hs
    exact lv_sipush hx hb hd rfl (k H locs Ls hW hS hh)
  | lconst n =>
    simp only [z_sx] at hs
    cases hs
    exact lv_lconst hx hb hd rfl (k H locs Ls hW hS hh)
  | iload_n q =>
    simp only [z_sx] at hs
    split at hs
    next x hx' => cases hs; exact lv_iload_n hx hb hd rfl (hh.at hx') (k H locs Ls hW hS hh)
    next => cases hs
  | iload q =>
    simp only [z_sx] at hs
    split at hs
    next x hx' => cases hs; exact lv_iload hx hb hd (hh.at hx') (k H locs Ls hW hS hh)
    next => cases hs
  | aload_n q =>
    simp only [z_sx] at hs
    split at hs
    next x hx' => cases hs; exact lv_aload_n hx hb hd rfl (hh.at hx') (k H locs Ls hW hS hh)
    next => cases hs
  | aload q =>
    simp only [z_sx] at hs
    split at hs
    next x hx' => cases hs; exact lv_aload hx hb hd (hh.at hx') (k H locs Ls hW hS hh)
    next => cases hs
  | lload_n q =>
    simp only [z_sx] at hs
    split at hs
    next x hx' => cases hs; exact lv_lload_n hx hb hd rfl (hh.at hx') (k H locs Ls hW hS hh)
    next => cases hs
  | lload q =>
    simp only [z_sx] at hs
    split at hs
    next x hx' => cases hs; exact lv_lload hx hb hd (hh.at hx') (k H locs Ls hW hS hh)
    next => cases hs
  | istore_n q =>
    simp only [z_sx] at hs
    split at hs
    next x r =>
      split at hs
      next hok =>
        cases hs
        simp only [Bool.and_eq_true, decide_eq_true_eq] at hok
        exact lv_istore_n hx hb hd rfl hh.2 (by omega) rfl (fun Ls' h' => k H locs Ls' hW hS (z_has.set1 (v := .int x) hlen hok.1 rfl h'))
      next => cases hs
    next => cases hs
  | istore q =>
    simp only [z_sx] at hs
    split at hs
    next x r =>
      split at hs
      next hok =>
        cases hs
        simp only [Bool.and_eq_true, decide_eq_true_eq] at hok
        exact lv_istore hx hb hd hh.2 (by omega) rfl (fun Ls' h' => k H locs Ls' hW hS (z_has.set1 (v := .int x) hlen hok.1 rfl h'))
      next => cases hs
    next => cases hs
  | astore_n q =>
    simp only [z_sx] at hs
    split at hs
    next x r =>
      split at hs
      next hok =>
        cases hs
        simp only [Bool.and_eq_true, decide_eq_true_eq] at hok
        exact lv_astore_n hx hb hd rfl hh.2 (by omega) rfl (fun Ls' h' => k H locs Ls' hW hS (z_has.set1 (v := .ref x) hlen hok.1 rfl h'))
      next => cases hs
    next => cases hs
  | astore q =>
    simp only [z_sx] at hs
    split at hs
    next x r =>
      split at hs
      next hok =>
        cases hs
        simp only [Bool.and_eq_true, decide_eq_true_eq] at hok
        exact lv_astore hx hb hd hh.2 (by omega) rfl (fun Ls' h' => k H locs Ls' hW hS (z_has.set1 (v := .ref x) hlen hok.1 rfl h'))
      next => cases hs
    next => cases hs
  | lstore_n q =>
    simp only [z_sx] at hs
    split at hs
    next x r =>
      split at hs
      next hok =>
        cases hs
        simp only [Bool.and_eq_true, decide_eq_true_eq] at hok
        exact lv_lstore_n hx hb hd rfl hh.2 (by omega) rfl (fun Ls' h' => k H locs Ls' hW hS (z_has.set2 (v := .long x) hlen hok.1 rfl h'))
      next => cases hs
    next => cases hs
  | lstore q =>
    simp only [z_sx] at hs
    split at hs
    next x r =>
      split at hs
      next hok =>
        cases hs
        simp only [Bool.and_eq_true, decide_eq_true_eq] at hok
        exact lv_lstore hx hb hd hh.2 (by omega) rfl (fun Ls' h' => k H locs Ls' hW hS (z_has.set2 (v := .long x) hlen hok.1 rfl h'))
      next => cases hs
    next => cases hs
  | iinc q n =>
    simp only [z_sx, z_k1_eq] at hs
    split at hs
    next x hx' =>
      split at hs
      next hok =>
        cases hs
        simp only [Bool.and_eq_true, decide_eq_true_eq] at hok
        obtain ⟨j, hj⟩ := List.getElem?_of_mem (z_as_mem (g := g) (q := (q, .int x)).mpr ⟨.int x, hx', rfl⟩)
        exact lv_iinc hx hb hd hh.2 hj rfl (by omega) rfl (fun Ls' h' => k H locs Ls' hW hS (z_has.set1 (v := .int (x + Int32.ofInt n)) hlen hok.1 rfl h'))
      next => cases hs
    next => cases hs
  | iadd =>
    simp only [z_sx] at hs
    split at hs
    next => cases hs; exact lv_iadd hx hb hd (k H locs Ls hW hS hh)
    next => cases hs
  | isub =>
    simp only [z_sx] at hs
    split at hs
    next => cases hs; exact lv_isub hx hb hd (k H locs Ls hW hS hh)
    next => cases hs
  | imul =>
    simp only [z_sx] at hs
    split at hs
    next => cases hs; exact lv_imul hx hb hd (k H locs Ls hW hS hh)
    next => cases hs
  | iand =>
    simp only [z_sx] at hs
    split at hs
    next => cases hs; exact lv_iand hx hb hd (k H locs Ls hW hS hh)
    next => cases hs
  | ior =>
    simp only [z_sx] at hs
    split at hs
    next => cases hs; exact lv_ior hx hb hd (k H locs Ls hW hS hh)
    next => cases hs
  | ixor =>
    simp only [z_sx] at hs
    split at hs
    next => cases hs; exact lv_ixor hx hb hd (k H locs Ls hW hS hh)
    next => cases hs
  | ishl =>
    simp only [z_sx] at hs
    split at hs
    next => cases hs; exact lv_ishl hx hb hd (k H locs Ls hW hS hh)
    next => cases hs
  | ishr =>
    simp only [z_sx] at hs
    split at hs
    next => cases hs; exact lv_ishr hx hb hd (k H locs Ls hW hS hh)
    next => cases hs
  | ladd =>
    simp only [z_sx] at hs
    split at hs
    next => cases hs; exact lv_ladd hx hb hd (k H locs Ls hW hS hh)
    next => cases hs
  | lmul =>
    simp only [z_sx] at hs
    split at hs
    next => cases hs; exact lv_lmul hx hb hd (k H locs Ls hW hS hh)
    next => cases hs
  | iushr =>
    simp only [z_sx] at hs
    split at hs
    next => cases hs; exact lv_iushr hx hb hd rfl (k H locs Ls hW hS hh)
    next => cases hs
  | i2l =>
    simp only [z_sx] at hs
    split at hs
    next => cases hs; exact lv_i2l hx hb hd rfl (k H locs Ls hW hS hh)
    next => cases hs
  | l2i =>
    simp only [z_sx] at hs
    split at hs
    next => cases hs; exact lv_l2i hx hb hd rfl (k H locs Ls hW hS hh)
    next => cases hs
  | dup =>
    simp only [z_sx] at hs
    split at hs
    next => cases hs; exact lv_dup hx hb hd rfl (k H locs Ls hW hS hh)
    next => cases hs; exact lv_dup hx hb hd rfl (k H locs Ls hW hS hh)
    next => cases hs
  | pop =>
    simp only [z_sx] at hs
    split at hs
    next => cases hs; exact lv_pop hx hb hd rfl (k H locs Ls hW hS hh)
    next => cases hs; exact lv_pop hx hb hd rfl (k H locs Ls hW hS hh)
    next => cases hs
  | dup2 =>
    simp only [z_sx] at hs
    split at hs
    next => cases hs; exact lv_dup2_11 hx hb hd rfl rfl (k H locs Ls hW hS hh)
    next => cases hs; exact lv_dup2_2 hx hb hd rfl (k H locs Ls hW hS hh)
    next => cases hs
  | _ => simp [z_sx] at hs
theorem z_lt1 {x y : Int32} (h : ¬ x ≤ y) : y < x := Int32.not_le.mp h
theorem z_le1 {x y : Int32} (h : ¬ x < y) : y ≤ x := Int32.not_lt.mp h
/-- branches: what holds where it is taken, and where it isn't; the offset; what stays -/
def z_bx (ins : Instr) (st : List Value) : Option (Prop × Prop × Int × List Value) :=
  match ins with
  | .ifCond .eq o => match st with
    | .int x :: r => some (x = 0, ¬ x = 0, o, r)
    | _ => none
  | .ifCond .ne o => match st with
    | .int x :: r => some (¬ x = 0, x = 0, o, r)
    | _ => none
  | .ifCond .lt o => match st with
    | .int x :: r => some (x < 0, 0 ≤ x, o, r)
    | _ => none
  | .ifCond .ge o => match st with
    | .int x :: r => some (0 ≤ x, x < 0, o, r)
    | _ => none
  | .ifCond .gt o => match st with
    | .int x :: r => some (0 < x, x ≤ 0, o, r)
    | _ => none
  | .ifCond .le o => match st with
    | .int x :: r => some (x ≤ 0, 0 < x, o, r)
    | _ => none
  | .if_icmp .eq o => match st with
    | .int y :: .int x :: r => some (x = y, ¬ x = y, o, r)
    | _ => none
  | .if_icmp .ne o => match st with
    | .int y :: .int x :: r => some (¬ x = y, x = y, o, r)
    | _ => none
  | .if_icmp .lt o => match st with
    | .int y :: .int x :: r => some (x < y, y ≤ x, o, r)
    | _ => none
  | .if_icmp .ge o => match st with
    | .int y :: .int x :: r => some (y ≤ x, x < y, o, r)
    | _ => none
  | .if_icmp .gt o => match st with
    | .int y :: .int x :: r => some (y < x, x ≤ y, o, r)
    | _ => none
  | .if_icmp .le o => match st with
    | .int y :: .int x :: r => some (x ≤ y, y < x, o, r)
    | _ => none
  | .ifnull o => match st with
    | .ref x :: r => some (False, True, o, r)
    | .null :: r => some (True, False, o, r)
    | _ => none
  | _ => none
set_option maxHeartbeats 4000000 in
theorem z_b (n t : Nat) {ins : Instr} {c c' : Prop} {off : Int} (hB : z_B g X own cc nL) (hd : decode cc pc = .ok (ins, 3)) (hs : z_bx ins st = some (c, c', off, st')) (hn : pc + 3 = n) (ht : (pc : Int) + off = (t : Int))
    (kt : c → z_W g X t ls st' cl sl S) (kf : c' → z_W g X n ls st' cl sl S) : z_W g X pc ls st cl sl S := by
  obtain ⟨hx, hb, hml, -⟩ := hB
  subst hn
  intro H locs Ls hW hS hh
  cases ins with
  | ifCond q o =>
    cases q with
    | eq =>
      simp only [z_bx] at hs
      split at hs
      next => cases hs; exact lv_if_eq hx hb hd ht (fun h => kt h H locs Ls hW hS hh) (fun h => kf h H locs Ls hW hS hh)
      next => cases hs
    | ne =>
      simp only [z_bx] at hs
      split at hs
      next => cases hs; exact lv_if_ne hx hb hd ht (fun h => kt h H locs Ls hW hS hh) (fun h => kf h H locs Ls hW hS hh)
      next => cases hs
    | lt =>
      simp only [z_bx] at hs
      split at hs
      next => cases hs; exact lv_if_lt hx hb hd ht (fun h => kt h H locs Ls hW hS hh) (fun h => kf (z_le1 h) H locs Ls hW hS hh)
      next => cases hs
    | ge =>
      simp only [z_bx] at hs
      split at hs
      next => cases hs; exact lv_if_ge hx hb hd ht (fun h => kt h H locs Ls hW hS hh) (fun h => kf (z_lt1 h) H locs Ls hW hS hh)
      next => cases hs
    | gt =>
      simp only [z_bx] at hs
      split at hs
      next => cases hs; exact lv_if_gt hx hb hd ht (fun h => kt h H locs Ls hW hS hh) (fun h => kf (z_le1 h) H locs Ls hW hS hh)
      next => cases hs
    | le =>
      simp only [z_bx] at hs
      split at hs
      next => cases hs; exact lv_if_le hx hb hd ht (fun h => kt h H locs Ls hW hS hh) (fun h => kf (z_lt1 h) H locs Ls hW hS hh)
      next => cases hs
  | if_icmp q o =>
    cases q with
    | eq =>
      simp only [z_bx] at hs
      split at hs
      next => cases hs; exact lv_icmp_eq hx hb hd ht (fun h => kt h H locs Ls hW hS hh) (fun h => kf h H locs Ls hW hS hh)
      next => cases hs
    | ne =>
      simp only [z_bx] at hs
      split at hs
      next => cases hs; exact lv_icmp_ne hx hb hd ht (fun h => kt h H locs Ls hW hS hh) (fun h => kf h H locs Ls hW hS hh)
      next => cases hs
    | lt =>
      simp only [z_bx] at hs
      split at hs
      next => cases hs; exact lv_icmp_lt hx hb hd ht (fun h => kt h H locs Ls hW hS hh) (fun h => kf (z_le1 h) H locs Ls hW hS hh)
      next => cases hs
    | ge =>
      simp only [z_bx] at hs
      split at hs
      next => cases hs; exact lv_icmp_ge hx hb hd ht (fun h => kt h H locs Ls hW hS hh) (fun h => kf (z_lt1 h) H locs Ls hW hS hh)
      next => cases hs
    | gt =>
      simp only [z_bx] at hs
      split at hs
      next => cases hs; exact lv_icmp_gt hx hb hd ht (fun h => kt h H locs Ls hW hS hh) (fun h => kf (z_le1 h) H locs Ls hW hS hh)
      next => cases hs
    | le =>
      simp only [z_bx] at hs
      split at hs
      next => cases hs; exact lv_icmp_le hx hb hd ht (fun h => kt h H locs Ls hW hS hh) (fun h => kf (z_lt1 h) H locs Ls hW hS hh)
      next => cases hs
  | ifnull o =>
    simp only [z_bx] at hs
    split at hs
    next => cases hs; exact lv_ifnull hx hb hd (kf trivial H locs Ls hW hS hh)
    next => cases hs; exact lv_ifnullN hx hb hd ht (kt trivial H locs Ls hW hS hh)
    next => cases hs
  | _ => simp [z_bx] at hs
theorem z_j (t : Nat) {off : Int} (hB : z_B g X own cc nL) (hd : decode cc pc = .ok (.goto off, 3)) (ht : (pc : Int) + off = (t : Int)) (k : z_W g X t ls st cl sl S) : z_W g X pc ls st cl sl S :=
  fun H locs Ls hW hS hh => lv_goto hB.1 hB.2.1 hd ht (k H locs Ls hW hS hh)
theorem z_irem (n : Nat) {x y : Int32} (hB : z_B g X own cc nL) (hd : decode cc pc = .ok (.irem, 1)) (hn : pc + 1 = n) (hy : ¬ y = 0) (k : z_W g X n ls (.int (x - x / y * y) :: st) cl sl S) : z_W g X pc ls (.int y :: .int x :: st) cl sl S := by
  subst hn
  exact fun H locs Ls hW hS hh => lv_irem hB.1 hB.2.1 hd hy (k H locs Ls hW hS hh)
theorem z_idiv (n : Nat) {x y : Int32} (hB : z_B g X own cc nL) (hd : decode cc pc = .ok (.idiv, 1)) (hn : pc + 1 = n) (hy : ¬ y = 0) (k : z_W g X n ls (.int (x / y) :: st) cl sl S) : z_W g X pc ls (.int y :: .int x :: st) cl sl S := by
  subst hn
  exact fun H locs Ls hW hS hh => lv_idiv hB.1 hB.2.1 hd hy (k H locs Ls hW hS hh)
theorem z_lrem (n : Nat) {x y : Int64} (hB : z_B g X own cc nL) (hd : decode cc pc = .ok (.lrem, 1)) (hn : pc + 1 = n) (hy : ¬ y = 0) (k : z_W g X n ls (.long (x - x / y * y) :: st) cl sl S) : z_W g X pc ls (.long y :: .long x :: st) cl sl S := by
  subst hn
  exact fun H locs Ls hW hS hh => lv_lrem hB.1 hB.2.1 hd hy (k H locs Ls hW hS hh)
theorem z_ldiv (n : Nat) {x y : Int64} (hB : z_B g X own cc nL) (hd : decode cc pc = .ok (.ldiv, 1)) (hn : pc + 1 = n) (hy : ¬ y = 0) (k : z_W g X n ls (.long (x / y) :: st) cl sl S) : z_W g X pc ls (.long y :: .long x :: st) cl sl S := by
  subst hn
  exact fun H locs Ls hW hS hh => lv_ldiv hB.1 hB.2.1 hd hy (k H locs Ls hW hS hh)
theorem z_ldc (n : Nat) {idx : Nat} {v : Int32} (hB : z_B g X own cc nL) (hm : Cond.constant own idx v ∈ z_tbl) (hd : decode cc pc = .ok (.ldc idx, 2)) (hn : pc + 2 = n) (k : z_W g X n ls (.int v :: st) cl sl S) : z_W g X pc ls st cl sl S := by
  subst hn
  exact fun H locs Ls hW hS hh => lv_ldc hB.1 hB.2.1 hB.2.2.2.1 (hB.2.2.2.2.1 _ hm) hd (k H locs Ls hW hS hh)
theorem z_ldcw (n : Nat) {idx : Nat} {v : Int32} (hB : z_B g X own cc nL) (hm : Cond.constant own idx v ∈ z_tbl) (hd : decode cc pc = .ok (.ldc_w idx, 3)) (hn : pc + 3 = n) (k : z_W g X n ls (.int v :: st) cl sl S) : z_W g X pc ls st cl sl S := by
  subst hn
  exact fun H locs Ls hW hS hh => lv_ldcw hB.1 hB.2.1 hB.2.2.2.1 (hB.2.2.2.2.1 _ hm) hd (k H locs Ls hW hS hh)
theorem z_ldc2 (n : Nat) {idx : Nat} {v : Int64} (hB : z_B g X own cc nL) (hm : Cond.constantLong own idx v ∈ z_tbl) (hd : decode cc pc = .ok (.ldc2_w idx, 3)) (hn : pc + 3 = n) (k : z_W g X n ls (.long v :: st) cl sl S) : z_W g X pc ls st cl sl S := by
  subst hn
  exact fun H locs Ls hW hS hh => lv_ldc2 hB.1 hB.2.1 hB.2.2.2.1 (hB.2.2.2.2.1 _ hm) hd (k H locs Ls hW hS hh)
theorem z_tsw {x : Int32} {dflt lo hi : Int} {offs : Array Int} {len : Nat} (hB : z_B g X own cc nL) (hd : decode cc pc = .ok (.tableswitch dflt lo hi offs, len)) (t : Nat) (ht : (pc : Int) + (if x.toInt < lo ∨ hi < x.toInt then dflt else (offs[(x.toInt - lo).toNat]?).getD dflt) = (t : Int)) (hok : lo ≤ x.toInt → x.toInt ≤ hi → (x.toInt - lo).toNat < offs.size)
    (k : z_W g X t ls st cl sl S) : z_W g X pc ls (.int x :: st) cl sl S := by
  intro H locs Ls hW hS hh
  by_cases h : x.toInt < lo ∨ hi < x.toInt
  · rw [if_pos h] at ht
    exact lv_tableOut hB.1 hB.2.1 hd h ht (k H locs Ls hW hS hh)
  · rw [if_neg h] at ht
    have h1 : ¬ x.toInt < lo := fun q => h (Or.inl q)
    have h2 : ¬ hi < x.toInt := fun q => h (Or.inr q)
    have h3 := hok (by omega) (by omega)
    rw [Array.getElem?_eq_getElem h3] at ht
    exact lv_tableIn hB.1 hB.2.1 hd h1 h2 (Array.getElem?_eq_getElem h3) ht (k H locs Ls hW hS hh)
theorem z_lsw {x : Int32} {dflt : Int} {ps : Array (Int × Int)} {len : Nat} (hB : z_B g X own cc nL) (hd : decode cc pc = .ok (.lookupswitch dflt ps, len)) (t : Nat) (hp : (ps.toList.zip (ps.toList.drop 1)).all (fun (a, next) => a.1 < next.1) = true) (ht : (pc : Int) + Op.lookupswitch.offset ps.toList dflt x.toInt = (t : Int))
    (k : z_W g X t ls st cl sl S) : z_W g X pc ls (.int x :: st) cl sl S :=
  fun H locs Ls hW hS hh => lv_lookup hB.1 hB.2.1 hd hp rfl ht (k H locs Ls hW hS hh)
end ZW
end
section
/-! the heap's rows, and calls -/
theorem z_cls : ∀ (ci : Nat) (q : vw_C), z_cl[ci]? = some q → (∀ w ∈ u_ws q.1 q.2.1 q.2.2, w ∈ z_tbl) ∧ (∀ a, a < q.2.2 → ∀ b, b < q.2.2 → a ≠ b → (q.2.1 a).2.1 ≠ (q.2.1 b).2.1) := by
  have key : ∀ ws : List Cond, ws.all (fun w => decide (w ∈ lw_tbl) && goodWord w) = true → ∀ w ∈ ws, w ∈ z_tbl := fun ws h w hw => by
    have h1 := List.all_eq_true.mp h w hw
    simp only [Bool.and_eq_true, decide_eq_true_eq] at h1
    exact List.mem_filter.mpr ⟨h1.1, h1.2⟩
  intro ci q hq
  match ci, hq with
  | 0, hq => cases hq; exact ⟨key _ (by decide +kernel), nmX0⟩
  | 1, hq => cases hq; exact ⟨key _ (by decide +kernel), nmX1⟩
  | 2, hq => cases hq; exact ⟨key _ (by decide +kernel), nmX2⟩
  | 3, hq => cases hq; exact ⟨key _ (by decide +kernel), nmX3⟩
  | 4, hq => cases hq; exact ⟨key _ (by decide +kernel), nmX4⟩
  | 5, hq => cases hq; exact ⟨key _ (by decide +kernel), nmX5⟩
  | 6, hq => cases hq; exact ⟨key _ (by decide +kernel), nmX6⟩
  | 7, hq => cases hq; exact ⟨key _ (by decide +kernel), nmX7⟩
  | 8, hq => cases hq; exact ⟨key _ (by decide +kernel), nmX8⟩
  | 9, hq => cases hq; exact ⟨key _ (by decide +kernel), nmX9⟩
  | 10, hq => cases hq; exact ⟨key _ (by decide +kernel), nmX10⟩
  | k + 11, hq => simp [z_cl] at hq
/-- the fields' types: whole numbers, and references -/
def z_tyOK (q : vw_C) (ty : Nat → FieldType) : Bool := (List.range q.2.2).all (fun k => if (q.2.1 k).2.2.1 == "I" then ty k == .int else (ty k).isReference)
theorem z_clty : ∀ (ci : Nat) (q : vw_C), z_cl[ci]? = some q → ∃ ty : Nat → FieldType, (∀ k, k < q.2.2 → parseFieldDescriptor (q.2.1 k).2.2.1 = some (ty k)) ∧ z_tyOK q ty = true := by
  intro ci q hq
  match ci, hq with
  | 0, hq => cases hq; exact ⟨_, tyX0_ok, by decide +kernel⟩
  | 1, hq => cases hq; exact ⟨_, tyX1_ok, by decide +kernel⟩
  | 2, hq => cases hq; exact ⟨_, tyX2_ok, by decide +kernel⟩
  | 3, hq => cases hq; exact ⟨_, tyX3_ok, by decide +kernel⟩
  | 4, hq => cases hq; exact ⟨_, tyX4_ok, by decide +kernel⟩
  | 5, hq => cases hq; exact ⟨_, tyX5_ok, by decide +kernel⟩
  | 6, hq => cases hq; exact ⟨_, tyX6_ok, by decide +kernel⟩
  | 7, hq => cases hq; exact ⟨_, tyX7_ok, by decide +kernel⟩
  | 8, hq => cases hq; exact ⟨_, tyX8_ok, by decide +kernel⟩
  | 9, hq => cases hq; exact ⟨_, tyX9_ok, by decide +kernel⟩
  | 10, hq => cases hq; exact ⟨_, tyX10_ok, by decide +kernel⟩
  | k + 11, hq => simp [z_cl] at hq
theorem z_tyI {ci k : Nat} {q : vw_C} (hq : z_cl[ci]? = some q) (hk : k < q.2.2) (hi : z_isI ci k = true) : parseFieldDescriptor (q.2.1 k).2.2.1 = some .int := by
  obtain ⟨ty, h1, h2⟩ := z_clty ci q hq
  have h3 := List.all_eq_true.mp h2 k (List.mem_range.mpr hk)
  simp only [z_isI, hq] at hi
  rw [if_pos hi] at h3
  rw [h1 k hk, beq_iff_eq.mp h3]
theorem z_tyR {ci k : Nat} {q : vw_C} (hq : z_cl[ci]? = some q) (hk : k < q.2.2) (hi : z_isI ci k = false) : ∃ ty, parseFieldDescriptor (q.2.1 k).2.2.1 = some ty ∧ ∀ r : Option Nat, narrow ty (va_rf r) = va_rf r ∧ fits ty (va_rf r) = true := by
  obtain ⟨ty, h1, h2⟩ := z_clty ci q hq
  have h3 := List.all_eq_true.mp h2 k (List.mem_range.mpr hk)
  simp only [z_isI, hq] at hi
  rw [if_neg (by rw [hi]; exact Bool.false_ne_true)] at h3
  refine ⟨ty k, h1 k hk, fun r => ?_⟩
  revert h3
  generalize ty k = t
  intro h3
  cases t <;> first | (simp [FieldType.isReference] at h3; done) | (cases r <;> exact ⟨rfl, rfl⟩)
def z_FL (own : String) (idx ci k : Nat) : Prop := ∃ q : vw_C, z_cl[ci]? = some q ∧ k < q.2.2 ∧ (q.2.1 k).1 = q.1 ∧ (Cond.fieldLink own idx q.1 (q.2.1 k).2.1 (q.2.1 k).2.2.1 ∈ z_tbl ∨ ∃ host, Cond.fieldLinkNest own idx q.1 (q.2.1 k).2.1 (q.2.1 k).2.2.1 host ∈ z_nst)
def z_fin (ci k : Nat) : Bool := match z_cl[ci]? with
  | some q => (q.2.1 k).2.2.2
  | none => true
theorem z_adge {g : z_U} {S : z_S} {o : Nat} {q : Nat × Nat} (h : z_is S o q) : z_base g ≤ z_ad g o := by
  obtain ⟨-, h1, -⟩ := h
  obtain ⟨k, rfl⟩ : ∃ k, o = k + 4 := ⟨o - 4, by omega⟩
  show z_base g ≤ z_base g + k
  omega
theorem z_oldS {g : z_U} {S : z_S} {H H1 : Heap} {a : Nat} (hW : z_Wd g S H) (ha : z_base g ≤ a) (oq : ∀ x, x ≠ a → H1[x]? = H[x]?) : ∀ q : Nat, q < z_base g → H1[q]? = (z_H0 g)[q]? :=
  fun q hq => (oq q (by omega)).trans (hW.2.2 q hq)
theorem z_n_of {ci : Nat} {q : vw_C} (h : z_cl[ci]? = some q) : z_n ci = q.2.2 := by simp [z_n, h]
section ZH
variable {g : z_U} {X : z_X} {own : String} {cc : ByteArray} {nL pc : Nat} {ls ls' : List (Option Value)} {st st' : List Value} {cl sl : Nat} {S : z_S} {o ci k idx : Nat}
theorem z_getV (n : Nat) (hB : z_B g X own cc nL) (hf : z_FL own idx ci k) (ho : z_is S o (0, ci)) (hd : decode cc pc = .ok (.getfield idx, 3)) (hn : pc + 3 = n) {v : Value} (hv : z_fld g S ci o k = z_val g v)
    (kk : z_W g X n ls (v :: st) cl sl S) : z_W g X pc ls (.ref o :: st) cl sl S := by
  subst hn
  obtain ⟨hx, hb, hml, hown, hts, hKn, -⟩ := hB
  obtain ⟨q, hq, hk, hC, hlink⟩ := hf
  intro H locs Ls hW hS hh
  have he := z_ws_o (g := g) ho
  rw [z_ent_obj ho.1] at he
  have hc := (z_cls ci q hq).1
  have hfv : ((List.range (z_n ci)).map (z_fld g S ci o))[k]? = some (z_val g v) := by
    rw [List.getElem?_map, List.getElem?_range (by rw [z_n_of hq]; exact hk), ← hv]; rfl
  have hgo := kk H locs Ls hW hS hh
  rcases hlink with hl | ⟨host, hl⟩
  · exact va_get hx hb hts hc hown hKn.1 hW.2.1 (o - 4) he hq k hk (hts _ hl) (fun x h => by rw [← hC]; rw [hC] at h ⊢; exact h) hfv hd hgo
  · exact va_getN hx hb hts hc hown hKn.1 hW.2.1 (o - 4) he hq k hk (va_Nw.use rfl (hKn.2.1 _ hl)) (fun x h => by rw [← hC]; rw [hC] at h ⊢; exact h) hfv hd hgo
theorem z_getI (n : Nat) (hB : z_B g X own cc nL) (hf : z_FL own idx ci k) (ho : z_is S o (0, ci)) (hd : decode cc pc = .ok (.getfield idx, 3)) (hn : pc + 3 = n) (hi : z_isI ci k = true)
    (kk : z_W g X n ls (.int (z_I S o k) :: st) cl sl S) : z_W g X pc ls (.ref o :: st) cl sl S :=
  z_getV n hB hf ho hd hn (v := .int (z_I S o k)) (by simp [z_fld, hi, z_val]) kk
theorem z_getR (n : Nat) {r : Nat} (hB : z_B g X own cc nL) (hf : z_FL own idx ci k) (ho : z_is S o (0, ci)) (hd : decode cc pc = .ok (.getfield idx, 3)) (hn : pc + 3 = n) (hi : z_isI ci k = false) (hr : z_R S o k = some r)
    (kk : z_W g X n ls (.ref r :: st) cl sl S) : z_W g X pc ls (.ref o :: st) cl sl S :=
  z_getV n hB hf ho hd hn (v := .ref r) (by simp [z_fld, hi, z_val, hr, va_rf]) kk
/-- a put: every field, by its link -/
theorem z_putV (n : Nat) {v v' : Value} (hB : z_B g X own cc nL) (hf : z_FL own idx ci k) (ho : z_is S o (0, ci)) (hd : decode cc pc = .ok (.putfield idx, 3)) (hn : pc + 3 = n) (hfin : z_fin ci k = false ∨ ((z_Xh X).name = "<init>" ∧ (z_cl[ci]?).map (fun q => q.1) = some own)) {S' : z_S} (hv : v' = z_val g v)
    (hty : ∀ q : vw_C, z_cl[ci]? = some q → k < q.2.2 → ∃ ty, parseFieldDescriptor (q.2.1 k).2.2.1 = some ty ∧ narrow ty v' = v' ∧ fits ty v' = true) (hnx : z_nx S' = z_nx S)
    (hset : ∀ q : vw_C, z_cl[ci]? = some q → k < q.2.2 → (z_ws g S).set (o - 4) (z_ad g o, .inr (ci, ((List.range (z_n ci)).map (z_fld g S ci o)).set k v')) = z_ws g S')
    (kk : z_W g X n ls st cl sl S') : z_W g X pc ls (v :: .ref o :: st) cl sl S := by
  subst hn
  subst hv
  obtain ⟨hx, hb, hml, hown, hts, hKn, -⟩ := hB
  obtain ⟨q, hq, hk, hC, hlink⟩ := hf
  obtain ⟨C, T, N⟩ := q
  dsimp only at hk hC hlink
  intro H locs Ls hW hS hh
  have he := z_ws_o (g := g) ho
  rw [z_ent_obj ho.1] at he
  obtain ⟨hin, hnm⟩ := z_cls ci _ hq
  obtain ⟨ty0, hty0, -⟩ := z_clty ci _ hq
  obtain ⟨ty, hd1, hn1, hfit⟩ := hty _ hq hk
  have hN := z_n_of hq
  have hset' := hset _ hq hk
  dsimp only at hN hin hnm hty0 hd1
  have hkl : k < ((List.range (z_n ci)).map (z_fld g S ci o)).length := by simp [hN, hk]
  have hap := va_apart (own := own) hts hin ty0 hty0 hnm hKn.1 hq
  obtain ⟨r, h1, cell, q1, q2, q3, q4⟩ := hW.2.1 (o - 4) _ he
  have hr : r = (C, T, N) := Option.some.inj (h1.symm.trans hq)
  subst hr
  obtain ⟨hSl, hfc, kC, hkC, hkind⟩ := hKn.1.1 ci _ hq
  obtain ⟨cf, kf, fi, f, hi, hsl⟩ := hSl k hk
  have hst := (u_facts hfc hkC (u_lays hts hin hk) hi).1
  have hsame : (z_Xs X).fieldFound? C (T k).2.1 (T k).2.2.1 = some (cf, kf, fi, f) := by rw [← hC]; exact hi
  have fin : ∀ H1 : Heap, H1[z_ad g o]? = some (cell.setSlot f.slot (z_val g v)) → H1.size = H.size → (∀ x, x ≠ z_ad g o → H1[x]? = H[x]?) → W (z_Xp X) g.1 (z_Xe X) (z_XR X) (z_Xs X) (z_Xm X) (z_Xa X) (z_Xb X) (z_Xh X) (z_Xc X) H1 (locs ++ [⟨z_ad g o, f.slot⟩]) cl sl (z_XQ X) (F0 (z_Xm X) (pc + 3) Ls (st.map (z_val g))) := by
    intro H1 e1 e2 e3
    rw [hsl] at e1
    have hP1 := hW.2.1.set (z_D g S) he (e := .inr (ci, ((List.range (z_n ci)).map (z_fld g S ci o)).set k (z_val g v))) ⟨_, hq, t_OB.to (V := updV (vp_V ((List.range (z_n ci)).map (z_fld g S ci o))) k (z_val g v)) ⟨_, e1, q2, q3, t_set q4 hap hk (z_val g v)⟩ (fun j _ => vp_updV_set hkl (z_val g v) j)⟩ e3
    rw [hset'] at hP1
    exact kk H1 _ Ls ⟨by rw [e2, hnx]; exact hW.1, hP1, z_oldS hW (z_adge ho) e3⟩ (hS.put e2 e3 ((z_D g S).2 (o - 4) _ he)) hh
  have hlt : f.slot < cell.slots.size := by rw [hsl]; exact k2_hasslot (q4 k hk)
  by_cases hf0 : (T k).2.2.2 = false
  · have hlay := hts _ (hin _ (u_in_lay hk))
    unfold u_lay at hlay
    rw [if_neg (by rw [hf0]; decide)] at hlay
    have h6 := u_store hfc hkC hkind hlay hi hd1 hn1 hfit
    rcases hlink with hl | ⟨host, hl⟩
    · exact W.putK hx hb (f := f) ⟨hown, hts _ hl, ⟨_, _, _, hsame⟩, hst⟩ (by rw [q2]; exact h6) q1 q3 hlt rfl rfl hd fin
    · exact va_WputK hx hb (f := f) hown (va_Nw.use rfl (hKn.2.1 _ hl)) hsame hst (by rw [q2]; exact h6) q1 q3 hlt rfl rfl hd fin
  · have hf1 : (T k).2.2.2 = true := by simpa using hf0
    rcases hfin with hf2 | ⟨hin2, hown2⟩
    · simp [z_fin, hq, hf1] at hf2
    have hCo : C = own := by simpa [hq] using hown2
    have hlay := hts _ (hin _ (u_in_lay hk))
    unfold u_lay at hlay
    rw [if_pos hf1] at hlay
    have hcf : (z_Xm X).cls = cf := by
      obtain ⟨_, _, c', _, _, _, -, -, hf', -, -, -, hown3, -⟩ := Cond.laysFinal_spec hlay
      have e1 : c' = cf := by have := hi.symm.trans hf'; simp at this; exact this.1.symm
      rw [hC, hCo] at hown3
      rw [← e1]; exact Option.some.inj (hown.symm.trans hown3)
    have h6 := u_fits hfc hkC hkind (Or.inr hlay) hi hd1 hn1 hfit
    rcases hlink with hl | ⟨host, hl⟩
    · exact W.putFinK hx hb hown (hts _ hl) hsame hst hcf hin2 (by rw [q2]; exact h6) q1 q3 hlt rfl rfl hd fin
    · exact va_Wputf hx hb hown (va_Nw.use rfl (hKn.2.1 _ hl)) hsame hst (Or.inr ⟨hcf, hin2⟩) q1 (by rw [q3]; exact fun h => by cases h) hlt h6.1 (by rw [q2, q3]; exact h6.2) rfl rfl hd (fin _ (by simp [Array.getElem?_setIfInBounds, (Array.getElem?_eq_some_iff.mp q1).1]) (by simp) (fun x hx' => by simp [Array.getElem?_setIfInBounds, Ne.symm hx']))
theorem z_putI (n : Nat) {x : Int32} (hB : z_B g X own cc nL) (hf : z_FL own idx ci k) (ho : z_is S o (0, ci)) (hd : decode cc pc = .ok (.putfield idx, 3)) (hn : pc + 3 = n) (hi : z_isI ci k = true) (hfin : z_fin ci k = false)
    (kk : z_W g X n ls st cl sl (z_pI S o k x)) : z_W g X pc ls (.int x :: .ref o :: st) cl sl S :=
  z_putV n hB hf ho hd hn (Or.inl hfin) (v' := .int x) (S' := z_pI S o k x) rfl (fun q hq hk => ⟨.int, z_tyI hq hk hi, rfl, rfl⟩) rfl (fun q hq hk => z_setI ho (by rw [z_n_of hq]; exact hk) hi) kk
theorem z_putR (n : Nat) {r : Nat} (hB : z_B g X own cc nL) (hf : z_FL own idx ci k) (ho : z_is S o (0, ci)) (hd : decode cc pc = .ok (.putfield idx, 3)) (hn : pc + 3 = n) (hi : z_isI ci k = false) (hfin : z_fin ci k = false ∨ ((z_Xh X).name = "<init>" ∧ (z_cl[ci]?).map (fun q => q.1) = some own))
    (kk : z_W g X n ls st cl sl (z_pR S o k (some r))) : z_W g X pc ls (.ref r :: .ref o :: st) cl sl S :=
  z_putV n hB hf ho hd hn hfin (v' := .ref (z_ad g r)) (S' := z_pR S o k (some r)) rfl (fun q hq hk => by
    obtain ⟨ty, h1, h2⟩ := z_tyR hq hk hi
    exact ⟨ty, h1, h2 (some (z_ad g r))⟩) rfl (fun q hq hk => z_setR (v := some r) ho (by rw [z_n_of hq]; exact hk) hi) kk
theorem z_ald (n : Nat) {i : Int32} {N : Nat} (hB : z_B g X own cc nL) (ho : z_is S o (1, N)) (hd : decode cc pc = .ok (.iaload, 1)) (hn : pc + 1 = n) (hin : vp_in i N)
    (kk : z_W g X n ls (.int (z_I S o i.toNatClampNeg) :: st) cl sl S) : z_W g X pc ls (.int i :: .ref o :: st) cl sl S := by
  subst hn
  intro H locs Ls hW hS hh
  have he := z_ws_o (g := g) ho
  rw [z_ent_row ho.1] at he
  exact va_iald hB.1 hB.2.1 hB.2.2.2.2.2.1.1 hW.2.1 (o - 4) 0 he rfl hin hd (kk H locs Ls hW hS hh)
theorem z_alen (n : Nat) {N : Nat} (hB : z_B g X own cc nL) (ho : z_is S o (1, N)) (hd : decode cc pc = .ok (.arraylength, 1)) (hn : pc + 1 = n)
    (kk : z_W g X n ls (.int (Int32.ofNat N) :: st) cl sl S) : z_W g X pc ls (.ref o :: st) cl sl S := by
  subst hn
  intro H locs Ls hW hS hh
  have he := z_ws_o (g := g) ho
  rw [z_ent_row ho.1] at he
  exact va_alen hB.1 hB.2.1 hB.2.2.2.2.2.1.1 hW.2.1 (o - 4) 0 he (ty := .int) rfl rfl hd (kk H locs Ls hW hS hh)
theorem z_alenQ (n : Nat) {N : Nat} (hB : z_B g X own cc nL) (ho : z_is S o (2, N)) (hd : decode cc pc = .ok (.arraylength, 1)) (hn : pc + 1 = n)
    (kk : z_W g X n ls (.int (Int32.ofNat N) :: st) cl sl S) : z_W g X pc ls (.ref o :: st) cl sl S := by
  subst hn
  intro H locs Ls hW hS hh
  have he := z_ws_o (g := g) ho
  rw [z_ent_refs ho.1] at he
  exact va_alen hB.1 hB.2.1 hB.2.2.2.2.2.1.1 hW.2.1 (o - 4) 1 he (ty := .object RX7) rfl rfl hd (kk H locs Ls hW hS hh)
theorem z_ast (n : Nat) {i x : Int32} {N : Nat} (hB : z_B g X own cc nL) (ho : z_is S o (1, N)) (hd : decode cc pc = .ok (.iastore, 1)) (hn : pc + 1 = n) (hin : vp_in i N)
    (kk : z_W g X n ls st cl sl (z_pI S o i.toNatClampNeg x)) : z_W g X pc ls (.int x :: .int i :: .ref o :: st) cl sl S := by
  subst hn
  intro H locs Ls hW hS hh
  have he := z_ws_o (g := g) ho
  rw [z_ent_row ho.1] at he
  have hK := hB.2.2.2.2.2.1.1
  refine W.iast hB.1 hB.2.1 (hW.2.1 (o - 4) _ he) ((hK.2 0 _ rfl).1 N (fun j => .int (z_I S o j))) (fun q => by cases q) (by show ¬ (i < 0 ∨ (arrV _ _ _).slots.size ≤ _); rw [arrV_size]; exact hin) rfl rfl hd fun H1 e z oq => ?_
  have hP1 := hW.2.1.set (z_D g S) he (e := .inl (g.2.2.1, N, .inl (upd (z_I S o) i.toNatClampNeg x))) (by
    show H1[z_ad g o]? = some (vp_cell _ _)
    rw [e]
    rw [vp_cell_i, vp_cell_i, arrV_store]
    congr 2
    funext q
    by_cases hq : q = i.toNatClampNeg
    · subst hq
      simp [updV, upd]
    · simp [updV, upd, hq]) oq
  rw [z_setA ho] at hP1
  exact kk H1 _ Ls ⟨by rw [z]; exact hW.1, hP1, z_oldS hW (z_adge ho) oq⟩ (hS.put z oq ((z_D g S).2 (o - 4) _ he)) hh
theorem z_aldQ (n : Nat) {i : Int32} {N r : Nat} (hB : z_B g X own cc nL) (ho : z_is S o (2, N)) (hd : decode cc pc = .ok (.aaload, 1)) (hn : pc + 1 = n) (hin : vp_in i N) (hr : z_R S o i.toNatClampNeg = some r)
    (kk : z_W g X n ls (.ref r :: st) cl sl S) : z_W g X pc ls (.int i :: .ref o :: st) cl sl S := by
  subst hn
  intro H locs Ls hW hS hh
  have he := z_ws_o (g := g) ho
  rw [z_ent_refs ho.1] at he
  have hgo := kk H locs Ls hW hS hh
  refine va_aldq hB.1 hB.2.1 hB.2.2.2.2.2.1.1 hW.2.1 (o - 4) 1 he rfl hin hd ?_
  show W _ _ _ _ _ _ _ _ _ _ _ _ _ _ _ (F0 _ _ _ (va_rf ((z_R S o i.toNatClampNeg).map (z_ad g)) :: _))
  rw [hr]
  exact hgo
theorem z_astQ (n : Nat) {i : Int32} {N r : Nat} (hB : z_B g X own cc nL) (ho : z_is S o (2, N)) (hv : z_is S r (0, 7)) (hd : decode cc pc = .ok (.aastore, 1)) (hn : pc + 1 = n) (hin : vp_in i N)
    (kk : z_W g X n ls st cl sl (z_pR S o i.toNatClampNeg (some r))) : z_W g X pc ls (.ref r :: .int i :: .ref o :: st) cl sl S := by
  subst hn
  intro H locs Ls hW hS hh
  have he := z_ws_o (g := g) ho
  rw [z_ent_refs ho.1] at he
  have hev := z_ws_o (g := g) hv
  rw [z_ent_obj hv.1] at hev
  have hK := hB.2.2.2.2.2.1.1
  have hlt : i.toNatClampNeg < N := Nat.not_le.mp fun q => hin (Or.inr q)
  have h0 : ¬ i < 0 := fun q => hin (Or.inl q)
  obtain ⟨r', hr', cellV, g1, g2, g3, -⟩ := hW.2.1 (r - 4) _ hev
  have hcls := (hK.1 7 (RX7, TX7, 7) rfl).2
  obtain ⟨kA, comp, k1, k2, k3, -⟩ := (hK.2 1 _ rfl).2
  have hcomp : comp = g.2.1.1 7 := Option.some.inj (k3.symm.trans hcls.1)
  subst hcomp
  obtain ⟨kC, hkC, -⟩ := hcls.2
  refine W.aast hB.1 hB.2.1 (hW.2.1 (o - 4) _ he) (fun q h => by cases h) (fun h => by cases h) k1 k2 rfl hkC ⟨h0, by show _ < (arrV _ _ _).slots.size; rw [arrV_size]; exact hlt⟩ g1 (fun q h => by rw [g3] at h; cases h) (by rw [g2]; exact hkC) (by rw [g2]; exact va_assign hcls) rfl rfl hd fun H1 e z oq => ?_
  have hP1 := hW.2.1.set (z_D g S) he (e := .inl (g.2.2.2.1, N, .inr (.inr (.inr (.inr (va_up (fun j => (z_R S o j).map (z_ad g)) i.toNatClampNeg ((some r).map (z_ad g)))))))) (by
    show H1[z_ad g o]? = some (vp_cell _ _)
    rw [e]
    rw [vp_cell_q, vp_cell_q, arrV_store]
    congr 2
    funext q
    by_cases hq : q = i.toNatClampNeg
    · subst hq
      simp [updV, va_up, va_rf]
    · simp [updV, va_up, hq]) oq
  rw [z_setQ ho] at hP1
  exact kk H1 _ Ls ⟨by rw [z]; exact hW.1, hP1, z_oldS hW (z_adge ho) oq⟩ (hS.put z oq ((z_D g S).2 (o - 4) _ he)) hh
end ZH
end
section
/-! contracts, calls, ends, new cells -/
def z_room (d mc ms : Nat) : Room := { frames := d, cells := mc, slots := ms, locals := 12 + 34 * d }
def z_Q (g : z_U) (Post : Option Value → z_S → Prop) : Array Value → State → Outcome → State → Prop := fun _ st oc t => (∃ (r : Option Value) (S' : z_S), oc = .returned (r.map (z_val g)) ∧ Post r S' ∧ z_Wd g S' t.heap) ∧ va_F (z_A g) st t
def z_wl (M : z_M) : List Cond := .code M.1 M.2.1 M.2.2.1 M.2.2.2 :: z_tbl
/-- THE CONTRACT of a method, called with av in the world S: it returns, and Post holds of its answer and the world behind it; mc cells of ms slots are new; it calls at most d deep -/
def z_C (g : z_U) (d mc ms : Nat) (M : z_M) (av : List Value) (S : z_S) (Post : Option Value → z_S → Prop) : Prop :=
  Met g.1 M.1 (z_wl M) (z_room d mc ms) (va_Pc (av.map (z_val g)) (fun U => z_Wd g S U.heap ∧ z_Kn g U)) (z_Q g Post) mc ms (z_A g)
def z_BM (g : z_U) (X : z_X) (d mc ms : Nat) (M : z_M) (Post : Option Value → z_S → Prop) : Prop :=
  z_B g X M.1.cls M.2.1 M.2.2.1 ∧ z_XR X = z_room d mc ms ∧ (z_Xh X).sig.returnType = M.2.2.2 ∧ (z_Xh X).locks = false ∧ z_XQ X = MQ (z_Xb X) (z_Q g Post) (z_Xa X) (z_Xs X) mc ms (z_A g) ∧ (z_Xh X).name = M.1.name
theorem z_args (vs : List Value) : ∀ (i : Nat), (∀ v ∈ vs, v.category = 1) → lv_args i vs = (List.range vs.length).filterMap (fun k => (vs[k]?).map (fun v => (i + k, v))) := by
  induction vs with
  | nil => intro i _; rfl
  | cons v vs ih =>
    intro i h
    have hv := h v List.mem_cons_self
    rw [lv_args, if_neg (by omega), ih (i + 1) (fun w hw => h w (List.mem_cons_of_mem _ hw))]
    rw [List.length_cons, List.range_succ_eq_map, List.filterMap_cons]
    simp only [List.getElem?_cons_zero, Option.map_some, Nat.add_zero]
    rw [List.filterMap_map]
    congr 2
    funext k
    simp only [Function.comp, List.getElem?_cons_succ, show i + 1 + k = i + (k + 1) by omega]
theorem z_sl1 (vs : List Value) (h : ∀ v ∈ vs, v.category = 1) : (lg_sl vs).length = vs.length := by
  induction vs with
  | nil => rfl
  | cons v vs ih =>
    have hv := h v List.mem_cons_self
    have e : lg_sl (v :: vs) = .val v :: lg_sl vs := by
      show List.flatMap _ (v :: vs) = _
      rw [List.flatMap_cons, if_neg (by omega)]
      rfl
    rw [e, List.length_cons, List.length_cons, ih (fun w hw => h w (List.mem_cons_of_mem _ hw))]
theorem z_enter {g : z_U} {d mc ms : Nat} {M : z_M} {av : List Value} {S : z_S} {Post : Option Value → z_S → Prop} (ls : List (Option Value)) (hpl : plainName M.1.cls = true) (hc : av.all (fun v => decide (v.category = 1)) = true) (hlen : av.length ≤ M.2.2.1) (hls : av.map some ++ List.replicate (M.2.2.1 - av.length) none = ls)
    (body : ∀ X : z_X, z_BM g X d mc ms M Post → z_W g X 0 ls [] 0 0 S) : z_C g d mc ms M av S Post := by
  subst hls
  refine Met.ofW (cc := M.2.1) (maxL := M.2.2.1) (ret := M.2.2.2) hpl rfl ?_
  intro p e s m args below meth c s₁ B hml hv
  obtain ⟨rfl, hW, hKn⟩ := hv
  have hcat : ∀ v ∈ av.map (z_val g), v.category = 1 := by
    intro v hv
    obtain ⟨w, hw, rfl⟩ := List.mem_map.mp hv
    rw [z_cat]
    simpa using List.all_eq_true.mp hc w hw
  have hts := atoms_spec (ws := z_wl M) B.pre
  have X1 : z_BM g (p, e, (headSpec (z_wl M) (z_room d mc ms)).room, s, m, (av.map (z_val g)).toArray, below, meth, c, MQ below (z_Q g Post) (av.map (z_val g)).toArray s mc ms (z_A g), M.2.2.1) d mc ms M Post :=
    ⟨⟨B.exec, B.bytes, hml, findClass_of_methodNamed B.named, fun w hw => hts w (List.mem_cons_of_mem _ hw), hKn, by show z_base g ≤ s.heap.size; rw [hW.1]; omega, rfl⟩, rfl, B.returns, B.notSynchronized, rfl, (name_of_methodNamed B.named B.method).1⟩
  have hl := lv_entry (av.map (z_val g)) (n := M.2.2.1) (by rw [z_sl1 _ hcat]; simpa using hlen)
  rw [lg_entry_eq]
  refine body _ X1 s.heap [] _ hW va_S.rf ⟨by show (av.map some ++ List.replicate (M.2.2.1 - av.length) none).length = M.2.2.1; simp; omega, ?_⟩
  refine ⟨hl.1, hl.2.1, fun q hq => hl.2.2 q ?_⟩
  obtain ⟨v, h1, h2⟩ := z_as_mem.mp hq
  rw [z_args _ 0 hcat]
  have hlt : q.1 < av.length := by
    rcases Nat.lt_or_ge q.1 av.length with z | z
    · exact z
    · rw [List.getElem?_append_right (by simpa using z), List.getElem?_replicate] at h1
      split at h1 <;> simp at h1
  rw [List.getElem?_append_left (by simpa using hlt), List.getElem?_map, List.getElem?_eq_getElem hlt] at h1
  have hv : av[q.1] = v := by simpa using h1
  refine List.mem_filterMap.mpr ⟨q.1, List.mem_range.mpr (by simpa using hlt), ?_⟩
  rw [List.getElem?_map, List.getElem?_eq_getElem hlt, hv]
  show some (0 + q.1, z_val g v) = some q
  rw [Nat.zero_add, ← h2]
def z_ML (own : String) (idx : Nat) (M : z_M) (np : Nat) : Prop :=
  (Cond.methodLink own idx M.1 ∈ z_tbl ∨ ∃ host, Cond.methodLinkNest own idx M.1 host ∈ z_nst) ∧ Cond.code M.1 M.2.1 M.2.2.1 M.2.2.2 ∈ z_tbl ∧ Cond.initialized M.1.cls ∈ z_tbl ∧ (M.1.cls ≠ "java/lang/invoke/MethodHandle" ∧ M.1.cls ≠ "java/lang/invoke/VarHandle" ∧ (parseMethodDescriptor M.1.desc).map (fun d => d.parameters.length) = some np) ∧ M.2.2.1 ≤ 15
def z_MS (own : String) (idx : Nat) (M : z_M) (np : Nat) : Prop := z_ML own idx M np ∧ Cond.static M.1 ∈ z_tbl
def z_MV (own : String) (idx : Nat) (M : z_M) (np : Nat) : Prop := z_ML own idx M np ∧ Cond.instanceMethod M.1 ∈ z_tbl ∧ Cond.selects M.1.cls M.1 M.1 ∈ z_tbl
def z_MI (own : String) (idx : Nat) (M : z_M) (np : Nat) : Prop := z_ML own idx M np ∧ Cond.instanceMethod M.1 ∈ z_tbl ∧ M.1.name = "<init>" ∧ M.2.2.2 = none
theorem z_good {M : z_M} (h : Cond.code M.1 M.2.1 M.2.2.1 M.2.2.2 ∈ z_tbl) : GoodIn z_tbl (z_wl M) := by
  intro w hw
  have hm : w ∈ z_tbl := by
    rcases List.mem_cons.mp hw with e | e
    · rw [e]; exact h
    · exact e
  exact ⟨hm, good_of_word (List.mem_filter.mp hm).2⟩
section ZC
variable {g : z_U} {X : z_X} {own : String} {cc : ByteArray} {nL pc : Nat} {ls ls' : List (Option Value)} {st st' : List Value} {cl sl : Nat} {S : z_S} {o ci k idx : Nat} {d mc ms d' mc' ms' np : Nat} {M : z_M} {av : List Value} {Post : Option Value → z_S → Prop}
theorem z_pre {H : Heap} (hKn : z_Kn g (z_Xs X)) (hW : z_Wd g S H) : PreS (z_Xs X) H (va_Pc (av.map (z_val g)) (fun U => z_Wd g S U.heap ∧ z_Kn g U)) (av.map (z_val g)) :=
  ⟨fun a U q mk h => ⟨h.1, h.2.1, z_Kn.same (s := U) (U := U.calling q mk a) rfl h.2.2⟩, fun U hU hW1 => ⟨rfl, by rw [hU]; exact hW, z_Kn.warm hW1 hKn⟩⟩
theorem z_after {H : Heap} {locs : List Loc} {Ls : Array Slot} {stk : List Value} {a : Array Value} (hr : va_Run (z_Xp X) g.1 (z_Xe X) (z_XR X) (z_Xs X) (z_Xm X) (z_Xa X) (z_Xb X) (z_Xh X) (z_Xc X) H locs cl sl mc' ms' (F0 (z_Xm X) pc Ls stk) (st.map (z_val g)) (z_Q g Post a) (z_A g)) (hS : va_S (z_A g) (z_Xs X).heap H locs) (hh : z_has g ls Ls (z_XL X))
    (kk : ∀ r S', Post r S' → z_W g X (pc + 3) ls (r.toList ++ st) (cl + mc') (sl + ms') S') : W (z_Xp X) g.1 (z_Xe X) (z_XR X) (z_Xs X) (z_Xm X) (z_Xa X) (z_Xb X) (z_Xh X) (z_Xc X) H locs cl sl (z_XQ X) (F0 (z_Xm X) pc Ls stk) := by
  intro T hT Y
  obtain ⟨v, st₀, t, T', L, h0, X', hL, e1, e2, ⟨⟨r, S', hv, hp, hw⟩, hz, hk⟩, sx⟩ := hr T hT Y
  cases hv
  rw [h0] at hz hk
  have hS1 : va_S (z_A g) (z_Xs X).heap T'.heap (locs ++ L) := ⟨Nat.le_trans hS.1 (by rw [e1]; exact hz), fun q h1 h2 => by rw [e1, hk q (Nat.lt_of_lt_of_le h1 hS.1) h2]; exact hS.2.1 q h1 h2, fun q hq => by
      rcases List.mem_append.mp hq with h | h
      · exact hS.2.2 q h
      · exact hL q h⟩
  obtain ⟨t2, a1, b1⟩ := kk r S' hp T'.heap (locs ++ L) Ls (by rw [e1]; exact hw) hS1 hh T' rfl X'
  refine ⟨t2, sx t2 ?_, b1⟩
  have e3 : (r.toList ++ st).map (z_val g) = (r.map (z_val g)).toList ++ st.map (z_val g) := by cases r <;> simp
  rw [← e3]
  exact a1
theorem z_fixed (hB : z_B g X own cc nL) : CallFix (z_Xp X) (z_Xm X) (z_Xc X) cc nL (z_Xs X) (z_Xa X) z_tbl own := ⟨hB.1, hB.2.1, hB.2.2.1, hB.2.2.2.1, hB.2.2.2.2.1⟩
theorem z_roomOK (hR : z_XR X = z_room d mc ms) (hd' : d' < d) (hm : M.2.2.1 ≤ 15) : (z_room d' mc' ms').frames + 1 ≤ (z_XR X).frames ∧ 8 + (M.2.2.1 + 11) + (z_room d' mc' ms').locals ≤ (z_XR X).locals := by
  rw [hR]
  simp only [z_room]
  omega
theorem z_catsum {l : List Value} : ((l.map (z_val g)).map fun v => v.category).sum = (l.map fun v => v.category).sum := by
  induction l with
  | nil => rfl
  | cons a l ih => simp only [List.map_cons, List.sum_cons, ih, z_cat]
theorem z_callS (n : Nat) {rest : List Value} (hB : z_B g X own cc nL) (hR : z_XR X = z_room d mc ms) (hm : z_MS own idx M np) (hd : decode cc pc = .ok (.invokestatic idx, 3)) (hn : pc + 3 = n) (hc : z_C g d' mc' ms' M av S Post) (hd' : d' < d) (hnp : av.length = np) (hst : st = av.reverse ++ rest) (hcat : (rest.map fun v => v.category).sum ≤ 8) (hcl : cl + mc' ≤ mc ∧ sl + ms' ≤ ms)
    (kk : ∀ r S', Post r S' → z_W g X n ls (r.toList ++ rest) (cl + mc') (sl + ms') S') : z_W g X pc ls st cl sl S := by
  subst hn; subst hst
  obtain ⟨⟨hl, hcode, hini, ⟨hy1, hy2, hy3⟩, hml⟩, hsta⟩ := hm
  intro H locs Ls hW hS hh
  have hts := hB.2.2.2.2.1
  have hG := z_good hcode
  have hrm := z_roomOK (X := X) (mc' := mc') (ms' := ms') hR hd' hml
  have hpre := z_pre (av := av) hB.2.2.2.2.2.1 hW
  have hrest : 2 * (F0 (z_Xm X) pc Ls ((av.reverse ++ rest).map (z_val g))).monitorRoom + (((rest.map (z_val g))).map fun v => v.category).sum ≤ 8 := lv_room (by rw [z_catsum]; exact hcat)
  have hcl' : cl + mc' ≤ (z_XR X).cells ∧ sl + ms' ≤ (z_XR X).slots := by rw [hR]; exact hcl
  have hstk : (F0 (z_Xm X) pc Ls ((av.reverse ++ rest).map (z_val g))).stack = (av.map (z_val g)).reverse ++ rest.map (z_val g) := by simp
  have hsz : (F0 (z_Xm X) pc Ls ((av.reverse ++ rest).map (z_val g))).locals.size = nL := hh.2.1.trans hB.2.2.2.2.2.2.2
  rcases hl with hl | ⟨host, hl⟩
  · exact z_after (va_runS (z_fixed hB) hc ⟨callB_of np hts hG rfl rfl rfl (hts _ hini) (hts _ hl) ⟨hy1, hy2, hy3⟩ hrm, hts _ hsta⟩ hpre rfl (by simpa using hnp) hsz hstk hrest hd hcl') hS hh kk
  · exact z_after (va_runSN (z_fixed hB) hc ⟨va_cnB np hts hG rfl rfl rfl (hB.2.2.2.2.2.1.2.1 _ hl) (hts _ hini) ⟨hy1, hy2, hy3⟩ hrm, hts _ hsta, trivial⟩ hpre rfl (by simpa using hnp) hsz hstk hrest hd hcl') hS hh kk
theorem z_callV (n : Nat) {rest : List Value} {b : Nat} (hB : z_B g X own cc nL) (hR : z_XR X = z_room d mc ms) (hm : z_MV own idx M np) (hd : decode cc pc = .ok (.invokevirtual idx, 3)) (hn : pc + 3 = n) (hb : z_is S b (0, ci)) (hci : (z_cl[ci]?).map (fun q => q.1) = some M.1.cls) (hc : z_C g d' mc' ms' M (.ref b :: av) S Post) (hd' : d' < d) (hnp : av.length = np) (hst : st = av.reverse ++ .ref b :: rest) (hcat : (rest.map fun v => v.category).sum ≤ 8) (hcl : cl + mc' ≤ mc ∧ sl + ms' ≤ ms)
    (kk : ∀ r S', Post r S' → z_W g X n ls (r.toList ++ rest) (cl + mc') (sl + ms') S') : z_W g X pc ls st cl sl S := by
  subst hn; subst hst
  obtain ⟨⟨hl, hcode, hini, ⟨hy1, hy2, hy3⟩, hml⟩, hins, hsel⟩ := hm
  intro H locs Ls hW hS hh
  have hts := hB.2.2.2.2.1
  have hG := z_good hcode
  have hrm := z_roomOK (X := X) (mc' := mc') (ms' := ms') hR hd' hml
  have hpre := z_pre (av := .ref b :: av) hB.2.2.2.2.2.1 hW
  obtain ⟨q, hq, hqc⟩ := Option.map_eq_some_iff.mp hci
  have he := z_ws_o (g := g) hb
  rw [z_ent_obj hb.1] at he
  have hcell := va_recv hB.2.2.2.2.2.1.1 hW.2.1 hq he
  rw [hqc] at hcell
  have hrest : 2 * (F0 (z_Xm X) pc Ls ((av.reverse ++ .ref b :: rest).map (z_val g))).monitorRoom + (((rest.map (z_val g))).map fun v => v.category).sum ≤ 8 := lv_room (by rw [z_catsum]; exact hcat)
  have hcl' : cl + mc' ≤ (z_XR X).cells ∧ sl + ms' ≤ (z_XR X).slots := by rw [hR]; exact hcl
  have hstk : (F0 (z_Xm X) pc Ls ((av.reverse ++ .ref b :: rest).map (z_val g))).stack = (av.map (z_val g)).reverse ++ .ref (z_ad g b) :: rest.map (z_val g) := by simp [z_val]
  have hsz : (F0 (z_Xm X) pc Ls ((av.reverse ++ .ref b :: rest).map (z_val g))).locals.size = nL := hh.2.1.trans hB.2.2.2.2.2.2.2
  rcases hl with hl | ⟨host, hl⟩
  · exact z_after (va_runV (z_fixed hB) hc ⟨callB_of np hts hG rfl rfl rfl (hts _ hini) (hts _ hl) ⟨hy1, hy2, hy3⟩ hrm, hts _ hins, hts _ hsel⟩ ⟨hpre.1, hcell, hpre.2⟩ rfl (by simpa using hnp) hsz hstk hrest hd hcl') hS hh kk
  · exact z_after (va_runVN (z_fixed hB) hc ⟨va_cnB np hts hG rfl rfl rfl (hB.2.2.2.2.2.1.2.1 _ hl) (hts _ hini) ⟨hy1, hy2, hy3⟩ hrm, hts _ hins, hts _ hsel⟩ ⟨hpre.1, hcell, hpre.2⟩ rfl (by simpa using hnp) hsz hstk hrest hd hcl') hS hh kk
theorem z_callI (n : Nat) {rest : List Value} {b : Nat} (hB : z_B g X own cc nL) (hR : z_XR X = z_room d mc ms) (hm : z_MI own idx M np) (hd : decode cc pc = .ok (.invokespecial idx, 3)) (hn : pc + 3 = n) (hc : z_C g d' mc' ms' M (.ref b :: av) S Post) (hd' : d' < d) (hnp : av.length = np) (hst : st = av.reverse ++ .ref b :: rest) (hcat : (rest.map fun v => v.category).sum ≤ 8) (hcl : cl + mc' ≤ mc ∧ sl + ms' ≤ ms)
    (kk : ∀ r S', Post r S' → z_W g X n ls (r.toList ++ rest) (cl + mc') (sl + ms') S') : z_W g X pc ls st cl sl S := by
  subst hn; subst hst
  obtain ⟨yM, cM, lM, rM⟩ := M
  obtain ⟨⟨hl, hcode, hini, ⟨hy1, hy2, hy3⟩, hml⟩, hins, hnm, hret⟩ := hm
  dsimp only at hret
  subst hret
  intro H locs Ls hW hS hh
  have hts := hB.2.2.2.2.1
  have hG := z_good hcode
  have hrm := z_roomOK (X := X) (mc' := mc') (ms' := ms') hR hd' hml
  have hpre := z_pre (av := .ref b :: av) hB.2.2.2.2.2.1 hW
  have hrest : 2 * (F0 (z_Xm X) pc Ls ((av.reverse ++ .ref b :: rest).map (z_val g))).monitorRoom + (((rest.map (z_val g))).map fun v => v.category).sum ≤ 8 := lv_room (by rw [z_catsum]; exact hcat)
  have hcl' : cl + mc' ≤ (z_XR X).cells ∧ sl + ms' ≤ (z_XR X).slots := by rw [hR]; exact hcl
  have hstk : (F0 (z_Xm X) pc Ls ((av.reverse ++ .ref b :: rest).map (z_val g))).stack = (av.map (z_val g)).reverse ++ .ref (z_ad g b) :: rest.map (z_val g) := by simp [z_val]
  have hsz : (F0 (z_Xm X) pc Ls ((av.reverse ++ .ref b :: rest).map (z_val g))).locals.size = nL := hh.2.1.trans hB.2.2.2.2.2.2.2
  rcases hl with hl | ⟨host, hl⟩
  · exact z_after (va_runI (z_fixed hB) hc ⟨callB_of np hts hG rfl rfl rfl (hts _ hini) (hts _ hl) ⟨hy1, hy2, hy3⟩ hrm, hnm, hts _ hins⟩ hpre rfl (by simpa using hnp) hsz hstk hrest hd hcl') hS hh kk
  · exact z_after (va_runIN (z_fixed hB) hc ⟨va_cnB np hts hG rfl rfl rfl (hB.2.2.2.2.2.1.2.1 _ hl) (hts _ hini) ⟨hy1, hy2, hy3⟩ hrm, hnm, hts _ hins⟩ hpre rfl (by simpa using hnp) hsz hstk hrest hd hcl') hS hh kk
/-- ends -/
theorem z_iret {x : Int32} (hM : z_BM g X d mc ms M Post) (hd : decode M.2.1 pc = .ok (.ireturn, 1)) (hr : M.2.2.2 = some .int) (hP : Post (some (.int x)) S) (h1 : cl = mc) (h2 : sl = ms) : z_W g X pc ls [.int x] cl sl S := by
  subst h1; subst h2
  obtain ⟨hB, hR, hret, hlk, hQ, -⟩ := hM
  intro H locs Ls hW hS hh
  rw [hQ]
  exact W.iret hB.1 hB.2.1 (hret.trans hr) (fun t ht _ => ⟨⟨some (.int x), S, rfl, hP, by rw [ht]; exact hW⟩, hS.F ht⟩) hS.2.2 hd hlk
theorem z_zret {x : Int32} (hM : z_BM g X d mc ms M Post) (hd : decode M.2.1 pc = .ok (.ireturn, 1)) (hr : M.2.2.2 = some .boolean) (hx : x &&& 1 = x) (hP : Post (some (.int x)) S) (h1 : cl = mc) (h2 : sl = ms) : z_W g X pc ls [.int x] cl sl S := by
  subst h1; subst h2
  obtain ⟨hB, hR, hret, hlk, hQ, -⟩ := hM
  intro H locs Ls hW hS hh
  rw [hQ]
  exact W.zret hB.1 hB.2.1 (hret.trans hr) (by show Value.int (x &&& 1) = _; rw [hx]) (fun t ht _ => ⟨⟨some (.int x), S, rfl, hP, by rw [ht]; exact hW⟩, hS.F ht⟩) hS.2.2 hd hlk
theorem z_vret (hM : z_BM g X d mc ms M Post) (hd : decode M.2.1 pc = .ok (.return_, 1)) (hr : M.2.2.2 = none) (hP : Post none S) (h1 : cl = mc) (h2 : sl = ms) : z_W g X pc ls [] cl sl S := by
  subst h1; subst h2
  obtain ⟨hB, hR, hret, hlk, hQ, -⟩ := hM
  intro H locs Ls hW hS hh
  rw [hQ]
  exact W.vret hB.1 hB.2.1 (hret.trans hr) (fun t ht _ => ⟨⟨none, S, rfl, hP, by rw [ht]; exact hW⟩, hS.F ht⟩) hS.2.2 hd hlk
/-- Object's constructor, and the larger of two -/
theorem z_objI (n : Nat) {r : Nat} (hB : z_B g X own cc nL) (hR : z_XR X = z_room (d + 1) mc ms) (hl : Cond.methodLink own idx Lib.objectInit ∈ z_tbl) (hi : Cond.instanceMethod Lib.objectInit ∈ z_tbl) (hcd : Cond.code Lib.objectInit ⟨#[0xb1]⟩ 1 none ∈ z_tbl) (hd : decode cc pc = .ok (.invokespecial idx, 3)) (hn : pc + 3 = n) (hcat : (st.map fun v => v.category).sum ≤ 8)
    (kk : z_W g X n ls st cl sl S) : z_W g X pc ls (.ref r :: st) cl sl S := by
  subst hn
  intro H locs Ls hW hS hh
  have hts := hB.2.2.2.2.1
  have hsum := z_catsum (g := g) (l := st)
  exact W.objInit hB.1 hB.2.1 hB.2.2.2.1 (hts _ hl) (hts _ hi) (hts _ hcd) rfl (hh.2.1.trans (hB.2.2.2.2.2.2.2.trans hB.2.2.1.symm)) rfl hd (by rw [hR]; simp [z_room]) (by
    have : 2 * (F0 (z_Xm X) pc Ls ((Value.ref r :: st).map (z_val g))).monitorRoom + ((st.map (z_val g)).map fun v => v.category).sum ≤ 8 := lv_room (by rw [hsum]; exact hcat)
    rw [hR]; simp only [z_room]; omega) (kk H locs Ls hW hS hh)
theorem z_max (n : Nat) {x y : Int32} (hB : z_B g X own cc nL) (hR : z_XR X = z_room (d + 1) mc ms) (hl : Cond.methodLink own idx Lib.Math.max.name ∈ z_tbl) (hs : Cond.static Lib.Math.max.name ∈ z_tbl) (hi : Cond.initialized "java/lang/Math" ∈ z_tbl) (hcd : Cond.code Lib.Math.max.name Lib.Math.max.code 2 (some .int) ∈ z_tbl) (hd : decode cc pc = .ok (.invokestatic idx, 3)) (hn : pc + 3 = n) (hcat : (st.map fun v => v.category).sum ≤ 8) (hcl : cl ≤ mc ∧ sl ≤ ms)
    (kk : z_W g X n ls (.int (if x < y then y else x) :: st) cl sl S) : z_W g X pc ls (.int y :: .int x :: st) cl sl S := by
  subst hn
  intro H locs Ls hW hS hh
  have hts := hB.2.2.2.2.1
  have hsum := z_catsum (g := g) (l := st)
  exact va_mmax hB.1 hB.2.1 (hB.2.2.1.trans (hB.2.2.2.2.2.2.2.symm.trans hh.2.1.symm)) hB.2.2.2.1 (hts _ hl) (hts _ hs) (hts _ hi) (hts _ hcd) (by rw [hR]; simp [z_room]) (by rw [hR, hsum]; simp only [z_room]; omega) (by rw [hR]; exact hcl.1) (by rw [hR]; exact hcl.2) hd (kk H locs Ls hW hS hh)
end ZC
end
section
/-! new cells -/
theorem z_ent_new {g : z_U} {S : z_S} {q : Nat × Nat} {o : Nat} (h : o < z_nx S + 4) : z_ent g (z_new S q) o = z_ent g S o := by
  have hne : ¬ o = S.2.2.2 + 4 := by
    have : z_nx S = S.2.2.2 := rfl
    omega
  have e1 : z_kd (z_new S q) o = z_kd S o := by simp [z_kd, z_new, hne]
  have e2 : z_I (z_new S q) o = z_I S o := by funext j; simp [z_I, z_new, hne]
  have e3 : z_R (z_new S q) o = z_R S o := by funext j; simp [z_R, z_new, hne]
  have e4 : ∀ ci, z_fld g (z_new S q) ci o = z_fld g S ci o := by
    intro ci
    funext j
    simp only [z_fld, e2, e3]
  unfold z_ent
  rw [e1, e2, e3]
  simp only [e4]
theorem z_ws_new {g : z_U} {S : z_S} {q : Nat × Nat} : z_ws g (z_new S q) = z_ws g S ++ [(z_ad g (z_nx S + 4), z_ent g (z_new S q) (z_nx S + 4))] := by
  have hnx : z_nx (z_new S q) = z_nx S + 1 := rfl
  unfold z_ws
  rw [hnx, List.range_succ, List.map_append]
  congr 1
  apply List.map_congr_left
  intro k hk
  rw [z_ent_new (by have := List.mem_range.mp hk; omega)]
theorem z_Wd_new {g : z_U} {S : z_S} {q : Nat × Nat} {H H1 : Heap} (hW : z_Wd g S H) (hz : H1.size = H.size + 1) (ho : ∀ x, x < H.size → H1[x]? = H[x]?) (he : va_at g.2.1 z_cl (z_ad g (z_nx S + 4), z_ent g (z_new S q) (z_nx S + 4)) H1) : z_Wd g (z_new S q) H1 := by
  refine ⟨by rw [hz, hW.1]; rfl, ?_, fun q hq => (ho q (by rw [hW.1]; omega)).trans (hW.2.2 q hq)⟩
  rw [z_ws_new]
  refine va_P.app (hW.2.1.kept (fun k x hx => ho _ ((hW.2.1 k x hx).lt))) (fun k x hx => ?_)
  have hz : k < 1 := (List.getElem?_eq_some_iff.mp hx).1
  rw [show k = 0 by omega] at hx
  cases hx
  exact he
theorem z_S_new {g : z_U} {H0 H H1 : Heap} {locs : List Loc} (hS : va_S (z_A g) H0 H locs) (hz : H1.size = H.size + 1) (ho : ∀ x, x < H.size → H1[x]? = H[x]?) : va_S (z_A g) H0 H1 locs :=
  ⟨Nat.le_trans hS.1 (by omega), fun x h1 h2 => (ho x (Nat.lt_of_lt_of_le h1 hS.1)).trans (hS.2.1 x h1 h2), hS.2.2⟩
def z_CL (own : String) (idx ci : Nat) : Prop := ∃ q : vw_C, z_cl[ci]? = some q ∧ Cond.classLink own idx q.1 ∈ z_tbl ∧ Cond.instantiable q.1 q.2.2 ∈ z_tbl ∧ Cond.initialized q.1 ∈ z_tbl
section ZN
variable {g : z_U} {X : z_X} {own : String} {cc : ByteArray} {nL pc : Nat} {ls ls' : List (Option Value)} {st st' : List Value} {cl sl : Nat} {S : z_S} {o ci k idx : Nat} {d mc ms : Nat}
theorem z_nobj (n : Nat) (hB : z_B g X own cc nL) (hR : z_XR X = z_room d mc ms) (hl : z_CL own idx ci) (hd : decode cc pc = .ok (.new idx, 3)) (hn : pc + 3 = n) (h1 : cl + 1 ≤ mc) (h2 : sl + z_n ci ≤ ms)
    (kk : z_W g X n ls (.ref (z_nx S + 4) :: st) (cl + 1) (sl + z_n ci) (z_new S (0, ci))) : z_W g X pc ls st cl sl S := by
  subst hn
  obtain ⟨hx, hb, hml, hown, hts, hKn, -⟩ := hB
  obtain ⟨q, hq, hcl, hins, hini⟩ := hl
  obtain ⟨C, T, N⟩ := q
  have hN : z_n ci = N := z_n_of hq
  intro H locs Ls hW hS hh
  have hKc := hKn.1.1 ci _ hq
  obtain ⟨hin, -⟩ := z_cls ci _ hq
  obtain ⟨ty, hty, htyOK⟩ := z_clty ci _ hq
  refine W.newcK hx hb hown (hts _ hcl) (hts _ hins) (hts _ hini) rfl hd (by rw [hR]; exact h1) (by rw [hR]; show sl + N ≤ ms; rw [← hN]; exact h2) hKc.2.1 rfl fun H1 kC hkC e1 z1 o1 => ?_
  have ha : z_ad g (z_nx S + 4) = H.size := hW.1.symm
  have hI0 : z_I (z_new S (0, ci)) (z_nx S + 4) = fun _ => 0 := by funext j; simp [z_I, z_new, z_nx]
  have hR0 : z_R (z_new S (0, ci)) (z_nx S + 4) = fun _ => none := by funext j; simp [z_R, z_new, z_nx]
  have hk0 : z_kd (z_new S (0, ci)) (z_nx S + 4) = (0, ci) := by simp [z_kd, z_new, z_nx]
  have hW1 : z_Wd g (z_new S (0, ci)) H1 := by
    refine z_Wd_new hW z1 o1 ?_
    rw [z_ent_obj hk0, ha]
    refine ⟨_, hq, (u_born ty hts hin hKc hkC e1 hty).to (fun j hj => ?_)⟩
    have h3 := List.all_eq_true.mp htyOK j (List.mem_range.mpr hj)
    have hvp : vp_V ((List.range (z_n ci)).map (z_fld g (z_new S (0, ci)) ci (z_nx S + 4))) j = z_fld g (z_new S (0, ci)) ci (z_nx S + 4) j := by
      have hjr : j < (List.range (z_n ci)).length := by rw [List.length_range, hN]; exact hj
      unfold vp_V
      rw [List.getD_eq_getElem?_getD, List.getElem?_map, List.getElem?_eq_getElem hjr]
      simp
    rw [hvp]
    unfold z_fld
    rw [hI0, hR0]
    by_cases hi : z_isI ci j = true
    · rw [if_pos hi]
      have hi' := hi
      simp only [z_isI, hq] at hi'
      rw [if_pos hi'] at h3
      rw [beq_iff_eq.mp h3]
      rfl
    · rw [if_neg hi]
      have hi' := hi
      simp only [z_isI, hq] at hi'
      rw [if_neg hi'] at h3
      revert h3
      generalize ty j = t
      intro h3
      cases t <;> first | (simp [FieldType.isReference] at h3; done) | rfl
  have := kk H1 locs Ls hW1 (z_S_new hS z1 o1) hh
  rw [hN] at this
  have e4 : ((Value.ref (z_nx S + 4) :: st).map (z_val g)) = .ref H.size :: st.map (z_val g) := by
    rw [List.map_cons, ← ha]; rfl
  rw [e4] at this
  exact this
theorem z_nrow (n : Nat) {x : Int32} {N : Nat} (hB : z_B g X own cc nL) (hR : z_XR X = z_room d mc ms) (hac : Cond.arrayClass .int ∈ z_tbl) (hd : decode cc pc = .ok (.newarray .int, 2)) (hn : pc + 2 = n) (hx0 : ¬ x < 0) (hxN : x.toNatClampNeg = N) (hbig : N * 4 ≤ 536870912) (h1 : cl + 1 ≤ mc) (h2 : sl + N ≤ ms)
    (kk : z_W g X n ls (.ref (z_nx S + 4) :: st) (cl + 1) (sl + N) (z_new S (1, N))) : z_W g X pc ls (.int x :: st) cl sl S := by
  subst hn
  intro H locs Ls hW hS hh
  refine va_newaK (atype := .int) hB.1 hB.2.1 (hB.2.2.2.2.1 _ hac) rfl hd rfl hx0 hxN hbig (by rw [hR]; exact h1) (by rw [hR]; exact h2) rfl fun H1 cA e1 z1 o1 hAr hNm => ?_
  have hcA : cA = g.2.2.1 := by
    have h3 := (hB.2.2.2.2.2.1.1.2 0 _ rfl).2
    exact (Option.some.inj (h3.symm.trans hNm)).symm
  subst hcA
  have ha : z_ad g (z_nx S + 4) = H.size := hW.1.symm
  have hI0 : z_I (z_new S (1, N)) (z_nx S + 4) = fun _ => 0 := by funext j; simp [z_I, z_new, z_nx]
  have hk0 : z_kd (z_new S (1, N)) (z_nx S + 4) = (1, N) := by simp [z_kd, z_new, z_nx]
  have hW1 : z_Wd g (z_new S (1, N)) H1 := by
    refine z_Wd_new hW z1 o1 ?_
    rw [z_ent_row hk0, ha, hI0]
    exact e1
  have := kk H1 locs Ls hW1 (z_S_new hS z1 o1) hh
  have e4 : ((Value.ref (z_nx S + 4) :: st).map (z_val g)) = .ref H.size :: st.map (z_val g) := by
    rw [List.map_cons, ← ha]; rfl
  rw [e4] at this
  exact this
end ZN
section ZNQ
variable {g : z_U} {X : z_X} {own : String} {cc : ByteArray} {nL pc : Nat} {ls ls' : List (Option Value)} {st st' : List Value} {cl sl : Nat} {S : z_S} {o ci k idx : Nat} {d mc ms : Nat}
theorem z_nrefs (n : Nat) {x : Int32} {N : Nat} (hB : z_B g X own cc nL) (hR : z_XR X = z_room d mc ms) (hcl : Cond.classLink own idx RX7 ∈ z_tbl) (hd : decode cc pc = .ok (.anewarray idx, 3)) (hn : pc + 3 = n) (hx0 : ¬ x < 0) (hxN : x.toNatClampNeg = N) (hbig : N * 4 ≤ 536870912) (h1 : cl + 1 ≤ mc) (h2 : sl + N ≤ ms)
    (kk : z_W g X n ls (.ref (z_nx S + 4) :: st) (cl + 1) (sl + N) (z_new S (2, N))) : z_W g X pc ls (.int x :: st) cl sl S := by
  subst hn; subst hxN
  intro H locs Ls hW hS hh
  refine W.anew hB.1 hB.2.1 hB.2.2.2.1 (hB.2.2.2.2.1 _ hcl) (va_AO.use hB.2.2.2.2.2.1.2.2.1) rfl hd rfl hx0 hbig (by rw [hR]; exact h1) (by rw [hR]; exact h2) fun cA kA comp f1 f2 f3 f4 => ?_
  have hcA : cA = g.2.2.2.1 := by
    obtain ⟨_, _, _, _, _, h3⟩ := (hB.2.2.2.2.2.1.1.2 1 _ rfl).2
    exact (Option.some.inj (h3.symm.trans f1)).symm
  subst hcA
  generalize hH1 : H.push ({ cls := g.2.2.2.1, slots := Array.replicate x.toNatClampNeg .null, vm := .none } : Cell) = H1
  have z1 : H1.size = H.size + 1 := by rw [← hH1, Array.size_push]
  have e1 : H1[H.size]? = some (arrV g.2.2.2.1 x.toNatClampNeg (fun _ => .null)) := by rw [← hH1, Array.getElem?_push_size, ← arrV_new]
  have o1 : ∀ q : Nat, q < H.size → H1[q]? = H[q]? := fun q hq => by rw [← hH1, Array.getElem?_push, if_neg (Nat.ne_of_lt hq)]
  have ha : z_ad g (z_nx S + 4) = H.size := hW.1.symm
  have hR0 : z_R (z_new S (2, x.toNatClampNeg)) (z_nx S + 4) = fun _ => none := by funext j; simp [z_R, z_new, z_nx]
  have hk0 : z_kd (z_new S (2, x.toNatClampNeg)) (z_nx S + 4) = (2, x.toNatClampNeg) := by simp [z_kd, z_new, z_nx]
  have hW1 : z_Wd g (z_new S (2, x.toNatClampNeg)) H1 := by
    refine z_Wd_new hW z1 o1 ?_
    rw [z_ent_refs hk0, ha, hR0]
    show H1[H.size]? = some (vp_cell _ _)
    rw [vp_cell_q]
    exact e1
  have := kk H1 locs Ls hW1 (z_S_new hS z1 o1) hh
  have e4 : ((Value.ref (z_nx S + 4) :: st).map (z_val g)) = .ref H.size :: st.map (z_val g) := by
    rw [List.map_cons, ← ha]; rfl
  rw [e4] at this
  exact this
end ZNQ
end
section
/-! tools: states, loops, numbers -/
def z_up (S : z_S) (f : Nat → Nat → Int32) : z_S := (S.1, f, S.2.2)
theorem z_up_id (S : z_S) : z_up S (z_I S) = S := rfl
theorem z_up_I (S : z_S) (f : Nat → Nat → Int32) : z_I (z_up S f) = f := rfl
theorem z_up_up (S : z_S) (f h : Nat → Nat → Int32) : z_up (z_up S f) h = z_up S h := rfl
theorem z_pI_up (S : z_S) (o k : Nat) (v : Int32) : z_pI S o k v = z_up S (z_u2 (z_I S) o k v) := rfl
theorem z_eq {g : z_U} {X : z_X} {pc : Nat} {ls ls' : List (Option Value)} {st st' : List Value} {cl sl : Nat} {S S' : z_S} (h : z_W g X pc ls' st' cl sl S') (h1 : ls = ls') (h2 : st = st') (h3 : S = S') : z_W g X pc ls st cl sl S := by
  subst h1; subst h2; subst h3; exact h
theorem z_loop (P : Nat → Prop) (N : Nat) (step : ∀ j, j ≤ N → (j < N → P (j + 1)) → P j) : ∀ j, j ≤ N → P j := by
  have key : ∀ m j, j + m = N → P j := by
    intro m
    induction m with
    | zero => intro j h; exact step j (by omega) (fun q => by omega)
    | succ m ih => intro j h; exact step j (by omega) (fun _ => ih (j + 1) (by omega))
  intro j h
  exact key (N - j) j (by omega)
def z_row (S : z_S) (o a n : Nat) : Prop := z_is S o (0, 3) ∧ z_R S o 0 = some a ∧ z_is S a (1, n)
/-- what a row answers at i -/
def z_rd (I : Nat → Nat → Int32) (a n : Nat) (i : Int32) : Int32 := if 0 ≤ i ∧ i < nI n then I a i.toNatClampNeg else 0
theorem z_ge0 {x : Int32} (h : ¬ x < 0) : 0 ≤ x := Int32.not_lt.mp h
theorem z_vin {i : Int32} {n : Nat} (hn : n < 2 ^ 31) (h0 : ¬ i < 0) (h1 : i < nI n) : vp_in i n := by
  obtain ⟨j, hj, rfl⟩ := nI_of h0
  exact vp_in_nI ((nI_ltI hj hn).mp h1) hn
theorem z_nlt0 {x y : Int32} (h : x ≤ y) : ¬ y < x := Int32.not_lt.mpr h
theorem z_nle0 {x y : Int32} (h : x < y) : ¬ y ≤ x := Int32.not_le.mpr h
theorem z_inc (j : Nat) : nI j + 1 = nI (j + 1) := nI_1 j
theorem z_u2_same {α : Type} (f : Nat → Nat → α) (o k : Nat) (v : α) : z_u2 f o k v o k = v := by simp [z_u2]
theorem z_u2_ne {α : Type} {f : Nat → Nat → α} {o k o' k' : Nat} {v : α} (h : o' ≠ o ∨ k' ≠ k) : z_u2 f o k v o' k' = f o' k' := by
  unfold z_u2
  rw [if_neg (by rintro ⟨h1, h2⟩; rcases h with h | h <;> contradiction)]
/-- a whole row set -/
def z_sa (I : Nat → Nat → Int32) (a n : Nat) (f : Nat → Int32) : Nat → Nat → Int32 := fun o k => if o = a ∧ k < n then f k else I o k
theorem z_sa_0 (I : Nat → Nat → Int32) (a : Nat) (f : Nat → Int32) : z_sa I a 0 f = I := by funext o k; simp [z_sa]
theorem z_sa_succ (I : Nat → Nat → Int32) (a n : Nat) (f : Nat → Int32) : z_u2 (z_sa I a n f) a n (f n) = z_sa I a (n + 1) f := by
  funext o k
  simp only [z_u2, z_sa]
  by_cases ho : o = a
  · subst ho
    by_cases hk : k = n
    · subst hk; simp
    · simp only [hk, and_false, if_false, true_and]
      by_cases h : k < n
      · rw [if_pos h, if_pos (by omega)]
      · rw [if_neg h, if_neg (by omega)]
  · simp [ho]
theorem z_sa_off {I : Nat → Nat → Int32} {a n o k : Nat} {f : Nat → Int32} (h : o ≠ a) : z_sa I a n f o k = I o k := by simp [z_sa, h]
end
