section
-- ===== PART A: goes FIRST, ahead of the names: the tables' words, and 'selects' of the private methods out of them =====
/-- a private method of a class that the tables say can be made, by its rows of tables_1 -/
def lw_okq (q : MethodName × Nat) : Prop := (q.1.cls ≠ "java/lang/invoke/MethodHandle" ∧ q.1.cls ≠ "java/lang/invoke/VarHandle") ∧ Cond.instantiable q.1.cls q.2 ∈ tables_1 ∧ Cond.privateMethod q.1 ∈ tables_1 ∧ Cond.instanceMethod q.1 ∈ tables_1
theorem lw_p0 : lw_okq (⟨"SleepersShop$Reader", "readItem", "()Z"⟩, 4) := ⟨⟨by decide +kernel, by decide +kernel⟩, List.mem_of_getElem? (i := 128) (by decide +kernel), List.mem_of_getElem? (i := 354) (by decide +kernel), List.mem_of_getElem? (i := 355) (by decide +kernel)⟩
theorem lw_p1 : lw_okq (⟨"SleepersShop$Reader", "readNumbers", "(I)Z"⟩, 4) := ⟨⟨by decide +kernel, by decide +kernel⟩, List.mem_of_getElem? (i := 128) (by decide +kernel), List.mem_of_getElem? (i := 362) (by decide +kernel), List.mem_of_getElem? (i := 363) (by decide +kernel)⟩
theorem lw_p2 : lw_okq (⟨"SleepersShop$Reader", "readNumber", "()I"⟩, 4) := ⟨⟨by decide +kernel, by decide +kernel⟩, List.mem_of_getElem? (i := 128) (by decide +kernel), List.mem_of_getElem? (i := 366) (by decide +kernel), List.mem_of_getElem? (i := 367) (by decide +kernel)⟩
theorem lw_p3 : lw_okq (⟨"SleepersShop$Reader", "figure", "()I"⟩, 4) := ⟨⟨by decide +kernel, by decide +kernel⟩, List.mem_of_getElem? (i := 128) (by decide +kernel), List.mem_of_getElem? (i := 370) (by decide +kernel), List.mem_of_getElem? (i := 371) (by decide +kernel)⟩
theorem lw_p4 : lw_okq (⟨"SleepersShop$Reader", "takeStaff", "()Z"⟩, 4) := ⟨⟨by decide +kernel, by decide +kernel⟩, List.mem_of_getElem? (i := 128) (by decide +kernel), List.mem_of_getElem? (i := 381) (by decide +kernel), List.mem_of_getElem? (i := 382) (by decide +kernel)⟩
theorem lw_p5 : lw_okq (⟨"SleepersShop$Reader", "takeQuarrel", "()Z"⟩, 4) := ⟨⟨by decide +kernel, by decide +kernel⟩, List.mem_of_getElem? (i := 128) (by decide +kernel), List.mem_of_getElem? (i := 398) (by decide +kernel), List.mem_of_getElem? (i := 399) (by decide +kernel)⟩
theorem lw_p6 : lw_okq (⟨"SleepersShop$Reader", "takeCustomer", "()Z"⟩, 4) := ⟨⟨by decide +kernel, by decide +kernel⟩, List.mem_of_getElem? (i := 128) (by decide +kernel), List.mem_of_getElem? (i := 414) (by decide +kernel), List.mem_of_getElem? (i := 415) (by decide +kernel)⟩
theorem lw_p7 : lw_okq (⟨"SleepersShop$Reader", "takeDog", "()Z"⟩, 4) := ⟨⟨by decide +kernel, by decide +kernel⟩, List.mem_of_getElem? (i := 128) (by decide +kernel), List.mem_of_getElem? (i := 418) (by decide +kernel), List.mem_of_getElem? (i := 419) (by decide +kernel)⟩
theorem lw_p8 : lw_okq (⟨"SleepersShop", "openDraft", "()V"⟩, 11) := ⟨⟨by decide +kernel, by decide +kernel⟩, List.mem_of_getElem? (i := 19) (by decide +kernel), List.mem_of_getElem? (i := 422) (by decide +kernel), List.mem_of_getElem? (i := 423) (by decide +kernel)⟩
theorem lw_p9 : lw_okq (⟨"SleepersShop", "isStaff", "(I)Z"⟩, 11) := ⟨⟨by decide +kernel, by decide +kernel⟩, List.mem_of_getElem? (i := 19) (by decide +kernel), List.mem_of_getElem? (i := 507) (by decide +kernel), List.mem_of_getElem? (i := 508) (by decide +kernel)⟩
theorem lw_p10 : lw_okq (⟨"SleepersShop", "walkersTonight", "()I"⟩, 11) := ⟨⟨by decide +kernel, by decide +kernel⟩, List.mem_of_getElem? (i := 19) (by decide +kernel), List.mem_of_getElem? (i := 512) (by decide +kernel), List.mem_of_getElem? (i := 513) (by decide +kernel)⟩
theorem lw_p11 : lw_okq (⟨"SleepersShop$Night", "isBarred", "(II)Z"⟩, 9) := ⟨⟨by decide +kernel, by decide +kernel⟩, List.mem_of_getElem? (i := 149) (by decide +kernel), List.mem_of_getElem? (i := 534) (by decide +kernel), List.mem_of_getElem? (i := 535) (by decide +kernel)⟩
theorem lw_p12 : lw_okq (⟨"SleepersShop", "isCustomer", "(I)Z"⟩, 11) := ⟨⟨by decide +kernel, by decide +kernel⟩, List.mem_of_getElem? (i := 19) (by decide +kernel), List.mem_of_getElem? (i := 546) (by decide +kernel), List.mem_of_getElem? (i := 547) (by decide +kernel)⟩
theorem lw_p13 : lw_okq (⟨"SleepersShop", "serverTonight", "(I)I"⟩, 11) := ⟨⟨by decide +kernel, by decide +kernel⟩, List.mem_of_getElem? (i := 19) (by decide +kernel), List.mem_of_getElem? (i := 554) (by decide +kernel), List.mem_of_getElem? (i := 555) (by decide +kernel)⟩
theorem lw_p14 : lw_okq (⟨"SleepersShop", "playTonight", "()V"⟩, 11) := ⟨⟨by decide +kernel, by decide +kernel⟩, List.mem_of_getElem? (i := 19) (by decide +kernel), List.mem_of_getElem? (i := 558) (by decide +kernel), List.mem_of_getElem? (i := 559) (by decide +kernel)⟩
theorem lw_p15 : lw_okq (⟨"SleepersShop$Night", "attend", "(I)V"⟩, 9) := ⟨⟨by decide +kernel, by decide +kernel⟩, List.mem_of_getElem? (i := 149) (by decide +kernel), List.mem_of_getElem? (i := 568) (by decide +kernel), List.mem_of_getElem? (i := 569) (by decide +kernel)⟩
def lw_privs_1 : List (MethodName × Nat) := [(⟨"SleepersShop$Reader", "readItem", "()Z"⟩, 4), (⟨"SleepersShop$Reader", "readNumbers", "(I)Z"⟩, 4), (⟨"SleepersShop$Reader", "readNumber", "()I"⟩, 4), (⟨"SleepersShop$Reader", "figure", "()I"⟩, 4), (⟨"SleepersShop$Reader", "takeStaff", "()Z"⟩, 4), (⟨"SleepersShop$Reader", "takeQuarrel", "()Z"⟩, 4), (⟨"SleepersShop$Reader", "takeCustomer", "()Z"⟩, 4), (⟨"SleepersShop$Reader", "takeDog", "()Z"⟩, 4), (⟨"SleepersShop", "openDraft", "()V"⟩, 11), (⟨"SleepersShop", "isStaff", "(I)Z"⟩, 11), (⟨"SleepersShop", "walkersTonight", "()I"⟩, 11), (⟨"SleepersShop$Night", "isBarred", "(II)Z"⟩, 9), (⟨"SleepersShop", "isCustomer", "(I)Z"⟩, 11), (⟨"SleepersShop", "serverTonight", "(I)I"⟩, 11), (⟨"SleepersShop", "playTonight", "()V"⟩, 11), (⟨"SleepersShop$Night", "attend", "(I)V"⟩, 9)]
theorem lw_r1 : ∀ q ∈ lw_privs_1, lw_okq q := List.forall_mem_cons.mpr ⟨lw_p0, List.forall_mem_cons.mpr ⟨lw_p1, List.forall_mem_cons.mpr ⟨lw_p2, List.forall_mem_cons.mpr ⟨lw_p3, List.forall_mem_cons.mpr ⟨lw_p4, List.forall_mem_cons.mpr ⟨lw_p5, List.forall_mem_cons.mpr ⟨lw_p6, List.forall_mem_cons.mpr ⟨lw_p7, List.forall_mem_cons.mpr ⟨lw_p8, List.forall_mem_cons.mpr ⟨lw_p9, List.forall_mem_cons.mpr ⟨lw_p10, List.forall_mem_cons.mpr ⟨lw_p11, List.forall_mem_cons.mpr ⟨lw_p12, List.forall_mem_cons.mpr ⟨lw_p13, List.forall_mem_cons.mpr ⟨lw_p14, List.forall_mem_cons.mpr ⟨lw_p15, fun _ h => absurd h List.not_mem_nil⟩⟩⟩⟩⟩⟩⟩⟩⟩⟩⟩⟩⟩⟩⟩⟩
theorem lw_p16 : lw_okq (⟨"SleepersShop$Night", "isReadyFor", "(II)Z"⟩, 9) := ⟨⟨by decide +kernel, by decide +kernel⟩, List.mem_of_getElem? (i := 149) (by decide +kernel), List.mem_of_getElem? (i := 572) (by decide +kernel), List.mem_of_getElem? (i := 573) (by decide +kernel)⟩
theorem lw_p17 : lw_okq (⟨"SleepersShop$Night", "sell", "(II)V"⟩, 9) := ⟨⟨by decide +kernel, by decide +kernel⟩, List.mem_of_getElem? (i := 149) (by decide +kernel), List.mem_of_getElem? (i := 583) (by decide +kernel), List.mem_of_getElem? (i := 584) (by decide +kernel)⟩
theorem lw_p18 : lw_okq (⟨"SleepersShop", "areTwoStaff", "(II)Z"⟩, 11) := ⟨⟨by decide +kernel, by decide +kernel⟩, List.mem_of_getElem? (i := 19) (by decide +kernel), List.mem_of_getElem? (i := 592) (by decide +kernel), List.mem_of_getElem? (i := 593) (by decide +kernel)⟩
theorem lw_p19 : lw_okq (⟨"SleepersShop$Shelf", "dropOldest", "()V"⟩, 2) := ⟨⟨by decide +kernel, by decide +kernel⟩, List.mem_of_getElem? (i := 235) (by decide +kernel), List.mem_of_getElem? (i := 609) (by decide +kernel), List.mem_of_getElem? (i := 610) (by decide +kernel)⟩
theorem lw_p20 : lw_okq (⟨"SleepersShop", "goBy", "(LSleepersShop$State;I)V"⟩, 11) := ⟨⟨by decide +kernel, by decide +kernel⟩, List.mem_of_getElem? (i := 19) (by decide +kernel), List.mem_of_getElem? (i := 618) (by decide +kernel), List.mem_of_getElem? (i := 619) (by decide +kernel)⟩
theorem lw_p21 : lw_okq (⟨"SleepersShop", "servedIfFed", "(I)I"⟩, 11) := ⟨⟨by decide +kernel, by decide +kernel⟩, List.mem_of_getElem? (i := 19) (by decide +kernel), List.mem_of_getElem? (i := 667) (by decide +kernel), List.mem_of_getElem? (i := 668) (by decide +kernel)⟩
theorem lw_p22 : lw_okq (⟨"SleepersShop", "servedIfMadeUp", "(II)I"⟩, 11) := ⟨⟨by decide +kernel, by decide +kernel⟩, List.mem_of_getElem? (i := 19) (by decide +kernel), List.mem_of_getElem? (i := 680) (by decide +kernel), List.mem_of_getElem? (i := 681) (by decide +kernel)⟩
theorem lw_p23 : lw_okq (⟨"SleepersShop", "isWithoutHam", "(II)Z"⟩, 11) := ⟨⟨by decide +kernel, by decide +kernel⟩, List.mem_of_getElem? (i := 19) (by decide +kernel), List.mem_of_getElem? (i := 728) (by decide +kernel), List.mem_of_getElem? (i := 729) (by decide +kernel)⟩
theorem lw_p24 : lw_okq (⟨"SleepersShopModel", "addOne", "(IIIII)V"⟩, 30) := ⟨⟨by decide +kernel, by decide +kernel⟩, List.mem_of_getElem? (i := 768) (by decide +kernel), List.mem_of_getElem? (i := 774) (by decide +kernel), List.mem_of_getElem? (i := 775) (by decide +kernel)⟩
theorem lw_p25 : lw_okq (⟨"SleepersShopModel", "addGuest", "(IIIII)V"⟩, 30) := ⟨⟨by decide +kernel, by decide +kernel⟩, List.mem_of_getElem? (i := 768) (by decide +kernel), List.mem_of_getElem? (i := 781) (by decide +kernel), List.mem_of_getElem? (i := 782) (by decide +kernel)⟩
theorem lw_p26 : lw_okq (⟨"SleepersShopModel", "isItem", "()Z"⟩, 30) := ⟨⟨by decide +kernel, by decide +kernel⟩, List.mem_of_getElem? (i := 768) (by decide +kernel), List.mem_of_getElem? (i := 891) (by decide +kernel), List.mem_of_getElem? (i := 892) (by decide +kernel)⟩
theorem lw_p27 : lw_okq (⟨"SleepersShopModel", "letterAt", "(I)I"⟩, 30) := ⟨⟨by decide +kernel, by decide +kernel⟩, List.mem_of_getElem? (i := 768) (by decide +kernel), List.mem_of_getElem? (i := 895) (by decide +kernel), List.mem_of_getElem? (i := 896) (by decide +kernel)⟩
theorem lw_p28 : lw_okq (⟨"SleepersShopModel", "least", "(II)I"⟩, 30) := ⟨⟨by decide +kernel, by decide +kernel⟩, List.mem_of_getElem? (i := 768) (by decide +kernel), List.mem_of_getElem? (i := 899) (by decide +kernel), List.mem_of_getElem? (i := 900) (by decide +kernel)⟩
theorem lw_p29 : lw_okq (⟨"SleepersShopModel", "most", "(II)I"⟩, 30) := ⟨⟨by decide +kernel, by decide +kernel⟩, List.mem_of_getElem? (i := 768) (by decide +kernel), List.mem_of_getElem? (i := 903) (by decide +kernel), List.mem_of_getElem? (i := 904) (by decide +kernel)⟩
theorem lw_p30 : lw_okq (⟨"SleepersShopModel", "isNumber", "(III)Z"⟩, 30) := ⟨⟨by decide +kernel, by decide +kernel⟩, List.mem_of_getElem? (i := 768) (by decide +kernel), List.mem_of_getElem? (i := 907) (by decide +kernel), List.mem_of_getElem? (i := 908) (by decide +kernel)⟩
theorem lw_p31 : lw_okq (⟨"SleepersShopModel", "isOne", "(I)Z"⟩, 30) := ⟨⟨by decide +kernel, by decide +kernel⟩, List.mem_of_getElem? (i := 768) (by decide +kernel), List.mem_of_getElem? (i := 932) (by decide +kernel), List.mem_of_getElem? (i := 933) (by decide +kernel)⟩
def lw_privs_2 : List (MethodName × Nat) := [(⟨"SleepersShop$Night", "isReadyFor", "(II)Z"⟩, 9), (⟨"SleepersShop$Night", "sell", "(II)V"⟩, 9), (⟨"SleepersShop", "areTwoStaff", "(II)Z"⟩, 11), (⟨"SleepersShop$Shelf", "dropOldest", "()V"⟩, 2), (⟨"SleepersShop", "goBy", "(LSleepersShop$State;I)V"⟩, 11), (⟨"SleepersShop", "servedIfFed", "(I)I"⟩, 11), (⟨"SleepersShop", "servedIfMadeUp", "(II)I"⟩, 11), (⟨"SleepersShop", "isWithoutHam", "(II)Z"⟩, 11), (⟨"SleepersShopModel", "addOne", "(IIIII)V"⟩, 30), (⟨"SleepersShopModel", "addGuest", "(IIIII)V"⟩, 30), (⟨"SleepersShopModel", "isItem", "()Z"⟩, 30), (⟨"SleepersShopModel", "letterAt", "(I)I"⟩, 30), (⟨"SleepersShopModel", "least", "(II)I"⟩, 30), (⟨"SleepersShopModel", "most", "(II)I"⟩, 30), (⟨"SleepersShopModel", "isNumber", "(III)Z"⟩, 30), (⟨"SleepersShopModel", "isOne", "(I)Z"⟩, 30)]
theorem lw_r2 : ∀ q ∈ lw_privs_2, lw_okq q := List.forall_mem_cons.mpr ⟨lw_p16, List.forall_mem_cons.mpr ⟨lw_p17, List.forall_mem_cons.mpr ⟨lw_p18, List.forall_mem_cons.mpr ⟨lw_p19, List.forall_mem_cons.mpr ⟨lw_p20, List.forall_mem_cons.mpr ⟨lw_p21, List.forall_mem_cons.mpr ⟨lw_p22, List.forall_mem_cons.mpr ⟨lw_p23, List.forall_mem_cons.mpr ⟨lw_p24, List.forall_mem_cons.mpr ⟨lw_p25, List.forall_mem_cons.mpr ⟨lw_p26, List.forall_mem_cons.mpr ⟨lw_p27, List.forall_mem_cons.mpr ⟨lw_p28, List.forall_mem_cons.mpr ⟨lw_p29, List.forall_mem_cons.mpr ⟨lw_p30, List.forall_mem_cons.mpr ⟨lw_p31, fun _ h => absurd h List.not_mem_nil⟩⟩⟩⟩⟩⟩⟩⟩⟩⟩⟩⟩⟩⟩⟩⟩
theorem lw_p32 : lw_okq (⟨"SleepersShopModel", "layNow", "()V"⟩, 30) := ⟨⟨by decide +kernel, by decide +kernel⟩, List.mem_of_getElem? (i := 768) (by decide +kernel), List.mem_of_getElem? (i := 936) (by decide +kernel), List.mem_of_getElem? (i := 937) (by decide +kernel)⟩
theorem lw_p33 : lw_okq (⟨"SleepersShopModel", "layNight", "([III)V"⟩, 30) := ⟨⟨by decide +kernel, by decide +kernel⟩, List.mem_of_getElem? (i := 768) (by decide +kernel), List.mem_of_getElem? (i := 940) (by decide +kernel), List.mem_of_getElem? (i := 941) (by decide +kernel)⟩
theorem lw_p34 : lw_okq (⟨"SleepersShopModel", "layWalks", "([I)V"⟩, 30) := ⟨⟨by decide +kernel, by decide +kernel⟩, List.mem_of_getElem? (i := 768) (by decide +kernel), List.mem_of_getElem? (i := 944) (by decide +kernel), List.mem_of_getElem? (i := 945) (by decide +kernel)⟩
theorem lw_p35 : lw_okq (⟨"SleepersShopModel", "isDogNight", "(I)Z"⟩, 30) := ⟨⟨by decide +kernel, by decide +kernel⟩, List.mem_of_getElem? (i := 768) (by decide +kernel), List.mem_of_getElem? (i := 948) (by decide +kernel), List.mem_of_getElem? (i := 949) (by decide +kernel)⟩
theorem lw_p36 : lw_okq (⟨"SleepersShopModel", "serves", "(II)Z"⟩, 30) := ⟨⟨by decide +kernel, by decide +kernel⟩, List.mem_of_getElem? (i := 768) (by decide +kernel), List.mem_of_getElem? (i := 952) (by decide +kernel), List.mem_of_getElem? (i := 953) (by decide +kernel)⟩
theorem lw_p37 : lw_okq (⟨"SleepersShopModel", "wakes", "(III)Z"⟩, 30) := ⟨⟨by decide +kernel, by decide +kernel⟩, List.mem_of_getElem? (i := 768) (by decide +kernel), List.mem_of_getElem? (i := 956) (by decide +kernel), List.mem_of_getElem? (i := 957) (by decide +kernel)⟩
theorem lw_p38 : lw_okq (⟨"SleepersShopModel", "isGuest", "(I)Z"⟩, 30) := ⟨⟨by decide +kernel, by decide +kernel⟩, List.mem_of_getElem? (i := 768) (by decide +kernel), List.mem_of_getElem? (i := 964) (by decide +kernel), List.mem_of_getElem? (i := 965) (by decide +kernel)⟩
theorem lw_p39 : lw_okq (⟨"SleepersShopModel", "areTwo", "(II)Z"⟩, 30) := ⟨⟨by decide +kernel, by decide +kernel⟩, List.mem_of_getElem? (i := 768) (by decide +kernel), List.mem_of_getElem? (i := 972) (by decide +kernel), List.mem_of_getElem? (i := 973) (by decide +kernel)⟩
theorem lw_p40 : lw_okq (⟨"SleepersShopModel", "note", "()V"⟩, 30) := ⟨⟨by decide +kernel, by decide +kernel⟩, List.mem_of_getElem? (i := 768) (by decide +kernel), List.mem_of_getElem? (i := 984) (by decide +kernel), List.mem_of_getElem? (i := 985) (by decide +kernel)⟩
theorem lw_p41 : lw_okq (⟨"SleepersShopModel", "goBy", "([I)I"⟩, 30) := ⟨⟨by decide +kernel, by decide +kernel⟩, List.mem_of_getElem? (i := 768) (by decide +kernel), List.mem_of_getElem? (i := 988) (by decide +kernel), List.mem_of_getElem? (i := 989) (by decide +kernel)⟩
theorem lw_p42 : lw_okq (⟨"SleepersShopModel", "begin", "()V"⟩, 30) := ⟨⟨by decide +kernel, by decide +kernel⟩, List.mem_of_getElem? (i := 768) (by decide +kernel), List.mem_of_getElem? (i := 1012) (by decide +kernel), List.mem_of_getElem? (i := 1013) (by decide +kernel)⟩
theorem lw_p43 : lw_okq (⟨"SleepersShopModel", "makeUp", "(I)V"⟩, 30) := ⟨⟨by decide +kernel, by decide +kernel⟩, List.mem_of_getElem? (i := 768) (by decide +kernel), List.mem_of_getElem? (i := 1028) (by decide +kernel), List.mem_of_getElem? (i := 1029) (by decide +kernel)⟩
def lw_privs_3 : List (MethodName × Nat) := [(⟨"SleepersShopModel", "layNow", "()V"⟩, 30), (⟨"SleepersShopModel", "layNight", "([III)V"⟩, 30), (⟨"SleepersShopModel", "layWalks", "([I)V"⟩, 30), (⟨"SleepersShopModel", "isDogNight", "(I)Z"⟩, 30), (⟨"SleepersShopModel", "serves", "(II)Z"⟩, 30), (⟨"SleepersShopModel", "wakes", "(III)Z"⟩, 30), (⟨"SleepersShopModel", "isGuest", "(I)Z"⟩, 30), (⟨"SleepersShopModel", "areTwo", "(II)Z"⟩, 30), (⟨"SleepersShopModel", "note", "()V"⟩, 30), (⟨"SleepersShopModel", "goBy", "([I)I"⟩, 30), (⟨"SleepersShopModel", "begin", "()V"⟩, 30), (⟨"SleepersShopModel", "makeUp", "(I)V"⟩, 30)]
theorem lw_r3 : ∀ q ∈ lw_privs_3, lw_okq q := List.forall_mem_cons.mpr ⟨lw_p32, List.forall_mem_cons.mpr ⟨lw_p33, List.forall_mem_cons.mpr ⟨lw_p34, List.forall_mem_cons.mpr ⟨lw_p35, List.forall_mem_cons.mpr ⟨lw_p36, List.forall_mem_cons.mpr ⟨lw_p37, List.forall_mem_cons.mpr ⟨lw_p38, List.forall_mem_cons.mpr ⟨lw_p39, List.forall_mem_cons.mpr ⟨lw_p40, List.forall_mem_cons.mpr ⟨lw_p41, List.forall_mem_cons.mpr ⟨lw_p42, List.forall_mem_cons.mpr ⟨lw_p43, fun _ h => absurd h List.not_mem_nil⟩⟩⟩⟩⟩⟩⟩⟩⟩⟩⟩⟩
def lw_privs : List (MethodName × Nat) := lw_privs_1 ++ (lw_privs_2 ++ (lw_privs_3))
def lw_tbl : List Cond := k2_sels lw_privs ++ tables_1
theorem lw_privs_ok : ∀ q ∈ lw_privs, lw_okq q := by
  show ∀ q ∈ lw_privs_1 ++ (lw_privs_2 ++ (lw_privs_3)), lw_okq q
  exact List.forall_mem_append.mpr ⟨lw_r1, List.forall_mem_append.mpr ⟨lw_r2, lw_r3⟩⟩

def RX0 : String := "SleepersShop$Choice"
def TX0 : u_T := fun k => match k with
  | 0 => ("SleepersShop$Choice", "set", "I", false)
  | _ => ("SleepersShop$Choice", "served", "I", false)
def tyX0 : Nat → FieldType := fun k => match k with
  | 0 => .int
  | _ => .int
theorem nmX0 : ∀ a, a < 2 → ∀ b, b < 2 → a ≠ b → (TX0 a).2.1 ≠ (TX0 b).2.1 := by decide +kernel
theorem tyX0_ok : ∀ k, k < 2 → parseFieldDescriptor (TX0 k).2.2.1 = some (tyX0 k) := by decide +kernel
abbrev cX0_init : ByteArray := prog_2_method_1_code
def yX0_init : MethodName := ⟨RX0, "<init>", "()V"⟩
abbrev cX0_clear : ByteArray := prog_2_method_2_code
def yX0_clear : MethodName := ⟨RX0, "clear", "()V"⟩
abbrev cX0_offer : ByteArray := prog_2_method_3_code
def yX0_offer : MethodName := ⟨RX0, "offer", "(II)V"⟩
def RX1 : String := "SleepersShop$Night"
def TX1 : u_T := fun k => match k with
  | 0 => ("SleepersShop$Night", "shop", "LSleepersShop$Shop;", true)
  | 1 => ("SleepersShop$Night", "sellers", "LSleepersShop$Row;", true)
  | 2 => ("SleepersShop$Night", "walkers", "I", false)
  | 3 => ("SleepersShop$Night", "wokenOnes", "I", false)
  | 4 => ("SleepersShop$Night", "served", "I", false)
  | 5 => ("SleepersShop$Night", "hams", "I", false)
  | 6 => ("SleepersShop$Night", "firstWithHam", "I", false)
  | 7 => ("SleepersShop$Night", "till", "I", false)
  | _ => ("SleepersShop$Night", "drawer", "I", false)
def tyX1 : Nat → FieldType := fun k => match k with
  | 0 => .object "SleepersShop$Shop"
  | 1 => .object "SleepersShop$Row"
  | 2 => .int
  | 3 => .int
  | 4 => .int
  | 5 => .int
  | 6 => .int
  | 7 => .int
  | _ => .int
theorem nmX1 : ∀ a, a < 9 → ∀ b, b < 9 → a ≠ b → (TX1 a).2.1 ≠ (TX1 b).2.1 := by decide +kernel
theorem tyX1_ok : ∀ k, k < 9 → parseFieldDescriptor (TX1 k).2.2.1 = some (tyX1 k) := by decide +kernel
abbrev cX1_init : ByteArray := prog_3_method_1_code
def yX1_init : MethodName := ⟨RX1, "<init>", "(LSleepersShop$Shop;)V"⟩
abbrev cX1_play : ByteArray := prog_3_method_2_code
def yX1_play : MethodName := ⟨RX1, "play", "(LSleepersShop$State;ZI)V"⟩
abbrev cX1_open : ByteArray := prog_3_method_3_code
def yX1_open : MethodName := ⟨RX1, "open", "(LSleepersShop$State;Z)V"⟩
abbrev cX1_isBarred : ByteArray := prog_3_method_4_code
def yX1_isBarred : MethodName := ⟨RX1, "isBarred", "(II)Z"⟩
abbrev cX1_attend : ByteArray := prog_3_method_5_code
def yX1_attend : MethodName := ⟨RX1, "attend", "(I)V"⟩
abbrev cX1_isReadyFor : ByteArray := prog_3_method_6_code
def yX1_isReadyFor : MethodName := ⟨RX1, "isReadyFor", "(II)Z"⟩
abbrev cX1_firstFor : ByteArray := prog_3_method_7_code
def yX1_firstFor : MethodName := ⟨RX1, "firstFor", "(I)I"⟩
abbrev cX1_sell : ByteArray := prog_3_method_8_code
def yX1_sell : MethodName := ⟨RX1, "sell", "(II)V"⟩
abbrev cX1_close : ByteArray := prog_3_method_9_code
def yX1_close : MethodName := ⟨RX1, "close", "(LSleepersShop$State;)V"⟩
def RX2 : String := "SleepersShop$Reader"
def TX2 : u_T := fun k => match k with
  | 0 => ("SleepersShop$Reader", "text", "LSleepersShop$Text;", true)
  | 1 => ("SleepersShop$Reader", "draft", "LSleepersShop$Shop;", true)
  | 2 => ("SleepersShop$Reader", "numbers", "LSleepersShop$Row;", true)
  | _ => ("SleepersShop$Reader", "place", "I", false)
def tyX2 : Nat → FieldType := fun k => match k with
  | 0 => .object "SleepersShop$Text"
  | 1 => .object "SleepersShop$Shop"
  | 2 => .object "SleepersShop$Row"
  | _ => .int
theorem nmX2 : ∀ a, a < 4 → ∀ b, b < 4 → a ≠ b → (TX2 a).2.1 ≠ (TX2 b).2.1 := by decide +kernel
theorem tyX2_ok : ∀ k, k < 4 → parseFieldDescriptor (TX2 k).2.2.1 = some (tyX2 k) := by decide +kernel
abbrev cX2_init : ByteArray := prog_4_method_1_code
def yX2_init : MethodName := ⟨RX2, "<init>", "(LSleepersShop$Text;LSleepersShop$Shop;)V"⟩
abbrev cX2_read : ByteArray := prog_4_method_2_code
def yX2_read : MethodName := ⟨RX2, "read", "()I"⟩
abbrev cX2_readItem : ByteArray := prog_4_method_3_code
def yX2_readItem : MethodName := ⟨RX2, "readItem", "()Z"⟩
abbrev cX2_readNumbers : ByteArray := prog_4_method_4_code
def yX2_readNumbers : MethodName := ⟨RX2, "readNumbers", "(I)Z"⟩
abbrev cX2_readNumber : ByteArray := prog_4_method_5_code
def yX2_readNumber : MethodName := ⟨RX2, "readNumber", "()I"⟩
abbrev cX2_figure : ByteArray := prog_4_method_6_code
def yX2_figure : MethodName := ⟨RX2, "figure", "()I"⟩
abbrev cX2_takeStaff : ByteArray := prog_4_method_7_code
def yX2_takeStaff : MethodName := ⟨RX2, "takeStaff", "()Z"⟩
abbrev cX2_takeQuarrel : ByteArray := prog_4_method_8_code
def yX2_takeQuarrel : MethodName := ⟨RX2, "takeQuarrel", "()Z"⟩
abbrev cX2_takeCustomer : ByteArray := prog_4_method_9_code
def yX2_takeCustomer : MethodName := ⟨RX2, "takeCustomer", "()Z"⟩
abbrev cX2_takeDog : ByteArray := prog_4_method_10_code
def yX2_takeDog : MethodName := ⟨RX2, "takeDog", "()Z"⟩
def RX3 : String := "SleepersShop$Row"
def TX3 : u_T := fun k => match k with
  | _ => ("SleepersShop$Row", "cells", "[I", true)
def tyX3 : Nat → FieldType := fun k => match k with
  | _ => .array .int
theorem nmX3 : ∀ a, a < 1 → ∀ b, b < 1 → a ≠ b → (TX3 a).2.1 ≠ (TX3 b).2.1 := by decide +kernel
theorem tyX3_ok : ∀ k, k < 1 → parseFieldDescriptor (TX3 k).2.2.1 = some (tyX3 k) := by decide +kernel
abbrev cX3_init : ByteArray := prog_5_method_1_code
def yX3_init : MethodName := ⟨RX3, "<init>", "(I)V"⟩
abbrev cX3_at : ByteArray := prog_5_method_2_code
def yX3_at : MethodName := ⟨RX3, "at", "(I)I"⟩
abbrev cX3_put : ByteArray := prog_5_method_3_code
def yX3_put : MethodName := ⟨RX3, "put", "(II)V"⟩
abbrev cX3_fill : ByteArray := prog_5_method_4_code
def yX3_fill : MethodName := ⟨RX3, "fill", "(I)V"⟩
abbrev cX3_copy : ByteArray := prog_5_method_5_code
def yX3_copy : MethodName := ⟨RX3, "copy", "(LSleepersShop$Row;)V"⟩
def RX4 : String := "SleepersShop$Shelf"
def TX4 : u_T := fun k => match k with
  | 0 => ("SleepersShop$Shelf", "states", "[LSleepersShop$State;", true)
  | _ => ("SleepersShop$Shelf", "size", "I", false)
def tyX4 : Nat → FieldType := fun k => match k with
  | 0 => .array (.object "SleepersShop$State")
  | _ => .int
theorem nmX4 : ∀ a, a < 2 → ∀ b, b < 2 → a ≠ b → (TX4 a).2.1 ≠ (TX4 b).2.1 := by decide +kernel
theorem tyX4_ok : ∀ k, k < 2 → parseFieldDescriptor (TX4 k).2.2.1 = some (tyX4 k) := by decide +kernel
abbrev cX4_init : ByteArray := prog_6_method_1_code
def yX4_init : MethodName := ⟨RX4, "<init>", "(I)V"⟩
abbrev cX4_clear : ByteArray := prog_6_method_2_code
def yX4_clear : MethodName := ⟨RX4, "clear", "()V"⟩
abbrev cX4_put : ByteArray := prog_6_method_3_code
def yX4_put : MethodName := ⟨RX4, "put", "(LSleepersShop$State;)V"⟩
abbrev cX4_dropOldest : ByteArray := prog_6_method_4_code
def yX4_dropOldest : MethodName := ⟨RX4, "dropOldest", "()V"⟩
abbrev cX4_takeInto : ByteArray := prog_6_method_5_code
def yX4_takeInto : MethodName := ⟨RX4, "takeInto", "(LSleepersShop$State;)V"⟩
def RX5 : String := "SleepersShop$Shop"
def TX5 : u_T := fun k => match k with
  | 0 => ("SleepersShop$Shop", "kinds", "LSleepersShop$Row;", true)
  | 1 => ("SleepersShop$Shop", "skills", "LSleepersShop$Row;", true)
  | 2 => ("SleepersShop$Shop", "everies", "LSleepersShop$Row;", true)
  | 3 => ("SleepersShop$Shop", "offsets", "LSleepersShop$Row;", true)
  | 4 => ("SleepersShop$Shop", "nights", "LSleepersShop$Row;", true)
  | 5 => ("SleepersShop$Shop", "things", "LSleepersShop$Row;", true)
  | 6 => ("SleepersShop$Shop", "ways", "LSleepersShop$Row;", true)
  | 7 => ("SleepersShop$Shop", "pences", "LSleepersShop$Row;", true)
  | 8 => ("SleepersShop$Shop", "servers", "LSleepersShop$Row;", true)
  | 9 => ("SleepersShop$Shop", "staffSize", "I", false)
  | 10 => ("SleepersShop$Shop", "customerSize", "I", false)
  | 11 => ("SleepersShop$Shop", "quarrels", "I", false)
  | _ => ("SleepersShop$Shop", "dogEvery", "I", false)
def tyX5 : Nat → FieldType := fun k => match k with
  | 0 => .object "SleepersShop$Row"
  | 1 => .object "SleepersShop$Row"
  | 2 => .object "SleepersShop$Row"
  | 3 => .object "SleepersShop$Row"
  | 4 => .object "SleepersShop$Row"
  | 5 => .object "SleepersShop$Row"
  | 6 => .object "SleepersShop$Row"
  | 7 => .object "SleepersShop$Row"
  | 8 => .object "SleepersShop$Row"
  | 9 => .int
  | 10 => .int
  | 11 => .int
  | _ => .int
theorem nmX5 : ∀ a, a < 13 → ∀ b, b < 13 → a ≠ b → (TX5 a).2.1 ≠ (TX5 b).2.1 := by decide +kernel
theorem tyX5_ok : ∀ k, k < 13 → parseFieldDescriptor (TX5 k).2.2.1 = some (tyX5 k) := by decide +kernel
abbrev cX5_init : ByteArray := prog_7_method_1_code
def yX5_init : MethodName := ⟨RX5, "<init>", "()V"⟩
abbrev cX5_clear : ByteArray := prog_7_method_2_code
def yX5_clear : MethodName := ⟨RX5, "clear", "()V"⟩
abbrev cX5_copy : ByteArray := prog_7_method_3_code
def yX5_copy : MethodName := ⟨RX5, "copy", "(LSleepersShop$Shop;)V"⟩
abbrev cX5_hasDog : ByteArray := prog_7_method_4_code
def yX5_hasDog : MethodName := ⟨RX5, "hasDog", "(I)Z"⟩
abbrev cX5_isDue : ByteArray := prog_7_method_5_code
def yX5_isDue : MethodName := ⟨RX5, "isDue", "(II)Z"⟩
abbrev cX5_comes : ByteArray := prog_7_method_6_code
def yX5_comes : MethodName := ⟨RX5, "comes", "(II)Z"⟩
abbrev cX5_addServer : ByteArray := prog_7_method_7_code
def yX5_addServer : MethodName := ⟨RX5, "addServer", "(II)V"⟩
abbrev cX5_rouses : ByteArray := prog_7_method_8_code
def yX5_rouses : MethodName := ⟨RX5, "rouses", "(II)Z"⟩
def RX6 : String := "SleepersShop$Sightings"
def TX6 : u_T := fun k => match k with
  | 0 => ("SleepersShop$Sightings", "who", "LSleepersShop$Row;", true)
  | 1 => ("SleepersShop$Sightings", "when", "LSleepersShop$Row;", true)
  | 2 => ("SleepersShop$Sightings", "walked", "LSleepersShop$Row;", true)
  | _ => ("SleepersShop$Sightings", "size", "I", false)
def tyX6 : Nat → FieldType := fun k => match k with
  | 0 => .object "SleepersShop$Row"
  | 1 => .object "SleepersShop$Row"
  | 2 => .object "SleepersShop$Row"
  | _ => .int
theorem nmX6 : ∀ a, a < 4 → ∀ b, b < 4 → a ≠ b → (TX6 a).2.1 ≠ (TX6 b).2.1 := by decide +kernel
theorem tyX6_ok : ∀ k, k < 4 → parseFieldDescriptor (TX6 k).2.2.1 = some (tyX6 k) := by decide +kernel
abbrev cX6_init : ByteArray := prog_8_method_1_code
def yX6_init : MethodName := ⟨RX6, "<init>", "()V"⟩
abbrev cX6_clear : ByteArray := prog_8_method_2_code
def yX6_clear : MethodName := ⟨RX6, "clear", "()V"⟩
abbrev cX6_add : ByteArray := prog_8_method_3_code
def yX6_add : MethodName := ⟨RX6, "add", "(IIZ)V"⟩
abbrev cX6_allow : ByteArray := prog_8_method_4_code
def yX6_allow : MethodName := ⟨RX6, "allow", "(III)Z"⟩
def RX7 : String := "SleepersShop$State"
def TX7 : u_T := fun k => match k with
  | 0 => ("SleepersShop$State", "night", "I", false)
  | 1 => ("SleepersShop$State", "till", "I", false)
  | 2 => ("SleepersShop$State", "drawer", "I", false)
  | 3 => ("SleepersShop$State", "hams", "I", false)
  | 4 => ("SleepersShop$State", "quarrels", "I", false)
  | 5 => ("SleepersShop$State", "fed", "I", false)
  | _ => ("SleepersShop$State", "awake", "LSleepersShop$Row;", true)
def tyX7 : Nat → FieldType := fun k => match k with
  | 0 => .int
  | 1 => .int
  | 2 => .int
  | 3 => .int
  | 4 => .int
  | 5 => .int
  | _ => .object "SleepersShop$Row"
theorem nmX7 : ∀ a, a < 7 → ∀ b, b < 7 → a ≠ b → (TX7 a).2.1 ≠ (TX7 b).2.1 := by decide +kernel
theorem tyX7_ok : ∀ k, k < 7 → parseFieldDescriptor (TX7 k).2.2.1 = some (tyX7 k) := by decide +kernel
abbrev cX7_init : ByteArray := prog_9_method_1_code
def yX7_init : MethodName := ⟨RX7, "<init>", "()V"⟩
abbrev cX7_begin : ByteArray := prog_9_method_2_code
def yX7_begin : MethodName := ⟨RX7, "begin", "(I)V"⟩
abbrev cX7_copy : ByteArray := prog_9_method_3_code
def yX7_copy : MethodName := ⟨RX7, "copy", "(LSleepersShop$State;)V"⟩
def RX8 : String := "SleepersShop$Text"
def TX8 : u_T := fun k => match k with
  | 0 => ("SleepersShop$Text", "letters", "[I", true)
  | _ => ("SleepersShop$Text", "length", "I", false)
def tyX8 : Nat → FieldType := fun k => match k with
  | 0 => .array .int
  | _ => .int
theorem nmX8 : ∀ a, a < 2 → ∀ b, b < 2 → a ≠ b → (TX8 a).2.1 ≠ (TX8 b).2.1 := by decide +kernel
theorem tyX8_ok : ∀ k, k < 2 → parseFieldDescriptor (TX8 k).2.2.1 = some (tyX8 k) := by decide +kernel
abbrev cX8_init : ByteArray := prog_10_method_1_code
def yX8_init : MethodName := ⟨RX8, "<init>", "()V"⟩
abbrev cX8_clear : ByteArray := prog_10_method_2_code
def yX8_clear : MethodName := ⟨RX8, "clear", "()V"⟩
abbrev cX8_add : ByteArray := prog_10_method_3_code
def yX8_add : MethodName := ⟨RX8, "add", "(I)V"⟩
abbrev cX8_letter : ByteArray := prog_10_method_4_code
def yX8_letter : MethodName := ⟨RX8, "letter", "(I)I"⟩
def RX9 : String := "SleepersShop"
def TX9 : u_T := fun k => match k with
  | 0 => ("SleepersShop", "text", "LSleepersShop$Text;", true)
  | 1 => ("SleepersShop", "shop", "LSleepersShop$Shop;", true)
  | 2 => ("SleepersShop", "draft", "LSleepersShop$Shop;", true)
  | 3 => ("SleepersShop", "reader", "LSleepersShop$Reader;", true)
  | 4 => ("SleepersShop", "night", "LSleepersShop$Night;", true)
  | 5 => ("SleepersShop", "now", "LSleepersShop$State;", true)
  | 6 => ("SleepersShop", "trial", "LSleepersShop$State;", true)
  | 7 => ("SleepersShop", "undone", "LSleepersShop$Shelf;", true)
  | 8 => ("SleepersShop", "kept", "LSleepersShop$Shelf;", true)
  | 9 => ("SleepersShop", "seen", "LSleepersShop$Sightings;", true)
  | _ => ("SleepersShop", "choice", "LSleepersShop$Choice;", true)
def tyX9 : Nat → FieldType := fun k => match k with
  | 0 => .object "SleepersShop$Text"
  | 1 => .object "SleepersShop$Shop"
  | 2 => .object "SleepersShop$Shop"
  | 3 => .object "SleepersShop$Reader"
  | 4 => .object "SleepersShop$Night"
  | 5 => .object "SleepersShop$State"
  | 6 => .object "SleepersShop$State"
  | 7 => .object "SleepersShop$Shelf"
  | 8 => .object "SleepersShop$Shelf"
  | 9 => .object "SleepersShop$Sightings"
  | _ => .object "SleepersShop$Choice"
theorem nmX9 : ∀ a, a < 11 → ∀ b, b < 11 → a ≠ b → (TX9 a).2.1 ≠ (TX9 b).2.1 := by decide +kernel
theorem tyX9_ok : ∀ k, k < 11 → parseFieldDescriptor (TX9 k).2.2.1 = some (tyX9 k) := by decide +kernel
abbrev cX9_init : ByteArray := prog_1_method_1_code
def yX9_init : MethodName := ⟨RX9, "<init>", "()V"⟩
abbrev cX9_write : ByteArray := prog_1_method_2_code
def yX9_write : MethodName := ⟨RX9, "write", "(I)I"⟩
abbrev cX9_wipe : ByteArray := prog_1_method_3_code
def yX9_wipe : MethodName := ⟨RX9, "wipe", "()I"⟩
abbrev cX9_fault : ByteArray := prog_1_method_4_code
def yX9_fault : MethodName := ⟨RX9, "fault", "()I"⟩
abbrev cX9_lay : ByteArray := prog_1_method_5_code
def yX9_lay : MethodName := ⟨RX9, "lay", "()I"⟩
abbrev cX9_staff : ByteArray := prog_1_method_6_code
def yX9_staff : MethodName := ⟨RX9, "staff", "(II)I"⟩
abbrev cX9_customer : ByteArray := prog_1_method_7_code
def yX9_customer : MethodName := ⟨RX9, "customer", "(II)I"⟩
abbrev cX9_quarrel : ByteArray := prog_1_method_8_code
def yX9_quarrel : MethodName := ⟨RX9, "quarrel", "(II)I"⟩
abbrev cX9_woken : ByteArray := prog_1_method_9_code
def yX9_woken : MethodName := ⟨RX9, "woken", "()I"⟩
abbrev cX9_pass : ByteArray := prog_1_method_10_code
def yX9_pass : MethodName := ⟨RX9, "pass", "(I)I"⟩
abbrev cX9_supper : ByteArray := prog_1_method_11_code
def yX9_supper : MethodName := ⟨RX9, "supper", "(I)I"⟩
abbrev cX9_settle : ByteArray := prog_1_method_12_code
def yX9_settle : MethodName := ⟨RX9, "settle", "(II)I"⟩
abbrev cX9_lull : ByteArray := prog_1_method_13_code
def yX9_lull : MethodName := ⟨RX9, "lull", "(I)I"⟩
abbrev cX9_undo : ByteArray := prog_1_method_14_code
def yX9_undo : MethodName := ⟨RX9, "undo", "()I"⟩
abbrev cX9_behind : ByteArray := prog_1_method_15_code
def yX9_behind : MethodName := ⟨RX9, "behind", "(II)I"⟩
abbrev cX9_ham : ByteArray := prog_1_method_16_code
def yX9_ham : MethodName := ⟨RX9, "ham", "(I)I"⟩
abbrev cX9_suppers : ByteArray := prog_1_method_17_code
def yX9_suppers : MethodName := ⟨RX9, "suppers", "(I)I"⟩
abbrev cX9_apart : ByteArray := prog_1_method_18_code
def yX9_apart : MethodName := ⟨RX9, "apart", "(II)I"⟩
abbrev cX9_ask : ByteArray := prog_1_method_19_code
def yX9_ask : MethodName := ⟨RX9, "ask", "(I)I"⟩
abbrev cX9_see : ByteArray := prog_1_method_20_code
def yX9_see : MethodName := ⟨RX9, "see", "(IIZ)I"⟩
abbrev cX9_forget : ByteArray := prog_1_method_21_code
def yX9_forget : MethodName := ⟨RX9, "forget", "()I"⟩
abbrev cX9_law : ByteArray := prog_1_method_22_code
def yX9_law : MethodName := ⟨RX9, "law", "(II)I"⟩
abbrev cX9_did : ByteArray := prog_1_method_23_code
def yX9_did : MethodName := ⟨RX9, "did", "(I)I"⟩
abbrev cX9_dogs : ByteArray := prog_1_method_24_code
def yX9_dogs : MethodName := ⟨RX9, "dogs", "(III)I"⟩
abbrev cX9_year : ByteArray := prog_1_method_25_code
def yX9_year : MethodName := ⟨RX9, "year", "(III)I"⟩
abbrev cX9_keep : ByteArray := prog_1_method_26_code
def yX9_keep : MethodName := ⟨RX9, "keep", "()I"⟩
abbrev cX9_back : ByteArray := prog_1_method_27_code
def yX9_back : MethodName := ⟨RX9, "back", "()I"⟩
abbrev cX9_count : ByteArray := prog_1_method_28_code
def yX9_count : MethodName := ⟨RX9, "count", "(I)I"⟩
abbrev cX9_openDraft : ByteArray := prog_1_method_29_code
def yX9_openDraft : MethodName := ⟨RX9, "openDraft", "()V"⟩
abbrev cX9_isStaff : ByteArray := prog_1_method_30_code
def yX9_isStaff : MethodName := ⟨RX9, "isStaff", "(I)Z"⟩
abbrev cX9_isCustomer : ByteArray := prog_1_method_31_code
def yX9_isCustomer : MethodName := ⟨RX9, "isCustomer", "(I)Z"⟩
abbrev cX9_areTwoStaff : ByteArray := prog_1_method_32_code
def yX9_areTwoStaff : MethodName := ⟨RX9, "areTwoStaff", "(II)Z"⟩
abbrev cX9_goBy : ByteArray := prog_1_method_33_code
def yX9_goBy : MethodName := ⟨RX9, "goBy", "(LSleepersShop$State;I)V"⟩
abbrev cX9_playTonight : ByteArray := prog_1_method_34_code
def yX9_playTonight : MethodName := ⟨RX9, "playTonight", "()V"⟩
abbrev cX9_walkersTonight : ByteArray := prog_1_method_35_code
def yX9_walkersTonight : MethodName := ⟨RX9, "walkersTonight", "()I"⟩
abbrev cX9_serverTonight : ByteArray := prog_1_method_36_code
def yX9_serverTonight : MethodName := ⟨RX9, "serverTonight", "(I)I"⟩
abbrev cX9_servedIfFed : ByteArray := prog_1_method_37_code
def yX9_servedIfFed : MethodName := ⟨RX9, "servedIfFed", "(I)I"⟩
abbrev cX9_servedIfMadeUp : ByteArray := prog_1_method_38_code
def yX9_servedIfMadeUp : MethodName := ⟨RX9, "servedIfMadeUp", "(II)I"⟩
abbrev cX9_without : ByteArray := prog_1_method_39_code
def yX9_without : MethodName := ⟨RX9, "without", "(II)I"⟩
abbrev cX9_isWithoutHam : ByteArray := prog_1_method_40_code
def yX9_isWithoutHam : MethodName := ⟨RX9, "isWithoutHam", "(II)Z"⟩
abbrev cX9_weight : ByteArray := prog_1_method_41_code
def yX9_weight : MethodName := ⟨RX9, "weight", "(III)I"⟩
abbrev cX9_sharedDivisor : ByteArray := prog_1_method_42_code
def yX9_sharedDivisor : MethodName := ⟨RX9, "sharedDivisor", "(III)I"⟩
abbrev cX9_dividesBoth : ByteArray := prog_1_method_43_code
def yX9_dividesBoth : MethodName := ⟨RX9, "dividesBoth", "(III)Z"⟩
abbrev cX9_draw : ByteArray := prog_1_method_44_code
def yX9_draw : MethodName := ⟨RX9, "draw", "(II)I"⟩
abbrev cX9_wakes : ByteArray := prog_1_method_45_code
def yX9_wakes : MethodName := ⟨RX9, "wakes", "(III)Z"⟩
abbrev cX9_pair : ByteArray := prog_1_method_46_code
def yX9_pair : MethodName := ⟨RX9, "pair", "(II)I"⟩
abbrev cX9_has : ByteArray := prog_1_method_47_code
def yX9_has : MethodName := ⟨RX9, "has", "(II)Z"⟩
abbrev cX9_bit : ByteArray := prog_1_method_48_code
def yX9_bit : MethodName := ⟨RX9, "bit", "(II)I"⟩
abbrev cX9_mod : ByteArray := prog_1_method_49_code
def yX9_mod : MethodName := ⟨RX9, "mod", "(II)I"⟩
abbrev cX9_quotient : ByteArray := prog_1_method_50_code
def yX9_quotient : MethodName := ⟨RX9, "quotient", "(II)I"⟩
abbrev cX9_isWithin : ByteArray := prog_1_method_51_code
def yX9_isWithin : MethodName := ⟨RX9, "isWithin", "(III)Z"⟩
def RX10 : String := "SleepersShopModel"
def TX10 : u_T := fun k => match k with
  | 0 => ("SleepersShopModel", "letters", "I", false)
  | 1 => ("SleepersShopModel", "text", "[I", true)
  | 2 => ("SleepersShopModel", "position", "I", false)
  | 3 => ("SleepersShopModel", "number", "I", false)
  | 4 => ("SleepersShopModel", "readStaff", "I", false)
  | 5 => ("SleepersShopModel", "readCustomers", "I", false)
  | 6 => ("SleepersShopModel", "readDog", "I", false)
  | 7 => ("SleepersShopModel", "readOne", "[I", true)
  | 8 => ("SleepersShopModel", "readGuest", "[I", true)
  | 9 => ("SleepersShopModel", "readQuarrel", "[I", true)
  | 10 => ("SleepersShopModel", "many", "I", false)
  | 11 => ("SleepersShopModel", "guests", "I", false)
  | 12 => ("SleepersShopModel", "dog", "I", false)
  | 13 => ("SleepersShopModel", "one", "[I", true)
  | 14 => ("SleepersShopModel", "guest", "[I", true)
  | 15 => ("SleepersShopModel", "now", "[I", true)
  | 16 => ("SleepersShopModel", "tried", "[I", true)
  | 17 => ("SleepersShopModel", "back", "[I", true)
  | 18 => ("SleepersShopModel", "backs", "I", false)
  | 19 => ("SleepersShopModel", "kept", "[I", true)
  | 20 => ("SleepersShopModel", "keptMany", "I", false)
  | 21 => ("SleepersShopModel", "seen", "I", false)
  | 22 => ("SleepersShopModel", "sight", "[I", true)
  | 23 => ("SleepersShopModel", "walks", "I", false)
  | 24 => ("SleepersShopModel", "woken", "I", false)
  | 25 => ("SleepersShopModel", "dogBy", "I", false)
  | 26 => ("SleepersShopModel", "firstHam", "I", false)
  | 27 => ("SleepersShopModel", "served", "I", false)
  | 28 => ("SleepersShopModel", "wayOf", "I", false)
  | _ => ("SleepersShopModel", "by", "[I", true)
def tyX10 : Nat → FieldType := fun k => match k with
  | 0 => .int
  | 1 => .array .int
  | 2 => .int
  | 3 => .int
  | 4 => .int
  | 5 => .int
  | 6 => .int
  | 7 => .array .int
  | 8 => .array .int
  | 9 => .array .int
  | 10 => .int
  | 11 => .int
  | 12 => .int
  | 13 => .array .int
  | 14 => .array .int
  | 15 => .array .int
  | 16 => .array .int
  | 17 => .array .int
  | 18 => .int
  | 19 => .array .int
  | 20 => .int
  | 21 => .int
  | 22 => .array .int
  | 23 => .int
  | 24 => .int
  | 25 => .int
  | 26 => .int
  | 27 => .int
  | 28 => .int
  | _ => .array .int
theorem nmX10 : ∀ a, a < 30 → ∀ b, b < 30 → a ≠ b → (TX10 a).2.1 ≠ (TX10 b).2.1 := by decide +kernel
theorem tyX10_ok : ∀ k, k < 30 → parseFieldDescriptor (TX10 k).2.2.1 = some (tyX10 k) := by decide +kernel
abbrev cX10_init : ByteArray := prog_12_method_1_code
def yX10_init : MethodName := ⟨RX10, "<init>", "()V"⟩
abbrev cX10_addOne : ByteArray := prog_12_method_2_code
def yX10_addOne : MethodName := ⟨RX10, "addOne", "(IIIII)V"⟩
abbrev cX10_addGuest : ByteArray := prog_12_method_3_code
def yX10_addGuest : MethodName := ⟨RX10, "addGuest", "(IIIII)V"⟩
abbrev cX10_in : ByteArray := prog_12_method_4_code
def yX10_in : MethodName := ⟨RX10, "in", "(III)Z"⟩
abbrev cX10_has : ByteArray := prog_12_method_5_code
def yX10_has : MethodName := ⟨RX10, "has", "(II)Z"⟩
abbrev cX10_bits : ByteArray := prog_12_method_6_code
def yX10_bits : MethodName := ⟨RX10, "bits", "(I)I"⟩
abbrev cX10_bring : ByteArray := prog_12_method_7_code
def yX10_bring : MethodName := ⟨RX10, "bring", "([II[III)V"⟩
abbrev cX10_isOne : ByteArray := prog_12_method_8_code
def yX10_isOne : MethodName := ⟨RX10, "isOne", "(I)Z"⟩
abbrev cX10_isGuest : ByteArray := prog_12_method_9_code
def yX10_isGuest : MethodName := ⟨RX10, "isGuest", "(I)Z"⟩
abbrev cX10_areTwo : ByteArray := prog_12_method_10_code
def yX10_areTwo : MethodName := ⟨RX10, "areTwo", "(II)Z"⟩
abbrev cX10_turn : ByteArray := prog_12_method_11_code
def yX10_turn : MethodName := ⟨RX10, "turn", "([IIII)V"⟩
abbrev cX10_quarrelsIn : ByteArray := prog_12_method_12_code
def yX10_quarrelsIn : MethodName := ⟨RX10, "quarrelsIn", "([II)I"⟩
abbrev cX10_write : ByteArray := prog_12_method_13_code
def yX10_write : MethodName := ⟨RX10, "write", "(I)I"⟩
abbrev cX10_wipe : ByteArray := prog_12_method_14_code
def yX10_wipe : MethodName := ⟨RX10, "wipe", "()I"⟩
abbrev cX10_letterAt : ByteArray := prog_12_method_15_code
def yX10_letterAt : MethodName := ⟨RX10, "letterAt", "(I)I"⟩
abbrev cX10_isNumber : ByteArray := prog_12_method_16_code
def yX10_isNumber : MethodName := ⟨RX10, "isNumber", "(III)Z"⟩
abbrev cX10_least : ByteArray := prog_12_method_17_code
def yX10_least : MethodName := ⟨RX10, "least", "(II)I"⟩
abbrev cX10_most : ByteArray := prog_12_method_18_code
def yX10_most : MethodName := ⟨RX10, "most", "(II)I"⟩
abbrev cX10_isItem : ByteArray := prog_12_method_19_code
def yX10_isItem : MethodName := ⟨RX10, "isItem", "()Z"⟩
abbrev cX10_fault : ByteArray := prog_12_method_20_code
def yX10_fault : MethodName := ⟨RX10, "fault", "()I"⟩
abbrev cX10_lay : ByteArray := prog_12_method_21_code
def yX10_lay : MethodName := ⟨RX10, "lay", "()I"⟩
abbrev cX10_serves : ByteArray := prog_12_method_22_code
def yX10_serves : MethodName := ⟨RX10, "serves", "(II)Z"⟩
abbrev cX10_wakes : ByteArray := prog_12_method_23_code
def yX10_wakes : MethodName := ⟨RX10, "wakes", "(III)Z"⟩
abbrev cX10_isDogNight : ByteArray := prog_12_method_24_code
def yX10_isDogNight : MethodName := ⟨RX10, "isDogNight", "(I)Z"⟩
abbrev cX10_layWalks : ByteArray := prog_12_method_25_code
def yX10_layWalks : MethodName := ⟨RX10, "layWalks", "([I)V"⟩
abbrev cX10_layNight : ByteArray := prog_12_method_26_code
def yX10_layNight : MethodName := ⟨RX10, "layNight", "([III)V"⟩
abbrev cX10_goBy : ByteArray := prog_12_method_27_code
def yX10_goBy : MethodName := ⟨RX10, "goBy", "([I)I"⟩
abbrev cX10_layNow : ByteArray := prog_12_method_28_code
def yX10_layNow : MethodName := ⟨RX10, "layNow", "()V"⟩
abbrev cX10_staff : ByteArray := prog_12_method_29_code
def yX10_staff : MethodName := ⟨RX10, "staff", "(II)I"⟩
abbrev cX10_customer : ByteArray := prog_12_method_30_code
def yX10_customer : MethodName := ⟨RX10, "customer", "(II)I"⟩
abbrev cX10_quarrel : ByteArray := prog_12_method_31_code
def yX10_quarrel : MethodName := ⟨RX10, "quarrel", "(II)I"⟩
abbrev cX10_woken : ByteArray := prog_12_method_32_code
def yX10_woken : MethodName := ⟨RX10, "woken", "()I"⟩
abbrev cX10_note : ByteArray := prog_12_method_33_code
def yX10_note : MethodName := ⟨RX10, "note", "()V"⟩
abbrev cX10_pass : ByteArray := prog_12_method_34_code
def yX10_pass : MethodName := ⟨RX10, "pass", "(I)I"⟩
abbrev cX10_supper : ByteArray := prog_12_method_35_code
def yX10_supper : MethodName := ⟨RX10, "supper", "(I)I"⟩
abbrev cX10_settle : ByteArray := prog_12_method_36_code
def yX10_settle : MethodName := ⟨RX10, "settle", "(II)I"⟩
abbrev cX10_lull : ByteArray := prog_12_method_37_code
def yX10_lull : MethodName := ⟨RX10, "lull", "(I)I"⟩
abbrev cX10_undo : ByteArray := prog_12_method_38_code
def yX10_undo : MethodName := ⟨RX10, "undo", "()I"⟩
abbrev cX10_begin : ByteArray := prog_12_method_39_code
def yX10_begin : MethodName := ⟨RX10, "begin", "()V"⟩
abbrev cX10_behind : ByteArray := prog_12_method_40_code
def yX10_behind : MethodName := ⟨RX10, "behind", "(II)I"⟩
abbrev cX10_ham : ByteArray := prog_12_method_41_code
def yX10_ham : MethodName := ⟨RX10, "ham", "(I)I"⟩
abbrev cX10_suppers : ByteArray := prog_12_method_42_code
def yX10_suppers : MethodName := ⟨RX10, "suppers", "(I)I"⟩
abbrev cX10_makeUp : ByteArray := prog_12_method_43_code
def yX10_makeUp : MethodName := ⟨RX10, "makeUp", "(I)V"⟩
abbrev cX10_apart : ByteArray := prog_12_method_44_code
def yX10_apart : MethodName := ⟨RX10, "apart", "(II)I"⟩
abbrev cX10_ask : ByteArray := prog_12_method_45_code
def yX10_ask : MethodName := ⟨RX10, "ask", "(I)I"⟩
abbrev cX10_see : ByteArray := prog_12_method_46_code
def yX10_see : MethodName := ⟨RX10, "see", "(IIZ)I"⟩
abbrev cX10_forget : ByteArray := prog_12_method_47_code
def yX10_forget : MethodName := ⟨RX10, "forget", "()I"⟩
abbrev cX10_law : ByteArray := prog_12_method_48_code
def yX10_law : MethodName := ⟨RX10, "law", "(II)I"⟩
abbrev cX10_did : ByteArray := prog_12_method_49_code
def yX10_did : MethodName := ⟨RX10, "did", "(I)I"⟩
abbrev cX10_dogs : ByteArray := prog_12_method_50_code
def yX10_dogs : MethodName := ⟨RX10, "dogs", "(III)I"⟩
abbrev cX10_year : ByteArray := prog_12_method_51_code
def yX10_year : MethodName := ⟨RX10, "year", "(III)I"⟩
abbrev cX10_keep : ByteArray := prog_12_method_52_code
def yX10_keep : MethodName := ⟨RX10, "keep", "()I"⟩
abbrev cX10_back : ByteArray := prog_12_method_53_code
def yX10_back : MethodName := ⟨RX10, "back", "()I"⟩
abbrev cX10_count : ByteArray := prog_12_method_54_code
def yX10_count : MethodName := ⟨RX10, "count", "(I)I"⟩
def RJ6 : String := "java/lang/Integer"
def TJ6 : u_T := fun k => match k with
  | _ => ("", "", "", false)
def tyJ6 : Nat → FieldType := fun k => match k with
  | _ => .int
abbrev wsJ60 : List Cond := u_ws RJ6 TJ6 0
theorem nmJ6 : ∀ a, a < 0 → ∀ b, b < 0 → a ≠ b → (TJ6 a).2.1 ≠ (TJ6 b).2.1 := by decide +kernel
theorem tyJ6_ok : ∀ k, k < 0 → parseFieldDescriptor (TJ6 k).2.2.1 = some (tyJ6 k) := by decide +kernel
abbrev cJ6_bitCount_0f7a4 : ByteArray := prog_13_method_49_code
def yJ6_bitCount_0f7a4 : MethodName := ⟨RJ6, "bitCount", "(I)I"⟩
def RJ9 : String := "java/lang/Math"
def TJ9 : u_T := fun k => match k with
  | _ => ("", "", "", false)
def tyJ9 : Nat → FieldType := fun k => match k with
  | _ => .int
abbrev wsJ90 : List Cond := u_ws RJ9 TJ9 0
theorem nmJ9 : ∀ a, a < 0 → ∀ b, b < 0 → a ≠ b → (TJ9 a).2.1 ≠ (TJ9 b).2.1 := by decide +kernel
theorem tyJ9_ok : ∀ k, k < 0 → parseFieldDescriptor (TJ9 k).2.2.1 = some (tyJ9 k) := by decide +kernel
abbrev cJ9_max_7cf53 : ByteArray := prog_14_method_65_code
def yJ9_max_7cf53 : MethodName := ⟨RJ9, "max", "(II)I"⟩
def RJ0 : String := "java/lang/String"
def TJ0 : u_T := fun k => match k with
  | _ => ("", "", "", false)
def tyJ0 : Nat → FieldType := fun k => match k with
  | _ => .int
abbrev wsJ00 : List Cond := u_ws RJ0 TJ0 0
theorem nmJ0 : ∀ a, a < 0 → ∀ b, b < 0 → a ≠ b → (TJ0 a).2.1 ≠ (TJ0 b).2.1 := by decide +kernel
theorem tyJ0_ok : ∀ k, k < 0 → parseFieldDescriptor (TJ0 k).2.2.1 = some (tyJ0 k) := by decide +kernel
abbrev cJ0_length_8abf5 : ByteArray := prog_15_method_54_code
def yJ0_length_8abf5 : MethodName := ⟨RJ0, "length", "()I"⟩
abbrev cJ0_charAt_5068e : ByteArray := prog_15_method_56_code
def yJ0_charAt_5068e : MethodName := ⟨RJ0, "charAt", "(I)C"⟩
abbrev cJ0_coder_7d493 : ByteArray := prog_15_method_152_code
def yJ0_coder_7d493 : MethodName := ⟨RJ0, "coder", "()B"⟩
abbrev cJ0_isLatin1_aae02 : ByteArray := prog_15_method_154_code
def yJ0_isLatin1_aae02 : MethodName := ⟨RJ0, "isLatin1", "()Z"⟩
abbrev cJ0_checkIndex_df160 : ByteArray := prog_15_method_155_code
def yJ0_checkIndex_df160 : MethodName := ⟨RJ0, "checkIndex", "(II)V"⟩
def RJ1 : String := "java/lang/StringLatin1"
def TJ1 : u_T := fun k => match k with
  | _ => ("", "", "", false)
def tyJ1 : Nat → FieldType := fun k => match k with
  | _ => .int
abbrev wsJ10 : List Cond := u_ws RJ1 TJ1 0
theorem nmJ1 : ∀ a, a < 0 → ∀ b, b < 0 → a ≠ b → (TJ1 a).2.1 ≠ (TJ1 b).2.1 := by decide +kernel
theorem tyJ1_ok : ∀ k, k < 0 → parseFieldDescriptor (TJ1 k).2.2.1 = some (tyJ1 k) := by decide +kernel
abbrev cJ1_charAt_3b067 : ByteArray := prog_16_method_2_code
def yJ1_charAt_3b067 : MethodName := ⟨RJ1, "charAt", "([BI)C"⟩
def RJ2 : String := "java/lang/StringUTF16"
def TJ2 : u_T := fun k => match k with
  | _ => ("", "", "", false)
def tyJ2 : Nat → FieldType := fun k => match k with
  | _ => .int
abbrev wsJ20 : List Cond := u_ws RJ2 TJ2 0
theorem nmJ2 : ∀ a, a < 0 → ∀ b, b < 0 → a ≠ b → (TJ2 a).2.1 ≠ (TJ2 b).2.1 := by decide +kernel
theorem tyJ2_ok : ∀ k, k < 0 → parseFieldDescriptor (TJ2 k).2.2.1 = some (tyJ2 k) := by decide +kernel
abbrev cJ2_getChar_3b067 : ByteArray := prog_17_method_5_code
def yJ2_getChar_3b067 : MethodName := ⟨RJ2, "getChar", "([BI)C"⟩
abbrev cJ2_length_9d52b : ByteArray := prog_17_method_6_code
def yJ2_length_9d52b : MethodName := ⟨RJ2, "length", "([B)I"⟩
abbrev cJ2_charAt_3b067 : ByteArray := prog_17_method_83_code
def yJ2_charAt_3b067 : MethodName := ⟨RJ2, "charAt", "([BI)C"⟩
abbrev cJ2_checkIndex_2214a : ByteArray := prog_17_method_91_code
def yJ2_checkIndex_2214a : MethodName := ⟨RJ2, "checkIndex", "(I[B)V"⟩
def RJ3 : String := "jdk/internal/util/Preconditions"
def TJ3 : u_T := fun k => match k with
  | _ => ("", "", "", false)
def tyJ3 : Nat → FieldType := fun k => match k with
  | _ => .int
abbrev wsJ30 : List Cond := u_ws RJ3 TJ3 0
theorem nmJ3 : ∀ a, a < 0 → ∀ b, b < 0 → a ≠ b → (TJ3 a).2.1 ≠ (TJ3 b).2.1 := by decide +kernel
theorem tyJ3_ok : ∀ k, k < 0 → parseFieldDescriptor (TJ3 k).2.2.1 = some (tyJ3 k) := by decide +kernel
abbrev cJ3_checkIndex_8e157 : ByteArray := prog_18_method_11_code
def yJ3_checkIndex_8e157 : MethodName := ⟨RJ3, "checkIndex", "(IILjava/util/function/BiFunction;)I"⟩
def RL : String := "SleepersShopLaw"
abbrev cL_law : ByteArray := code
def yL_law : MethodName := ⟨RL, "law", "([I)Z"⟩
abbrev z_M : Type := MethodName × ByteArray × Nat × Option FieldType
def mX0_init : z_M := (yX0_init, cX0_init, 1, none)
def mX0_clear : z_M := (yX0_clear, cX0_clear, 1, none)
def mJ6_bitCount_0f7a4 : z_M := (yJ6_bitCount_0f7a4, cJ6_bitCount_0f7a4, 1, (some .int))
def mX0_offer : z_M := (yX0_offer, cX0_offer, 3, none)
def mX3_init : z_M := (yX3_init, cX3_init, 2, none)
def mX1_init : z_M := (yX1_init, cX1_init, 2, none)
def mX3_fill : z_M := (yX3_fill, cX3_fill, 3, none)
def mX3_at : z_M := (yX3_at, cX3_at, 2, (some .int))
def mX9_mod : z_M := (yX9_mod, cX9_mod, 2, (some .int))
def mX5_isDue : z_M := (yX5_isDue, cX5_isDue, 4, (some .boolean))
def mX9_has : z_M := (yX9_has, cX9_has, 2, (some .boolean))
def mX9_pair : z_M := (yX9_pair, cX9_pair, 2, (some .int))
def mX1_isBarred : z_M := (yX1_isBarred, cX1_isBarred, 4, (some .boolean))
def mX1_open : z_M := (yX1_open, cX1_open, 4, none)
def mX5_comes : z_M := (yX5_comes, cX5_comes, 3, (some .boolean))
def mX1_isReadyFor : z_M := (yX1_isReadyFor, cX1_isReadyFor, 3, (some .boolean))
def mX9_wakes : z_M := (yX9_wakes, cX9_wakes, 3, (some .boolean))
def mX5_rouses : z_M := (yX5_rouses, cX5_rouses, 3, (some .boolean))
def mX3_put : z_M := (yX3_put, cX3_put, 3, none)
def mX1_sell : z_M := (yX1_sell, cX1_sell, 5, none)
def mX1_attend : z_M := (yX1_attend, cX1_attend, 4, none)
def mX1_play : z_M := (yX1_play, cX1_play, 5, none)
def mX1_firstFor : z_M := (yX1_firstFor, cX1_firstFor, 3, (some .int))
def mX1_close : z_M := (yX1_close, cX1_close, 4, none)
def mX2_init : z_M := (yX2_init, cX2_init, 3, none)
def mX5_clear : z_M := (yX5_clear, cX5_clear, 1, none)
def mX8_letter : z_M := (yX8_letter, cX8_letter, 2, (some .int))
def mX9_isWithin : z_M := (yX9_isWithin, cX9_isWithin, 3, (some .boolean))
def mX2_figure : z_M := (yX2_figure, cX2_figure, 2, (some .int))
def mX2_readNumber : z_M := (yX2_readNumber, cX2_readNumber, 3, (some .int))
def mX2_readNumbers : z_M := (yX2_readNumbers, cX2_readNumbers, 4, (some .boolean))
def mX5_addServer : z_M := (yX5_addServer, cX5_addServer, 3, none)
def mX2_takeStaff : z_M := (yX2_takeStaff, cX2_takeStaff, 2, (some .boolean))
def mX2_takeQuarrel : z_M := (yX2_takeQuarrel, cX2_takeQuarrel, 3, (some .boolean))
def mX2_takeCustomer : z_M := (yX2_takeCustomer, cX2_takeCustomer, 2, (some .boolean))
def mX2_takeDog : z_M := (yX2_takeDog, cX2_takeDog, 1, (some .boolean))
def mX2_readItem : z_M := (yX2_readItem, cX2_readItem, 2, (some .boolean))
def mX2_read : z_M := (yX2_read, cX2_read, 3, (some .int))
def mX3_copy : z_M := (yX3_copy, cX3_copy, 3, none)
def mX7_init : z_M := (yX7_init, cX7_init, 1, none)
def mX4_init : z_M := (yX4_init, cX4_init, 3, none)
def mX4_clear : z_M := (yX4_clear, cX4_clear, 1, none)
def mX4_dropOldest : z_M := (yX4_dropOldest, cX4_dropOldest, 3, none)
def mX7_copy : z_M := (yX7_copy, cX7_copy, 2, none)
def mX4_put : z_M := (yX4_put, cX4_put, 2, none)
def mX4_takeInto : z_M := (yX4_takeInto, cX4_takeInto, 3, none)
def mX5_init : z_M := (yX5_init, cX5_init, 1, none)
def mX5_copy : z_M := (yX5_copy, cX5_copy, 2, none)
def mX5_hasDog : z_M := (yX5_hasDog, cX5_hasDog, 2, (some .boolean))
def mX6_init : z_M := (yX6_init, cX6_init, 1, none)
def mX6_clear : z_M := (yX6_clear, cX6_clear, 1, none)
def mX6_add : z_M := (yX6_add, cX6_add, 4, none)
def mX6_allow : z_M := (yX6_allow, cX6_allow, 6, (some .boolean))
def mX7_begin : z_M := (yX7_begin, cX7_begin, 2, none)
def mX8_init : z_M := (yX8_init, cX8_init, 1, none)
def mX8_clear : z_M := (yX8_clear, cX8_clear, 1, none)
def mX8_add : z_M := (yX8_add, cX8_add, 2, none)
def mJ0_coder_7d493 : z_M := (yJ0_coder_7d493, cJ0_coder_7d493, 1, (some .byte))
def mJ0_length_8abf5 : z_M := (yJ0_length_8abf5, cJ0_length_8abf5, 1, (some .int))
def mJ0_isLatin1_aae02 : z_M := (yJ0_isLatin1_aae02, cJ0_isLatin1_aae02, 1, (some .boolean))
def mJ3_checkIndex_8e157 : z_M := (yJ3_checkIndex_8e157, cJ3_checkIndex_8e157, 3, (some .int))
def mJ0_checkIndex_df160 : z_M := (yJ0_checkIndex_df160, cJ0_checkIndex_df160, 2, none)
def mJ1_charAt_3b067 : z_M := (yJ1_charAt_3b067, cJ1_charAt_3b067, 2, (some .char))
def mJ2_length_9d52b : z_M := (yJ2_length_9d52b, cJ2_length_9d52b, 1, (some .int))
def mJ2_checkIndex_2214a : z_M := (yJ2_checkIndex_2214a, cJ2_checkIndex_2214a, 2, none)
def mJ2_getChar_3b067 : z_M := (yJ2_getChar_3b067, cJ2_getChar_3b067, 2, (some .char))
def mJ2_charAt_3b067 : z_M := (yJ2_charAt_3b067, cJ2_charAt_3b067, 2, (some .char))
def mJ0_charAt_5068e : z_M := (yJ0_charAt_5068e, cJ0_charAt_5068e, 2, (some .char))
def mX9_openDraft : z_M := (yX9_openDraft, cX9_openDraft, 1, none)
def mX9_init : z_M := (yX9_init, cX9_init, 2, none)
def mX9_write : z_M := (yX9_write, cX9_write, 2, (some .int))
def mX9_wipe : z_M := (yX9_wipe, cX9_wipe, 2, (some .int))
def mX9_fault : z_M := (yX9_fault, cX9_fault, 1, (some .int))
def mX9_lay : z_M := (yX9_lay, cX9_lay, 1, (some .int))
def mX9_isStaff : z_M := (yX9_isStaff, cX9_isStaff, 2, (some .boolean))
def mX9_walkersTonight : z_M := (yX9_walkersTonight, cX9_walkersTonight, 1, (some .int))
def mX9_bit : z_M := (yX9_bit, cX9_bit, 2, (some .int))
def mX9_staff : z_M := (yX9_staff, cX9_staff, 3, (some .int))
def mX9_isCustomer : z_M := (yX9_isCustomer, cX9_isCustomer, 2, (some .boolean))
def mX9_playTonight : z_M := (yX9_playTonight, cX9_playTonight, 1, none)
def mX9_serverTonight : z_M := (yX9_serverTonight, cX9_serverTonight, 2, (some .int))
def mX9_customer : z_M := (yX9_customer, cX9_customer, 3, (some .int))
def mX9_areTwoStaff : z_M := (yX9_areTwoStaff, cX9_areTwoStaff, 3, (some .boolean))
def mX9_quarrel : z_M := (yX9_quarrel, cX9_quarrel, 3, (some .int))
def mX9_woken : z_M := (yX9_woken, cX9_woken, 1, (some .int))
def mX9_goBy : z_M := (yX9_goBy, cX9_goBy, 4, none)
def mX9_pass : z_M := (yX9_pass, cX9_pass, 2, (some .int))
def mX9_supper : z_M := (yX9_supper, cX9_supper, 2, (some .int))
def mX9_settle : z_M := (yX9_settle, cX9_settle, 4, (some .int))
def mX9_lull : z_M := (yX9_lull, cX9_lull, 3, (some .int))
def mX9_undo : z_M := (yX9_undo, cX9_undo, 1, (some .int))
def mX9_behind : z_M := (yX9_behind, cX9_behind, 3, (some .int))
def mX9_ham : z_M := (yX9_ham, cX9_ham, 3, (some .int))
def mX9_servedIfFed : z_M := (yX9_servedIfFed, cX9_servedIfFed, 2, (some .int))
def mX9_suppers : z_M := (yX9_suppers, cX9_suppers, 3, (some .int))
def mX9_without : z_M := (yX9_without, cX9_without, 5, (some .int))
def mX9_servedIfMadeUp : z_M := (yX9_servedIfMadeUp, cX9_servedIfMadeUp, 5, (some .int))
def mX9_apart : z_M := (yX9_apart, cX9_apart, 5, (some .int))
def mX9_ask : z_M := (yX9_ask, cX9_ask, 4, (some .int))
def mX9_see : z_M := (yX9_see, cX9_see, 4, (some .int))
def mX9_forget : z_M := (yX9_forget, cX9_forget, 2, (some .int))
def mX9_law : z_M := (yX9_law, cX9_law, 7, (some .int))
def mX9_did : z_M := (yX9_did, cX9_did, 4, (some .int))
def mX9_isWithoutHam : z_M := (yX9_isWithoutHam, cX9_isWithoutHam, 4, (some .boolean))
def mX9_weight : z_M := (yX9_weight, cX9_weight, 5, (some .int))
def mX9_dividesBoth : z_M := (yX9_dividesBoth, cX9_dividesBoth, 3, (some .boolean))
def mX9_sharedDivisor : z_M := (yX9_sharedDivisor, cX9_sharedDivisor, 5, (some .int))
def mX9_quotient : z_M := (yX9_quotient, cX9_quotient, 2, (some .int))
def mX9_dogs : z_M := (yX9_dogs, cX9_dogs, 7, (some .int))
def mX9_draw : z_M := (yX9_draw, cX9_draw, 4, (some .int))
def mX9_year : z_M := (yX9_year, cX9_year, 6, (some .int))
def mX9_keep : z_M := (yX9_keep, cX9_keep, 1, (some .int))
def mX9_back : z_M := (yX9_back, cX9_back, 1, (some .int))
def mX9_count : z_M := (yX9_count, cX9_count, 2, (some .int))
def mX10_addOne : z_M := (yX10_addOne, cX10_addOne, 6, none)
def mX10_turn : z_M := (yX10_turn, cX10_turn, 4, none)
def mX10_addGuest : z_M := (yX10_addGuest, cX10_addGuest, 6, none)
def mX10_init : z_M := (yX10_init, cX10_init, 1, none)
def mX10_in : z_M := (yX10_in, cX10_in, 3, (some .boolean))
def mX10_has : z_M := (yX10_has, cX10_has, 2, (some .boolean))
def mX10_bits : z_M := (yX10_bits, cX10_bits, 3, (some .int))
def mX10_bring : z_M := (yX10_bring, cX10_bring, 6, none)
def mX10_isOne : z_M := (yX10_isOne, cX10_isOne, 2, (some .boolean))
def mX10_isGuest : z_M := (yX10_isGuest, cX10_isGuest, 2, (some .boolean))
def mX10_areTwo : z_M := (yX10_areTwo, cX10_areTwo, 3, (some .boolean))
def mX10_quarrelsIn : z_M := (yX10_quarrelsIn, cX10_quarrelsIn, 4, (some .int))
def mX10_write : z_M := (yX10_write, cX10_write, 2, (some .int))
def mX10_wipe : z_M := (yX10_wipe, cX10_wipe, 2, (some .int))
def mX10_letterAt : z_M := (yX10_letterAt, cX10_letterAt, 2, (some .int))
def mX10_isNumber : z_M := (yX10_isNumber, cX10_isNumber, 5, (some .boolean))
def mX10_least : z_M := (yX10_least, cX10_least, 3, (some .int))
def mX10_most : z_M := (yX10_most, cX10_most, 3, (some .int))
def mX10_isItem : z_M := (yX10_isItem, cX10_isItem, 6, (some .boolean))
def mX10_fault : z_M := (yX10_fault, cX10_fault, 2, (some .int))
def mX10_lay : z_M := (yX10_lay, cX10_lay, 2, (some .int))
def mX10_serves : z_M := (yX10_serves, cX10_serves, 4, (some .boolean))
def mX10_wakes : z_M := (yX10_wakes, cX10_wakes, 5, (some .boolean))
def mX10_isDogNight : z_M := (yX10_isDogNight, cX10_isDogNight, 2, (some .boolean))
def mX10_layWalks : z_M := (yX10_layWalks, cX10_layWalks, 5, none)
def mX10_layNight : z_M := (yX10_layNight, cX10_layNight, 10, none)
def mX10_goBy : z_M := (yX10_goBy, cX10_goBy, 6, (some .int))
def mX10_layNow : z_M := (yX10_layNow, cX10_layNow, 1, none)
def mX10_staff : z_M := (yX10_staff, cX10_staff, 3, (some .int))
def mX10_customer : z_M := (yX10_customer, cX10_customer, 3, (some .int))
def mX10_quarrel : z_M := (yX10_quarrel, cX10_quarrel, 3, (some .int))
def mX10_woken : z_M := (yX10_woken, cX10_woken, 1, (some .int))
def mX10_note : z_M := (yX10_note, cX10_note, 1, none)
def mX10_pass : z_M := (yX10_pass, cX10_pass, 3, (some .int))
def mX10_supper : z_M := (yX10_supper, cX10_supper, 2, (some .int))
def mX10_settle : z_M := (yX10_settle, cX10_settle, 3, (some .int))
def mX10_lull : z_M := (yX10_lull, cX10_lull, 3, (some .int))
def mX10_undo : z_M := (yX10_undo, cX10_undo, 1, (some .int))
def mX10_begin : z_M := (yX10_begin, cX10_begin, 1, none)
def mX10_behind : z_M := (yX10_behind, cX10_behind, 4, (some .int))
def mX10_ham : z_M := (yX10_ham, cX10_ham, 3, (some .int))
def mX10_suppers : z_M := (yX10_suppers, cX10_suppers, 6, (some .int))
def mX10_makeUp : z_M := (yX10_makeUp, cX10_makeUp, 5, none)
def mX10_apart : z_M := (yX10_apart, cX10_apart, 8, (some .int))
def mX10_ask : z_M := (yX10_ask, cX10_ask, 3, (some .int))
def mX10_see : z_M := (yX10_see, cX10_see, 4, (some .int))
def mX10_forget : z_M := (yX10_forget, cX10_forget, 2, (some .int))
def mX10_law : z_M := (yX10_law, cX10_law, 9, (some .int))
def mX10_did : z_M := (yX10_did, cX10_did, 5, (some .int))
def mX10_dogs : z_M := (yX10_dogs, cX10_dogs, 10, (some .int))
def mX10_year : z_M := (yX10_year, cX10_year, 8, (some .int))
def mX10_keep : z_M := (yX10_keep, cX10_keep, 1, (some .int))
def mX10_back : z_M := (yX10_back, cX10_back, 1, (some .int))
def mX10_count : z_M := (yX10_count, cX10_count, 2, (some .int))
def mJ9_max_7cf53 : z_M := (yJ9_max_7cf53, cJ9_max_7cf53, 2, (some .int))
end
section
/-! decode rows, by program -/
theorem dX0_init_0 : decode cX0_init 0 = .ok (.aload_n 0, 1) := by decide +kernel
theorem dX0_init_1 : decode cX0_init 1 = .ok (.invokespecial 3, 3) := by decide +kernel
theorem dX0_init_4 : decode cX0_init 4 = .ok (.return_, 1) := by decide +kernel
theorem dX0_clear_0 : decode cX0_clear 0 = .ok (.aload_n 0, 1) := by decide +kernel
theorem dX0_clear_1 : decode cX0_clear 1 = .ok (.iconst 0, 1) := by decide +kernel
theorem dX0_clear_2 : decode cX0_clear 2 = .ok (.putfield 9, 3) := by decide +kernel
theorem dX0_clear_5 : decode cX0_clear 5 = .ok (.aload_n 0, 1) := by decide +kernel
theorem dX0_clear_6 : decode cX0_clear 6 = .ok (.bipush (-4), 2) := by decide +kernel
theorem dX0_clear_8 : decode cX0_clear 8 = .ok (.putfield 15, 3) := by decide +kernel
theorem dX0_clear_11 : decode cX0_clear 11 = .ok (.return_, 1) := by decide +kernel
theorem dX0_offer_0 : decode cX0_offer 0 = .ok (.iload_n 2, 1) := by decide +kernel
theorem dX0_offer_1 : decode cX0_offer 1 = .ok (.aload_n 0, 1) := by decide +kernel
theorem dX0_offer_2 : decode cX0_offer 2 = .ok (.getfield 15, 3) := by decide +kernel
theorem dX0_offer_5 : decode cX0_offer 5 = .ok (.if_icmp .gt 25, 3) := by decide +kernel
theorem dX0_offer_8 : decode cX0_offer 8 = .ok (.iload_n 2, 1) := by decide +kernel
theorem dX0_offer_9 : decode cX0_offer 9 = .ok (.aload_n 0, 1) := by decide +kernel
theorem dX0_offer_10 : decode cX0_offer 10 = .ok (.getfield 15, 3) := by decide +kernel
theorem dX0_offer_13 : decode cX0_offer 13 = .ok (.if_icmp .ne 27, 3) := by decide +kernel
theorem dX0_offer_16 : decode cX0_offer 16 = .ok (.iload_n 1, 1) := by decide +kernel
theorem dX0_offer_17 : decode cX0_offer 17 = .ok (.invokestatic 18, 3) := by decide +kernel
theorem dX0_offer_20 : decode cX0_offer 20 = .ok (.aload_n 0, 1) := by decide +kernel
theorem dX0_offer_21 : decode cX0_offer 21 = .ok (.getfield 9, 3) := by decide +kernel
theorem dX0_offer_24 : decode cX0_offer 24 = .ok (.invokestatic 18, 3) := by decide +kernel
theorem dX0_offer_27 : decode cX0_offer 27 = .ok (.if_icmp .ge 13, 3) := by decide +kernel
theorem dX0_offer_30 : decode cX0_offer 30 = .ok (.aload_n 0, 1) := by decide +kernel
theorem dX0_offer_31 : decode cX0_offer 31 = .ok (.iload_n 1, 1) := by decide +kernel
theorem dX0_offer_32 : decode cX0_offer 32 = .ok (.putfield 9, 3) := by decide +kernel
theorem dX0_offer_35 : decode cX0_offer 35 = .ok (.aload_n 0, 1) := by decide +kernel
theorem dX0_offer_36 : decode cX0_offer 36 = .ok (.iload_n 2, 1) := by decide +kernel
theorem dX0_offer_37 : decode cX0_offer 37 = .ok (.putfield 15, 3) := by decide +kernel
theorem dX0_offer_40 : decode cX0_offer 40 = .ok (.return_, 1) := by decide +kernel
theorem dX1_init_0 : decode cX1_init 0 = .ok (.aload_n 0, 1) := by decide +kernel
theorem dX1_init_1 : decode cX1_init 1 = .ok (.invokespecial 3, 3) := by decide +kernel
theorem dX1_init_4 : decode cX1_init 4 = .ok (.aload_n 0, 1) := by decide +kernel
theorem dX1_init_5 : decode cX1_init 5 = .ok (.new 9, 3) := by decide +kernel
theorem dX1_init_8 : decode cX1_init 8 = .ok (.dup, 1) := by decide +kernel
theorem dX1_init_9 : decode cX1_init 9 = .ok (.bipush 10, 2) := by decide +kernel
theorem dX1_init_11 : decode cX1_init 11 = .ok (.invokespecial 11, 3) := by decide +kernel
theorem dX1_init_14 : decode cX1_init 14 = .ok (.putfield 14, 3) := by decide +kernel
theorem dX1_init_17 : decode cX1_init 17 = .ok (.aload_n 0, 1) := by decide +kernel
theorem dX1_init_18 : decode cX1_init 18 = .ok (.aload_n 1, 1) := by decide +kernel
theorem dX1_init_19 : decode cX1_init 19 = .ok (.putfield 20, 3) := by decide +kernel
theorem dX1_init_22 : decode cX1_init 22 = .ok (.return_, 1) := by decide +kernel
theorem dX1_play_0 : decode cX1_play 0 = .ok (.aload_n 0, 1) := by decide +kernel
theorem dX1_play_1 : decode cX1_play 1 = .ok (.aload_n 1, 1) := by decide +kernel
theorem dX1_play_2 : decode cX1_play 2 = .ok (.iload_n 2, 1) := by decide +kernel
theorem dX1_play_3 : decode cX1_play 3 = .ok (.invokevirtual 24, 3) := by decide +kernel
theorem dX1_play_6 : decode cX1_play 6 = .ok (.iconst 0, 1) := by decide +kernel
theorem dX1_play_7 : decode cX1_play 7 = .ok (.istore 4, 2) := by decide +kernel
theorem dX1_play_9 : decode cX1_play 9 = .ok (.iload 4, 2) := by decide +kernel
theorem dX1_play_11 : decode cX1_play 11 = .ok (.iload_n 3, 1) := by decide +kernel
theorem dX1_play_12 : decode cX1_play 12 = .ok (.if_icmp .ge 31, 3) := by decide +kernel
theorem dX1_play_15 : decode cX1_play 15 = .ok (.aload_n 0, 1) := by decide +kernel
theorem dX1_play_16 : decode cX1_play 16 = .ok (.getfield 20, 3) := by decide +kernel
theorem dX1_play_19 : decode cX1_play 19 = .ok (.iload 4, 2) := by decide +kernel
theorem dX1_play_21 : decode cX1_play 21 = .ok (.aload_n 1, 1) := by decide +kernel
theorem dX1_play_22 : decode cX1_play 22 = .ok (.getfield 28, 3) := by decide +kernel
theorem dX1_play_25 : decode cX1_play 25 = .ok (.invokevirtual 34, 3) := by decide +kernel
theorem dX1_play_28 : decode cX1_play 28 = .ok (.ifCond .eq 9, 3) := by decide +kernel
theorem dX1_play_31 : decode cX1_play 31 = .ok (.aload_n 0, 1) := by decide +kernel
theorem dX1_play_32 : decode cX1_play 32 = .ok (.iload 4, 2) := by decide +kernel
theorem dX1_play_34 : decode cX1_play 34 = .ok (.invokevirtual 40, 3) := by decide +kernel
theorem dX1_play_37 : decode cX1_play 37 = .ok (.iinc 4 1, 3) := by decide +kernel
theorem dX1_play_40 : decode cX1_play 40 = .ok (.goto (-31), 3) := by decide +kernel
theorem dX1_play_43 : decode cX1_play 43 = .ok (.return_, 1) := by decide +kernel
theorem dX1_open_0 : decode cX1_open 0 = .ok (.aload_n 0, 1) := by decide +kernel
theorem dX1_open_1 : decode cX1_open 1 = .ok (.iconst 0, 1) := by decide +kernel
theorem dX1_open_2 : decode cX1_open 2 = .ok (.putfield 43, 3) := by decide +kernel
theorem dX1_open_5 : decode cX1_open 5 = .ok (.aload_n 0, 1) := by decide +kernel
theorem dX1_open_6 : decode cX1_open 6 = .ok (.iconst 0, 1) := by decide +kernel
theorem dX1_open_7 : decode cX1_open 7 = .ok (.putfield 46, 3) := by decide +kernel
theorem dX1_open_10 : decode cX1_open 10 = .ok (.aload_n 0, 1) := by decide +kernel
theorem dX1_open_11 : decode cX1_open 11 = .ok (.iconst 0, 1) := by decide +kernel
theorem dX1_open_12 : decode cX1_open 12 = .ok (.putfield 49, 3) := by decide +kernel
theorem dX1_open_15 : decode cX1_open 15 = .ok (.aload_n 0, 1) := by decide +kernel
theorem dX1_open_16 : decode cX1_open 16 = .ok (.iconst 0, 1) := by decide +kernel
theorem dX1_open_17 : decode cX1_open 17 = .ok (.putfield 52, 3) := by decide +kernel
theorem dX1_open_20 : decode cX1_open 20 = .ok (.aload_n 0, 1) := by decide +kernel
theorem dX1_open_21 : decode cX1_open 21 = .ok (.bipush (-4), 2) := by decide +kernel
theorem dX1_open_23 : decode cX1_open 23 = .ok (.putfield 55, 3) := by decide +kernel
theorem dX1_open_26 : decode cX1_open 26 = .ok (.aload_n 0, 1) := by decide +kernel
theorem dX1_open_27 : decode cX1_open 27 = .ok (.iconst 0, 1) := by decide +kernel
theorem dX1_open_28 : decode cX1_open 28 = .ok (.putfield 58, 3) := by decide +kernel
theorem dX1_open_31 : decode cX1_open 31 = .ok (.aload_n 0, 1) := by decide +kernel
theorem dX1_open_32 : decode cX1_open 32 = .ok (.iconst 0, 1) := by decide +kernel
theorem dX1_open_33 : decode cX1_open 33 = .ok (.putfield 61, 3) := by decide +kernel
theorem dX1_open_36 : decode cX1_open 36 = .ok (.aload_n 0, 1) := by decide +kernel
theorem dX1_open_37 : decode cX1_open 37 = .ok (.getfield 14, 3) := by decide +kernel
theorem dX1_open_40 : decode cX1_open 40 = .ok (.bipush (-4), 2) := by decide +kernel
theorem dX1_open_42 : decode cX1_open 42 = .ok (.invokevirtual 64, 3) := by decide +kernel
theorem dX1_open_45 : decode cX1_open 45 = .ok (.iconst 0, 1) := by decide +kernel
theorem dX1_open_46 : decode cX1_open 46 = .ok (.istore_n 3, 1) := by decide +kernel
theorem dX1_open_47 : decode cX1_open 47 = .ok (.iload_n 3, 1) := by decide +kernel
theorem dX1_open_48 : decode cX1_open 48 = .ok (.aload_n 0, 1) := by decide +kernel
theorem dX1_open_49 : decode cX1_open 49 = .ok (.getfield 20, 3) := by decide +kernel
theorem dX1_open_52 : decode cX1_open 52 = .ok (.getfield 67, 3) := by decide +kernel
theorem dX1_open_55 : decode cX1_open 55 = .ok (.if_icmp .ge 74, 3) := by decide +kernel
theorem dX1_open_58 : decode cX1_open 58 = .ok (.iload_n 2, 1) := by decide +kernel
theorem dX1_open_59 : decode cX1_open 59 = .ok (.ifCond .ne 70, 3) := by decide +kernel
theorem dX1_open_62 : decode cX1_open 62 = .ok (.aload_n 0, 1) := by decide +kernel
theorem dX1_open_63 : decode cX1_open 63 = .ok (.getfield 20, 3) := by decide +kernel
theorem dX1_open_66 : decode cX1_open 66 = .ok (.iload_n 3, 1) := by decide +kernel
theorem dX1_open_67 : decode cX1_open 67 = .ok (.aload_n 1, 1) := by decide +kernel
theorem dX1_open_68 : decode cX1_open 68 = .ok (.getfield 28, 3) := by decide +kernel
theorem dX1_open_71 : decode cX1_open 71 = .ok (.invokevirtual 70, 3) := by decide +kernel
theorem dX1_open_74 : decode cX1_open 74 = .ok (.ifCond .eq 49, 3) := by decide +kernel
theorem dX1_open_77 : decode cX1_open 77 = .ok (.aload_n 1, 1) := by decide +kernel
theorem dX1_open_78 : decode cX1_open 78 = .ok (.getfield 73, 3) := by decide +kernel
theorem dX1_open_81 : decode cX1_open 81 = .ok (.iload_n 3, 1) := by decide +kernel
theorem dX1_open_82 : decode cX1_open 82 = .ok (.invokevirtual 76, 3) := by decide +kernel
theorem dX1_open_85 : decode cX1_open 85 = .ok (.ifCond .ne 38, 3) := by decide +kernel
theorem dX1_open_88 : decode cX1_open 88 = .ok (.aload_n 1, 1) := by decide +kernel
theorem dX1_open_89 : decode cX1_open 89 = .ok (.getfield 80, 3) := by decide +kernel
theorem dX1_open_92 : decode cX1_open 92 = .ok (.iload_n 3, 1) := by decide +kernel
theorem dX1_open_93 : decode cX1_open 93 = .ok (.invokestatic 83, 3) := by decide +kernel
theorem dX1_open_96 : decode cX1_open 96 = .ok (.ifCond .ne 27, 3) := by decide +kernel
theorem dX1_open_99 : decode cX1_open 99 = .ok (.aload_n 0, 1) := by decide +kernel
theorem dX1_open_100 : decode cX1_open 100 = .ok (.iload_n 3, 1) := by decide +kernel
theorem dX1_open_101 : decode cX1_open 101 = .ok (.aload_n 1, 1) := by decide +kernel
theorem dX1_open_102 : decode cX1_open 102 = .ok (.getfield 86, 3) := by decide +kernel
theorem dX1_open_105 : decode cX1_open 105 = .ok (.invokevirtual 89, 3) := by decide +kernel
theorem dX1_open_108 : decode cX1_open 108 = .ok (.ifCond .ne 15, 3) := by decide +kernel
theorem dX1_open_111 : decode cX1_open 111 = .ok (.aload_n 0, 1) := by decide +kernel
theorem dX1_open_112 : decode cX1_open 112 = .ok (.dup, 1) := by decide +kernel
theorem dX1_open_113 : decode cX1_open 113 = .ok (.getfield 43, 3) := by decide +kernel
theorem dX1_open_116 : decode cX1_open 116 = .ok (.iconst 1, 1) := by decide +kernel
theorem dX1_open_117 : decode cX1_open 117 = .ok (.iload_n 3, 1) := by decide +kernel
theorem dX1_open_118 : decode cX1_open 118 = .ok (.ishl, 1) := by decide +kernel
theorem dX1_open_119 : decode cX1_open 119 = .ok (.ior, 1) := by decide +kernel
theorem dX1_open_120 : decode cX1_open 120 = .ok (.putfield 43, 3) := by decide +kernel
theorem dX1_open_123 : decode cX1_open 123 = .ok (.iinc 3 1, 3) := by decide +kernel
theorem dX1_open_126 : decode cX1_open 126 = .ok (.goto (-79), 3) := by decide +kernel
theorem dX1_open_129 : decode cX1_open 129 = .ok (.return_, 1) := by decide +kernel
theorem dX1_isBarred_0 : decode cX1_isBarred 0 = .ok (.iconst 0, 1) := by decide +kernel
theorem dX1_isBarred_1 : decode cX1_isBarred 1 = .ok (.istore_n 3, 1) := by decide +kernel
theorem dX1_isBarred_2 : decode cX1_isBarred 2 = .ok (.iload_n 3, 1) := by decide +kernel
theorem dX1_isBarred_3 : decode cX1_isBarred 3 = .ok (.iload_n 1, 1) := by decide +kernel
theorem dX1_isBarred_4 : decode cX1_isBarred 4 = .ok (.if_icmp .ge 34, 3) := by decide +kernel
theorem dX1_isBarred_7 : decode cX1_isBarred 7 = .ok (.aload_n 0, 1) := by decide +kernel
theorem dX1_isBarred_8 : decode cX1_isBarred 8 = .ok (.getfield 43, 3) := by decide +kernel
theorem dX1_isBarred_11 : decode cX1_isBarred 11 = .ok (.iload_n 3, 1) := by decide +kernel
theorem dX1_isBarred_12 : decode cX1_isBarred 12 = .ok (.invokestatic 83, 3) := by decide +kernel
theorem dX1_isBarred_15 : decode cX1_isBarred 15 = .ok (.ifCond .eq 17, 3) := by decide +kernel
theorem dX1_isBarred_18 : decode cX1_isBarred 18 = .ok (.iload_n 2, 1) := by decide +kernel
theorem dX1_isBarred_19 : decode cX1_isBarred 19 = .ok (.iload_n 3, 1) := by decide +kernel
theorem dX1_isBarred_20 : decode cX1_isBarred 20 = .ok (.iload_n 1, 1) := by decide +kernel
theorem dX1_isBarred_21 : decode cX1_isBarred 21 = .ok (.invokestatic 92, 3) := by decide +kernel
theorem dX1_isBarred_24 : decode cX1_isBarred 24 = .ok (.invokestatic 83, 3) := by decide +kernel
theorem dX1_isBarred_27 : decode cX1_isBarred 27 = .ok (.ifCond .eq 5, 3) := by decide +kernel
theorem dX1_isBarred_30 : decode cX1_isBarred 30 = .ok (.iconst 1, 1) := by decide +kernel
theorem dX1_isBarred_31 : decode cX1_isBarred 31 = .ok (.ireturn, 1) := by decide +kernel
theorem dX1_isBarred_32 : decode cX1_isBarred 32 = .ok (.iinc 3 1, 3) := by decide +kernel
theorem dX1_isBarred_35 : decode cX1_isBarred 35 = .ok (.goto (-33), 3) := by decide +kernel
theorem dX1_isBarred_38 : decode cX1_isBarred 38 = .ok (.iconst 0, 1) := by decide +kernel
theorem dX1_isBarred_39 : decode cX1_isBarred 39 = .ok (.ireturn, 1) := by decide +kernel
theorem dX1_attend_0 : decode cX1_attend 0 = .ok (.aload_n 0, 1) := by decide +kernel
theorem dX1_attend_1 : decode cX1_attend 1 = .ok (.getfield 20, 3) := by decide +kernel
theorem dX1_attend_4 : decode cX1_attend 4 = .ok (.getfield 96, 3) := by decide +kernel
theorem dX1_attend_7 : decode cX1_attend 7 = .ok (.iload_n 1, 1) := by decide +kernel
theorem dX1_attend_8 : decode cX1_attend 8 = .ok (.invokevirtual 76, 3) := by decide +kernel
theorem dX1_attend_11 : decode cX1_attend 11 = .ok (.istore_n 2, 1) := by decide +kernel
theorem dX1_attend_12 : decode cX1_attend 12 = .ok (.iconst 0, 1) := by decide +kernel
theorem dX1_attend_13 : decode cX1_attend 13 = .ok (.istore_n 3, 1) := by decide +kernel
theorem dX1_attend_14 : decode cX1_attend 14 = .ok (.iload_n 3, 1) := by decide +kernel
theorem dX1_attend_15 : decode cX1_attend 15 = .ok (.aload_n 0, 1) := by decide +kernel
theorem dX1_attend_16 : decode cX1_attend 16 = .ok (.getfield 20, 3) := by decide +kernel
theorem dX1_attend_19 : decode cX1_attend 19 = .ok (.getfield 67, 3) := by decide +kernel
theorem dX1_attend_22 : decode cX1_attend 22 = .ok (.if_icmp .ge 49, 3) := by decide +kernel
theorem dX1_attend_25 : decode cX1_attend 25 = .ok (.aload_n 0, 1) := by decide +kernel
theorem dX1_attend_26 : decode cX1_attend 26 = .ok (.iload_n 3, 1) := by decide +kernel
theorem dX1_attend_27 : decode cX1_attend 27 = .ok (.iload_n 2, 1) := by decide +kernel
theorem dX1_attend_28 : decode cX1_attend 28 = .ok (.invokevirtual 99, 3) := by decide +kernel
theorem dX1_attend_31 : decode cX1_attend 31 = .ok (.ifCond .eq 34, 3) := by decide +kernel
theorem dX1_attend_34 : decode cX1_attend 34 = .ok (.aload_n 0, 1) := by decide +kernel
theorem dX1_attend_35 : decode cX1_attend 35 = .ok (.getfield 20, 3) := by decide +kernel
theorem dX1_attend_38 : decode cX1_attend 38 = .ok (.iload_n 1, 1) := by decide +kernel
theorem dX1_attend_39 : decode cX1_attend 39 = .ok (.iload_n 3, 1) := by decide +kernel
theorem dX1_attend_40 : decode cX1_attend 40 = .ok (.invokevirtual 102, 3) := by decide +kernel
theorem dX1_attend_43 : decode cX1_attend 43 = .ok (.ifCond .ne 10, 3) := by decide +kernel
theorem dX1_attend_46 : decode cX1_attend 46 = .ok (.aload_n 0, 1) := by decide +kernel
theorem dX1_attend_47 : decode cX1_attend 47 = .ok (.iload_n 1, 1) := by decide +kernel
theorem dX1_attend_48 : decode cX1_attend 48 = .ok (.iload_n 3, 1) := by decide +kernel
theorem dX1_attend_49 : decode cX1_attend 49 = .ok (.invokevirtual 105, 3) := by decide +kernel
theorem dX1_attend_52 : decode cX1_attend 52 = .ok (.return_, 1) := by decide +kernel
theorem dX1_attend_53 : decode cX1_attend 53 = .ok (.aload_n 0, 1) := by decide +kernel
theorem dX1_attend_54 : decode cX1_attend 54 = .ok (.dup, 1) := by decide +kernel
theorem dX1_attend_55 : decode cX1_attend 55 = .ok (.getfield 46, 3) := by decide +kernel
theorem dX1_attend_58 : decode cX1_attend 58 = .ok (.iconst 1, 1) := by decide +kernel
theorem dX1_attend_59 : decode cX1_attend 59 = .ok (.iload_n 3, 1) := by decide +kernel
theorem dX1_attend_60 : decode cX1_attend 60 = .ok (.ishl, 1) := by decide +kernel
theorem dX1_attend_61 : decode cX1_attend 61 = .ok (.ior, 1) := by decide +kernel
theorem dX1_attend_62 : decode cX1_attend 62 = .ok (.putfield 46, 3) := by decide +kernel
theorem dX1_attend_65 : decode cX1_attend 65 = .ok (.iinc 3 1, 3) := by decide +kernel
theorem dX1_attend_68 : decode cX1_attend 68 = .ok (.goto (-54), 3) := by decide +kernel
theorem dX1_attend_71 : decode cX1_attend 71 = .ok (.aload_n 0, 1) := by decide +kernel
theorem dX1_attend_72 : decode cX1_attend 72 = .ok (.aload_n 0, 1) := by decide +kernel
theorem dX1_attend_73 : decode cX1_attend 73 = .ok (.getfield 52, 3) := by decide +kernel
theorem dX1_attend_76 : decode cX1_attend 76 = .ok (.ifCond .ne 7, 3) := by decide +kernel
theorem dX1_attend_79 : decode cX1_attend 79 = .ok (.iload_n 1, 1) := by decide +kernel
theorem dX1_attend_80 : decode cX1_attend 80 = .ok (.goto 7, 3) := by decide +kernel
theorem dX1_attend_83 : decode cX1_attend 83 = .ok (.aload_n 0, 1) := by decide +kernel
theorem dX1_attend_84 : decode cX1_attend 84 = .ok (.getfield 55, 3) := by decide +kernel
theorem dX1_attend_87 : decode cX1_attend 87 = .ok (.putfield 55, 3) := by decide +kernel
theorem dX1_attend_90 : decode cX1_attend 90 = .ok (.aload_n 0, 1) := by decide +kernel
theorem dX1_attend_91 : decode cX1_attend 91 = .ok (.dup, 1) := by decide +kernel
theorem dX1_attend_92 : decode cX1_attend 92 = .ok (.getfield 52, 3) := by decide +kernel
theorem dX1_attend_95 : decode cX1_attend 95 = .ok (.iconst 1, 1) := by decide +kernel
theorem dX1_attend_96 : decode cX1_attend 96 = .ok (.iadd, 1) := by decide +kernel
theorem dX1_attend_97 : decode cX1_attend 97 = .ok (.putfield 52, 3) := by decide +kernel
theorem dX1_attend_100 : decode cX1_attend 100 = .ok (.return_, 1) := by decide +kernel
theorem dX1_isReadyFor_0 : decode cX1_isReadyFor 0 = .ok (.aload_n 0, 1) := by decide +kernel
theorem dX1_isReadyFor_1 : decode cX1_isReadyFor 1 = .ok (.getfield 43, 3) := by decide +kernel
theorem dX1_isReadyFor_4 : decode cX1_isReadyFor 4 = .ok (.aload_n 0, 1) := by decide +kernel
theorem dX1_isReadyFor_5 : decode cX1_isReadyFor 5 = .ok (.getfield 46, 3) := by decide +kernel
theorem dX1_isReadyFor_8 : decode cX1_isReadyFor 8 = .ok (.iconst (-1), 1) := by decide +kernel
theorem dX1_isReadyFor_9 : decode cX1_isReadyFor 9 = .ok (.ixor, 1) := by decide +kernel
theorem dX1_isReadyFor_10 : decode cX1_isReadyFor 10 = .ok (.iand, 1) := by decide +kernel
theorem dX1_isReadyFor_11 : decode cX1_isReadyFor 11 = .ok (.aload_n 0, 1) := by decide +kernel
theorem dX1_isReadyFor_12 : decode cX1_isReadyFor 12 = .ok (.getfield 20, 3) := by decide +kernel
theorem dX1_isReadyFor_15 : decode cX1_isReadyFor 15 = .ok (.getfield 109, 3) := by decide +kernel
theorem dX1_isReadyFor_18 : decode cX1_isReadyFor 18 = .ok (.iload_n 2, 1) := by decide +kernel
theorem dX1_isReadyFor_19 : decode cX1_isReadyFor 19 = .ok (.invokevirtual 76, 3) := by decide +kernel
theorem dX1_isReadyFor_22 : decode cX1_isReadyFor 22 = .ok (.iand, 1) := by decide +kernel
theorem dX1_isReadyFor_23 : decode cX1_isReadyFor 23 = .ok (.iload_n 1, 1) := by decide +kernel
theorem dX1_isReadyFor_24 : decode cX1_isReadyFor 24 = .ok (.invokestatic 83, 3) := by decide +kernel
theorem dX1_isReadyFor_27 : decode cX1_isReadyFor 27 = .ok (.ireturn, 1) := by decide +kernel
theorem dX1_firstFor_0 : decode cX1_firstFor 0 = .ok (.iconst 0, 1) := by decide +kernel
theorem dX1_firstFor_1 : decode cX1_firstFor 1 = .ok (.istore_n 2, 1) := by decide +kernel
theorem dX1_firstFor_2 : decode cX1_firstFor 2 = .ok (.iload_n 2, 1) := by decide +kernel
theorem dX1_firstFor_3 : decode cX1_firstFor 3 = .ok (.aload_n 0, 1) := by decide +kernel
theorem dX1_firstFor_4 : decode cX1_firstFor 4 = .ok (.getfield 20, 3) := by decide +kernel
theorem dX1_firstFor_7 : decode cX1_firstFor 7 = .ok (.getfield 67, 3) := by decide +kernel
theorem dX1_firstFor_10 : decode cX1_firstFor 10 = .ok (.if_icmp .ge 20, 3) := by decide +kernel
theorem dX1_firstFor_13 : decode cX1_firstFor 13 = .ok (.aload_n 0, 1) := by decide +kernel
theorem dX1_firstFor_14 : decode cX1_firstFor 14 = .ok (.iload_n 2, 1) := by decide +kernel
theorem dX1_firstFor_15 : decode cX1_firstFor 15 = .ok (.iload_n 1, 1) := by decide +kernel
theorem dX1_firstFor_16 : decode cX1_firstFor 16 = .ok (.invokevirtual 99, 3) := by decide +kernel
theorem dX1_firstFor_19 : decode cX1_firstFor 19 = .ok (.ifCond .eq 5, 3) := by decide +kernel
theorem dX1_firstFor_22 : decode cX1_firstFor 22 = .ok (.iload_n 2, 1) := by decide +kernel
theorem dX1_firstFor_23 : decode cX1_firstFor 23 = .ok (.ireturn, 1) := by decide +kernel
theorem dX1_firstFor_24 : decode cX1_firstFor 24 = .ok (.iinc 2 1, 3) := by decide +kernel
theorem dX1_firstFor_27 : decode cX1_firstFor 27 = .ok (.goto (-25), 3) := by decide +kernel
theorem dX1_firstFor_30 : decode cX1_firstFor 30 = .ok (.bipush (-4), 2) := by decide +kernel
theorem dX1_firstFor_32 : decode cX1_firstFor 32 = .ok (.ireturn, 1) := by decide +kernel
theorem dX1_sell_0 : decode cX1_sell 0 = .ok (.aload_n 0, 1) := by decide +kernel
theorem dX1_sell_1 : decode cX1_sell 1 = .ok (.getfield 20, 3) := by decide +kernel
theorem dX1_sell_4 : decode cX1_sell 4 = .ok (.getfield 112, 3) := by decide +kernel
theorem dX1_sell_7 : decode cX1_sell 7 = .ok (.iload_n 1, 1) := by decide +kernel
theorem dX1_sell_8 : decode cX1_sell 8 = .ok (.invokevirtual 76, 3) := by decide +kernel
theorem dX1_sell_11 : decode cX1_sell 11 = .ok (.iconst 3, 1) := by decide +kernel
theorem dX1_sell_12 : decode cX1_sell 12 = .ok (.if_icmp .ne 7, 3) := by decide +kernel
theorem dX1_sell_15 : decode cX1_sell 15 = .ok (.iconst 0, 1) := by decide +kernel
theorem dX1_sell_16 : decode cX1_sell 16 = .ok (.goto 14, 3) := by decide +kernel
theorem dX1_sell_19 : decode cX1_sell 19 = .ok (.aload_n 0, 1) := by decide +kernel
theorem dX1_sell_20 : decode cX1_sell 20 = .ok (.getfield 20, 3) := by decide +kernel
theorem dX1_sell_23 : decode cX1_sell 23 = .ok (.getfield 115, 3) := by decide +kernel
theorem dX1_sell_26 : decode cX1_sell 26 = .ok (.iload_n 1, 1) := by decide +kernel
theorem dX1_sell_27 : decode cX1_sell 27 = .ok (.invokevirtual 76, 3) := by decide +kernel
theorem dX1_sell_30 : decode cX1_sell 30 = .ok (.istore_n 3, 1) := by decide +kernel
theorem dX1_sell_31 : decode cX1_sell 31 = .ok (.iload_n 3, 1) := by decide +kernel
theorem dX1_sell_32 : decode cX1_sell 32 = .ok (.bipush 9, 2) := by decide +kernel
theorem dX1_sell_34 : decode cX1_sell 34 = .ok (.imul, 1) := by decide +kernel
theorem dX1_sell_35 : decode cX1_sell 35 = .ok (.bipush 100, 2) := by decide +kernel
theorem dX1_sell_37 : decode cX1_sell 37 = .ok (.idiv, 1) := by decide +kernel
theorem dX1_sell_38 : decode cX1_sell 38 = .ok (.istore 4, 2) := by decide +kernel
theorem dX1_sell_40 : decode cX1_sell 40 = .ok (.aload_n 0, 1) := by decide +kernel
theorem dX1_sell_41 : decode cX1_sell 41 = .ok (.getfield 14, 3) := by decide +kernel
theorem dX1_sell_44 : decode cX1_sell 44 = .ok (.iload_n 1, 1) := by decide +kernel
theorem dX1_sell_45 : decode cX1_sell 45 = .ok (.iload_n 2, 1) := by decide +kernel
theorem dX1_sell_46 : decode cX1_sell 46 = .ok (.invokevirtual 118, 3) := by decide +kernel
theorem dX1_sell_49 : decode cX1_sell 49 = .ok (.aload_n 0, 1) := by decide +kernel
theorem dX1_sell_50 : decode cX1_sell 50 = .ok (.dup, 1) := by decide +kernel
theorem dX1_sell_51 : decode cX1_sell 51 = .ok (.getfield 49, 3) := by decide +kernel
theorem dX1_sell_54 : decode cX1_sell 54 = .ok (.iconst 1, 1) := by decide +kernel
theorem dX1_sell_55 : decode cX1_sell 55 = .ok (.iadd, 1) := by decide +kernel
theorem dX1_sell_56 : decode cX1_sell 56 = .ok (.putfield 49, 3) := by decide +kernel
theorem dX1_sell_59 : decode cX1_sell 59 = .ok (.aload_n 0, 1) := by decide +kernel
theorem dX1_sell_60 : decode cX1_sell 60 = .ok (.dup, 1) := by decide +kernel
theorem dX1_sell_61 : decode cX1_sell 61 = .ok (.getfield 61, 3) := by decide +kernel
theorem dX1_sell_64 : decode cX1_sell 64 = .ok (.iload 4, 2) := by decide +kernel
theorem dX1_sell_66 : decode cX1_sell 66 = .ok (.iadd, 1) := by decide +kernel
theorem dX1_sell_67 : decode cX1_sell 67 = .ok (.putfield 61, 3) := by decide +kernel
theorem dX1_sell_70 : decode cX1_sell 70 = .ok (.aload_n 0, 1) := by decide +kernel
theorem dX1_sell_71 : decode cX1_sell 71 = .ok (.dup, 1) := by decide +kernel
theorem dX1_sell_72 : decode cX1_sell 72 = .ok (.getfield 58, 3) := by decide +kernel
theorem dX1_sell_75 : decode cX1_sell 75 = .ok (.iload_n 3, 1) := by decide +kernel
theorem dX1_sell_76 : decode cX1_sell 76 = .ok (.iload 4, 2) := by decide +kernel
theorem dX1_sell_78 : decode cX1_sell 78 = .ok (.isub, 1) := by decide +kernel
theorem dX1_sell_79 : decode cX1_sell 79 = .ok (.iadd, 1) := by decide +kernel
theorem dX1_sell_80 : decode cX1_sell 80 = .ok (.putfield 58, 3) := by decide +kernel
theorem dX1_sell_83 : decode cX1_sell 83 = .ok (.return_, 1) := by decide +kernel
theorem dX1_close_0 : decode cX1_close 0 = .ok (.iconst 0, 1) := by decide +kernel
theorem dX1_close_1 : decode cX1_close 1 = .ok (.istore_n 2, 1) := by decide +kernel
theorem dX1_close_2 : decode cX1_close 2 = .ok (.iload_n 2, 1) := by decide +kernel
theorem dX1_close_3 : decode cX1_close 3 = .ok (.aload_n 0, 1) := by decide +kernel
theorem dX1_close_4 : decode cX1_close 4 = .ok (.getfield 20, 3) := by decide +kernel
theorem dX1_close_7 : decode cX1_close 7 = .ok (.getfield 67, 3) := by decide +kernel
theorem dX1_close_10 : decode cX1_close 10 = .ok (.if_icmp .ge 48, 3) := by decide +kernel
theorem dX1_close_13 : decode cX1_close 13 = .ok (.aload_n 1, 1) := by decide +kernel
theorem dX1_close_14 : decode cX1_close 14 = .ok (.getfield 73, 3) := by decide +kernel
theorem dX1_close_17 : decode cX1_close 17 = .ok (.iload_n 2, 1) := by decide +kernel
theorem dX1_close_18 : decode cX1_close 18 = .ok (.invokevirtual 76, 3) := by decide +kernel
theorem dX1_close_21 : decode cX1_close 21 = .ok (.iconst 1, 1) := by decide +kernel
theorem dX1_close_22 : decode cX1_close 22 = .ok (.isub, 1) := by decide +kernel
theorem dX1_close_23 : decode cX1_close 23 = .ok (.iconst 0, 1) := by decide +kernel
theorem dX1_close_24 : decode cX1_close 24 = .ok (.invokestatic 121, 3) := by decide +kernel
theorem dX1_close_27 : decode cX1_close 27 = .ok (.istore_n 3, 1) := by decide +kernel
theorem dX1_close_28 : decode cX1_close 28 = .ok (.aload_n 1, 1) := by decide +kernel
theorem dX1_close_29 : decode cX1_close 29 = .ok (.getfield 73, 3) := by decide +kernel
theorem dX1_close_32 : decode cX1_close 32 = .ok (.iload_n 2, 1) := by decide +kernel
theorem dX1_close_33 : decode cX1_close 33 = .ok (.aload_n 0, 1) := by decide +kernel
theorem dX1_close_34 : decode cX1_close 34 = .ok (.getfield 46, 3) := by decide +kernel
theorem dX1_close_37 : decode cX1_close 37 = .ok (.iload_n 2, 1) := by decide +kernel
theorem dX1_close_38 : decode cX1_close 38 = .ok (.invokestatic 83, 3) := by decide +kernel
theorem dX1_close_41 : decode cX1_close 41 = .ok (.ifCond .eq 7, 3) := by decide +kernel
theorem dX1_close_44 : decode cX1_close 44 = .ok (.iconst 3, 1) := by decide +kernel
theorem dX1_close_45 : decode cX1_close 45 = .ok (.goto 4, 3) := by decide +kernel
theorem dX1_close_48 : decode cX1_close 48 = .ok (.iload_n 3, 1) := by decide +kernel
theorem dX1_close_49 : decode cX1_close 49 = .ok (.invokevirtual 118, 3) := by decide +kernel
theorem dX1_close_52 : decode cX1_close 52 = .ok (.iinc 2 1, 3) := by decide +kernel
theorem dX1_close_55 : decode cX1_close 55 = .ok (.goto (-53), 3) := by decide +kernel
theorem dX1_close_58 : decode cX1_close 58 = .ok (.aload_n 1, 1) := by decide +kernel
theorem dX1_close_59 : decode cX1_close 59 = .ok (.iconst 0, 1) := by decide +kernel
theorem dX1_close_60 : decode cX1_close 60 = .ok (.putfield 80, 3) := by decide +kernel
theorem dX1_close_63 : decode cX1_close 63 = .ok (.aload_n 1, 1) := by decide +kernel
theorem dX1_close_64 : decode cX1_close 64 = .ok (.dup, 1) := by decide +kernel
theorem dX1_close_65 : decode cX1_close 65 = .ok (.getfield 126, 3) := by decide +kernel
theorem dX1_close_68 : decode cX1_close 68 = .ok (.aload_n 0, 1) := by decide +kernel
theorem dX1_close_69 : decode cX1_close 69 = .ok (.getfield 58, 3) := by decide +kernel
theorem dX1_close_72 : decode cX1_close 72 = .ok (.iadd, 1) := by decide +kernel
theorem dX1_close_73 : decode cX1_close 73 = .ok (.putfield 126, 3) := by decide +kernel
theorem dX1_close_76 : decode cX1_close 76 = .ok (.aload_n 1, 1) := by decide +kernel
theorem dX1_close_77 : decode cX1_close 77 = .ok (.dup, 1) := by decide +kernel
theorem dX1_close_78 : decode cX1_close 78 = .ok (.getfield 127, 3) := by decide +kernel
theorem dX1_close_81 : decode cX1_close 81 = .ok (.aload_n 0, 1) := by decide +kernel
theorem dX1_close_82 : decode cX1_close 82 = .ok (.getfield 61, 3) := by decide +kernel
theorem dX1_close_85 : decode cX1_close 85 = .ok (.iadd, 1) := by decide +kernel
theorem dX1_close_86 : decode cX1_close 86 = .ok (.putfield 127, 3) := by decide +kernel
theorem dX1_close_89 : decode cX1_close 89 = .ok (.aload_n 1, 1) := by decide +kernel
theorem dX1_close_90 : decode cX1_close 90 = .ok (.dup, 1) := by decide +kernel
theorem dX1_close_91 : decode cX1_close 91 = .ok (.getfield 128, 3) := by decide +kernel
theorem dX1_close_94 : decode cX1_close 94 = .ok (.aload_n 0, 1) := by decide +kernel
theorem dX1_close_95 : decode cX1_close 95 = .ok (.getfield 52, 3) := by decide +kernel
theorem dX1_close_98 : decode cX1_close 98 = .ok (.iadd, 1) := by decide +kernel
theorem dX1_close_99 : decode cX1_close 99 = .ok (.putfield 128, 3) := by decide +kernel
theorem dX1_close_102 : decode cX1_close 102 = .ok (.aload_n 1, 1) := by decide +kernel
theorem dX1_close_103 : decode cX1_close 103 = .ok (.dup, 1) := by decide +kernel
theorem dX1_close_104 : decode cX1_close 104 = .ok (.getfield 28, 3) := by decide +kernel
theorem dX1_close_107 : decode cX1_close 107 = .ok (.iconst 1, 1) := by decide +kernel
theorem dX1_close_108 : decode cX1_close 108 = .ok (.iadd, 1) := by decide +kernel
theorem dX1_close_109 : decode cX1_close 109 = .ok (.putfield 28, 3) := by decide +kernel
theorem dX1_close_112 : decode cX1_close 112 = .ok (.return_, 1) := by decide +kernel
theorem dX2_init_0 : decode cX2_init 0 = .ok (.aload_n 0, 1) := by decide +kernel
theorem dX2_init_1 : decode cX2_init 1 = .ok (.invokespecial 3, 3) := by decide +kernel
theorem dX2_init_4 : decode cX2_init 4 = .ok (.aload_n 0, 1) := by decide +kernel
theorem dX2_init_5 : decode cX2_init 5 = .ok (.new 9, 3) := by decide +kernel
theorem dX2_init_8 : decode cX2_init 8 = .ok (.dup, 1) := by decide +kernel
theorem dX2_init_9 : decode cX2_init 9 = .ok (.iconst 4, 1) := by decide +kernel
theorem dX2_init_10 : decode cX2_init 10 = .ok (.invokespecial 11, 3) := by decide +kernel
theorem dX2_init_13 : decode cX2_init 13 = .ok (.putfield 14, 3) := by decide +kernel
theorem dX2_init_16 : decode cX2_init 16 = .ok (.aload_n 0, 1) := by decide +kernel
theorem dX2_init_17 : decode cX2_init 17 = .ok (.aload_n 1, 1) := by decide +kernel
theorem dX2_init_18 : decode cX2_init 18 = .ok (.putfield 20, 3) := by decide +kernel
theorem dX2_init_21 : decode cX2_init 21 = .ok (.aload_n 0, 1) := by decide +kernel
theorem dX2_init_22 : decode cX2_init 22 = .ok (.aload_n 2, 1) := by decide +kernel
theorem dX2_init_23 : decode cX2_init 23 = .ok (.putfield 24, 3) := by decide +kernel
theorem dX2_init_26 : decode cX2_init 26 = .ok (.return_, 1) := by decide +kernel
theorem dX2_read_0 : decode cX2_read 0 = .ok (.aload_n 0, 1) := by decide +kernel
theorem dX2_read_1 : decode cX2_read 1 = .ok (.getfield 24, 3) := by decide +kernel
theorem dX2_read_4 : decode cX2_read 4 = .ok (.invokevirtual 28, 3) := by decide +kernel
theorem dX2_read_7 : decode cX2_read 7 = .ok (.aload_n 0, 1) := by decide +kernel
theorem dX2_read_8 : decode cX2_read 8 = .ok (.iconst 0, 1) := by decide +kernel
theorem dX2_read_9 : decode cX2_read 9 = .ok (.putfield 33, 3) := by decide +kernel
theorem dX2_read_12 : decode cX2_read 12 = .ok (.iconst 0, 1) := by decide +kernel
theorem dX2_read_13 : decode cX2_read 13 = .ok (.istore_n 1, 1) := by decide +kernel
theorem dX2_read_14 : decode cX2_read 14 = .ok (.iload_n 1, 1) := by decide +kernel
theorem dX2_read_15 : decode cX2_read 15 = .ok (.sipush 200, 3) := by decide +kernel
theorem dX2_read_18 : decode cX2_read 18 = .ok (.if_icmp .ge 37, 3) := by decide +kernel
theorem dX2_read_21 : decode cX2_read 21 = .ok (.aload_n 0, 1) := by decide +kernel
theorem dX2_read_22 : decode cX2_read 22 = .ok (.getfield 33, 3) := by decide +kernel
theorem dX2_read_25 : decode cX2_read 25 = .ok (.aload_n 0, 1) := by decide +kernel
theorem dX2_read_26 : decode cX2_read 26 = .ok (.getfield 20, 3) := by decide +kernel
theorem dX2_read_29 : decode cX2_read 29 = .ok (.getfield 37, 3) := by decide +kernel
theorem dX2_read_32 : decode cX2_read 32 = .ok (.if_icmp .ge 23, 3) := by decide +kernel
theorem dX2_read_35 : decode cX2_read 35 = .ok (.aload_n 0, 1) := by decide +kernel
theorem dX2_read_36 : decode cX2_read 36 = .ok (.getfield 33, 3) := by decide +kernel
theorem dX2_read_39 : decode cX2_read 39 = .ok (.istore_n 2, 1) := by decide +kernel
theorem dX2_read_40 : decode cX2_read 40 = .ok (.aload_n 0, 1) := by decide +kernel
theorem dX2_read_41 : decode cX2_read 41 = .ok (.invokevirtual 42, 3) := by decide +kernel
theorem dX2_read_44 : decode cX2_read 44 = .ok (.ifCond .ne 5, 3) := by decide +kernel
theorem dX2_read_47 : decode cX2_read 47 = .ok (.iload_n 2, 1) := by decide +kernel
theorem dX2_read_48 : decode cX2_read 48 = .ok (.ireturn, 1) := by decide +kernel
theorem dX2_read_49 : decode cX2_read 49 = .ok (.iinc 1 1, 3) := by decide +kernel
theorem dX2_read_52 : decode cX2_read 52 = .ok (.goto (-38), 3) := by decide +kernel
theorem dX2_read_55 : decode cX2_read 55 = .ok (.bipush (-4), 2) := by decide +kernel
theorem dX2_read_57 : decode cX2_read 57 = .ok (.ireturn, 1) := by decide +kernel
theorem dX2_readItem_0 : decode cX2_readItem 0 = .ok (.aload_n 0, 1) := by decide +kernel
theorem dX2_readItem_1 : decode cX2_readItem 1 = .ok (.getfield 20, 3) := by decide +kernel
theorem dX2_readItem_4 : decode cX2_readItem 4 = .ok (.aload_n 0, 1) := by decide +kernel
theorem dX2_readItem_5 : decode cX2_readItem 5 = .ok (.getfield 33, 3) := by decide +kernel
theorem dX2_readItem_8 : decode cX2_readItem 8 = .ok (.invokevirtual 46, 3) := by decide +kernel
theorem dX2_readItem_11 : decode cX2_readItem 11 = .ok (.istore_n 1, 1) := by decide +kernel
theorem dX2_readItem_12 : decode cX2_readItem 12 = .ok (.aload_n 0, 1) := by decide +kernel
theorem dX2_readItem_13 : decode cX2_readItem 13 = .ok (.dup, 1) := by decide +kernel
theorem dX2_readItem_14 : decode cX2_readItem 14 = .ok (.getfield 33, 3) := by decide +kernel
theorem dX2_readItem_17 : decode cX2_readItem 17 = .ok (.iconst 1, 1) := by decide +kernel
theorem dX2_readItem_18 : decode cX2_readItem 18 = .ok (.iadd, 1) := by decide +kernel
theorem dX2_readItem_19 : decode cX2_readItem 19 = .ok (.putfield 33, 3) := by decide +kernel
theorem dX2_readItem_22 : decode cX2_readItem 22 = .ok (.iload_n 1, 1) := by decide +kernel
theorem dX2_readItem_23 : decode cX2_readItem 23 = .ok (.lookupswitch 125 #[(99, 83), (104, 104), (113, 62), (115, 41)], 41) := by decide +kernel
theorem dX2_readItem_64 : decode cX2_readItem 64 = .ok (.aload_n 0, 1) := by decide +kernel
theorem dX2_readItem_65 : decode cX2_readItem 65 = .ok (.iconst 4, 1) := by decide +kernel
theorem dX2_readItem_66 : decode cX2_readItem 66 = .ok (.invokevirtual 50, 3) := by decide +kernel
theorem dX2_readItem_69 : decode cX2_readItem 69 = .ok (.ifCond .eq 14, 3) := by decide +kernel
theorem dX2_readItem_72 : decode cX2_readItem 72 = .ok (.aload_n 0, 1) := by decide +kernel
theorem dX2_readItem_73 : decode cX2_readItem 73 = .ok (.invokevirtual 54, 3) := by decide +kernel
theorem dX2_readItem_76 : decode cX2_readItem 76 = .ok (.ifCond .eq 7, 3) := by decide +kernel
theorem dX2_readItem_79 : decode cX2_readItem 79 = .ok (.iconst 1, 1) := by decide +kernel
theorem dX2_readItem_80 : decode cX2_readItem 80 = .ok (.goto 4, 3) := by decide +kernel
theorem dX2_readItem_83 : decode cX2_readItem 83 = .ok (.iconst 0, 1) := by decide +kernel
theorem dX2_readItem_84 : decode cX2_readItem 84 = .ok (.ireturn, 1) := by decide +kernel
theorem dX2_readItem_85 : decode cX2_readItem 85 = .ok (.aload_n 0, 1) := by decide +kernel
theorem dX2_readItem_86 : decode cX2_readItem 86 = .ok (.iconst 2, 1) := by decide +kernel
theorem dX2_readItem_87 : decode cX2_readItem 87 = .ok (.invokevirtual 50, 3) := by decide +kernel
theorem dX2_readItem_90 : decode cX2_readItem 90 = .ok (.ifCond .eq 14, 3) := by decide +kernel
theorem dX2_readItem_93 : decode cX2_readItem 93 = .ok (.aload_n 0, 1) := by decide +kernel
theorem dX2_readItem_94 : decode cX2_readItem 94 = .ok (.invokevirtual 57, 3) := by decide +kernel
theorem dX2_readItem_97 : decode cX2_readItem 97 = .ok (.ifCond .eq 7, 3) := by decide +kernel
theorem dX2_readItem_100 : decode cX2_readItem 100 = .ok (.iconst 1, 1) := by decide +kernel
theorem dX2_readItem_101 : decode cX2_readItem 101 = .ok (.goto 4, 3) := by decide +kernel
theorem dX2_readItem_104 : decode cX2_readItem 104 = .ok (.iconst 0, 1) := by decide +kernel
theorem dX2_readItem_105 : decode cX2_readItem 105 = .ok (.ireturn, 1) := by decide +kernel
theorem dX2_readItem_106 : decode cX2_readItem 106 = .ok (.aload_n 0, 1) := by decide +kernel
theorem dX2_readItem_107 : decode cX2_readItem 107 = .ok (.iconst 4, 1) := by decide +kernel
theorem dX2_readItem_108 : decode cX2_readItem 108 = .ok (.invokevirtual 50, 3) := by decide +kernel
theorem dX2_readItem_111 : decode cX2_readItem 111 = .ok (.ifCond .eq 14, 3) := by decide +kernel
theorem dX2_readItem_114 : decode cX2_readItem 114 = .ok (.aload_n 0, 1) := by decide +kernel
theorem dX2_readItem_115 : decode cX2_readItem 115 = .ok (.invokevirtual 60, 3) := by decide +kernel
theorem dX2_readItem_118 : decode cX2_readItem 118 = .ok (.ifCond .eq 7, 3) := by decide +kernel
theorem dX2_readItem_121 : decode cX2_readItem 121 = .ok (.iconst 1, 1) := by decide +kernel
theorem dX2_readItem_122 : decode cX2_readItem 122 = .ok (.goto 4, 3) := by decide +kernel
theorem dX2_readItem_125 : decode cX2_readItem 125 = .ok (.iconst 0, 1) := by decide +kernel
theorem dX2_readItem_126 : decode cX2_readItem 126 = .ok (.ireturn, 1) := by decide +kernel
theorem dX2_readItem_127 : decode cX2_readItem 127 = .ok (.aload_n 0, 1) := by decide +kernel
theorem dX2_readItem_128 : decode cX2_readItem 128 = .ok (.iconst 1, 1) := by decide +kernel
theorem dX2_readItem_129 : decode cX2_readItem 129 = .ok (.invokevirtual 50, 3) := by decide +kernel
theorem dX2_readItem_132 : decode cX2_readItem 132 = .ok (.ifCond .eq 14, 3) := by decide +kernel
theorem dX2_readItem_135 : decode cX2_readItem 135 = .ok (.aload_n 0, 1) := by decide +kernel
theorem dX2_readItem_136 : decode cX2_readItem 136 = .ok (.invokevirtual 63, 3) := by decide +kernel
theorem dX2_readItem_139 : decode cX2_readItem 139 = .ok (.ifCond .eq 7, 3) := by decide +kernel
theorem dX2_readItem_142 : decode cX2_readItem 142 = .ok (.iconst 1, 1) := by decide +kernel
theorem dX2_readItem_143 : decode cX2_readItem 143 = .ok (.goto 4, 3) := by decide +kernel
theorem dX2_readItem_146 : decode cX2_readItem 146 = .ok (.iconst 0, 1) := by decide +kernel
theorem dX2_readItem_147 : decode cX2_readItem 147 = .ok (.ireturn, 1) := by decide +kernel
theorem dX2_readItem_148 : decode cX2_readItem 148 = .ok (.iconst 0, 1) := by decide +kernel
theorem dX2_readItem_149 : decode cX2_readItem 149 = .ok (.ireturn, 1) := by decide +kernel
theorem dX2_readNumbers_0 : decode cX2_readNumbers 0 = .ok (.iconst 0, 1) := by decide +kernel
theorem dX2_readNumbers_1 : decode cX2_readNumbers 1 = .ok (.istore_n 2, 1) := by decide +kernel
theorem dX2_readNumbers_2 : decode cX2_readNumbers 2 = .ok (.iload_n 2, 1) := by decide +kernel
theorem dX2_readNumbers_3 : decode cX2_readNumbers 3 = .ok (.iload_n 1, 1) := by decide +kernel
theorem dX2_readNumbers_4 : decode cX2_readNumbers 4 = .ok (.if_icmp .ge 67, 3) := by decide +kernel
theorem dX2_readNumbers_7 : decode cX2_readNumbers 7 = .ok (.aload_n 0, 1) := by decide +kernel
theorem dX2_readNumbers_8 : decode cX2_readNumbers 8 = .ok (.invokevirtual 66, 3) := by decide +kernel
theorem dX2_readNumbers_11 : decode cX2_readNumbers 11 = .ok (.istore_n 3, 1) := by decide +kernel
theorem dX2_readNumbers_12 : decode cX2_readNumbers 12 = .ok (.iload_n 3, 1) := by decide +kernel
theorem dX2_readNumbers_13 : decode cX2_readNumbers 13 = .ok (.ifCond .lt 31, 3) := by decide +kernel
theorem dX2_readNumbers_16 : decode cX2_readNumbers 16 = .ok (.aload_n 0, 1) := by decide +kernel
theorem dX2_readNumbers_17 : decode cX2_readNumbers 17 = .ok (.getfield 20, 3) := by decide +kernel
theorem dX2_readNumbers_20 : decode cX2_readNumbers 20 = .ok (.aload_n 0, 1) := by decide +kernel
theorem dX2_readNumbers_21 : decode cX2_readNumbers 21 = .ok (.getfield 33, 3) := by decide +kernel
theorem dX2_readNumbers_24 : decode cX2_readNumbers 24 = .ok (.invokevirtual 46, 3) := by decide +kernel
theorem dX2_readNumbers_27 : decode cX2_readNumbers 27 = .ok (.iload_n 2, 1) := by decide +kernel
theorem dX2_readNumbers_28 : decode cX2_readNumbers 28 = .ok (.iload_n 1, 1) := by decide +kernel
theorem dX2_readNumbers_29 : decode cX2_readNumbers 29 = .ok (.iconst 1, 1) := by decide +kernel
theorem dX2_readNumbers_30 : decode cX2_readNumbers 30 = .ok (.isub, 1) := by decide +kernel
theorem dX2_readNumbers_31 : decode cX2_readNumbers 31 = .ok (.if_icmp .ge 8, 3) := by decide +kernel
theorem dX2_readNumbers_34 : decode cX2_readNumbers 34 = .ok (.bipush 44, 2) := by decide +kernel
theorem dX2_readNumbers_36 : decode cX2_readNumbers 36 = .ok (.goto 5, 3) := by decide +kernel
theorem dX2_readNumbers_39 : decode cX2_readNumbers 39 = .ok (.bipush 59, 2) := by decide +kernel
theorem dX2_readNumbers_41 : decode cX2_readNumbers 41 = .ok (.if_icmp .eq 5, 3) := by decide +kernel
theorem dX2_readNumbers_44 : decode cX2_readNumbers 44 = .ok (.iconst 0, 1) := by decide +kernel
theorem dX2_readNumbers_45 : decode cX2_readNumbers 45 = .ok (.ireturn, 1) := by decide +kernel
theorem dX2_readNumbers_46 : decode cX2_readNumbers 46 = .ok (.aload_n 0, 1) := by decide +kernel
theorem dX2_readNumbers_47 : decode cX2_readNumbers 47 = .ok (.getfield 14, 3) := by decide +kernel
theorem dX2_readNumbers_50 : decode cX2_readNumbers 50 = .ok (.iload_n 2, 1) := by decide +kernel
theorem dX2_readNumbers_51 : decode cX2_readNumbers 51 = .ok (.iload_n 3, 1) := by decide +kernel
theorem dX2_readNumbers_52 : decode cX2_readNumbers 52 = .ok (.invokevirtual 70, 3) := by decide +kernel
theorem dX2_readNumbers_55 : decode cX2_readNumbers 55 = .ok (.aload_n 0, 1) := by decide +kernel
theorem dX2_readNumbers_56 : decode cX2_readNumbers 56 = .ok (.dup, 1) := by decide +kernel
theorem dX2_readNumbers_57 : decode cX2_readNumbers 57 = .ok (.getfield 33, 3) := by decide +kernel
theorem dX2_readNumbers_60 : decode cX2_readNumbers 60 = .ok (.iconst 1, 1) := by decide +kernel
theorem dX2_readNumbers_61 : decode cX2_readNumbers 61 = .ok (.iadd, 1) := by decide +kernel
theorem dX2_readNumbers_62 : decode cX2_readNumbers 62 = .ok (.putfield 33, 3) := by decide +kernel
theorem dX2_readNumbers_65 : decode cX2_readNumbers 65 = .ok (.iinc 2 1, 3) := by decide +kernel
theorem dX2_readNumbers_68 : decode cX2_readNumbers 68 = .ok (.goto (-66), 3) := by decide +kernel
theorem dX2_readNumbers_71 : decode cX2_readNumbers 71 = .ok (.iconst 1, 1) := by decide +kernel
theorem dX2_readNumbers_72 : decode cX2_readNumbers 72 = .ok (.ireturn, 1) := by decide +kernel
theorem dX2_readNumber_0 : decode cX2_readNumber 0 = .ok (.aload_n 0, 1) := by decide +kernel
theorem dX2_readNumber_1 : decode cX2_readNumber 1 = .ok (.invokevirtual 74, 3) := by decide +kernel
theorem dX2_readNumber_4 : decode cX2_readNumber 4 = .ok (.istore_n 1, 1) := by decide +kernel
theorem dX2_readNumber_5 : decode cX2_readNumber 5 = .ok (.iload_n 1, 1) := by decide +kernel
theorem dX2_readNumber_6 : decode cX2_readNumber 6 = .ok (.ifCond .ge 5, 3) := by decide +kernel
theorem dX2_readNumber_9 : decode cX2_readNumber 9 = .ok (.iload_n 1, 1) := by decide +kernel
theorem dX2_readNumber_10 : decode cX2_readNumber 10 = .ok (.ireturn, 1) := by decide +kernel
theorem dX2_readNumber_11 : decode cX2_readNumber 11 = .ok (.aload_n 0, 1) := by decide +kernel
theorem dX2_readNumber_12 : decode cX2_readNumber 12 = .ok (.dup, 1) := by decide +kernel
theorem dX2_readNumber_13 : decode cX2_readNumber 13 = .ok (.getfield 33, 3) := by decide +kernel
theorem dX2_readNumber_16 : decode cX2_readNumber 16 = .ok (.iconst 1, 1) := by decide +kernel
theorem dX2_readNumber_17 : decode cX2_readNumber 17 = .ok (.iadd, 1) := by decide +kernel
theorem dX2_readNumber_18 : decode cX2_readNumber 18 = .ok (.putfield 33, 3) := by decide +kernel
theorem dX2_readNumber_21 : decode cX2_readNumber 21 = .ok (.aload_n 0, 1) := by decide +kernel
theorem dX2_readNumber_22 : decode cX2_readNumber 22 = .ok (.invokevirtual 74, 3) := by decide +kernel
theorem dX2_readNumber_25 : decode cX2_readNumber 25 = .ok (.istore_n 2, 1) := by decide +kernel
theorem dX2_readNumber_26 : decode cX2_readNumber 26 = .ok (.iload_n 2, 1) := by decide +kernel
theorem dX2_readNumber_27 : decode cX2_readNumber 27 = .ok (.ifCond .ge 5, 3) := by decide +kernel
theorem dX2_readNumber_30 : decode cX2_readNumber 30 = .ok (.iload_n 1, 1) := by decide +kernel
theorem dX2_readNumber_31 : decode cX2_readNumber 31 = .ok (.ireturn, 1) := by decide +kernel
theorem dX2_readNumber_32 : decode cX2_readNumber 32 = .ok (.aload_n 0, 1) := by decide +kernel
theorem dX2_readNumber_33 : decode cX2_readNumber 33 = .ok (.dup, 1) := by decide +kernel
theorem dX2_readNumber_34 : decode cX2_readNumber 34 = .ok (.getfield 33, 3) := by decide +kernel
theorem dX2_readNumber_37 : decode cX2_readNumber 37 = .ok (.iconst 1, 1) := by decide +kernel
theorem dX2_readNumber_38 : decode cX2_readNumber 38 = .ok (.iadd, 1) := by decide +kernel
theorem dX2_readNumber_39 : decode cX2_readNumber 39 = .ok (.putfield 33, 3) := by decide +kernel
theorem dX2_readNumber_42 : decode cX2_readNumber 42 = .ok (.bipush 10, 2) := by decide +kernel
theorem dX2_readNumber_44 : decode cX2_readNumber 44 = .ok (.iload_n 1, 1) := by decide +kernel
theorem dX2_readNumber_45 : decode cX2_readNumber 45 = .ok (.imul, 1) := by decide +kernel
theorem dX2_readNumber_46 : decode cX2_readNumber 46 = .ok (.iload_n 2, 1) := by decide +kernel
theorem dX2_readNumber_47 : decode cX2_readNumber 47 = .ok (.iadd, 1) := by decide +kernel
theorem dX2_readNumber_48 : decode cX2_readNumber 48 = .ok (.ireturn, 1) := by decide +kernel
theorem dX2_figure_0 : decode cX2_figure 0 = .ok (.aload_n 0, 1) := by decide +kernel
theorem dX2_figure_1 : decode cX2_figure 1 = .ok (.getfield 20, 3) := by decide +kernel
theorem dX2_figure_4 : decode cX2_figure 4 = .ok (.aload_n 0, 1) := by decide +kernel
theorem dX2_figure_5 : decode cX2_figure 5 = .ok (.getfield 33, 3) := by decide +kernel
theorem dX2_figure_8 : decode cX2_figure 8 = .ok (.invokevirtual 46, 3) := by decide +kernel
theorem dX2_figure_11 : decode cX2_figure 11 = .ok (.istore_n 1, 1) := by decide +kernel
theorem dX2_figure_12 : decode cX2_figure 12 = .ok (.iload_n 1, 1) := by decide +kernel
theorem dX2_figure_13 : decode cX2_figure 13 = .ok (.bipush 48, 2) := by decide +kernel
theorem dX2_figure_15 : decode cX2_figure 15 = .ok (.bipush 57, 2) := by decide +kernel
theorem dX2_figure_17 : decode cX2_figure 17 = .ok (.invokestatic 77, 3) := by decide +kernel
theorem dX2_figure_20 : decode cX2_figure 20 = .ok (.ifCond .eq 10, 3) := by decide +kernel
theorem dX2_figure_23 : decode cX2_figure 23 = .ok (.iload_n 1, 1) := by decide +kernel
theorem dX2_figure_24 : decode cX2_figure 24 = .ok (.bipush 48, 2) := by decide +kernel
theorem dX2_figure_26 : decode cX2_figure 26 = .ok (.isub, 1) := by decide +kernel
theorem dX2_figure_27 : decode cX2_figure 27 = .ok (.goto 5, 3) := by decide +kernel
theorem dX2_figure_30 : decode cX2_figure 30 = .ok (.bipush (-4), 2) := by decide +kernel
theorem dX2_figure_32 : decode cX2_figure 32 = .ok (.ireturn, 1) := by decide +kernel
theorem dX2_takeStaff_0 : decode cX2_takeStaff 0 = .ok (.aload_n 0, 1) := by decide +kernel
theorem dX2_takeStaff_1 : decode cX2_takeStaff 1 = .ok (.getfield 24, 3) := by decide +kernel
theorem dX2_takeStaff_4 : decode cX2_takeStaff 4 = .ok (.getfield 81, 3) := by decide +kernel
theorem dX2_takeStaff_7 : decode cX2_takeStaff 7 = .ok (.istore_n 1, 1) := by decide +kernel
theorem dX2_takeStaff_8 : decode cX2_takeStaff 8 = .ok (.iload_n 1, 1) := by decide +kernel
theorem dX2_takeStaff_9 : decode cX2_takeStaff 9 = .ok (.bipush 6, 2) := by decide +kernel
theorem dX2_takeStaff_11 : decode cX2_takeStaff 11 = .ok (.if_icmp .ge 69, 3) := by decide +kernel
theorem dX2_takeStaff_14 : decode cX2_takeStaff 14 = .ok (.aload_n 0, 1) := by decide +kernel
theorem dX2_takeStaff_15 : decode cX2_takeStaff 15 = .ok (.getfield 14, 3) := by decide +kernel
theorem dX2_takeStaff_18 : decode cX2_takeStaff 18 = .ok (.iconst 0, 1) := by decide +kernel
theorem dX2_takeStaff_19 : decode cX2_takeStaff 19 = .ok (.invokevirtual 84, 3) := by decide +kernel
theorem dX2_takeStaff_22 : decode cX2_takeStaff 22 = .ok (.iconst 0, 1) := by decide +kernel
theorem dX2_takeStaff_23 : decode cX2_takeStaff 23 = .ok (.iconst 3, 1) := by decide +kernel
theorem dX2_takeStaff_24 : decode cX2_takeStaff 24 = .ok (.invokestatic 77, 3) := by decide +kernel
theorem dX2_takeStaff_27 : decode cX2_takeStaff 27 = .ok (.ifCond .eq 53, 3) := by decide +kernel
theorem dX2_takeStaff_30 : decode cX2_takeStaff 30 = .ok (.aload_n 0, 1) := by decide +kernel
theorem dX2_takeStaff_31 : decode cX2_takeStaff 31 = .ok (.getfield 14, 3) := by decide +kernel
theorem dX2_takeStaff_34 : decode cX2_takeStaff 34 = .ok (.iconst 1, 1) := by decide +kernel
theorem dX2_takeStaff_35 : decode cX2_takeStaff 35 = .ok (.invokevirtual 84, 3) := by decide +kernel
theorem dX2_takeStaff_38 : decode cX2_takeStaff 38 = .ok (.iconst 0, 1) := by decide +kernel
theorem dX2_takeStaff_39 : decode cX2_takeStaff 39 = .ok (.iconst 5, 1) := by decide +kernel
theorem dX2_takeStaff_40 : decode cX2_takeStaff 40 = .ok (.invokestatic 77, 3) := by decide +kernel
theorem dX2_takeStaff_43 : decode cX2_takeStaff 43 = .ok (.ifCond .eq 37, 3) := by decide +kernel
theorem dX2_takeStaff_46 : decode cX2_takeStaff 46 = .ok (.aload_n 0, 1) := by decide +kernel
theorem dX2_takeStaff_47 : decode cX2_takeStaff 47 = .ok (.getfield 14, 3) := by decide +kernel
theorem dX2_takeStaff_50 : decode cX2_takeStaff 50 = .ok (.iconst 2, 1) := by decide +kernel
theorem dX2_takeStaff_51 : decode cX2_takeStaff 51 = .ok (.invokevirtual 84, 3) := by decide +kernel
theorem dX2_takeStaff_54 : decode cX2_takeStaff 54 = .ok (.iconst 1, 1) := by decide +kernel
theorem dX2_takeStaff_55 : decode cX2_takeStaff 55 = .ok (.bipush 10, 2) := by decide +kernel
theorem dX2_takeStaff_57 : decode cX2_takeStaff 57 = .ok (.invokestatic 77, 3) := by decide +kernel
theorem dX2_takeStaff_60 : decode cX2_takeStaff 60 = .ok (.ifCond .eq 20, 3) := by decide +kernel
theorem dX2_takeStaff_63 : decode cX2_takeStaff 63 = .ok (.aload_n 0, 1) := by decide +kernel
theorem dX2_takeStaff_64 : decode cX2_takeStaff 64 = .ok (.getfield 14, 3) := by decide +kernel
theorem dX2_takeStaff_67 : decode cX2_takeStaff 67 = .ok (.iconst 3, 1) := by decide +kernel
theorem dX2_takeStaff_68 : decode cX2_takeStaff 68 = .ok (.invokevirtual 84, 3) := by decide +kernel
theorem dX2_takeStaff_71 : decode cX2_takeStaff 71 = .ok (.iconst 0, 1) := by decide +kernel
theorem dX2_takeStaff_72 : decode cX2_takeStaff 72 = .ok (.bipush 9, 2) := by decide +kernel
theorem dX2_takeStaff_74 : decode cX2_takeStaff 74 = .ok (.invokestatic 77, 3) := by decide +kernel
theorem dX2_takeStaff_77 : decode cX2_takeStaff 77 = .ok (.ifCond .ne 5, 3) := by decide +kernel
theorem dX2_takeStaff_80 : decode cX2_takeStaff 80 = .ok (.iconst 0, 1) := by decide +kernel
theorem dX2_takeStaff_81 : decode cX2_takeStaff 81 = .ok (.ireturn, 1) := by decide +kernel
theorem dX2_takeStaff_82 : decode cX2_takeStaff 82 = .ok (.aload_n 0, 1) := by decide +kernel
theorem dX2_takeStaff_83 : decode cX2_takeStaff 83 = .ok (.getfield 24, 3) := by decide +kernel
theorem dX2_takeStaff_86 : decode cX2_takeStaff 86 = .ok (.getfield 87, 3) := by decide +kernel
theorem dX2_takeStaff_89 : decode cX2_takeStaff 89 = .ok (.iload_n 1, 1) := by decide +kernel
theorem dX2_takeStaff_90 : decode cX2_takeStaff 90 = .ok (.aload_n 0, 1) := by decide +kernel
theorem dX2_takeStaff_91 : decode cX2_takeStaff 91 = .ok (.getfield 14, 3) := by decide +kernel
theorem dX2_takeStaff_94 : decode cX2_takeStaff 94 = .ok (.iconst 0, 1) := by decide +kernel
theorem dX2_takeStaff_95 : decode cX2_takeStaff 95 = .ok (.invokevirtual 84, 3) := by decide +kernel
theorem dX2_takeStaff_98 : decode cX2_takeStaff 98 = .ok (.invokevirtual 70, 3) := by decide +kernel
theorem dX2_takeStaff_101 : decode cX2_takeStaff 101 = .ok (.aload_n 0, 1) := by decide +kernel
theorem dX2_takeStaff_102 : decode cX2_takeStaff 102 = .ok (.getfield 24, 3) := by decide +kernel
theorem dX2_takeStaff_105 : decode cX2_takeStaff 105 = .ok (.getfield 90, 3) := by decide +kernel
theorem dX2_takeStaff_108 : decode cX2_takeStaff 108 = .ok (.iload_n 1, 1) := by decide +kernel
theorem dX2_takeStaff_109 : decode cX2_takeStaff 109 = .ok (.aload_n 0, 1) := by decide +kernel
theorem dX2_takeStaff_110 : decode cX2_takeStaff 110 = .ok (.getfield 14, 3) := by decide +kernel
theorem dX2_takeStaff_113 : decode cX2_takeStaff 113 = .ok (.iconst 1, 1) := by decide +kernel
theorem dX2_takeStaff_114 : decode cX2_takeStaff 114 = .ok (.invokevirtual 84, 3) := by decide +kernel
theorem dX2_takeStaff_117 : decode cX2_takeStaff 117 = .ok (.invokevirtual 70, 3) := by decide +kernel
theorem dX2_takeStaff_120 : decode cX2_takeStaff 120 = .ok (.aload_n 0, 1) := by decide +kernel
theorem dX2_takeStaff_121 : decode cX2_takeStaff 121 = .ok (.getfield 24, 3) := by decide +kernel
theorem dX2_takeStaff_124 : decode cX2_takeStaff 124 = .ok (.getfield 93, 3) := by decide +kernel
theorem dX2_takeStaff_127 : decode cX2_takeStaff 127 = .ok (.iload_n 1, 1) := by decide +kernel
theorem dX2_takeStaff_128 : decode cX2_takeStaff 128 = .ok (.aload_n 0, 1) := by decide +kernel
theorem dX2_takeStaff_129 : decode cX2_takeStaff 129 = .ok (.getfield 14, 3) := by decide +kernel
theorem dX2_takeStaff_132 : decode cX2_takeStaff 132 = .ok (.iconst 2, 1) := by decide +kernel
theorem dX2_takeStaff_133 : decode cX2_takeStaff 133 = .ok (.invokevirtual 84, 3) := by decide +kernel
theorem dX2_takeStaff_136 : decode cX2_takeStaff 136 = .ok (.invokevirtual 70, 3) := by decide +kernel
theorem dX2_takeStaff_139 : decode cX2_takeStaff 139 = .ok (.aload_n 0, 1) := by decide +kernel
theorem dX2_takeStaff_140 : decode cX2_takeStaff 140 = .ok (.getfield 24, 3) := by decide +kernel
theorem dX2_takeStaff_143 : decode cX2_takeStaff 143 = .ok (.getfield 96, 3) := by decide +kernel
theorem dX2_takeStaff_146 : decode cX2_takeStaff 146 = .ok (.iload_n 1, 1) := by decide +kernel
theorem dX2_takeStaff_147 : decode cX2_takeStaff 147 = .ok (.aload_n 0, 1) := by decide +kernel
theorem dX2_takeStaff_148 : decode cX2_takeStaff 148 = .ok (.getfield 14, 3) := by decide +kernel
theorem dX2_takeStaff_151 : decode cX2_takeStaff 151 = .ok (.iconst 3, 1) := by decide +kernel
theorem dX2_takeStaff_152 : decode cX2_takeStaff 152 = .ok (.invokevirtual 84, 3) := by decide +kernel
theorem dX2_takeStaff_155 : decode cX2_takeStaff 155 = .ok (.invokevirtual 70, 3) := by decide +kernel
theorem dX2_takeStaff_158 : decode cX2_takeStaff 158 = .ok (.aload_n 0, 1) := by decide +kernel
theorem dX2_takeStaff_159 : decode cX2_takeStaff 159 = .ok (.getfield 24, 3) := by decide +kernel
theorem dX2_takeStaff_162 : decode cX2_takeStaff 162 = .ok (.iload_n 1, 1) := by decide +kernel
theorem dX2_takeStaff_163 : decode cX2_takeStaff 163 = .ok (.aload_n 0, 1) := by decide +kernel
theorem dX2_takeStaff_164 : decode cX2_takeStaff 164 = .ok (.getfield 14, 3) := by decide +kernel
theorem dX2_takeStaff_167 : decode cX2_takeStaff 167 = .ok (.iconst 1, 1) := by decide +kernel
theorem dX2_takeStaff_168 : decode cX2_takeStaff 168 = .ok (.invokevirtual 84, 3) := by decide +kernel
theorem dX2_takeStaff_171 : decode cX2_takeStaff 171 = .ok (.invokevirtual 99, 3) := by decide +kernel
theorem dX2_takeStaff_174 : decode cX2_takeStaff 174 = .ok (.aload_n 0, 1) := by decide +kernel
theorem dX2_takeStaff_175 : decode cX2_takeStaff 175 = .ok (.getfield 24, 3) := by decide +kernel
theorem dX2_takeStaff_178 : decode cX2_takeStaff 178 = .ok (.iload_n 1, 1) := by decide +kernel
theorem dX2_takeStaff_179 : decode cX2_takeStaff 179 = .ok (.aload_n 0, 1) := by decide +kernel
theorem dX2_takeStaff_180 : decode cX2_takeStaff 180 = .ok (.getfield 14, 3) := by decide +kernel
theorem dX2_takeStaff_183 : decode cX2_takeStaff 183 = .ok (.iconst 1, 1) := by decide +kernel
theorem dX2_takeStaff_184 : decode cX2_takeStaff 184 = .ok (.invokevirtual 84, 3) := by decide +kernel
theorem dX2_takeStaff_187 : decode cX2_takeStaff 187 = .ok (.iconst 1, 1) := by decide +kernel
theorem dX2_takeStaff_188 : decode cX2_takeStaff 188 = .ok (.iadd, 1) := by decide +kernel
theorem dX2_takeStaff_189 : decode cX2_takeStaff 189 = .ok (.bipush 6, 2) := by decide +kernel
theorem dX2_takeStaff_191 : decode cX2_takeStaff 191 = .ok (.invokestatic 102, 3) := by decide +kernel
theorem dX2_takeStaff_194 : decode cX2_takeStaff 194 = .ok (.invokevirtual 99, 3) := by decide +kernel
theorem dX2_takeStaff_197 : decode cX2_takeStaff 197 = .ok (.aload_n 0, 1) := by decide +kernel
theorem dX2_takeStaff_198 : decode cX2_takeStaff 198 = .ok (.getfield 24, 3) := by decide +kernel
theorem dX2_takeStaff_201 : decode cX2_takeStaff 201 = .ok (.iload_n 1, 1) := by decide +kernel
theorem dX2_takeStaff_202 : decode cX2_takeStaff 202 = .ok (.iconst 1, 1) := by decide +kernel
theorem dX2_takeStaff_203 : decode cX2_takeStaff 203 = .ok (.iadd, 1) := by decide +kernel
theorem dX2_takeStaff_204 : decode cX2_takeStaff 204 = .ok (.putfield 81, 3) := by decide +kernel
theorem dX2_takeStaff_207 : decode cX2_takeStaff 207 = .ok (.iconst 1, 1) := by decide +kernel
theorem dX2_takeStaff_208 : decode cX2_takeStaff 208 = .ok (.ireturn, 1) := by decide +kernel
theorem dX2_takeQuarrel_0 : decode cX2_takeQuarrel 0 = .ok (.aload_n 0, 1) := by decide +kernel
theorem dX2_takeQuarrel_1 : decode cX2_takeQuarrel 1 = .ok (.getfield 14, 3) := by decide +kernel
theorem dX2_takeQuarrel_4 : decode cX2_takeQuarrel 4 = .ok (.iconst 0, 1) := by decide +kernel
theorem dX2_takeQuarrel_5 : decode cX2_takeQuarrel 5 = .ok (.invokevirtual 84, 3) := by decide +kernel
theorem dX2_takeQuarrel_8 : decode cX2_takeQuarrel 8 = .ok (.istore_n 1, 1) := by decide +kernel
theorem dX2_takeQuarrel_9 : decode cX2_takeQuarrel 9 = .ok (.aload_n 0, 1) := by decide +kernel
theorem dX2_takeQuarrel_10 : decode cX2_takeQuarrel 10 = .ok (.getfield 14, 3) := by decide +kernel
theorem dX2_takeQuarrel_13 : decode cX2_takeQuarrel 13 = .ok (.iconst 1, 1) := by decide +kernel
theorem dX2_takeQuarrel_14 : decode cX2_takeQuarrel 14 = .ok (.invokevirtual 84, 3) := by decide +kernel
theorem dX2_takeQuarrel_17 : decode cX2_takeQuarrel 17 = .ok (.istore_n 2, 1) := by decide +kernel
theorem dX2_takeQuarrel_18 : decode cX2_takeQuarrel 18 = .ok (.iload_n 1, 1) := by decide +kernel
theorem dX2_takeQuarrel_19 : decode cX2_takeQuarrel 19 = .ok (.iload_n 2, 1) := by decide +kernel
theorem dX2_takeQuarrel_20 : decode cX2_takeQuarrel 20 = .ok (.if_icmp .eq 18, 3) := by decide +kernel
theorem dX2_takeQuarrel_23 : decode cX2_takeQuarrel 23 = .ok (.iload_n 1, 1) := by decide +kernel
theorem dX2_takeQuarrel_24 : decode cX2_takeQuarrel 24 = .ok (.iload_n 2, 1) := by decide +kernel
theorem dX2_takeQuarrel_25 : decode cX2_takeQuarrel 25 = .ok (.invokestatic 106, 3) := by decide +kernel
theorem dX2_takeQuarrel_28 : decode cX2_takeQuarrel 28 = .ok (.aload_n 0, 1) := by decide +kernel
theorem dX2_takeQuarrel_29 : decode cX2_takeQuarrel 29 = .ok (.getfield 24, 3) := by decide +kernel
theorem dX2_takeQuarrel_32 : decode cX2_takeQuarrel 32 = .ok (.getfield 81, 3) := by decide +kernel
theorem dX2_takeQuarrel_35 : decode cX2_takeQuarrel 35 = .ok (.if_icmp .lt 5, 3) := by decide +kernel
theorem dX2_takeQuarrel_38 : decode cX2_takeQuarrel 38 = .ok (.iconst 0, 1) := by decide +kernel
theorem dX2_takeQuarrel_39 : decode cX2_takeQuarrel 39 = .ok (.ireturn, 1) := by decide +kernel
theorem dX2_takeQuarrel_40 : decode cX2_takeQuarrel 40 = .ok (.aload_n 0, 1) := by decide +kernel
theorem dX2_takeQuarrel_41 : decode cX2_takeQuarrel 41 = .ok (.getfield 24, 3) := by decide +kernel
theorem dX2_takeQuarrel_44 : decode cX2_takeQuarrel 44 = .ok (.dup, 1) := by decide +kernel
theorem dX2_takeQuarrel_45 : decode cX2_takeQuarrel 45 = .ok (.getfield 111, 3) := by decide +kernel
theorem dX2_takeQuarrel_48 : decode cX2_takeQuarrel 48 = .ok (.iconst 1, 1) := by decide +kernel
theorem dX2_takeQuarrel_49 : decode cX2_takeQuarrel 49 = .ok (.iload_n 1, 1) := by decide +kernel
theorem dX2_takeQuarrel_50 : decode cX2_takeQuarrel 50 = .ok (.iload_n 2, 1) := by decide +kernel
theorem dX2_takeQuarrel_51 : decode cX2_takeQuarrel 51 = .ok (.invokestatic 114, 3) := by decide +kernel
theorem dX2_takeQuarrel_54 : decode cX2_takeQuarrel 54 = .ok (.ishl, 1) := by decide +kernel
theorem dX2_takeQuarrel_55 : decode cX2_takeQuarrel 55 = .ok (.ixor, 1) := by decide +kernel
theorem dX2_takeQuarrel_56 : decode cX2_takeQuarrel 56 = .ok (.putfield 111, 3) := by decide +kernel
theorem dX2_takeQuarrel_59 : decode cX2_takeQuarrel 59 = .ok (.aload_n 0, 1) := by decide +kernel
theorem dX2_takeQuarrel_60 : decode cX2_takeQuarrel 60 = .ok (.getfield 24, 3) := by decide +kernel
theorem dX2_takeQuarrel_63 : decode cX2_takeQuarrel 63 = .ok (.getfield 111, 3) := by decide +kernel
theorem dX2_takeQuarrel_66 : decode cX2_takeQuarrel 66 = .ok (.invokestatic 117, 3) := by decide +kernel
theorem dX2_takeQuarrel_69 : decode cX2_takeQuarrel 69 = .ok (.bipush 6, 2) := by decide +kernel
theorem dX2_takeQuarrel_71 : decode cX2_takeQuarrel 71 = .ok (.if_icmp .gt 7, 3) := by decide +kernel
theorem dX2_takeQuarrel_74 : decode cX2_takeQuarrel 74 = .ok (.iconst 1, 1) := by decide +kernel
theorem dX2_takeQuarrel_75 : decode cX2_takeQuarrel 75 = .ok (.goto 4, 3) := by decide +kernel
theorem dX2_takeQuarrel_78 : decode cX2_takeQuarrel 78 = .ok (.iconst 0, 1) := by decide +kernel
theorem dX2_takeQuarrel_79 : decode cX2_takeQuarrel 79 = .ok (.ireturn, 1) := by decide +kernel
theorem dX2_takeCustomer_0 : decode cX2_takeCustomer 0 = .ok (.aload_n 0, 1) := by decide +kernel
theorem dX2_takeCustomer_1 : decode cX2_takeCustomer 1 = .ok (.getfield 24, 3) := by decide +kernel
theorem dX2_takeCustomer_4 : decode cX2_takeCustomer 4 = .ok (.getfield 122, 3) := by decide +kernel
theorem dX2_takeCustomer_7 : decode cX2_takeCustomer 7 = .ok (.istore_n 1, 1) := by decide +kernel
theorem dX2_takeCustomer_8 : decode cX2_takeCustomer 8 = .ok (.iload_n 1, 1) := by decide +kernel
theorem dX2_takeCustomer_9 : decode cX2_takeCustomer 9 = .ok (.bipush 10, 2) := by decide +kernel
theorem dX2_takeCustomer_11 : decode cX2_takeCustomer 11 = .ok (.if_icmp .ge 69, 3) := by decide +kernel
theorem dX2_takeCustomer_14 : decode cX2_takeCustomer 14 = .ok (.aload_n 0, 1) := by decide +kernel
theorem dX2_takeCustomer_15 : decode cX2_takeCustomer 15 = .ok (.getfield 14, 3) := by decide +kernel
theorem dX2_takeCustomer_18 : decode cX2_takeCustomer 18 = .ok (.iconst 0, 1) := by decide +kernel
theorem dX2_takeCustomer_19 : decode cX2_takeCustomer 19 = .ok (.invokevirtual 84, 3) := by decide +kernel
theorem dX2_takeCustomer_22 : decode cX2_takeCustomer 22 = .ok (.iconst 0, 1) := by decide +kernel
theorem dX2_takeCustomer_23 : decode cX2_takeCustomer 23 = .ok (.bipush 13, 2) := by decide +kernel
theorem dX2_takeCustomer_25 : decode cX2_takeCustomer 25 = .ok (.invokestatic 77, 3) := by decide +kernel
theorem dX2_takeCustomer_28 : decode cX2_takeCustomer 28 = .ok (.ifCond .eq 52, 3) := by decide +kernel
theorem dX2_takeCustomer_31 : decode cX2_takeCustomer 31 = .ok (.aload_n 0, 1) := by decide +kernel
theorem dX2_takeCustomer_32 : decode cX2_takeCustomer 32 = .ok (.getfield 14, 3) := by decide +kernel
theorem dX2_takeCustomer_35 : decode cX2_takeCustomer 35 = .ok (.iconst 1, 1) := by decide +kernel
theorem dX2_takeCustomer_36 : decode cX2_takeCustomer 36 = .ok (.invokevirtual 84, 3) := by decide +kernel
theorem dX2_takeCustomer_39 : decode cX2_takeCustomer 39 = .ok (.iconst 0, 1) := by decide +kernel
theorem dX2_takeCustomer_40 : decode cX2_takeCustomer 40 = .ok (.iconst 5, 1) := by decide +kernel
theorem dX2_takeCustomer_41 : decode cX2_takeCustomer 41 = .ok (.invokestatic 77, 3) := by decide +kernel
theorem dX2_takeCustomer_44 : decode cX2_takeCustomer 44 = .ok (.ifCond .eq 36, 3) := by decide +kernel
theorem dX2_takeCustomer_47 : decode cX2_takeCustomer 47 = .ok (.aload_n 0, 1) := by decide +kernel
theorem dX2_takeCustomer_48 : decode cX2_takeCustomer 48 = .ok (.getfield 14, 3) := by decide +kernel
theorem dX2_takeCustomer_51 : decode cX2_takeCustomer 51 = .ok (.iconst 2, 1) := by decide +kernel
theorem dX2_takeCustomer_52 : decode cX2_takeCustomer 52 = .ok (.invokevirtual 84, 3) := by decide +kernel
theorem dX2_takeCustomer_55 : decode cX2_takeCustomer 55 = .ok (.iconst 0, 1) := by decide +kernel
theorem dX2_takeCustomer_56 : decode cX2_takeCustomer 56 = .ok (.iconst 3, 1) := by decide +kernel
theorem dX2_takeCustomer_57 : decode cX2_takeCustomer 57 = .ok (.invokestatic 77, 3) := by decide +kernel
theorem dX2_takeCustomer_60 : decode cX2_takeCustomer 60 = .ok (.ifCond .eq 20, 3) := by decide +kernel
theorem dX2_takeCustomer_63 : decode cX2_takeCustomer 63 = .ok (.aload_n 0, 1) := by decide +kernel
theorem dX2_takeCustomer_64 : decode cX2_takeCustomer 64 = .ok (.getfield 14, 3) := by decide +kernel
theorem dX2_takeCustomer_67 : decode cX2_takeCustomer 67 = .ok (.iconst 3, 1) := by decide +kernel
theorem dX2_takeCustomer_68 : decode cX2_takeCustomer 68 = .ok (.invokevirtual 84, 3) := by decide +kernel
theorem dX2_takeCustomer_71 : decode cX2_takeCustomer 71 = .ok (.iconst 1, 1) := by decide +kernel
theorem dX2_takeCustomer_72 : decode cX2_takeCustomer 72 = .ok (.bipush 60, 2) := by decide +kernel
theorem dX2_takeCustomer_74 : decode cX2_takeCustomer 74 = .ok (.invokestatic 77, 3) := by decide +kernel
theorem dX2_takeCustomer_77 : decode cX2_takeCustomer 77 = .ok (.ifCond .ne 5, 3) := by decide +kernel
theorem dX2_takeCustomer_80 : decode cX2_takeCustomer 80 = .ok (.iconst 0, 1) := by decide +kernel
theorem dX2_takeCustomer_81 : decode cX2_takeCustomer 81 = .ok (.ireturn, 1) := by decide +kernel
theorem dX2_takeCustomer_82 : decode cX2_takeCustomer 82 = .ok (.aload_n 0, 1) := by decide +kernel
theorem dX2_takeCustomer_83 : decode cX2_takeCustomer 83 = .ok (.getfield 24, 3) := by decide +kernel
theorem dX2_takeCustomer_86 : decode cX2_takeCustomer 86 = .ok (.getfield 125, 3) := by decide +kernel
theorem dX2_takeCustomer_89 : decode cX2_takeCustomer 89 = .ok (.iload_n 1, 1) := by decide +kernel
theorem dX2_takeCustomer_90 : decode cX2_takeCustomer 90 = .ok (.aload_n 0, 1) := by decide +kernel
theorem dX2_takeCustomer_91 : decode cX2_takeCustomer 91 = .ok (.getfield 14, 3) := by decide +kernel
theorem dX2_takeCustomer_94 : decode cX2_takeCustomer 94 = .ok (.iconst 0, 1) := by decide +kernel
theorem dX2_takeCustomer_95 : decode cX2_takeCustomer 95 = .ok (.invokevirtual 84, 3) := by decide +kernel
theorem dX2_takeCustomer_98 : decode cX2_takeCustomer 98 = .ok (.invokevirtual 70, 3) := by decide +kernel
theorem dX2_takeCustomer_101 : decode cX2_takeCustomer 101 = .ok (.aload_n 0, 1) := by decide +kernel
theorem dX2_takeCustomer_102 : decode cX2_takeCustomer 102 = .ok (.getfield 24, 3) := by decide +kernel
theorem dX2_takeCustomer_105 : decode cX2_takeCustomer 105 = .ok (.getfield 128, 3) := by decide +kernel
theorem dX2_takeCustomer_108 : decode cX2_takeCustomer 108 = .ok (.iload_n 1, 1) := by decide +kernel
theorem dX2_takeCustomer_109 : decode cX2_takeCustomer 109 = .ok (.aload_n 0, 1) := by decide +kernel
theorem dX2_takeCustomer_110 : decode cX2_takeCustomer 110 = .ok (.getfield 14, 3) := by decide +kernel
theorem dX2_takeCustomer_113 : decode cX2_takeCustomer 113 = .ok (.iconst 1, 1) := by decide +kernel
theorem dX2_takeCustomer_114 : decode cX2_takeCustomer 114 = .ok (.invokevirtual 84, 3) := by decide +kernel
theorem dX2_takeCustomer_117 : decode cX2_takeCustomer 117 = .ok (.invokevirtual 70, 3) := by decide +kernel
theorem dX2_takeCustomer_120 : decode cX2_takeCustomer 120 = .ok (.aload_n 0, 1) := by decide +kernel
theorem dX2_takeCustomer_121 : decode cX2_takeCustomer 121 = .ok (.getfield 24, 3) := by decide +kernel
theorem dX2_takeCustomer_124 : decode cX2_takeCustomer 124 = .ok (.getfield 131, 3) := by decide +kernel
theorem dX2_takeCustomer_127 : decode cX2_takeCustomer 127 = .ok (.iload_n 1, 1) := by decide +kernel
theorem dX2_takeCustomer_128 : decode cX2_takeCustomer 128 = .ok (.aload_n 0, 1) := by decide +kernel
theorem dX2_takeCustomer_129 : decode cX2_takeCustomer 129 = .ok (.getfield 14, 3) := by decide +kernel
theorem dX2_takeCustomer_132 : decode cX2_takeCustomer 132 = .ok (.iconst 2, 1) := by decide +kernel
theorem dX2_takeCustomer_133 : decode cX2_takeCustomer 133 = .ok (.invokevirtual 84, 3) := by decide +kernel
theorem dX2_takeCustomer_136 : decode cX2_takeCustomer 136 = .ok (.invokevirtual 70, 3) := by decide +kernel
theorem dX2_takeCustomer_139 : decode cX2_takeCustomer 139 = .ok (.aload_n 0, 1) := by decide +kernel
theorem dX2_takeCustomer_140 : decode cX2_takeCustomer 140 = .ok (.getfield 24, 3) := by decide +kernel
theorem dX2_takeCustomer_143 : decode cX2_takeCustomer 143 = .ok (.getfield 134, 3) := by decide +kernel
theorem dX2_takeCustomer_146 : decode cX2_takeCustomer 146 = .ok (.iload_n 1, 1) := by decide +kernel
theorem dX2_takeCustomer_147 : decode cX2_takeCustomer 147 = .ok (.aload_n 0, 1) := by decide +kernel
theorem dX2_takeCustomer_148 : decode cX2_takeCustomer 148 = .ok (.getfield 14, 3) := by decide +kernel
theorem dX2_takeCustomer_151 : decode cX2_takeCustomer 151 = .ok (.iconst 3, 1) := by decide +kernel
theorem dX2_takeCustomer_152 : decode cX2_takeCustomer 152 = .ok (.invokevirtual 84, 3) := by decide +kernel
theorem dX2_takeCustomer_155 : decode cX2_takeCustomer 155 = .ok (.invokevirtual 70, 3) := by decide +kernel
theorem dX2_takeCustomer_158 : decode cX2_takeCustomer 158 = .ok (.aload_n 0, 1) := by decide +kernel
theorem dX2_takeCustomer_159 : decode cX2_takeCustomer 159 = .ok (.getfield 24, 3) := by decide +kernel
theorem dX2_takeCustomer_162 : decode cX2_takeCustomer 162 = .ok (.iload_n 1, 1) := by decide +kernel
theorem dX2_takeCustomer_163 : decode cX2_takeCustomer 163 = .ok (.iconst 1, 1) := by decide +kernel
theorem dX2_takeCustomer_164 : decode cX2_takeCustomer 164 = .ok (.iadd, 1) := by decide +kernel
theorem dX2_takeCustomer_165 : decode cX2_takeCustomer 165 = .ok (.putfield 122, 3) := by decide +kernel
theorem dX2_takeCustomer_168 : decode cX2_takeCustomer 168 = .ok (.iconst 1, 1) := by decide +kernel
theorem dX2_takeCustomer_169 : decode cX2_takeCustomer 169 = .ok (.ireturn, 1) := by decide +kernel
theorem dX2_takeDog_0 : decode cX2_takeDog 0 = .ok (.aload_n 0, 1) := by decide +kernel
theorem dX2_takeDog_1 : decode cX2_takeDog 1 = .ok (.getfield 24, 3) := by decide +kernel
theorem dX2_takeDog_4 : decode cX2_takeDog 4 = .ok (.aload_n 0, 1) := by decide +kernel
theorem dX2_takeDog_5 : decode cX2_takeDog 5 = .ok (.getfield 14, 3) := by decide +kernel
theorem dX2_takeDog_8 : decode cX2_takeDog 8 = .ok (.iconst 0, 1) := by decide +kernel
theorem dX2_takeDog_9 : decode cX2_takeDog 9 = .ok (.invokevirtual 84, 3) := by decide +kernel
theorem dX2_takeDog_12 : decode cX2_takeDog 12 = .ok (.putfield 137, 3) := by decide +kernel
theorem dX2_takeDog_15 : decode cX2_takeDog 15 = .ok (.aload_n 0, 1) := by decide +kernel
theorem dX2_takeDog_16 : decode cX2_takeDog 16 = .ok (.getfield 24, 3) := by decide +kernel
theorem dX2_takeDog_19 : decode cX2_takeDog 19 = .ok (.getfield 137, 3) := by decide +kernel
theorem dX2_takeDog_22 : decode cX2_takeDog 22 = .ok (.iconst 1, 1) := by decide +kernel
theorem dX2_takeDog_23 : decode cX2_takeDog 23 = .ok (.bipush 10, 2) := by decide +kernel
theorem dX2_takeDog_25 : decode cX2_takeDog 25 = .ok (.invokestatic 77, 3) := by decide +kernel
theorem dX2_takeDog_28 : decode cX2_takeDog 28 = .ok (.ireturn, 1) := by decide +kernel
theorem dX3_init_0 : decode cX3_init 0 = .ok (.aload_n 0, 1) := by decide +kernel
theorem dX3_init_1 : decode cX3_init 1 = .ok (.invokespecial 1, 3) := by decide +kernel
theorem dX3_init_4 : decode cX3_init 4 = .ok (.aload_n 0, 1) := by decide +kernel
theorem dX3_init_5 : decode cX3_init 5 = .ok (.iload_n 1, 1) := by decide +kernel
theorem dX3_init_6 : decode cX3_init 6 = .ok (.ifCond .le 7, 3) := by decide +kernel
theorem dX3_init_9 : decode cX3_init 9 = .ok (.iload_n 1, 1) := by decide +kernel
theorem dX3_init_10 : decode cX3_init 10 = .ok (.goto 4, 3) := by decide +kernel
theorem dX3_init_13 : decode cX3_init 13 = .ok (.iconst 0, 1) := by decide +kernel
theorem dX3_init_14 : decode cX3_init 14 = .ok (.newarray .int, 2) := by decide +kernel
theorem dX3_init_16 : decode cX3_init 16 = .ok (.putfield 7, 3) := by decide +kernel
theorem dX3_init_19 : decode cX3_init 19 = .ok (.return_, 1) := by decide +kernel
theorem dX3_at_0 : decode cX3_at 0 = .ok (.iload_n 1, 1) := by decide +kernel
theorem dX3_at_1 : decode cX3_at 1 = .ok (.ifCond .lt 21, 3) := by decide +kernel
theorem dX3_at_4 : decode cX3_at 4 = .ok (.iload_n 1, 1) := by decide +kernel
theorem dX3_at_5 : decode cX3_at 5 = .ok (.aload_n 0, 1) := by decide +kernel
theorem dX3_at_6 : decode cX3_at 6 = .ok (.getfield 7, 3) := by decide +kernel
theorem dX3_at_9 : decode cX3_at 9 = .ok (.arraylength, 1) := by decide +kernel
theorem dX3_at_10 : decode cX3_at 10 = .ok (.if_icmp .ge 12, 3) := by decide +kernel
theorem dX3_at_13 : decode cX3_at 13 = .ok (.aload_n 0, 1) := by decide +kernel
theorem dX3_at_14 : decode cX3_at 14 = .ok (.getfield 7, 3) := by decide +kernel
theorem dX3_at_17 : decode cX3_at 17 = .ok (.iload_n 1, 1) := by decide +kernel
theorem dX3_at_18 : decode cX3_at 18 = .ok (.iaload, 1) := by decide +kernel
theorem dX3_at_19 : decode cX3_at 19 = .ok (.goto 4, 3) := by decide +kernel
theorem dX3_at_22 : decode cX3_at 22 = .ok (.iconst 0, 1) := by decide +kernel
theorem dX3_at_23 : decode cX3_at 23 = .ok (.ireturn, 1) := by decide +kernel
theorem dX3_put_0 : decode cX3_put 0 = .ok (.iload_n 1, 1) := by decide +kernel
theorem dX3_put_1 : decode cX3_put 1 = .ok (.ifCond .lt 19, 3) := by decide +kernel
theorem dX3_put_4 : decode cX3_put 4 = .ok (.iload_n 1, 1) := by decide +kernel
theorem dX3_put_5 : decode cX3_put 5 = .ok (.aload_n 0, 1) := by decide +kernel
theorem dX3_put_6 : decode cX3_put 6 = .ok (.getfield 7, 3) := by decide +kernel
theorem dX3_put_9 : decode cX3_put 9 = .ok (.arraylength, 1) := by decide +kernel
theorem dX3_put_10 : decode cX3_put 10 = .ok (.if_icmp .ge 10, 3) := by decide +kernel
theorem dX3_put_13 : decode cX3_put 13 = .ok (.aload_n 0, 1) := by decide +kernel
theorem dX3_put_14 : decode cX3_put 14 = .ok (.getfield 7, 3) := by decide +kernel
theorem dX3_put_17 : decode cX3_put 17 = .ok (.iload_n 1, 1) := by decide +kernel
theorem dX3_put_18 : decode cX3_put 18 = .ok (.iload_n 2, 1) := by decide +kernel
theorem dX3_put_19 : decode cX3_put 19 = .ok (.iastore, 1) := by decide +kernel
theorem dX3_put_20 : decode cX3_put 20 = .ok (.return_, 1) := by decide +kernel
theorem dX3_fill_0 : decode cX3_fill 0 = .ok (.iconst 0, 1) := by decide +kernel
theorem dX3_fill_1 : decode cX3_fill 1 = .ok (.istore_n 2, 1) := by decide +kernel
theorem dX3_fill_2 : decode cX3_fill 2 = .ok (.iload_n 2, 1) := by decide +kernel
theorem dX3_fill_3 : decode cX3_fill 3 = .ok (.aload_n 0, 1) := by decide +kernel
theorem dX3_fill_4 : decode cX3_fill 4 = .ok (.getfield 7, 3) := by decide +kernel
theorem dX3_fill_7 : decode cX3_fill 7 = .ok (.arraylength, 1) := by decide +kernel
theorem dX3_fill_8 : decode cX3_fill 8 = .ok (.if_icmp .ge 16, 3) := by decide +kernel
theorem dX3_fill_11 : decode cX3_fill 11 = .ok (.aload_n 0, 1) := by decide +kernel
theorem dX3_fill_12 : decode cX3_fill 12 = .ok (.getfield 7, 3) := by decide +kernel
theorem dX3_fill_15 : decode cX3_fill 15 = .ok (.iload_n 2, 1) := by decide +kernel
theorem dX3_fill_16 : decode cX3_fill 16 = .ok (.iload_n 1, 1) := by decide +kernel
theorem dX3_fill_17 : decode cX3_fill 17 = .ok (.iastore, 1) := by decide +kernel
theorem dX3_fill_18 : decode cX3_fill 18 = .ok (.iinc 2 1, 3) := by decide +kernel
theorem dX3_fill_21 : decode cX3_fill 21 = .ok (.goto (-19), 3) := by decide +kernel
theorem dX3_fill_24 : decode cX3_fill 24 = .ok (.return_, 1) := by decide +kernel
theorem dX3_copy_0 : decode cX3_copy 0 = .ok (.iconst 0, 1) := by decide +kernel
theorem dX3_copy_1 : decode cX3_copy 1 = .ok (.istore_n 2, 1) := by decide +kernel
theorem dX3_copy_2 : decode cX3_copy 2 = .ok (.iload_n 2, 1) := by decide +kernel
theorem dX3_copy_3 : decode cX3_copy 3 = .ok (.aload_n 0, 1) := by decide +kernel
theorem dX3_copy_4 : decode cX3_copy 4 = .ok (.getfield 7, 3) := by decide +kernel
theorem dX3_copy_7 : decode cX3_copy 7 = .ok (.arraylength, 1) := by decide +kernel
theorem dX3_copy_8 : decode cX3_copy 8 = .ok (.if_icmp .ge 20, 3) := by decide +kernel
theorem dX3_copy_11 : decode cX3_copy 11 = .ok (.aload_n 0, 1) := by decide +kernel
theorem dX3_copy_12 : decode cX3_copy 12 = .ok (.getfield 7, 3) := by decide +kernel
theorem dX3_copy_15 : decode cX3_copy 15 = .ok (.iload_n 2, 1) := by decide +kernel
theorem dX3_copy_16 : decode cX3_copy 16 = .ok (.aload_n 1, 1) := by decide +kernel
theorem dX3_copy_17 : decode cX3_copy 17 = .ok (.iload_n 2, 1) := by decide +kernel
theorem dX3_copy_18 : decode cX3_copy 18 = .ok (.invokevirtual 13, 3) := by decide +kernel
theorem dX3_copy_21 : decode cX3_copy 21 = .ok (.iastore, 1) := by decide +kernel
theorem dX3_copy_22 : decode cX3_copy 22 = .ok (.iinc 2 1, 3) := by decide +kernel
theorem dX3_copy_25 : decode cX3_copy 25 = .ok (.goto (-23), 3) := by decide +kernel
theorem dX3_copy_28 : decode cX3_copy 28 = .ok (.return_, 1) := by decide +kernel
theorem dX4_init_0 : decode cX4_init 0 = .ok (.aload_n 0, 1) := by decide +kernel
theorem dX4_init_1 : decode cX4_init 1 = .ok (.invokespecial 1, 3) := by decide +kernel
theorem dX4_init_4 : decode cX4_init 4 = .ok (.aload_n 0, 1) := by decide +kernel
theorem dX4_init_5 : decode cX4_init 5 = .ok (.iload_n 1, 1) := by decide +kernel
theorem dX4_init_6 : decode cX4_init 6 = .ok (.ifCond .le 7, 3) := by decide +kernel
theorem dX4_init_9 : decode cX4_init 9 = .ok (.iload_n 1, 1) := by decide +kernel
theorem dX4_init_10 : decode cX4_init 10 = .ok (.goto 4, 3) := by decide +kernel
theorem dX4_init_13 : decode cX4_init 13 = .ok (.iconst 0, 1) := by decide +kernel
theorem dX4_init_14 : decode cX4_init 14 = .ok (.anewarray 7, 3) := by decide +kernel
theorem dX4_init_17 : decode cX4_init 17 = .ok (.putfield 9, 3) := by decide +kernel
theorem dX4_init_20 : decode cX4_init 20 = .ok (.iconst 0, 1) := by decide +kernel
theorem dX4_init_21 : decode cX4_init 21 = .ok (.istore_n 2, 1) := by decide +kernel
theorem dX4_init_22 : decode cX4_init 22 = .ok (.iload_n 2, 1) := by decide +kernel
theorem dX4_init_23 : decode cX4_init 23 = .ok (.aload_n 0, 1) := by decide +kernel
theorem dX4_init_24 : decode cX4_init 24 = .ok (.getfield 9, 3) := by decide +kernel
theorem dX4_init_27 : decode cX4_init 27 = .ok (.arraylength, 1) := by decide +kernel
theorem dX4_init_28 : decode cX4_init 28 = .ok (.if_icmp .ge 22, 3) := by decide +kernel
theorem dX4_init_31 : decode cX4_init 31 = .ok (.aload_n 0, 1) := by decide +kernel
theorem dX4_init_32 : decode cX4_init 32 = .ok (.getfield 9, 3) := by decide +kernel
theorem dX4_init_35 : decode cX4_init 35 = .ok (.iload_n 2, 1) := by decide +kernel
theorem dX4_init_36 : decode cX4_init 36 = .ok (.new 7, 3) := by decide +kernel
theorem dX4_init_39 : decode cX4_init 39 = .ok (.dup, 1) := by decide +kernel
theorem dX4_init_40 : decode cX4_init 40 = .ok (.invokespecial 15, 3) := by decide +kernel
theorem dX4_init_43 : decode cX4_init 43 = .ok (.aastore, 1) := by decide +kernel
theorem dX4_init_44 : decode cX4_init 44 = .ok (.iinc 2 1, 3) := by decide +kernel
theorem dX4_init_47 : decode cX4_init 47 = .ok (.goto (-25), 3) := by decide +kernel
theorem dX4_init_50 : decode cX4_init 50 = .ok (.return_, 1) := by decide +kernel
theorem dX4_clear_0 : decode cX4_clear 0 = .ok (.aload_n 0, 1) := by decide +kernel
theorem dX4_clear_1 : decode cX4_clear 1 = .ok (.iconst 0, 1) := by decide +kernel
theorem dX4_clear_2 : decode cX4_clear 2 = .ok (.putfield 16, 3) := by decide +kernel
theorem dX4_clear_5 : decode cX4_clear 5 = .ok (.return_, 1) := by decide +kernel
theorem dX4_put_0 : decode cX4_put 0 = .ok (.aload_n 0, 1) := by decide +kernel
theorem dX4_put_1 : decode cX4_put 1 = .ok (.getfield 16, 3) := by decide +kernel
theorem dX4_put_4 : decode cX4_put 4 = .ok (.aload_n 0, 1) := by decide +kernel
theorem dX4_put_5 : decode cX4_put 5 = .ok (.getfield 9, 3) := by decide +kernel
theorem dX4_put_8 : decode cX4_put 8 = .ok (.arraylength, 1) := by decide +kernel
theorem dX4_put_9 : decode cX4_put 9 = .ok (.if_icmp .lt 7, 3) := by decide +kernel
theorem dX4_put_12 : decode cX4_put 12 = .ok (.aload_n 0, 1) := by decide +kernel
theorem dX4_put_13 : decode cX4_put 13 = .ok (.invokevirtual 20, 3) := by decide +kernel
theorem dX4_put_16 : decode cX4_put 16 = .ok (.aload_n 0, 1) := by decide +kernel
theorem dX4_put_17 : decode cX4_put 17 = .ok (.getfield 16, 3) := by decide +kernel
theorem dX4_put_20 : decode cX4_put 20 = .ok (.ifCond .lt 50, 3) := by decide +kernel
theorem dX4_put_23 : decode cX4_put 23 = .ok (.aload_n 0, 1) := by decide +kernel
theorem dX4_put_24 : decode cX4_put 24 = .ok (.getfield 16, 3) := by decide +kernel
theorem dX4_put_27 : decode cX4_put 27 = .ok (.aload_n 0, 1) := by decide +kernel
theorem dX4_put_28 : decode cX4_put 28 = .ok (.getfield 9, 3) := by decide +kernel
theorem dX4_put_31 : decode cX4_put 31 = .ok (.arraylength, 1) := by decide +kernel
theorem dX4_put_32 : decode cX4_put 32 = .ok (.if_icmp .ge 38, 3) := by decide +kernel
theorem dX4_put_35 : decode cX4_put 35 = .ok (.aload_n 0, 1) := by decide +kernel
theorem dX4_put_36 : decode cX4_put 36 = .ok (.getfield 9, 3) := by decide +kernel
theorem dX4_put_39 : decode cX4_put 39 = .ok (.aload_n 0, 1) := by decide +kernel
theorem dX4_put_40 : decode cX4_put 40 = .ok (.getfield 16, 3) := by decide +kernel
theorem dX4_put_43 : decode cX4_put 43 = .ok (.aaload, 1) := by decide +kernel
theorem dX4_put_44 : decode cX4_put 44 = .ok (.ifnull 26, 3) := by decide +kernel
theorem dX4_put_47 : decode cX4_put 47 = .ok (.aload_n 0, 1) := by decide +kernel
theorem dX4_put_48 : decode cX4_put 48 = .ok (.getfield 9, 3) := by decide +kernel
theorem dX4_put_51 : decode cX4_put 51 = .ok (.aload_n 0, 1) := by decide +kernel
theorem dX4_put_52 : decode cX4_put 52 = .ok (.getfield 16, 3) := by decide +kernel
theorem dX4_put_55 : decode cX4_put 55 = .ok (.aaload, 1) := by decide +kernel
theorem dX4_put_56 : decode cX4_put 56 = .ok (.aload_n 1, 1) := by decide +kernel
theorem dX4_put_57 : decode cX4_put 57 = .ok (.invokevirtual 23, 3) := by decide +kernel
theorem dX4_put_60 : decode cX4_put 60 = .ok (.aload_n 0, 1) := by decide +kernel
theorem dX4_put_61 : decode cX4_put 61 = .ok (.dup, 1) := by decide +kernel
theorem dX4_put_62 : decode cX4_put 62 = .ok (.getfield 16, 3) := by decide +kernel
theorem dX4_put_65 : decode cX4_put 65 = .ok (.iconst 1, 1) := by decide +kernel
theorem dX4_put_66 : decode cX4_put 66 = .ok (.iadd, 1) := by decide +kernel
theorem dX4_put_67 : decode cX4_put 67 = .ok (.putfield 16, 3) := by decide +kernel
theorem dX4_put_70 : decode cX4_put 70 = .ok (.return_, 1) := by decide +kernel
theorem dX4_dropOldest_0 : decode cX4_dropOldest 0 = .ok (.aload_n 0, 1) := by decide +kernel
theorem dX4_dropOldest_1 : decode cX4_dropOldest 1 = .ok (.getfield 9, 3) := by decide +kernel
theorem dX4_dropOldest_4 : decode cX4_dropOldest 4 = .ok (.arraylength, 1) := by decide +kernel
theorem dX4_dropOldest_5 : decode cX4_dropOldest 5 = .ok (.ifCond .ne 4, 3) := by decide +kernel
theorem dX4_dropOldest_8 : decode cX4_dropOldest 8 = .ok (.return_, 1) := by decide +kernel
theorem dX4_dropOldest_9 : decode cX4_dropOldest 9 = .ok (.aload_n 0, 1) := by decide +kernel
theorem dX4_dropOldest_10 : decode cX4_dropOldest 10 = .ok (.getfield 9, 3) := by decide +kernel
theorem dX4_dropOldest_13 : decode cX4_dropOldest 13 = .ok (.iconst 0, 1) := by decide +kernel
theorem dX4_dropOldest_14 : decode cX4_dropOldest 14 = .ok (.aaload, 1) := by decide +kernel
theorem dX4_dropOldest_15 : decode cX4_dropOldest 15 = .ok (.astore_n 1, 1) := by decide +kernel
theorem dX4_dropOldest_16 : decode cX4_dropOldest 16 = .ok (.iconst 1, 1) := by decide +kernel
theorem dX4_dropOldest_17 : decode cX4_dropOldest 17 = .ok (.istore_n 2, 1) := by decide +kernel
theorem dX4_dropOldest_18 : decode cX4_dropOldest 18 = .ok (.iload_n 2, 1) := by decide +kernel
theorem dX4_dropOldest_19 : decode cX4_dropOldest 19 = .ok (.aload_n 0, 1) := by decide +kernel
theorem dX4_dropOldest_20 : decode cX4_dropOldest 20 = .ok (.getfield 9, 3) := by decide +kernel
theorem dX4_dropOldest_23 : decode cX4_dropOldest 23 = .ok (.arraylength, 1) := by decide +kernel
theorem dX4_dropOldest_24 : decode cX4_dropOldest 24 = .ok (.if_icmp .ge 23, 3) := by decide +kernel
theorem dX4_dropOldest_27 : decode cX4_dropOldest 27 = .ok (.aload_n 0, 1) := by decide +kernel
theorem dX4_dropOldest_28 : decode cX4_dropOldest 28 = .ok (.getfield 9, 3) := by decide +kernel
theorem dX4_dropOldest_31 : decode cX4_dropOldest 31 = .ok (.iload_n 2, 1) := by decide +kernel
theorem dX4_dropOldest_32 : decode cX4_dropOldest 32 = .ok (.iconst 1, 1) := by decide +kernel
theorem dX4_dropOldest_33 : decode cX4_dropOldest 33 = .ok (.isub, 1) := by decide +kernel
theorem dX4_dropOldest_34 : decode cX4_dropOldest 34 = .ok (.aload_n 0, 1) := by decide +kernel
theorem dX4_dropOldest_35 : decode cX4_dropOldest 35 = .ok (.getfield 9, 3) := by decide +kernel
theorem dX4_dropOldest_38 : decode cX4_dropOldest 38 = .ok (.iload_n 2, 1) := by decide +kernel
theorem dX4_dropOldest_39 : decode cX4_dropOldest 39 = .ok (.aaload, 1) := by decide +kernel
theorem dX4_dropOldest_40 : decode cX4_dropOldest 40 = .ok (.aastore, 1) := by decide +kernel
theorem dX4_dropOldest_41 : decode cX4_dropOldest 41 = .ok (.iinc 2 1, 3) := by decide +kernel
theorem dX4_dropOldest_44 : decode cX4_dropOldest 44 = .ok (.goto (-26), 3) := by decide +kernel
theorem dX4_dropOldest_47 : decode cX4_dropOldest 47 = .ok (.aload_n 0, 1) := by decide +kernel
theorem dX4_dropOldest_48 : decode cX4_dropOldest 48 = .ok (.getfield 9, 3) := by decide +kernel
theorem dX4_dropOldest_51 : decode cX4_dropOldest 51 = .ok (.aload_n 0, 1) := by decide +kernel
theorem dX4_dropOldest_52 : decode cX4_dropOldest 52 = .ok (.getfield 9, 3) := by decide +kernel
theorem dX4_dropOldest_55 : decode cX4_dropOldest 55 = .ok (.arraylength, 1) := by decide +kernel
theorem dX4_dropOldest_56 : decode cX4_dropOldest 56 = .ok (.iconst 1, 1) := by decide +kernel
theorem dX4_dropOldest_57 : decode cX4_dropOldest 57 = .ok (.isub, 1) := by decide +kernel
theorem dX4_dropOldest_58 : decode cX4_dropOldest 58 = .ok (.aload_n 1, 1) := by decide +kernel
theorem dX4_dropOldest_59 : decode cX4_dropOldest 59 = .ok (.aastore, 1) := by decide +kernel
theorem dX4_dropOldest_60 : decode cX4_dropOldest 60 = .ok (.aload_n 0, 1) := by decide +kernel
theorem dX4_dropOldest_61 : decode cX4_dropOldest 61 = .ok (.aload_n 0, 1) := by decide +kernel
theorem dX4_dropOldest_62 : decode cX4_dropOldest 62 = .ok (.getfield 9, 3) := by decide +kernel
theorem dX4_dropOldest_65 : decode cX4_dropOldest 65 = .ok (.arraylength, 1) := by decide +kernel
theorem dX4_dropOldest_66 : decode cX4_dropOldest 66 = .ok (.iconst 1, 1) := by decide +kernel
theorem dX4_dropOldest_67 : decode cX4_dropOldest 67 = .ok (.isub, 1) := by decide +kernel
theorem dX4_dropOldest_68 : decode cX4_dropOldest 68 = .ok (.putfield 16, 3) := by decide +kernel
theorem dX4_dropOldest_71 : decode cX4_dropOldest 71 = .ok (.return_, 1) := by decide +kernel
theorem dX4_takeInto_0 : decode cX4_takeInto 0 = .ok (.aload_n 0, 1) := by decide +kernel
theorem dX4_takeInto_1 : decode cX4_takeInto 1 = .ok (.getfield 16, 3) := by decide +kernel
theorem dX4_takeInto_4 : decode cX4_takeInto 4 = .ok (.iconst 1, 1) := by decide +kernel
theorem dX4_takeInto_5 : decode cX4_takeInto 5 = .ok (.isub, 1) := by decide +kernel
theorem dX4_takeInto_6 : decode cX4_takeInto 6 = .ok (.istore_n 2, 1) := by decide +kernel
theorem dX4_takeInto_7 : decode cX4_takeInto 7 = .ok (.iload_n 2, 1) := by decide +kernel
theorem dX4_takeInto_8 : decode cX4_takeInto 8 = .ok (.ifCond .lt 36, 3) := by decide +kernel
theorem dX4_takeInto_11 : decode cX4_takeInto 11 = .ok (.iload_n 2, 1) := by decide +kernel
theorem dX4_takeInto_12 : decode cX4_takeInto 12 = .ok (.aload_n 0, 1) := by decide +kernel
theorem dX4_takeInto_13 : decode cX4_takeInto 13 = .ok (.getfield 9, 3) := by decide +kernel
theorem dX4_takeInto_16 : decode cX4_takeInto 16 = .ok (.arraylength, 1) := by decide +kernel
theorem dX4_takeInto_17 : decode cX4_takeInto 17 = .ok (.if_icmp .ge 27, 3) := by decide +kernel
theorem dX4_takeInto_20 : decode cX4_takeInto 20 = .ok (.aload_n 0, 1) := by decide +kernel
theorem dX4_takeInto_21 : decode cX4_takeInto 21 = .ok (.getfield 9, 3) := by decide +kernel
theorem dX4_takeInto_24 : decode cX4_takeInto 24 = .ok (.iload_n 2, 1) := by decide +kernel
theorem dX4_takeInto_25 : decode cX4_takeInto 25 = .ok (.aaload, 1) := by decide +kernel
theorem dX4_takeInto_26 : decode cX4_takeInto 26 = .ok (.ifnull 18, 3) := by decide +kernel
theorem dX4_takeInto_29 : decode cX4_takeInto 29 = .ok (.aload_n 1, 1) := by decide +kernel
theorem dX4_takeInto_30 : decode cX4_takeInto 30 = .ok (.aload_n 0, 1) := by decide +kernel
theorem dX4_takeInto_31 : decode cX4_takeInto 31 = .ok (.getfield 9, 3) := by decide +kernel
theorem dX4_takeInto_34 : decode cX4_takeInto 34 = .ok (.iload_n 2, 1) := by decide +kernel
theorem dX4_takeInto_35 : decode cX4_takeInto 35 = .ok (.aaload, 1) := by decide +kernel
theorem dX4_takeInto_36 : decode cX4_takeInto 36 = .ok (.invokevirtual 23, 3) := by decide +kernel
theorem dX4_takeInto_39 : decode cX4_takeInto 39 = .ok (.aload_n 0, 1) := by decide +kernel
theorem dX4_takeInto_40 : decode cX4_takeInto 40 = .ok (.iload_n 2, 1) := by decide +kernel
theorem dX4_takeInto_41 : decode cX4_takeInto 41 = .ok (.putfield 16, 3) := by decide +kernel
theorem dX4_takeInto_44 : decode cX4_takeInto 44 = .ok (.return_, 1) := by decide +kernel
theorem dX5_init_0 : decode cX5_init 0 = .ok (.aload_n 0, 1) := by decide +kernel
theorem dX5_init_1 : decode cX5_init 1 = .ok (.invokespecial 3, 3) := by decide +kernel
theorem dX5_init_4 : decode cX5_init 4 = .ok (.aload_n 0, 1) := by decide +kernel
theorem dX5_init_5 : decode cX5_init 5 = .ok (.new 9, 3) := by decide +kernel
theorem dX5_init_8 : decode cX5_init 8 = .ok (.dup, 1) := by decide +kernel
theorem dX5_init_9 : decode cX5_init 9 = .ok (.bipush 6, 2) := by decide +kernel
theorem dX5_init_11 : decode cX5_init 11 = .ok (.invokespecial 11, 3) := by decide +kernel
theorem dX5_init_14 : decode cX5_init 14 = .ok (.putfield 14, 3) := by decide +kernel
theorem dX5_init_17 : decode cX5_init 17 = .ok (.aload_n 0, 1) := by decide +kernel
theorem dX5_init_18 : decode cX5_init 18 = .ok (.new 9, 3) := by decide +kernel
theorem dX5_init_21 : decode cX5_init 21 = .ok (.dup, 1) := by decide +kernel
theorem dX5_init_22 : decode cX5_init 22 = .ok (.bipush 6, 2) := by decide +kernel
theorem dX5_init_24 : decode cX5_init 24 = .ok (.invokespecial 11, 3) := by decide +kernel
theorem dX5_init_27 : decode cX5_init 27 = .ok (.putfield 20, 3) := by decide +kernel
theorem dX5_init_30 : decode cX5_init 30 = .ok (.aload_n 0, 1) := by decide +kernel
theorem dX5_init_31 : decode cX5_init 31 = .ok (.new 9, 3) := by decide +kernel
theorem dX5_init_34 : decode cX5_init 34 = .ok (.dup, 1) := by decide +kernel
theorem dX5_init_35 : decode cX5_init 35 = .ok (.bipush 6, 2) := by decide +kernel
theorem dX5_init_37 : decode cX5_init 37 = .ok (.invokespecial 11, 3) := by decide +kernel
theorem dX5_init_40 : decode cX5_init 40 = .ok (.putfield 23, 3) := by decide +kernel
theorem dX5_init_43 : decode cX5_init 43 = .ok (.aload_n 0, 1) := by decide +kernel
theorem dX5_init_44 : decode cX5_init 44 = .ok (.new 9, 3) := by decide +kernel
theorem dX5_init_47 : decode cX5_init 47 = .ok (.dup, 1) := by decide +kernel
theorem dX5_init_48 : decode cX5_init 48 = .ok (.bipush 6, 2) := by decide +kernel
theorem dX5_init_50 : decode cX5_init 50 = .ok (.invokespecial 11, 3) := by decide +kernel
theorem dX5_init_53 : decode cX5_init 53 = .ok (.putfield 26, 3) := by decide +kernel
theorem dX5_init_56 : decode cX5_init 56 = .ok (.aload_n 0, 1) := by decide +kernel
theorem dX5_init_57 : decode cX5_init 57 = .ok (.new 9, 3) := by decide +kernel
theorem dX5_init_60 : decode cX5_init 60 = .ok (.dup, 1) := by decide +kernel
theorem dX5_init_61 : decode cX5_init 61 = .ok (.bipush 10, 2) := by decide +kernel
theorem dX5_init_63 : decode cX5_init 63 = .ok (.invokespecial 11, 3) := by decide +kernel
theorem dX5_init_66 : decode cX5_init 66 = .ok (.putfield 29, 3) := by decide +kernel
theorem dX5_init_69 : decode cX5_init 69 = .ok (.aload_n 0, 1) := by decide +kernel
theorem dX5_init_70 : decode cX5_init 70 = .ok (.new 9, 3) := by decide +kernel
theorem dX5_init_73 : decode cX5_init 73 = .ok (.dup, 1) := by decide +kernel
theorem dX5_init_74 : decode cX5_init 74 = .ok (.bipush 10, 2) := by decide +kernel
theorem dX5_init_76 : decode cX5_init 76 = .ok (.invokespecial 11, 3) := by decide +kernel
theorem dX5_init_79 : decode cX5_init 79 = .ok (.putfield 32, 3) := by decide +kernel
theorem dX5_init_82 : decode cX5_init 82 = .ok (.aload_n 0, 1) := by decide +kernel
theorem dX5_init_83 : decode cX5_init 83 = .ok (.new 9, 3) := by decide +kernel
theorem dX5_init_86 : decode cX5_init 86 = .ok (.dup, 1) := by decide +kernel
theorem dX5_init_87 : decode cX5_init 87 = .ok (.bipush 10, 2) := by decide +kernel
theorem dX5_init_89 : decode cX5_init 89 = .ok (.invokespecial 11, 3) := by decide +kernel
theorem dX5_init_92 : decode cX5_init 92 = .ok (.putfield 35, 3) := by decide +kernel
theorem dX5_init_95 : decode cX5_init 95 = .ok (.aload_n 0, 1) := by decide +kernel
theorem dX5_init_96 : decode cX5_init 96 = .ok (.new 9, 3) := by decide +kernel
theorem dX5_init_99 : decode cX5_init 99 = .ok (.dup, 1) := by decide +kernel
theorem dX5_init_100 : decode cX5_init 100 = .ok (.bipush 10, 2) := by decide +kernel
theorem dX5_init_102 : decode cX5_init 102 = .ok (.invokespecial 11, 3) := by decide +kernel
theorem dX5_init_105 : decode cX5_init 105 = .ok (.putfield 38, 3) := by decide +kernel
theorem dX5_init_108 : decode cX5_init 108 = .ok (.aload_n 0, 1) := by decide +kernel
theorem dX5_init_109 : decode cX5_init 109 = .ok (.new 9, 3) := by decide +kernel
theorem dX5_init_112 : decode cX5_init 112 = .ok (.dup, 1) := by decide +kernel
theorem dX5_init_113 : decode cX5_init 113 = .ok (.bipush 6, 2) := by decide +kernel
theorem dX5_init_115 : decode cX5_init 115 = .ok (.invokespecial 11, 3) := by decide +kernel
theorem dX5_init_118 : decode cX5_init 118 = .ok (.putfield 41, 3) := by decide +kernel
theorem dX5_init_121 : decode cX5_init 121 = .ok (.return_, 1) := by decide +kernel
theorem dX5_clear_0 : decode cX5_clear 0 = .ok (.aload_n 0, 1) := by decide +kernel
theorem dX5_clear_1 : decode cX5_clear 1 = .ok (.getfield 41, 3) := by decide +kernel
theorem dX5_clear_4 : decode cX5_clear 4 = .ok (.iconst 0, 1) := by decide +kernel
theorem dX5_clear_5 : decode cX5_clear 5 = .ok (.invokevirtual 44, 3) := by decide +kernel
theorem dX5_clear_8 : decode cX5_clear 8 = .ok (.aload_n 0, 1) := by decide +kernel
theorem dX5_clear_9 : decode cX5_clear 9 = .ok (.iconst 0, 1) := by decide +kernel
theorem dX5_clear_10 : decode cX5_clear 10 = .ok (.putfield 47, 3) := by decide +kernel
theorem dX5_clear_13 : decode cX5_clear 13 = .ok (.aload_n 0, 1) := by decide +kernel
theorem dX5_clear_14 : decode cX5_clear 14 = .ok (.iconst 0, 1) := by decide +kernel
theorem dX5_clear_15 : decode cX5_clear 15 = .ok (.putfield 51, 3) := by decide +kernel
theorem dX5_clear_18 : decode cX5_clear 18 = .ok (.aload_n 0, 1) := by decide +kernel
theorem dX5_clear_19 : decode cX5_clear 19 = .ok (.iconst 0, 1) := by decide +kernel
theorem dX5_clear_20 : decode cX5_clear 20 = .ok (.putfield 54, 3) := by decide +kernel
theorem dX5_clear_23 : decode cX5_clear 23 = .ok (.aload_n 0, 1) := by decide +kernel
theorem dX5_clear_24 : decode cX5_clear 24 = .ok (.iconst 0, 1) := by decide +kernel
theorem dX5_clear_25 : decode cX5_clear 25 = .ok (.putfield 57, 3) := by decide +kernel
theorem dX5_clear_28 : decode cX5_clear 28 = .ok (.return_, 1) := by decide +kernel
theorem dX5_copy_0 : decode cX5_copy 0 = .ok (.aload_n 0, 1) := by decide +kernel
theorem dX5_copy_1 : decode cX5_copy 1 = .ok (.getfield 14, 3) := by decide +kernel
theorem dX5_copy_4 : decode cX5_copy 4 = .ok (.aload_n 1, 1) := by decide +kernel
theorem dX5_copy_5 : decode cX5_copy 5 = .ok (.getfield 14, 3) := by decide +kernel
theorem dX5_copy_8 : decode cX5_copy 8 = .ok (.invokevirtual 60, 3) := by decide +kernel
theorem dX5_copy_11 : decode cX5_copy 11 = .ok (.aload_n 0, 1) := by decide +kernel
theorem dX5_copy_12 : decode cX5_copy 12 = .ok (.getfield 20, 3) := by decide +kernel
theorem dX5_copy_15 : decode cX5_copy 15 = .ok (.aload_n 1, 1) := by decide +kernel
theorem dX5_copy_16 : decode cX5_copy 16 = .ok (.getfield 20, 3) := by decide +kernel
theorem dX5_copy_19 : decode cX5_copy 19 = .ok (.invokevirtual 60, 3) := by decide +kernel
theorem dX5_copy_22 : decode cX5_copy 22 = .ok (.aload_n 0, 1) := by decide +kernel
theorem dX5_copy_23 : decode cX5_copy 23 = .ok (.getfield 23, 3) := by decide +kernel
theorem dX5_copy_26 : decode cX5_copy 26 = .ok (.aload_n 1, 1) := by decide +kernel
theorem dX5_copy_27 : decode cX5_copy 27 = .ok (.getfield 23, 3) := by decide +kernel
theorem dX5_copy_30 : decode cX5_copy 30 = .ok (.invokevirtual 60, 3) := by decide +kernel
theorem dX5_copy_33 : decode cX5_copy 33 = .ok (.aload_n 0, 1) := by decide +kernel
theorem dX5_copy_34 : decode cX5_copy 34 = .ok (.getfield 26, 3) := by decide +kernel
theorem dX5_copy_37 : decode cX5_copy 37 = .ok (.aload_n 1, 1) := by decide +kernel
theorem dX5_copy_38 : decode cX5_copy 38 = .ok (.getfield 26, 3) := by decide +kernel
theorem dX5_copy_41 : decode cX5_copy 41 = .ok (.invokevirtual 60, 3) := by decide +kernel
theorem dX5_copy_44 : decode cX5_copy 44 = .ok (.aload_n 0, 1) := by decide +kernel
theorem dX5_copy_45 : decode cX5_copy 45 = .ok (.getfield 29, 3) := by decide +kernel
theorem dX5_copy_48 : decode cX5_copy 48 = .ok (.aload_n 1, 1) := by decide +kernel
theorem dX5_copy_49 : decode cX5_copy 49 = .ok (.getfield 29, 3) := by decide +kernel
theorem dX5_copy_52 : decode cX5_copy 52 = .ok (.invokevirtual 60, 3) := by decide +kernel
theorem dX5_copy_55 : decode cX5_copy 55 = .ok (.aload_n 0, 1) := by decide +kernel
theorem dX5_copy_56 : decode cX5_copy 56 = .ok (.getfield 32, 3) := by decide +kernel
theorem dX5_copy_59 : decode cX5_copy 59 = .ok (.aload_n 1, 1) := by decide +kernel
theorem dX5_copy_60 : decode cX5_copy 60 = .ok (.getfield 32, 3) := by decide +kernel
theorem dX5_copy_63 : decode cX5_copy 63 = .ok (.invokevirtual 60, 3) := by decide +kernel
theorem dX5_copy_66 : decode cX5_copy 66 = .ok (.aload_n 0, 1) := by decide +kernel
theorem dX5_copy_67 : decode cX5_copy 67 = .ok (.getfield 35, 3) := by decide +kernel
theorem dX5_copy_70 : decode cX5_copy 70 = .ok (.aload_n 1, 1) := by decide +kernel
theorem dX5_copy_71 : decode cX5_copy 71 = .ok (.getfield 35, 3) := by decide +kernel
theorem dX5_copy_74 : decode cX5_copy 74 = .ok (.invokevirtual 60, 3) := by decide +kernel
theorem dX5_copy_77 : decode cX5_copy 77 = .ok (.aload_n 0, 1) := by decide +kernel
theorem dX5_copy_78 : decode cX5_copy 78 = .ok (.getfield 38, 3) := by decide +kernel
theorem dX5_copy_81 : decode cX5_copy 81 = .ok (.aload_n 1, 1) := by decide +kernel
theorem dX5_copy_82 : decode cX5_copy 82 = .ok (.getfield 38, 3) := by decide +kernel
theorem dX5_copy_85 : decode cX5_copy 85 = .ok (.invokevirtual 60, 3) := by decide +kernel
theorem dX5_copy_88 : decode cX5_copy 88 = .ok (.aload_n 0, 1) := by decide +kernel
theorem dX5_copy_89 : decode cX5_copy 89 = .ok (.getfield 41, 3) := by decide +kernel
theorem dX5_copy_92 : decode cX5_copy 92 = .ok (.aload_n 1, 1) := by decide +kernel
theorem dX5_copy_93 : decode cX5_copy 93 = .ok (.getfield 41, 3) := by decide +kernel
theorem dX5_copy_96 : decode cX5_copy 96 = .ok (.invokevirtual 60, 3) := by decide +kernel
theorem dX5_copy_99 : decode cX5_copy 99 = .ok (.aload_n 0, 1) := by decide +kernel
theorem dX5_copy_100 : decode cX5_copy 100 = .ok (.aload_n 1, 1) := by decide +kernel
theorem dX5_copy_101 : decode cX5_copy 101 = .ok (.getfield 47, 3) := by decide +kernel
theorem dX5_copy_104 : decode cX5_copy 104 = .ok (.putfield 47, 3) := by decide +kernel
theorem dX5_copy_107 : decode cX5_copy 107 = .ok (.aload_n 0, 1) := by decide +kernel
theorem dX5_copy_108 : decode cX5_copy 108 = .ok (.aload_n 1, 1) := by decide +kernel
theorem dX5_copy_109 : decode cX5_copy 109 = .ok (.getfield 51, 3) := by decide +kernel
theorem dX5_copy_112 : decode cX5_copy 112 = .ok (.putfield 51, 3) := by decide +kernel
theorem dX5_copy_115 : decode cX5_copy 115 = .ok (.aload_n 0, 1) := by decide +kernel
theorem dX5_copy_116 : decode cX5_copy 116 = .ok (.aload_n 1, 1) := by decide +kernel
theorem dX5_copy_117 : decode cX5_copy 117 = .ok (.getfield 54, 3) := by decide +kernel
theorem dX5_copy_120 : decode cX5_copy 120 = .ok (.putfield 54, 3) := by decide +kernel
theorem dX5_copy_123 : decode cX5_copy 123 = .ok (.aload_n 0, 1) := by decide +kernel
theorem dX5_copy_124 : decode cX5_copy 124 = .ok (.aload_n 1, 1) := by decide +kernel
theorem dX5_copy_125 : decode cX5_copy 125 = .ok (.getfield 57, 3) := by decide +kernel
theorem dX5_copy_128 : decode cX5_copy 128 = .ok (.putfield 57, 3) := by decide +kernel
theorem dX5_copy_131 : decode cX5_copy 131 = .ok (.return_, 1) := by decide +kernel
theorem dX5_hasDog_0 : decode cX5_hasDog 0 = .ok (.aload_n 0, 1) := by decide +kernel
theorem dX5_hasDog_1 : decode cX5_hasDog 1 = .ok (.getfield 57, 3) := by decide +kernel
theorem dX5_hasDog_4 : decode cX5_hasDog 4 = .ok (.ifCond .le 18, 3) := by decide +kernel
theorem dX5_hasDog_7 : decode cX5_hasDog 7 = .ok (.iload_n 1, 1) := by decide +kernel
theorem dX5_hasDog_8 : decode cX5_hasDog 8 = .ok (.aload_n 0, 1) := by decide +kernel
theorem dX5_hasDog_9 : decode cX5_hasDog 9 = .ok (.getfield 57, 3) := by decide +kernel
theorem dX5_hasDog_12 : decode cX5_hasDog 12 = .ok (.invokestatic 64, 3) := by decide +kernel
theorem dX5_hasDog_15 : decode cX5_hasDog 15 = .ok (.ifCond .ne 7, 3) := by decide +kernel
theorem dX5_hasDog_18 : decode cX5_hasDog 18 = .ok (.iconst 1, 1) := by decide +kernel
theorem dX5_hasDog_19 : decode cX5_hasDog 19 = .ok (.goto 4, 3) := by decide +kernel
theorem dX5_hasDog_22 : decode cX5_hasDog 22 = .ok (.iconst 0, 1) := by decide +kernel
theorem dX5_hasDog_23 : decode cX5_hasDog 23 = .ok (.ireturn, 1) := by decide +kernel
theorem dX5_isDue_0 : decode cX5_isDue 0 = .ok (.aload_n 0, 1) := by decide +kernel
theorem dX5_isDue_1 : decode cX5_isDue 1 = .ok (.getfield 23, 3) := by decide +kernel
theorem dX5_isDue_4 : decode cX5_isDue 4 = .ok (.iload_n 1, 1) := by decide +kernel
theorem dX5_isDue_5 : decode cX5_isDue 5 = .ok (.invokevirtual 68, 3) := by decide +kernel
theorem dX5_isDue_8 : decode cX5_isDue 8 = .ok (.istore_n 3, 1) := by decide +kernel
theorem dX5_isDue_9 : decode cX5_isDue 9 = .ok (.iload_n 2, 1) := by decide +kernel
theorem dX5_isDue_10 : decode cX5_isDue 10 = .ok (.iload_n 3, 1) := by decide +kernel
theorem dX5_isDue_11 : decode cX5_isDue 11 = .ok (.invokestatic 64, 3) := by decide +kernel
theorem dX5_isDue_14 : decode cX5_isDue 14 = .ok (.aload_n 0, 1) := by decide +kernel
theorem dX5_isDue_15 : decode cX5_isDue 15 = .ok (.getfield 26, 3) := by decide +kernel
theorem dX5_isDue_18 : decode cX5_isDue 18 = .ok (.iload_n 1, 1) := by decide +kernel
theorem dX5_isDue_19 : decode cX5_isDue 19 = .ok (.invokevirtual 68, 3) := by decide +kernel
theorem dX5_isDue_22 : decode cX5_isDue 22 = .ok (.iload_n 3, 1) := by decide +kernel
theorem dX5_isDue_23 : decode cX5_isDue 23 = .ok (.invokestatic 64, 3) := by decide +kernel
theorem dX5_isDue_26 : decode cX5_isDue 26 = .ok (.if_icmp .ne 7, 3) := by decide +kernel
theorem dX5_isDue_29 : decode cX5_isDue 29 = .ok (.iconst 1, 1) := by decide +kernel
theorem dX5_isDue_30 : decode cX5_isDue 30 = .ok (.goto 4, 3) := by decide +kernel
theorem dX5_isDue_33 : decode cX5_isDue 33 = .ok (.iconst 0, 1) := by decide +kernel
theorem dX5_isDue_34 : decode cX5_isDue 34 = .ok (.ireturn, 1) := by decide +kernel
theorem dX5_comes_0 : decode cX5_comes 0 = .ok (.aload_n 0, 1) := by decide +kernel
theorem dX5_comes_1 : decode cX5_comes 1 = .ok (.getfield 29, 3) := by decide +kernel
theorem dX5_comes_4 : decode cX5_comes 4 = .ok (.iload_n 1, 1) := by decide +kernel
theorem dX5_comes_5 : decode cX5_comes 5 = .ok (.invokevirtual 68, 3) := by decide +kernel
theorem dX5_comes_8 : decode cX5_comes 8 = .ok (.iload_n 2, 1) := by decide +kernel
theorem dX5_comes_9 : decode cX5_comes 9 = .ok (.bipush 14, 2) := by decide +kernel
theorem dX5_comes_11 : decode cX5_comes 11 = .ok (.invokestatic 64, 3) := by decide +kernel
theorem dX5_comes_14 : decode cX5_comes 14 = .ok (.if_icmp .ne 7, 3) := by decide +kernel
theorem dX5_comes_17 : decode cX5_comes 17 = .ok (.iconst 1, 1) := by decide +kernel
theorem dX5_comes_18 : decode cX5_comes 18 = .ok (.goto 4, 3) := by decide +kernel
theorem dX5_comes_21 : decode cX5_comes 21 = .ok (.iconst 0, 1) := by decide +kernel
theorem dX5_comes_22 : decode cX5_comes 22 = .ok (.ireturn, 1) := by decide +kernel
theorem dX5_addServer_0 : decode cX5_addServer 0 = .ok (.aload_n 0, 1) := by decide +kernel
theorem dX5_addServer_1 : decode cX5_addServer 1 = .ok (.getfield 41, 3) := by decide +kernel
theorem dX5_addServer_4 : decode cX5_addServer 4 = .ok (.iload_n 2, 1) := by decide +kernel
theorem dX5_addServer_5 : decode cX5_addServer 5 = .ok (.aload_n 0, 1) := by decide +kernel
theorem dX5_addServer_6 : decode cX5_addServer 6 = .ok (.getfield 41, 3) := by decide +kernel
theorem dX5_addServer_9 : decode cX5_addServer 9 = .ok (.iload_n 2, 1) := by decide +kernel
theorem dX5_addServer_10 : decode cX5_addServer 10 = .ok (.invokevirtual 68, 3) := by decide +kernel
theorem dX5_addServer_13 : decode cX5_addServer 13 = .ok (.iconst 1, 1) := by decide +kernel
theorem dX5_addServer_14 : decode cX5_addServer 14 = .ok (.iload_n 1, 1) := by decide +kernel
theorem dX5_addServer_15 : decode cX5_addServer 15 = .ok (.ishl, 1) := by decide +kernel
theorem dX5_addServer_16 : decode cX5_addServer 16 = .ok (.ior, 1) := by decide +kernel
theorem dX5_addServer_17 : decode cX5_addServer 17 = .ok (.invokevirtual 72, 3) := by decide +kernel
theorem dX5_addServer_20 : decode cX5_addServer 20 = .ok (.return_, 1) := by decide +kernel
theorem dX5_rouses_0 : decode cX5_rouses 0 = .ok (.aload_n 0, 1) := by decide +kernel
theorem dX5_rouses_1 : decode cX5_rouses 1 = .ok (.getfield 35, 3) := by decide +kernel
theorem dX5_rouses_4 : decode cX5_rouses 4 = .ok (.iload_n 1, 1) := by decide +kernel
theorem dX5_rouses_5 : decode cX5_rouses 5 = .ok (.invokevirtual 68, 3) := by decide +kernel
theorem dX5_rouses_8 : decode cX5_rouses 8 = .ok (.aload_n 0, 1) := by decide +kernel
theorem dX5_rouses_9 : decode cX5_rouses 9 = .ok (.getfield 38, 3) := by decide +kernel
theorem dX5_rouses_12 : decode cX5_rouses 12 = .ok (.iload_n 1, 1) := by decide +kernel
theorem dX5_rouses_13 : decode cX5_rouses 13 = .ok (.invokevirtual 68, 3) := by decide +kernel
theorem dX5_rouses_16 : decode cX5_rouses 16 = .ok (.aload_n 0, 1) := by decide +kernel
theorem dX5_rouses_17 : decode cX5_rouses 17 = .ok (.getfield 14, 3) := by decide +kernel
theorem dX5_rouses_20 : decode cX5_rouses 20 = .ok (.iload_n 2, 1) := by decide +kernel
theorem dX5_rouses_21 : decode cX5_rouses 21 = .ok (.invokevirtual 68, 3) := by decide +kernel
theorem dX5_rouses_24 : decode cX5_rouses 24 = .ok (.invokestatic 76, 3) := by decide +kernel
theorem dX5_rouses_27 : decode cX5_rouses 27 = .ok (.ireturn, 1) := by decide +kernel
theorem dX6_init_0 : decode cX6_init 0 = .ok (.aload_n 0, 1) := by decide +kernel
theorem dX6_init_1 : decode cX6_init 1 = .ok (.invokespecial 3, 3) := by decide +kernel
theorem dX6_init_4 : decode cX6_init 4 = .ok (.aload_n 0, 1) := by decide +kernel
theorem dX6_init_5 : decode cX6_init 5 = .ok (.new 9, 3) := by decide +kernel
theorem dX6_init_8 : decode cX6_init 8 = .ok (.dup, 1) := by decide +kernel
theorem dX6_init_9 : decode cX6_init 9 = .ok (.bipush 8, 2) := by decide +kernel
theorem dX6_init_11 : decode cX6_init 11 = .ok (.invokespecial 11, 3) := by decide +kernel
theorem dX6_init_14 : decode cX6_init 14 = .ok (.putfield 14, 3) := by decide +kernel
theorem dX6_init_17 : decode cX6_init 17 = .ok (.aload_n 0, 1) := by decide +kernel
theorem dX6_init_18 : decode cX6_init 18 = .ok (.new 9, 3) := by decide +kernel
theorem dX6_init_21 : decode cX6_init 21 = .ok (.dup, 1) := by decide +kernel
theorem dX6_init_22 : decode cX6_init 22 = .ok (.bipush 8, 2) := by decide +kernel
theorem dX6_init_24 : decode cX6_init 24 = .ok (.invokespecial 11, 3) := by decide +kernel
theorem dX6_init_27 : decode cX6_init 27 = .ok (.putfield 20, 3) := by decide +kernel
theorem dX6_init_30 : decode cX6_init 30 = .ok (.aload_n 0, 1) := by decide +kernel
theorem dX6_init_31 : decode cX6_init 31 = .ok (.new 9, 3) := by decide +kernel
theorem dX6_init_34 : decode cX6_init 34 = .ok (.dup, 1) := by decide +kernel
theorem dX6_init_35 : decode cX6_init 35 = .ok (.bipush 8, 2) := by decide +kernel
theorem dX6_init_37 : decode cX6_init 37 = .ok (.invokespecial 11, 3) := by decide +kernel
theorem dX6_init_40 : decode cX6_init 40 = .ok (.putfield 23, 3) := by decide +kernel
theorem dX6_init_43 : decode cX6_init 43 = .ok (.return_, 1) := by decide +kernel
theorem dX6_clear_0 : decode cX6_clear 0 = .ok (.aload_n 0, 1) := by decide +kernel
theorem dX6_clear_1 : decode cX6_clear 1 = .ok (.iconst 0, 1) := by decide +kernel
theorem dX6_clear_2 : decode cX6_clear 2 = .ok (.putfield 26, 3) := by decide +kernel
theorem dX6_clear_5 : decode cX6_clear 5 = .ok (.return_, 1) := by decide +kernel
theorem dX6_add_0 : decode cX6_add 0 = .ok (.aload_n 0, 1) := by decide +kernel
theorem dX6_add_1 : decode cX6_add 1 = .ok (.getfield 14, 3) := by decide +kernel
theorem dX6_add_4 : decode cX6_add 4 = .ok (.aload_n 0, 1) := by decide +kernel
theorem dX6_add_5 : decode cX6_add 5 = .ok (.getfield 26, 3) := by decide +kernel
theorem dX6_add_8 : decode cX6_add 8 = .ok (.iload_n 1, 1) := by decide +kernel
theorem dX6_add_9 : decode cX6_add 9 = .ok (.invokevirtual 30, 3) := by decide +kernel
theorem dX6_add_12 : decode cX6_add 12 = .ok (.aload_n 0, 1) := by decide +kernel
theorem dX6_add_13 : decode cX6_add 13 = .ok (.getfield 20, 3) := by decide +kernel
theorem dX6_add_16 : decode cX6_add 16 = .ok (.aload_n 0, 1) := by decide +kernel
theorem dX6_add_17 : decode cX6_add 17 = .ok (.getfield 26, 3) := by decide +kernel
theorem dX6_add_20 : decode cX6_add 20 = .ok (.iload_n 2, 1) := by decide +kernel
theorem dX6_add_21 : decode cX6_add 21 = .ok (.invokevirtual 30, 3) := by decide +kernel
theorem dX6_add_24 : decode cX6_add 24 = .ok (.aload_n 0, 1) := by decide +kernel
theorem dX6_add_25 : decode cX6_add 25 = .ok (.getfield 23, 3) := by decide +kernel
theorem dX6_add_28 : decode cX6_add 28 = .ok (.aload_n 0, 1) := by decide +kernel
theorem dX6_add_29 : decode cX6_add 29 = .ok (.getfield 26, 3) := by decide +kernel
theorem dX6_add_32 : decode cX6_add 32 = .ok (.iload_n 3, 1) := by decide +kernel
theorem dX6_add_33 : decode cX6_add 33 = .ok (.ifCond .eq 7, 3) := by decide +kernel
theorem dX6_add_36 : decode cX6_add 36 = .ok (.iconst 1, 1) := by decide +kernel
theorem dX6_add_37 : decode cX6_add 37 = .ok (.goto 4, 3) := by decide +kernel
theorem dX6_add_40 : decode cX6_add 40 = .ok (.iconst 0, 1) := by decide +kernel
theorem dX6_add_41 : decode cX6_add 41 = .ok (.invokevirtual 30, 3) := by decide +kernel
theorem dX6_add_44 : decode cX6_add 44 = .ok (.aload_n 0, 1) := by decide +kernel
theorem dX6_add_45 : decode cX6_add 45 = .ok (.dup, 1) := by decide +kernel
theorem dX6_add_46 : decode cX6_add 46 = .ok (.getfield 26, 3) := by decide +kernel
theorem dX6_add_49 : decode cX6_add 49 = .ok (.iconst 1, 1) := by decide +kernel
theorem dX6_add_50 : decode cX6_add 50 = .ok (.iadd, 1) := by decide +kernel
theorem dX6_add_51 : decode cX6_add 51 = .ok (.putfield 26, 3) := by decide +kernel
theorem dX6_add_54 : decode cX6_add 54 = .ok (.return_, 1) := by decide +kernel
theorem dX6_allow_0 : decode cX6_allow 0 = .ok (.iconst 0, 1) := by decide +kernel
theorem dX6_allow_1 : decode cX6_allow 1 = .ok (.istore 4, 2) := by decide +kernel
theorem dX6_allow_3 : decode cX6_allow 3 = .ok (.iload 4, 2) := by decide +kernel
theorem dX6_allow_5 : decode cX6_allow 5 = .ok (.aload_n 0, 1) := by decide +kernel
theorem dX6_allow_6 : decode cX6_allow 6 = .ok (.getfield 26, 3) := by decide +kernel
theorem dX6_allow_9 : decode cX6_allow 9 = .ok (.if_icmp .ge 71, 3) := by decide +kernel
theorem dX6_allow_12 : decode cX6_allow 12 = .ok (.aload_n 0, 1) := by decide +kernel
theorem dX6_allow_13 : decode cX6_allow 13 = .ok (.getfield 20, 3) := by decide +kernel
theorem dX6_allow_16 : decode cX6_allow 16 = .ok (.iload 4, 2) := by decide +kernel
theorem dX6_allow_18 : decode cX6_allow 18 = .ok (.invokevirtual 34, 3) := by decide +kernel
theorem dX6_allow_21 : decode cX6_allow 21 = .ok (.iload_n 2, 1) := by decide +kernel
theorem dX6_allow_22 : decode cX6_allow 22 = .ok (.invokestatic 38, 3) := by decide +kernel
theorem dX6_allow_25 : decode cX6_allow 25 = .ok (.iload_n 3, 1) := by decide +kernel
theorem dX6_allow_26 : decode cX6_allow 26 = .ok (.if_icmp .ne 7, 3) := by decide +kernel
theorem dX6_allow_29 : decode cX6_allow 29 = .ok (.iconst 1, 1) := by decide +kernel
theorem dX6_allow_30 : decode cX6_allow 30 = .ok (.goto 4, 3) := by decide +kernel
theorem dX6_allow_33 : decode cX6_allow 33 = .ok (.iconst 0, 1) := by decide +kernel
theorem dX6_allow_34 : decode cX6_allow 34 = .ok (.istore 5, 2) := by decide +kernel
theorem dX6_allow_36 : decode cX6_allow 36 = .ok (.aload_n 0, 1) := by decide +kernel
theorem dX6_allow_37 : decode cX6_allow 37 = .ok (.getfield 14, 3) := by decide +kernel
theorem dX6_allow_40 : decode cX6_allow 40 = .ok (.iload 4, 2) := by decide +kernel
theorem dX6_allow_42 : decode cX6_allow 42 = .ok (.invokevirtual 34, 3) := by decide +kernel
theorem dX6_allow_45 : decode cX6_allow 45 = .ok (.iload_n 1, 1) := by decide +kernel
theorem dX6_allow_46 : decode cX6_allow 46 = .ok (.if_icmp .ne 28, 3) := by decide +kernel
theorem dX6_allow_49 : decode cX6_allow 49 = .ok (.iload 5, 2) := by decide +kernel
theorem dX6_allow_51 : decode cX6_allow 51 = .ok (.aload_n 0, 1) := by decide +kernel
theorem dX6_allow_52 : decode cX6_allow 52 = .ok (.getfield 23, 3) := by decide +kernel
theorem dX6_allow_55 : decode cX6_allow 55 = .ok (.iload 4, 2) := by decide +kernel
theorem dX6_allow_57 : decode cX6_allow 57 = .ok (.invokevirtual 34, 3) := by decide +kernel
theorem dX6_allow_60 : decode cX6_allow 60 = .ok (.iconst 1, 1) := by decide +kernel
theorem dX6_allow_61 : decode cX6_allow 61 = .ok (.if_icmp .ne 7, 3) := by decide +kernel
theorem dX6_allow_64 : decode cX6_allow 64 = .ok (.iconst 1, 1) := by decide +kernel
theorem dX6_allow_65 : decode cX6_allow 65 = .ok (.goto 4, 3) := by decide +kernel
theorem dX6_allow_68 : decode cX6_allow 68 = .ok (.iconst 0, 1) := by decide +kernel
theorem dX6_allow_69 : decode cX6_allow 69 = .ok (.if_icmp .eq 5, 3) := by decide +kernel
theorem dX6_allow_72 : decode cX6_allow 72 = .ok (.iconst 0, 1) := by decide +kernel
theorem dX6_allow_73 : decode cX6_allow 73 = .ok (.ireturn, 1) := by decide +kernel
theorem dX6_allow_74 : decode cX6_allow 74 = .ok (.iinc 4 1, 3) := by decide +kernel
theorem dX6_allow_77 : decode cX6_allow 77 = .ok (.goto (-74), 3) := by decide +kernel
theorem dX6_allow_80 : decode cX6_allow 80 = .ok (.iconst 1, 1) := by decide +kernel
theorem dX6_allow_81 : decode cX6_allow 81 = .ok (.ireturn, 1) := by decide +kernel
theorem dX7_init_0 : decode cX7_init 0 = .ok (.aload_n 0, 1) := by decide +kernel
theorem dX7_init_1 : decode cX7_init 1 = .ok (.invokespecial 3, 3) := by decide +kernel
theorem dX7_init_4 : decode cX7_init 4 = .ok (.aload_n 0, 1) := by decide +kernel
theorem dX7_init_5 : decode cX7_init 5 = .ok (.new 9, 3) := by decide +kernel
theorem dX7_init_8 : decode cX7_init 8 = .ok (.dup, 1) := by decide +kernel
theorem dX7_init_9 : decode cX7_init 9 = .ok (.bipush 6, 2) := by decide +kernel
theorem dX7_init_11 : decode cX7_init 11 = .ok (.invokespecial 11, 3) := by decide +kernel
theorem dX7_init_14 : decode cX7_init 14 = .ok (.putfield 14, 3) := by decide +kernel
theorem dX7_init_17 : decode cX7_init 17 = .ok (.return_, 1) := by decide +kernel
theorem dX7_begin_0 : decode cX7_begin 0 = .ok (.aload_n 0, 1) := by decide +kernel
theorem dX7_begin_1 : decode cX7_begin 1 = .ok (.iconst 0, 1) := by decide +kernel
theorem dX7_begin_2 : decode cX7_begin 2 = .ok (.putfield 20, 3) := by decide +kernel
theorem dX7_begin_5 : decode cX7_begin 5 = .ok (.aload_n 0, 1) := by decide +kernel
theorem dX7_begin_6 : decode cX7_begin 6 = .ok (.iconst 0, 1) := by decide +kernel
theorem dX7_begin_7 : decode cX7_begin 7 = .ok (.putfield 24, 3) := by decide +kernel
theorem dX7_begin_10 : decode cX7_begin 10 = .ok (.aload_n 0, 1) := by decide +kernel
theorem dX7_begin_11 : decode cX7_begin 11 = .ok (.iconst 0, 1) := by decide +kernel
theorem dX7_begin_12 : decode cX7_begin 12 = .ok (.putfield 27, 3) := by decide +kernel
theorem dX7_begin_15 : decode cX7_begin 15 = .ok (.aload_n 0, 1) := by decide +kernel
theorem dX7_begin_16 : decode cX7_begin 16 = .ok (.iconst 0, 1) := by decide +kernel
theorem dX7_begin_17 : decode cX7_begin 17 = .ok (.putfield 30, 3) := by decide +kernel
theorem dX7_begin_20 : decode cX7_begin 20 = .ok (.aload_n 0, 1) := by decide +kernel
theorem dX7_begin_21 : decode cX7_begin 21 = .ok (.iload_n 1, 1) := by decide +kernel
theorem dX7_begin_22 : decode cX7_begin 22 = .ok (.putfield 33, 3) := by decide +kernel
theorem dX7_begin_25 : decode cX7_begin 25 = .ok (.aload_n 0, 1) := by decide +kernel
theorem dX7_begin_26 : decode cX7_begin 26 = .ok (.iconst 0, 1) := by decide +kernel
theorem dX7_begin_27 : decode cX7_begin 27 = .ok (.putfield 36, 3) := by decide +kernel
theorem dX7_begin_30 : decode cX7_begin 30 = .ok (.aload_n 0, 1) := by decide +kernel
theorem dX7_begin_31 : decode cX7_begin 31 = .ok (.getfield 14, 3) := by decide +kernel
theorem dX7_begin_34 : decode cX7_begin 34 = .ok (.iconst 0, 1) := by decide +kernel
theorem dX7_begin_35 : decode cX7_begin 35 = .ok (.invokevirtual 39, 3) := by decide +kernel
theorem dX7_begin_38 : decode cX7_begin 38 = .ok (.return_, 1) := by decide +kernel
theorem dX7_copy_0 : decode cX7_copy 0 = .ok (.aload_n 0, 1) := by decide +kernel
theorem dX7_copy_1 : decode cX7_copy 1 = .ok (.aload_n 1, 1) := by decide +kernel
theorem dX7_copy_2 : decode cX7_copy 2 = .ok (.getfield 20, 3) := by decide +kernel
theorem dX7_copy_5 : decode cX7_copy 5 = .ok (.putfield 20, 3) := by decide +kernel
theorem dX7_copy_8 : decode cX7_copy 8 = .ok (.aload_n 0, 1) := by decide +kernel
theorem dX7_copy_9 : decode cX7_copy 9 = .ok (.aload_n 1, 1) := by decide +kernel
theorem dX7_copy_10 : decode cX7_copy 10 = .ok (.getfield 24, 3) := by decide +kernel
theorem dX7_copy_13 : decode cX7_copy 13 = .ok (.putfield 24, 3) := by decide +kernel
theorem dX7_copy_16 : decode cX7_copy 16 = .ok (.aload_n 0, 1) := by decide +kernel
theorem dX7_copy_17 : decode cX7_copy 17 = .ok (.aload_n 1, 1) := by decide +kernel
theorem dX7_copy_18 : decode cX7_copy 18 = .ok (.getfield 27, 3) := by decide +kernel
theorem dX7_copy_21 : decode cX7_copy 21 = .ok (.putfield 27, 3) := by decide +kernel
theorem dX7_copy_24 : decode cX7_copy 24 = .ok (.aload_n 0, 1) := by decide +kernel
theorem dX7_copy_25 : decode cX7_copy 25 = .ok (.aload_n 1, 1) := by decide +kernel
theorem dX7_copy_26 : decode cX7_copy 26 = .ok (.getfield 30, 3) := by decide +kernel
theorem dX7_copy_29 : decode cX7_copy 29 = .ok (.putfield 30, 3) := by decide +kernel
theorem dX7_copy_32 : decode cX7_copy 32 = .ok (.aload_n 0, 1) := by decide +kernel
theorem dX7_copy_33 : decode cX7_copy 33 = .ok (.aload_n 1, 1) := by decide +kernel
theorem dX7_copy_34 : decode cX7_copy 34 = .ok (.getfield 33, 3) := by decide +kernel
theorem dX7_copy_37 : decode cX7_copy 37 = .ok (.putfield 33, 3) := by decide +kernel
theorem dX7_copy_40 : decode cX7_copy 40 = .ok (.aload_n 0, 1) := by decide +kernel
theorem dX7_copy_41 : decode cX7_copy 41 = .ok (.aload_n 1, 1) := by decide +kernel
theorem dX7_copy_42 : decode cX7_copy 42 = .ok (.getfield 36, 3) := by decide +kernel
theorem dX7_copy_45 : decode cX7_copy 45 = .ok (.putfield 36, 3) := by decide +kernel
theorem dX7_copy_48 : decode cX7_copy 48 = .ok (.aload_n 0, 1) := by decide +kernel
theorem dX7_copy_49 : decode cX7_copy 49 = .ok (.getfield 14, 3) := by decide +kernel
theorem dX7_copy_52 : decode cX7_copy 52 = .ok (.aload_n 1, 1) := by decide +kernel
theorem dX7_copy_53 : decode cX7_copy 53 = .ok (.getfield 14, 3) := by decide +kernel
theorem dX7_copy_56 : decode cX7_copy 56 = .ok (.invokevirtual 42, 3) := by decide +kernel
theorem dX7_copy_59 : decode cX7_copy 59 = .ok (.return_, 1) := by decide +kernel
theorem dX8_init_0 : decode cX8_init 0 = .ok (.aload_n 0, 1) := by decide +kernel
theorem dX8_init_1 : decode cX8_init 1 = .ok (.invokespecial 3, 3) := by decide +kernel
theorem dX8_init_4 : decode cX8_init 4 = .ok (.aload_n 0, 1) := by decide +kernel
theorem dX8_init_5 : decode cX8_init 5 = .ok (.sipush 200, 3) := by decide +kernel
theorem dX8_init_8 : decode cX8_init 8 = .ok (.newarray .int, 2) := by decide +kernel
theorem dX8_init_10 : decode cX8_init 10 = .ok (.putfield 9, 3) := by decide +kernel
theorem dX8_init_13 : decode cX8_init 13 = .ok (.return_, 1) := by decide +kernel
theorem dX8_clear_0 : decode cX8_clear 0 = .ok (.aload_n 0, 1) := by decide +kernel
theorem dX8_clear_1 : decode cX8_clear 1 = .ok (.iconst 0, 1) := by decide +kernel
theorem dX8_clear_2 : decode cX8_clear 2 = .ok (.putfield 15, 3) := by decide +kernel
theorem dX8_clear_5 : decode cX8_clear 5 = .ok (.return_, 1) := by decide +kernel
theorem dX8_add_0 : decode cX8_add 0 = .ok (.aload_n 0, 1) := by decide +kernel
theorem dX8_add_1 : decode cX8_add 1 = .ok (.getfield 15, 3) := by decide +kernel
theorem dX8_add_4 : decode cX8_add 4 = .ok (.ifCond .lt 35, 3) := by decide +kernel
theorem dX8_add_7 : decode cX8_add 7 = .ok (.aload_n 0, 1) := by decide +kernel
theorem dX8_add_8 : decode cX8_add 8 = .ok (.getfield 15, 3) := by decide +kernel
theorem dX8_add_11 : decode cX8_add 11 = .ok (.aload_n 0, 1) := by decide +kernel
theorem dX8_add_12 : decode cX8_add 12 = .ok (.getfield 9, 3) := by decide +kernel
theorem dX8_add_15 : decode cX8_add 15 = .ok (.arraylength, 1) := by decide +kernel
theorem dX8_add_16 : decode cX8_add 16 = .ok (.if_icmp .ge 23, 3) := by decide +kernel
theorem dX8_add_19 : decode cX8_add 19 = .ok (.aload_n 0, 1) := by decide +kernel
theorem dX8_add_20 : decode cX8_add 20 = .ok (.getfield 9, 3) := by decide +kernel
theorem dX8_add_23 : decode cX8_add 23 = .ok (.aload_n 0, 1) := by decide +kernel
theorem dX8_add_24 : decode cX8_add 24 = .ok (.getfield 15, 3) := by decide +kernel
theorem dX8_add_27 : decode cX8_add 27 = .ok (.iload_n 1, 1) := by decide +kernel
theorem dX8_add_28 : decode cX8_add 28 = .ok (.iastore, 1) := by decide +kernel
theorem dX8_add_29 : decode cX8_add 29 = .ok (.aload_n 0, 1) := by decide +kernel
theorem dX8_add_30 : decode cX8_add 30 = .ok (.dup, 1) := by decide +kernel
theorem dX8_add_31 : decode cX8_add 31 = .ok (.getfield 15, 3) := by decide +kernel
theorem dX8_add_34 : decode cX8_add 34 = .ok (.iconst 1, 1) := by decide +kernel
theorem dX8_add_35 : decode cX8_add 35 = .ok (.iadd, 1) := by decide +kernel
theorem dX8_add_36 : decode cX8_add 36 = .ok (.putfield 15, 3) := by decide +kernel
theorem dX8_add_39 : decode cX8_add 39 = .ok (.return_, 1) := by decide +kernel
theorem dX8_letter_0 : decode cX8_letter 0 = .ok (.iload_n 1, 1) := by decide +kernel
theorem dX8_letter_1 : decode cX8_letter 1 = .ok (.ifCond .lt 29, 3) := by decide +kernel
theorem dX8_letter_4 : decode cX8_letter 4 = .ok (.iload_n 1, 1) := by decide +kernel
theorem dX8_letter_5 : decode cX8_letter 5 = .ok (.aload_n 0, 1) := by decide +kernel
theorem dX8_letter_6 : decode cX8_letter 6 = .ok (.getfield 15, 3) := by decide +kernel
theorem dX8_letter_9 : decode cX8_letter 9 = .ok (.if_icmp .ge 21, 3) := by decide +kernel
theorem dX8_letter_12 : decode cX8_letter 12 = .ok (.iload_n 1, 1) := by decide +kernel
theorem dX8_letter_13 : decode cX8_letter 13 = .ok (.aload_n 0, 1) := by decide +kernel
theorem dX8_letter_14 : decode cX8_letter 14 = .ok (.getfield 9, 3) := by decide +kernel
theorem dX8_letter_17 : decode cX8_letter 17 = .ok (.arraylength, 1) := by decide +kernel
theorem dX8_letter_18 : decode cX8_letter 18 = .ok (.if_icmp .ge 12, 3) := by decide +kernel
theorem dX8_letter_21 : decode cX8_letter 21 = .ok (.aload_n 0, 1) := by decide +kernel
theorem dX8_letter_22 : decode cX8_letter 22 = .ok (.getfield 9, 3) := by decide +kernel
theorem dX8_letter_25 : decode cX8_letter 25 = .ok (.iload_n 1, 1) := by decide +kernel
theorem dX8_letter_26 : decode cX8_letter 26 = .ok (.iaload, 1) := by decide +kernel
theorem dX8_letter_27 : decode cX8_letter 27 = .ok (.goto 4, 3) := by decide +kernel
theorem dX8_letter_30 : decode cX8_letter 30 = .ok (.iconst 0, 1) := by decide +kernel
theorem dX8_letter_31 : decode cX8_letter 31 = .ok (.ireturn, 1) := by decide +kernel
theorem dX9_init_0 : decode cX9_init 0 = .ok (.aload_n 0, 1) := by decide +kernel
theorem dX9_init_1 : decode cX9_init 1 = .ok (.invokespecial 3, 3) := by decide +kernel
theorem dX9_init_4 : decode cX9_init 4 = .ok (.aload_n 0, 1) := by decide +kernel
theorem dX9_init_5 : decode cX9_init 5 = .ok (.new 9, 3) := by decide +kernel
theorem dX9_init_8 : decode cX9_init 8 = .ok (.dup, 1) := by decide +kernel
theorem dX9_init_9 : decode cX9_init 9 = .ok (.invokespecial 11, 3) := by decide +kernel
theorem dX9_init_12 : decode cX9_init 12 = .ok (.putfield 12, 3) := by decide +kernel
theorem dX9_init_15 : decode cX9_init 15 = .ok (.aload_n 0, 1) := by decide +kernel
theorem dX9_init_16 : decode cX9_init 16 = .ok (.new 16, 3) := by decide +kernel
theorem dX9_init_19 : decode cX9_init 19 = .ok (.dup, 1) := by decide +kernel
theorem dX9_init_20 : decode cX9_init 20 = .ok (.invokespecial 18, 3) := by decide +kernel
theorem dX9_init_23 : decode cX9_init 23 = .ok (.putfield 19, 3) := by decide +kernel
theorem dX9_init_26 : decode cX9_init 26 = .ok (.aload_n 0, 1) := by decide +kernel
theorem dX9_init_27 : decode cX9_init 27 = .ok (.new 16, 3) := by decide +kernel
theorem dX9_init_30 : decode cX9_init 30 = .ok (.dup, 1) := by decide +kernel
theorem dX9_init_31 : decode cX9_init 31 = .ok (.invokespecial 18, 3) := by decide +kernel
theorem dX9_init_34 : decode cX9_init 34 = .ok (.putfield 23, 3) := by decide +kernel
theorem dX9_init_37 : decode cX9_init 37 = .ok (.aload_n 0, 1) := by decide +kernel
theorem dX9_init_38 : decode cX9_init 38 = .ok (.new 26, 3) := by decide +kernel
theorem dX9_init_41 : decode cX9_init 41 = .ok (.dup, 1) := by decide +kernel
theorem dX9_init_42 : decode cX9_init 42 = .ok (.aload_n 0, 1) := by decide +kernel
theorem dX9_init_43 : decode cX9_init 43 = .ok (.getfield 12, 3) := by decide +kernel
theorem dX9_init_46 : decode cX9_init 46 = .ok (.aload_n 0, 1) := by decide +kernel
theorem dX9_init_47 : decode cX9_init 47 = .ok (.getfield 23, 3) := by decide +kernel
theorem dX9_init_50 : decode cX9_init 50 = .ok (.invokespecial 28, 3) := by decide +kernel
theorem dX9_init_53 : decode cX9_init 53 = .ok (.putfield 31, 3) := by decide +kernel
theorem dX9_init_56 : decode cX9_init 56 = .ok (.aload_n 0, 1) := by decide +kernel
theorem dX9_init_57 : decode cX9_init 57 = .ok (.new 35, 3) := by decide +kernel
theorem dX9_init_60 : decode cX9_init 60 = .ok (.dup, 1) := by decide +kernel
theorem dX9_init_61 : decode cX9_init 61 = .ok (.aload_n 0, 1) := by decide +kernel
theorem dX9_init_62 : decode cX9_init 62 = .ok (.getfield 19, 3) := by decide +kernel
theorem dX9_init_65 : decode cX9_init 65 = .ok (.invokespecial 37, 3) := by decide +kernel
theorem dX9_init_68 : decode cX9_init 68 = .ok (.putfield 40, 3) := by decide +kernel
theorem dX9_init_71 : decode cX9_init 71 = .ok (.aload_n 0, 1) := by decide +kernel
theorem dX9_init_72 : decode cX9_init 72 = .ok (.new 44, 3) := by decide +kernel
theorem dX9_init_75 : decode cX9_init 75 = .ok (.dup, 1) := by decide +kernel
theorem dX9_init_76 : decode cX9_init 76 = .ok (.invokespecial 46, 3) := by decide +kernel
theorem dX9_init_79 : decode cX9_init 79 = .ok (.putfield 47, 3) := by decide +kernel
theorem dX9_init_82 : decode cX9_init 82 = .ok (.aload_n 0, 1) := by decide +kernel
theorem dX9_init_83 : decode cX9_init 83 = .ok (.new 44, 3) := by decide +kernel
theorem dX9_init_86 : decode cX9_init 86 = .ok (.dup, 1) := by decide +kernel
theorem dX9_init_87 : decode cX9_init 87 = .ok (.invokespecial 46, 3) := by decide +kernel
theorem dX9_init_90 : decode cX9_init 90 = .ok (.putfield 51, 3) := by decide +kernel
theorem dX9_init_93 : decode cX9_init 93 = .ok (.aload_n 0, 1) := by decide +kernel
theorem dX9_init_94 : decode cX9_init 94 = .ok (.new 54, 3) := by decide +kernel
theorem dX9_init_97 : decode cX9_init 97 = .ok (.dup, 1) := by decide +kernel
theorem dX9_init_98 : decode cX9_init 98 = .ok (.bipush 8, 2) := by decide +kernel
theorem dX9_init_100 : decode cX9_init 100 = .ok (.invokespecial 56, 3) := by decide +kernel
theorem dX9_init_103 : decode cX9_init 103 = .ok (.putfield 59, 3) := by decide +kernel
theorem dX9_init_106 : decode cX9_init 106 = .ok (.aload_n 0, 1) := by decide +kernel
theorem dX9_init_107 : decode cX9_init 107 = .ok (.new 54, 3) := by decide +kernel
theorem dX9_init_110 : decode cX9_init 110 = .ok (.dup, 1) := by decide +kernel
theorem dX9_init_111 : decode cX9_init 111 = .ok (.iconst 2, 1) := by decide +kernel
theorem dX9_init_112 : decode cX9_init 112 = .ok (.invokespecial 56, 3) := by decide +kernel
theorem dX9_init_115 : decode cX9_init 115 = .ok (.putfield 63, 3) := by decide +kernel
theorem dX9_init_118 : decode cX9_init 118 = .ok (.aload_n 0, 1) := by decide +kernel
theorem dX9_init_119 : decode cX9_init 119 = .ok (.new 66, 3) := by decide +kernel
theorem dX9_init_122 : decode cX9_init 122 = .ok (.dup, 1) := by decide +kernel
theorem dX9_init_123 : decode cX9_init 123 = .ok (.invokespecial 68, 3) := by decide +kernel
theorem dX9_init_126 : decode cX9_init 126 = .ok (.putfield 69, 3) := by decide +kernel
theorem dX9_init_129 : decode cX9_init 129 = .ok (.aload_n 0, 1) := by decide +kernel
theorem dX9_init_130 : decode cX9_init 130 = .ok (.new 73, 3) := by decide +kernel
theorem dX9_init_133 : decode cX9_init 133 = .ok (.dup, 1) := by decide +kernel
theorem dX9_init_134 : decode cX9_init 134 = .ok (.invokespecial 75, 3) := by decide +kernel
theorem dX9_init_137 : decode cX9_init 137 = .ok (.putfield 76, 3) := by decide +kernel
theorem dX9_init_140 : decode cX9_init 140 = .ok (.iconst 0, 1) := by decide +kernel
theorem dX9_init_141 : decode cX9_init 141 = .ok (.istore_n 1, 1) := by decide +kernel
theorem dX9_init_142 : decode cX9_init 142 = .ok (.iload_n 1, 1) := by decide +kernel
theorem dX9_init_143 : decode cX9_init 143 = .ok (.ldc 80, 2) := by decide +kernel
theorem dX9_init_145 : decode cX9_init 145 = .ok (.invokevirtual 82, 3) := by decide +kernel
theorem dX9_init_148 : decode cX9_init 148 = .ok (.if_icmp .ge 22, 3) := by decide +kernel
theorem dX9_init_151 : decode cX9_init 151 = .ok (.aload_n 0, 1) := by decide +kernel
theorem dX9_init_152 : decode cX9_init 152 = .ok (.getfield 12, 3) := by decide +kernel
theorem dX9_init_155 : decode cX9_init 155 = .ok (.ldc 80, 2) := by decide +kernel
theorem dX9_init_157 : decode cX9_init 157 = .ok (.iload_n 1, 1) := by decide +kernel
theorem dX9_init_158 : decode cX9_init 158 = .ok (.invokevirtual 88, 3) := by decide +kernel
theorem dX9_init_161 : decode cX9_init 161 = .ok (.invokevirtual 92, 3) := by decide +kernel
theorem dX9_init_164 : decode cX9_init 164 = .ok (.iinc 1 1, 3) := by decide +kernel
theorem dX9_init_167 : decode cX9_init 167 = .ok (.goto (-25), 3) := by decide +kernel
theorem dX9_init_170 : decode cX9_init 170 = .ok (.aload_n 0, 1) := by decide +kernel
theorem dX9_init_171 : decode cX9_init 171 = .ok (.getfield 31, 3) := by decide +kernel
theorem dX9_init_174 : decode cX9_init 174 = .ok (.invokevirtual 95, 3) := by decide +kernel
theorem dX9_init_177 : decode cX9_init 177 = .ok (.pop, 1) := by decide +kernel
theorem dX9_init_178 : decode cX9_init 178 = .ok (.aload_n 0, 1) := by decide +kernel
theorem dX9_init_179 : decode cX9_init 179 = .ok (.invokevirtual 98, 3) := by decide +kernel
theorem dX9_init_182 : decode cX9_init 182 = .ok (.aload_n 0, 1) := by decide +kernel
theorem dX9_init_183 : decode cX9_init 183 = .ok (.getfield 12, 3) := by decide +kernel
theorem dX9_init_186 : decode cX9_init 186 = .ok (.invokevirtual 101, 3) := by decide +kernel
theorem dX9_init_189 : decode cX9_init 189 = .ok (.return_, 1) := by decide +kernel
theorem dX9_write_0 : decode cX9_write 0 = .ok (.iload_n 1, 1) := by decide +kernel
theorem dX9_write_1 : decode cX9_write 1 = .ok (.bipush 32, 2) := by decide +kernel
theorem dX9_write_3 : decode cX9_write 3 = .ok (.if_icmp .lt 9, 3) := by decide +kernel
theorem dX9_write_6 : decode cX9_write 6 = .ok (.iload_n 1, 1) := by decide +kernel
theorem dX9_write_7 : decode cX9_write 7 = .ok (.bipush 126, 2) := by decide +kernel
theorem dX9_write_9 : decode cX9_write 9 = .ok (.if_icmp .le 5, 3) := by decide +kernel
theorem dX9_write_12 : decode cX9_write 12 = .ok (.iconst (-1), 1) := by decide +kernel
theorem dX9_write_13 : decode cX9_write 13 = .ok (.ireturn, 1) := by decide +kernel
theorem dX9_write_14 : decode cX9_write 14 = .ok (.aload_n 0, 1) := by decide +kernel
theorem dX9_write_15 : decode cX9_write 15 = .ok (.getfield 12, 3) := by decide +kernel
theorem dX9_write_18 : decode cX9_write 18 = .ok (.getfield 104, 3) := by decide +kernel
theorem dX9_write_21 : decode cX9_write 21 = .ok (.sipush 200, 3) := by decide +kernel
theorem dX9_write_24 : decode cX9_write 24 = .ok (.if_icmp .lt 6, 3) := by decide +kernel
theorem dX9_write_27 : decode cX9_write 27 = .ok (.bipush (-3), 2) := by decide +kernel
theorem dX9_write_29 : decode cX9_write 29 = .ok (.ireturn, 1) := by decide +kernel
theorem dX9_write_30 : decode cX9_write 30 = .ok (.aload_n 0, 1) := by decide +kernel
theorem dX9_write_31 : decode cX9_write 31 = .ok (.getfield 12, 3) := by decide +kernel
theorem dX9_write_34 : decode cX9_write 34 = .ok (.iload_n 1, 1) := by decide +kernel
theorem dX9_write_35 : decode cX9_write 35 = .ok (.invokevirtual 92, 3) := by decide +kernel
theorem dX9_write_38 : decode cX9_write 38 = .ok (.aload_n 0, 1) := by decide +kernel
theorem dX9_write_39 : decode cX9_write 39 = .ok (.getfield 12, 3) := by decide +kernel
theorem dX9_write_42 : decode cX9_write 42 = .ok (.getfield 104, 3) := by decide +kernel
theorem dX9_write_45 : decode cX9_write 45 = .ok (.ireturn, 1) := by decide +kernel
theorem dX9_wipe_0 : decode cX9_wipe 0 = .ok (.aload_n 0, 1) := by decide +kernel
theorem dX9_wipe_1 : decode cX9_wipe 1 = .ok (.getfield 12, 3) := by decide +kernel
theorem dX9_wipe_4 : decode cX9_wipe 4 = .ok (.getfield 104, 3) := by decide +kernel
theorem dX9_wipe_7 : decode cX9_wipe 7 = .ok (.istore_n 1, 1) := by decide +kernel
theorem dX9_wipe_8 : decode cX9_wipe 8 = .ok (.aload_n 0, 1) := by decide +kernel
theorem dX9_wipe_9 : decode cX9_wipe 9 = .ok (.getfield 12, 3) := by decide +kernel
theorem dX9_wipe_12 : decode cX9_wipe 12 = .ok (.invokevirtual 101, 3) := by decide +kernel
theorem dX9_wipe_15 : decode cX9_wipe 15 = .ok (.iload_n 1, 1) := by decide +kernel
theorem dX9_wipe_16 : decode cX9_wipe 16 = .ok (.ireturn, 1) := by decide +kernel
theorem dX9_fault_0 : decode cX9_fault 0 = .ok (.aload_n 0, 1) := by decide +kernel
theorem dX9_fault_1 : decode cX9_fault 1 = .ok (.getfield 31, 3) := by decide +kernel
theorem dX9_fault_4 : decode cX9_fault 4 = .ok (.invokevirtual 95, 3) := by decide +kernel
theorem dX9_fault_7 : decode cX9_fault 7 = .ok (.ireturn, 1) := by decide +kernel
theorem dX9_lay_0 : decode cX9_lay 0 = .ok (.aload_n 0, 1) := by decide +kernel
theorem dX9_lay_1 : decode cX9_lay 1 = .ok (.getfield 31, 3) := by decide +kernel
theorem dX9_lay_4 : decode cX9_lay 4 = .ok (.invokevirtual 95, 3) := by decide +kernel
theorem dX9_lay_7 : decode cX9_lay 7 = .ok (.bipush (-4), 2) := by decide +kernel
theorem dX9_lay_9 : decode cX9_lay 9 = .ok (.if_icmp .ne 13, 3) := by decide +kernel
theorem dX9_lay_12 : decode cX9_lay 12 = .ok (.aload_n 0, 1) := by decide +kernel
theorem dX9_lay_13 : decode cX9_lay 13 = .ok (.getfield 23, 3) := by decide +kernel
theorem dX9_lay_16 : decode cX9_lay 16 = .ok (.getfield 107, 3) := by decide +kernel
theorem dX9_lay_19 : decode cX9_lay 19 = .ok (.ifCond .ne 6, 3) := by decide +kernel
theorem dX9_lay_22 : decode cX9_lay 22 = .ok (.bipush (-2), 2) := by decide +kernel
theorem dX9_lay_24 : decode cX9_lay 24 = .ok (.ireturn, 1) := by decide +kernel
theorem dX9_lay_25 : decode cX9_lay 25 = .ok (.aload_n 0, 1) := by decide +kernel
theorem dX9_lay_26 : decode cX9_lay 26 = .ok (.invokevirtual 98, 3) := by decide +kernel
theorem dX9_lay_29 : decode cX9_lay 29 = .ok (.aload_n 0, 1) := by decide +kernel
theorem dX9_lay_30 : decode cX9_lay 30 = .ok (.getfield 19, 3) := by decide +kernel
theorem dX9_lay_33 : decode cX9_lay 33 = .ok (.getfield 107, 3) := by decide +kernel
theorem dX9_lay_36 : decode cX9_lay 36 = .ok (.ireturn, 1) := by decide +kernel
theorem dX9_staff_0 : decode cX9_staff 0 = .ok (.aload_n 0, 1) := by decide +kernel
theorem dX9_staff_1 : decode cX9_staff 1 = .ok (.iload_n 1, 1) := by decide +kernel
theorem dX9_staff_2 : decode cX9_staff 2 = .ok (.invokevirtual 110, 3) := by decide +kernel
theorem dX9_staff_5 : decode cX9_staff 5 = .ok (.ifCond .ne 5, 3) := by decide +kernel
theorem dX9_staff_8 : decode cX9_staff 8 = .ok (.iconst (-1), 1) := by decide +kernel
theorem dX9_staff_9 : decode cX9_staff 9 = .ok (.ireturn, 1) := by decide +kernel
theorem dX9_staff_10 : decode cX9_staff 10 = .ok (.iload_n 2, 1) := by decide +kernel
theorem dX9_staff_11 : decode cX9_staff 11 = .ok (.tableswitch 122 0 6 #[41, 53, 65, 77, 89, 98, 110], 41) := by decide +kernel
theorem dX9_staff_52 : decode cX9_staff 52 = .ok (.aload_n 0, 1) := by decide +kernel
theorem dX9_staff_53 : decode cX9_staff 53 = .ok (.getfield 19, 3) := by decide +kernel
theorem dX9_staff_56 : decode cX9_staff 56 = .ok (.getfield 114, 3) := by decide +kernel
theorem dX9_staff_59 : decode cX9_staff 59 = .ok (.iload_n 1, 1) := by decide +kernel
theorem dX9_staff_60 : decode cX9_staff 60 = .ok (.invokevirtual 118, 3) := by decide +kernel
theorem dX9_staff_63 : decode cX9_staff 63 = .ok (.ireturn, 1) := by decide +kernel
theorem dX9_staff_64 : decode cX9_staff 64 = .ok (.aload_n 0, 1) := by decide +kernel
theorem dX9_staff_65 : decode cX9_staff 65 = .ok (.getfield 19, 3) := by decide +kernel
theorem dX9_staff_68 : decode cX9_staff 68 = .ok (.getfield 124, 3) := by decide +kernel
theorem dX9_staff_71 : decode cX9_staff 71 = .ok (.iload_n 1, 1) := by decide +kernel
theorem dX9_staff_72 : decode cX9_staff 72 = .ok (.invokevirtual 118, 3) := by decide +kernel
theorem dX9_staff_75 : decode cX9_staff 75 = .ok (.ireturn, 1) := by decide +kernel
theorem dX9_staff_76 : decode cX9_staff 76 = .ok (.aload_n 0, 1) := by decide +kernel
theorem dX9_staff_77 : decode cX9_staff 77 = .ok (.getfield 19, 3) := by decide +kernel
theorem dX9_staff_80 : decode cX9_staff 80 = .ok (.getfield 127, 3) := by decide +kernel
theorem dX9_staff_83 : decode cX9_staff 83 = .ok (.iload_n 1, 1) := by decide +kernel
theorem dX9_staff_84 : decode cX9_staff 84 = .ok (.invokevirtual 118, 3) := by decide +kernel
theorem dX9_staff_87 : decode cX9_staff 87 = .ok (.ireturn, 1) := by decide +kernel
theorem dX9_staff_88 : decode cX9_staff 88 = .ok (.aload_n 0, 1) := by decide +kernel
theorem dX9_staff_89 : decode cX9_staff 89 = .ok (.getfield 19, 3) := by decide +kernel
theorem dX9_staff_92 : decode cX9_staff 92 = .ok (.getfield 130, 3) := by decide +kernel
theorem dX9_staff_95 : decode cX9_staff 95 = .ok (.iload_n 1, 1) := by decide +kernel
theorem dX9_staff_96 : decode cX9_staff 96 = .ok (.invokevirtual 118, 3) := by decide +kernel
theorem dX9_staff_99 : decode cX9_staff 99 = .ok (.ireturn, 1) := by decide +kernel
theorem dX9_staff_100 : decode cX9_staff 100 = .ok (.aload_n 0, 1) := by decide +kernel
theorem dX9_staff_101 : decode cX9_staff 101 = .ok (.invokevirtual 133, 3) := by decide +kernel
theorem dX9_staff_104 : decode cX9_staff 104 = .ok (.iload_n 1, 1) := by decide +kernel
theorem dX9_staff_105 : decode cX9_staff 105 = .ok (.invokestatic 136, 3) := by decide +kernel
theorem dX9_staff_108 : decode cX9_staff 108 = .ok (.ireturn, 1) := by decide +kernel
theorem dX9_staff_109 : decode cX9_staff 109 = .ok (.aload_n 0, 1) := by decide +kernel
theorem dX9_staff_110 : decode cX9_staff 110 = .ok (.getfield 47, 3) := by decide +kernel
theorem dX9_staff_113 : decode cX9_staff 113 = .ok (.getfield 140, 3) := by decide +kernel
theorem dX9_staff_116 : decode cX9_staff 116 = .ok (.iload_n 1, 1) := by decide +kernel
theorem dX9_staff_117 : decode cX9_staff 117 = .ok (.invokevirtual 118, 3) := by decide +kernel
theorem dX9_staff_120 : decode cX9_staff 120 = .ok (.ireturn, 1) := by decide +kernel
theorem dX9_staff_121 : decode cX9_staff 121 = .ok (.aload_n 0, 1) := by decide +kernel
theorem dX9_staff_122 : decode cX9_staff 122 = .ok (.getfield 47, 3) := by decide +kernel
theorem dX9_staff_125 : decode cX9_staff 125 = .ok (.getfield 143, 3) := by decide +kernel
theorem dX9_staff_128 : decode cX9_staff 128 = .ok (.iload_n 1, 1) := by decide +kernel
theorem dX9_staff_129 : decode cX9_staff 129 = .ok (.invokestatic 136, 3) := by decide +kernel
theorem dX9_staff_132 : decode cX9_staff 132 = .ok (.ireturn, 1) := by decide +kernel
theorem dX9_staff_133 : decode cX9_staff 133 = .ok (.iconst (-1), 1) := by decide +kernel
theorem dX9_staff_134 : decode cX9_staff 134 = .ok (.ireturn, 1) := by decide +kernel
theorem dX9_customer_0 : decode cX9_customer 0 = .ok (.aload_n 0, 1) := by decide +kernel
theorem dX9_customer_1 : decode cX9_customer 1 = .ok (.iload_n 1, 1) := by decide +kernel
theorem dX9_customer_2 : decode cX9_customer 2 = .ok (.invokevirtual 146, 3) := by decide +kernel
theorem dX9_customer_5 : decode cX9_customer 5 = .ok (.ifCond .ne 5, 3) := by decide +kernel
theorem dX9_customer_8 : decode cX9_customer 8 = .ok (.iconst (-1), 1) := by decide +kernel
theorem dX9_customer_9 : decode cX9_customer 9 = .ok (.ireturn, 1) := by decide +kernel
theorem dX9_customer_10 : decode cX9_customer 10 = .ok (.iload_n 2, 1) := by decide +kernel
theorem dX9_customer_11 : decode cX9_customer 11 = .ok (.tableswitch 115 0 5 #[37, 49, 61, 73, 85, 109], 37) := by decide +kernel
theorem dX9_customer_48 : decode cX9_customer 48 = .ok (.aload_n 0, 1) := by decide +kernel
theorem dX9_customer_49 : decode cX9_customer 49 = .ok (.getfield 19, 3) := by decide +kernel
theorem dX9_customer_52 : decode cX9_customer 52 = .ok (.getfield 149, 3) := by decide +kernel
theorem dX9_customer_55 : decode cX9_customer 55 = .ok (.iload_n 1, 1) := by decide +kernel
theorem dX9_customer_56 : decode cX9_customer 56 = .ok (.invokevirtual 118, 3) := by decide +kernel
theorem dX9_customer_59 : decode cX9_customer 59 = .ok (.ireturn, 1) := by decide +kernel
theorem dX9_customer_60 : decode cX9_customer 60 = .ok (.aload_n 0, 1) := by decide +kernel
theorem dX9_customer_61 : decode cX9_customer 61 = .ok (.getfield 19, 3) := by decide +kernel
theorem dX9_customer_64 : decode cX9_customer 64 = .ok (.getfield 152, 3) := by decide +kernel
theorem dX9_customer_67 : decode cX9_customer 67 = .ok (.iload_n 1, 1) := by decide +kernel
theorem dX9_customer_68 : decode cX9_customer 68 = .ok (.invokevirtual 118, 3) := by decide +kernel
theorem dX9_customer_71 : decode cX9_customer 71 = .ok (.ireturn, 1) := by decide +kernel
theorem dX9_customer_72 : decode cX9_customer 72 = .ok (.aload_n 0, 1) := by decide +kernel
theorem dX9_customer_73 : decode cX9_customer 73 = .ok (.getfield 19, 3) := by decide +kernel
theorem dX9_customer_76 : decode cX9_customer 76 = .ok (.getfield 155, 3) := by decide +kernel
theorem dX9_customer_79 : decode cX9_customer 79 = .ok (.iload_n 1, 1) := by decide +kernel
theorem dX9_customer_80 : decode cX9_customer 80 = .ok (.invokevirtual 118, 3) := by decide +kernel
theorem dX9_customer_83 : decode cX9_customer 83 = .ok (.ireturn, 1) := by decide +kernel
theorem dX9_customer_84 : decode cX9_customer 84 = .ok (.aload_n 0, 1) := by decide +kernel
theorem dX9_customer_85 : decode cX9_customer 85 = .ok (.getfield 19, 3) := by decide +kernel
theorem dX9_customer_88 : decode cX9_customer 88 = .ok (.getfield 158, 3) := by decide +kernel
theorem dX9_customer_91 : decode cX9_customer 91 = .ok (.iload_n 1, 1) := by decide +kernel
theorem dX9_customer_92 : decode cX9_customer 92 = .ok (.invokevirtual 118, 3) := by decide +kernel
theorem dX9_customer_95 : decode cX9_customer 95 = .ok (.ireturn, 1) := by decide +kernel
theorem dX9_customer_96 : decode cX9_customer 96 = .ok (.aload_n 0, 1) := by decide +kernel
theorem dX9_customer_97 : decode cX9_customer 97 = .ok (.getfield 19, 3) := by decide +kernel
theorem dX9_customer_100 : decode cX9_customer 100 = .ok (.iload_n 1, 1) := by decide +kernel
theorem dX9_customer_101 : decode cX9_customer 101 = .ok (.aload_n 0, 1) := by decide +kernel
theorem dX9_customer_102 : decode cX9_customer 102 = .ok (.getfield 47, 3) := by decide +kernel
theorem dX9_customer_105 : decode cX9_customer 105 = .ok (.getfield 161, 3) := by decide +kernel
theorem dX9_customer_108 : decode cX9_customer 108 = .ok (.invokevirtual 163, 3) := by decide +kernel
theorem dX9_customer_111 : decode cX9_customer 111 = .ok (.ifCond .eq 7, 3) := by decide +kernel
theorem dX9_customer_114 : decode cX9_customer 114 = .ok (.iconst 1, 1) := by decide +kernel
theorem dX9_customer_115 : decode cX9_customer 115 = .ok (.goto 4, 3) := by decide +kernel
theorem dX9_customer_118 : decode cX9_customer 118 = .ok (.iconst 0, 1) := by decide +kernel
theorem dX9_customer_119 : decode cX9_customer 119 = .ok (.ireturn, 1) := by decide +kernel
theorem dX9_customer_120 : decode cX9_customer 120 = .ok (.aload_n 0, 1) := by decide +kernel
theorem dX9_customer_121 : decode cX9_customer 121 = .ok (.iload_n 1, 1) := by decide +kernel
theorem dX9_customer_122 : decode cX9_customer 122 = .ok (.invokevirtual 167, 3) := by decide +kernel
theorem dX9_customer_125 : decode cX9_customer 125 = .ok (.ireturn, 1) := by decide +kernel
theorem dX9_customer_126 : decode cX9_customer 126 = .ok (.iconst (-1), 1) := by decide +kernel
theorem dX9_customer_127 : decode cX9_customer 127 = .ok (.ireturn, 1) := by decide +kernel
theorem dX9_quarrel_0 : decode cX9_quarrel 0 = .ok (.aload_n 0, 1) := by decide +kernel
theorem dX9_quarrel_1 : decode cX9_quarrel 1 = .ok (.iload_n 1, 1) := by decide +kernel
theorem dX9_quarrel_2 : decode cX9_quarrel 2 = .ok (.iload_n 2, 1) := by decide +kernel
theorem dX9_quarrel_3 : decode cX9_quarrel 3 = .ok (.invokevirtual 170, 3) := by decide +kernel
theorem dX9_quarrel_6 : decode cX9_quarrel 6 = .ok (.ifCond .ne 5, 3) := by decide +kernel
theorem dX9_quarrel_9 : decode cX9_quarrel 9 = .ok (.iconst (-1), 1) := by decide +kernel
theorem dX9_quarrel_10 : decode cX9_quarrel 10 = .ok (.ireturn, 1) := by decide +kernel
theorem dX9_quarrel_11 : decode cX9_quarrel 11 = .ok (.aload_n 0, 1) := by decide +kernel
theorem dX9_quarrel_12 : decode cX9_quarrel 12 = .ok (.getfield 47, 3) := by decide +kernel
theorem dX9_quarrel_15 : decode cX9_quarrel 15 = .ok (.getfield 173, 3) := by decide +kernel
theorem dX9_quarrel_18 : decode cX9_quarrel 18 = .ok (.iload_n 1, 1) := by decide +kernel
theorem dX9_quarrel_19 : decode cX9_quarrel 19 = .ok (.iload_n 2, 1) := by decide +kernel
theorem dX9_quarrel_20 : decode cX9_quarrel 20 = .ok (.invokestatic 176, 3) := by decide +kernel
theorem dX9_quarrel_23 : decode cX9_quarrel 23 = .ok (.invokestatic 136, 3) := by decide +kernel
theorem dX9_quarrel_26 : decode cX9_quarrel 26 = .ok (.ireturn, 1) := by decide +kernel
theorem dX9_woken_0 : decode cX9_woken 0 = .ok (.aload_n 0, 1) := by decide +kernel
theorem dX9_woken_1 : decode cX9_woken 1 = .ok (.invokevirtual 179, 3) := by decide +kernel
theorem dX9_woken_4 : decode cX9_woken 4 = .ok (.aload_n 0, 1) := by decide +kernel
theorem dX9_woken_5 : decode cX9_woken 5 = .ok (.getfield 40, 3) := by decide +kernel
theorem dX9_woken_8 : decode cX9_woken 8 = .ok (.getfield 182, 3) := by decide +kernel
theorem dX9_woken_11 : decode cX9_woken 11 = .ok (.ireturn, 1) := by decide +kernel
theorem dX9_pass_0 : decode cX9_pass 0 = .ok (.iload_n 1, 1) := by decide +kernel
theorem dX9_pass_1 : decode cX9_pass 1 = .ok (.iconst 1, 1) := by decide +kernel
theorem dX9_pass_2 : decode cX9_pass 2 = .ok (.if_icmp .lt 9, 3) := by decide +kernel
theorem dX9_pass_5 : decode cX9_pass 5 = .ok (.iload_n 1, 1) := by decide +kernel
theorem dX9_pass_6 : decode cX9_pass 6 = .ok (.bipush 14, 2) := by decide +kernel
theorem dX9_pass_8 : decode cX9_pass 8 = .ok (.if_icmp .le 5, 3) := by decide +kernel
theorem dX9_pass_11 : decode cX9_pass 11 = .ok (.iconst (-1), 1) := by decide +kernel
theorem dX9_pass_12 : decode cX9_pass 12 = .ok (.ireturn, 1) := by decide +kernel
theorem dX9_pass_13 : decode cX9_pass 13 = .ok (.aload_n 0, 1) := by decide +kernel
theorem dX9_pass_14 : decode cX9_pass 14 = .ok (.getfield 59, 3) := by decide +kernel
theorem dX9_pass_17 : decode cX9_pass 17 = .ok (.aload_n 0, 1) := by decide +kernel
theorem dX9_pass_18 : decode cX9_pass 18 = .ok (.getfield 47, 3) := by decide +kernel
theorem dX9_pass_21 : decode cX9_pass 21 = .ok (.invokevirtual 185, 3) := by decide +kernel
theorem dX9_pass_24 : decode cX9_pass 24 = .ok (.aload_n 0, 1) := by decide +kernel
theorem dX9_pass_25 : decode cX9_pass 25 = .ok (.aload_n 0, 1) := by decide +kernel
theorem dX9_pass_26 : decode cX9_pass 26 = .ok (.getfield 47, 3) := by decide +kernel
theorem dX9_pass_29 : decode cX9_pass 29 = .ok (.iload_n 1, 1) := by decide +kernel
theorem dX9_pass_30 : decode cX9_pass 30 = .ok (.invokevirtual 189, 3) := by decide +kernel
theorem dX9_pass_33 : decode cX9_pass 33 = .ok (.aload_n 0, 1) := by decide +kernel
theorem dX9_pass_34 : decode cX9_pass 34 = .ok (.getfield 47, 3) := by decide +kernel
theorem dX9_pass_37 : decode cX9_pass 37 = .ok (.getfield 161, 3) := by decide +kernel
theorem dX9_pass_40 : decode cX9_pass 40 = .ok (.ireturn, 1) := by decide +kernel
theorem dX9_supper_0 : decode cX9_supper 0 = .ok (.aload_n 0, 1) := by decide +kernel
theorem dX9_supper_1 : decode cX9_supper 1 = .ok (.iload_n 1, 1) := by decide +kernel
theorem dX9_supper_2 : decode cX9_supper 2 = .ok (.invokevirtual 110, 3) := by decide +kernel
theorem dX9_supper_5 : decode cX9_supper 5 = .ok (.ifCond .ne 5, 3) := by decide +kernel
theorem dX9_supper_8 : decode cX9_supper 8 = .ok (.iconst (-1), 1) := by decide +kernel
theorem dX9_supper_9 : decode cX9_supper 9 = .ok (.ireturn, 1) := by decide +kernel
theorem dX9_supper_10 : decode cX9_supper 10 = .ok (.aload_n 0, 1) := by decide +kernel
theorem dX9_supper_11 : decode cX9_supper 11 = .ok (.getfield 47, 3) := by decide +kernel
theorem dX9_supper_14 : decode cX9_supper 14 = .ok (.getfield 143, 3) := by decide +kernel
theorem dX9_supper_17 : decode cX9_supper 17 = .ok (.iload_n 1, 1) := by decide +kernel
theorem dX9_supper_18 : decode cX9_supper 18 = .ok (.invokestatic 193, 3) := by decide +kernel
theorem dX9_supper_21 : decode cX9_supper 21 = .ok (.ifCond .eq 6, 3) := by decide +kernel
theorem dX9_supper_24 : decode cX9_supper 24 = .ok (.bipush (-2), 2) := by decide +kernel
theorem dX9_supper_26 : decode cX9_supper 26 = .ok (.ireturn, 1) := by decide +kernel
theorem dX9_supper_27 : decode cX9_supper 27 = .ok (.aload_n 0, 1) := by decide +kernel
theorem dX9_supper_28 : decode cX9_supper 28 = .ok (.getfield 59, 3) := by decide +kernel
theorem dX9_supper_31 : decode cX9_supper 31 = .ok (.aload_n 0, 1) := by decide +kernel
theorem dX9_supper_32 : decode cX9_supper 32 = .ok (.getfield 47, 3) := by decide +kernel
theorem dX9_supper_35 : decode cX9_supper 35 = .ok (.invokevirtual 185, 3) := by decide +kernel
theorem dX9_supper_38 : decode cX9_supper 38 = .ok (.aload_n 0, 1) := by decide +kernel
theorem dX9_supper_39 : decode cX9_supper 39 = .ok (.getfield 47, 3) := by decide +kernel
theorem dX9_supper_42 : decode cX9_supper 42 = .ok (.dup, 1) := by decide +kernel
theorem dX9_supper_43 : decode cX9_supper 43 = .ok (.getfield 143, 3) := by decide +kernel
theorem dX9_supper_46 : decode cX9_supper 46 = .ok (.iconst 1, 1) := by decide +kernel
theorem dX9_supper_47 : decode cX9_supper 47 = .ok (.iload_n 1, 1) := by decide +kernel
theorem dX9_supper_48 : decode cX9_supper 48 = .ok (.ishl, 1) := by decide +kernel
theorem dX9_supper_49 : decode cX9_supper 49 = .ok (.ior, 1) := by decide +kernel
theorem dX9_supper_50 : decode cX9_supper 50 = .ok (.putfield 143, 3) := by decide +kernel
theorem dX9_supper_53 : decode cX9_supper 53 = .ok (.aload_n 0, 1) := by decide +kernel
theorem dX9_supper_54 : decode cX9_supper 54 = .ok (.getfield 47, 3) := by decide +kernel
theorem dX9_supper_57 : decode cX9_supper 57 = .ok (.getfield 143, 3) := by decide +kernel
theorem dX9_supper_60 : decode cX9_supper 60 = .ok (.invokestatic 196, 3) := by decide +kernel
theorem dX9_supper_63 : decode cX9_supper 63 = .ok (.ireturn, 1) := by decide +kernel
theorem dX9_settle_0 : decode cX9_settle 0 = .ok (.aload_n 0, 1) := by decide +kernel
theorem dX9_settle_1 : decode cX9_settle 1 = .ok (.iload_n 1, 1) := by decide +kernel
theorem dX9_settle_2 : decode cX9_settle 2 = .ok (.iload_n 2, 1) := by decide +kernel
theorem dX9_settle_3 : decode cX9_settle 3 = .ok (.invokevirtual 170, 3) := by decide +kernel
theorem dX9_settle_6 : decode cX9_settle 6 = .ok (.ifCond .ne 5, 3) := by decide +kernel
theorem dX9_settle_9 : decode cX9_settle 9 = .ok (.iconst (-1), 1) := by decide +kernel
theorem dX9_settle_10 : decode cX9_settle 10 = .ok (.ireturn, 1) := by decide +kernel
theorem dX9_settle_11 : decode cX9_settle 11 = .ok (.iload_n 1, 1) := by decide +kernel
theorem dX9_settle_12 : decode cX9_settle 12 = .ok (.iload_n 2, 1) := by decide +kernel
theorem dX9_settle_13 : decode cX9_settle 13 = .ok (.invokestatic 176, 3) := by decide +kernel
theorem dX9_settle_16 : decode cX9_settle 16 = .ok (.istore_n 3, 1) := by decide +kernel
theorem dX9_settle_17 : decode cX9_settle 17 = .ok (.aload_n 0, 1) := by decide +kernel
theorem dX9_settle_18 : decode cX9_settle 18 = .ok (.getfield 47, 3) := by decide +kernel
theorem dX9_settle_21 : decode cX9_settle 21 = .ok (.getfield 173, 3) := by decide +kernel
theorem dX9_settle_24 : decode cX9_settle 24 = .ok (.iload_n 3, 1) := by decide +kernel
theorem dX9_settle_25 : decode cX9_settle 25 = .ok (.invokestatic 193, 3) := by decide +kernel
theorem dX9_settle_28 : decode cX9_settle 28 = .ok (.ifCond .ne 21, 3) := by decide +kernel
theorem dX9_settle_31 : decode cX9_settle 31 = .ok (.aload_n 0, 1) := by decide +kernel
theorem dX9_settle_32 : decode cX9_settle 32 = .ok (.getfield 47, 3) := by decide +kernel
theorem dX9_settle_35 : decode cX9_settle 35 = .ok (.getfield 173, 3) := by decide +kernel
theorem dX9_settle_38 : decode cX9_settle 38 = .ok (.invokestatic 196, 3) := by decide +kernel
theorem dX9_settle_41 : decode cX9_settle 41 = .ok (.bipush 6, 2) := by decide +kernel
theorem dX9_settle_43 : decode cX9_settle 43 = .ok (.if_icmp .lt 6, 3) := by decide +kernel
theorem dX9_settle_46 : decode cX9_settle 46 = .ok (.bipush (-3), 2) := by decide +kernel
theorem dX9_settle_48 : decode cX9_settle 48 = .ok (.ireturn, 1) := by decide +kernel
theorem dX9_settle_49 : decode cX9_settle 49 = .ok (.aload_n 0, 1) := by decide +kernel
theorem dX9_settle_50 : decode cX9_settle 50 = .ok (.getfield 59, 3) := by decide +kernel
theorem dX9_settle_53 : decode cX9_settle 53 = .ok (.aload_n 0, 1) := by decide +kernel
theorem dX9_settle_54 : decode cX9_settle 54 = .ok (.getfield 47, 3) := by decide +kernel
theorem dX9_settle_57 : decode cX9_settle 57 = .ok (.invokevirtual 185, 3) := by decide +kernel
theorem dX9_settle_60 : decode cX9_settle 60 = .ok (.aload_n 0, 1) := by decide +kernel
theorem dX9_settle_61 : decode cX9_settle 61 = .ok (.getfield 47, 3) := by decide +kernel
theorem dX9_settle_64 : decode cX9_settle 64 = .ok (.dup, 1) := by decide +kernel
theorem dX9_settle_65 : decode cX9_settle 65 = .ok (.getfield 173, 3) := by decide +kernel
theorem dX9_settle_68 : decode cX9_settle 68 = .ok (.iconst 1, 1) := by decide +kernel
theorem dX9_settle_69 : decode cX9_settle 69 = .ok (.iload_n 3, 1) := by decide +kernel
theorem dX9_settle_70 : decode cX9_settle 70 = .ok (.ishl, 1) := by decide +kernel
theorem dX9_settle_71 : decode cX9_settle 71 = .ok (.ixor, 1) := by decide +kernel
theorem dX9_settle_72 : decode cX9_settle 72 = .ok (.putfield 173, 3) := by decide +kernel
theorem dX9_settle_75 : decode cX9_settle 75 = .ok (.aload_n 0, 1) := by decide +kernel
theorem dX9_settle_76 : decode cX9_settle 76 = .ok (.getfield 47, 3) := by decide +kernel
theorem dX9_settle_79 : decode cX9_settle 79 = .ok (.getfield 173, 3) := by decide +kernel
theorem dX9_settle_82 : decode cX9_settle 82 = .ok (.iload_n 3, 1) := by decide +kernel
theorem dX9_settle_83 : decode cX9_settle 83 = .ok (.invokestatic 136, 3) := by decide +kernel
theorem dX9_settle_86 : decode cX9_settle 86 = .ok (.ireturn, 1) := by decide +kernel
theorem dX9_lull_0 : decode cX9_lull 0 = .ok (.aload_n 0, 1) := by decide +kernel
theorem dX9_lull_1 : decode cX9_lull 1 = .ok (.iload_n 1, 1) := by decide +kernel
theorem dX9_lull_2 : decode cX9_lull 2 = .ok (.invokevirtual 110, 3) := by decide +kernel
theorem dX9_lull_5 : decode cX9_lull 5 = .ok (.ifCond .ne 5, 3) := by decide +kernel
theorem dX9_lull_8 : decode cX9_lull 8 = .ok (.iconst (-1), 1) := by decide +kernel
theorem dX9_lull_9 : decode cX9_lull 9 = .ok (.ireturn, 1) := by decide +kernel
theorem dX9_lull_10 : decode cX9_lull 10 = .ok (.aload_n 0, 1) := by decide +kernel
theorem dX9_lull_11 : decode cX9_lull 11 = .ok (.getfield 47, 3) := by decide +kernel
theorem dX9_lull_14 : decode cX9_lull 14 = .ok (.getfield 140, 3) := by decide +kernel
theorem dX9_lull_17 : decode cX9_lull 17 = .ok (.iload_n 1, 1) := by decide +kernel
theorem dX9_lull_18 : decode cX9_lull 18 = .ok (.invokevirtual 118, 3) := by decide +kernel
theorem dX9_lull_21 : decode cX9_lull 21 = .ok (.istore_n 2, 1) := by decide +kernel
theorem dX9_lull_22 : decode cX9_lull 22 = .ok (.iload_n 2, 1) := by decide +kernel
theorem dX9_lull_23 : decode cX9_lull 23 = .ok (.ifCond .ne 6, 3) := by decide +kernel
theorem dX9_lull_26 : decode cX9_lull 26 = .ok (.bipush (-2), 2) := by decide +kernel
theorem dX9_lull_28 : decode cX9_lull 28 = .ok (.ireturn, 1) := by decide +kernel
theorem dX9_lull_29 : decode cX9_lull 29 = .ok (.aload_n 0, 1) := by decide +kernel
theorem dX9_lull_30 : decode cX9_lull 30 = .ok (.getfield 59, 3) := by decide +kernel
theorem dX9_lull_33 : decode cX9_lull 33 = .ok (.aload_n 0, 1) := by decide +kernel
theorem dX9_lull_34 : decode cX9_lull 34 = .ok (.getfield 47, 3) := by decide +kernel
theorem dX9_lull_37 : decode cX9_lull 37 = .ok (.invokevirtual 185, 3) := by decide +kernel
theorem dX9_lull_40 : decode cX9_lull 40 = .ok (.aload_n 0, 1) := by decide +kernel
theorem dX9_lull_41 : decode cX9_lull 41 = .ok (.getfield 47, 3) := by decide +kernel
theorem dX9_lull_44 : decode cX9_lull 44 = .ok (.getfield 140, 3) := by decide +kernel
theorem dX9_lull_47 : decode cX9_lull 47 = .ok (.iload_n 1, 1) := by decide +kernel
theorem dX9_lull_48 : decode cX9_lull 48 = .ok (.iconst 0, 1) := by decide +kernel
theorem dX9_lull_49 : decode cX9_lull 49 = .ok (.invokevirtual 201, 3) := by decide +kernel
theorem dX9_lull_52 : decode cX9_lull 52 = .ok (.iload_n 2, 1) := by decide +kernel
theorem dX9_lull_53 : decode cX9_lull 53 = .ok (.ireturn, 1) := by decide +kernel
theorem dX9_undo_0 : decode cX9_undo 0 = .ok (.aload_n 0, 1) := by decide +kernel
theorem dX9_undo_1 : decode cX9_undo 1 = .ok (.getfield 59, 3) := by decide +kernel
theorem dX9_undo_4 : decode cX9_undo 4 = .ok (.getfield 204, 3) := by decide +kernel
theorem dX9_undo_7 : decode cX9_undo 7 = .ok (.ifCond .ne 6, 3) := by decide +kernel
theorem dX9_undo_10 : decode cX9_undo 10 = .ok (.bipush (-2), 2) := by decide +kernel
theorem dX9_undo_12 : decode cX9_undo 12 = .ok (.ireturn, 1) := by decide +kernel
theorem dX9_undo_13 : decode cX9_undo 13 = .ok (.aload_n 0, 1) := by decide +kernel
theorem dX9_undo_14 : decode cX9_undo 14 = .ok (.getfield 59, 3) := by decide +kernel
theorem dX9_undo_17 : decode cX9_undo 17 = .ok (.aload_n 0, 1) := by decide +kernel
theorem dX9_undo_18 : decode cX9_undo 18 = .ok (.getfield 47, 3) := by decide +kernel
theorem dX9_undo_21 : decode cX9_undo 21 = .ok (.invokevirtual 207, 3) := by decide +kernel
theorem dX9_undo_24 : decode cX9_undo 24 = .ok (.aload_n 0, 1) := by decide +kernel
theorem dX9_undo_25 : decode cX9_undo 25 = .ok (.getfield 59, 3) := by decide +kernel
theorem dX9_undo_28 : decode cX9_undo 28 = .ok (.getfield 204, 3) := by decide +kernel
theorem dX9_undo_31 : decode cX9_undo 31 = .ok (.ireturn, 1) := by decide +kernel
theorem dX9_behind_0 : decode cX9_behind 0 = .ok (.iload_n 1, 1) := by decide +kernel
theorem dX9_behind_1 : decode cX9_behind 1 = .ok (.ifCond .lt 18, 3) := by decide +kernel
theorem dX9_behind_4 : decode cX9_behind 4 = .ok (.iload_n 1, 1) := by decide +kernel
theorem dX9_behind_5 : decode cX9_behind 5 = .ok (.bipush 28, 2) := by decide +kernel
theorem dX9_behind_7 : decode cX9_behind 7 = .ok (.if_icmp .gt 12, 3) := by decide +kernel
theorem dX9_behind_10 : decode cX9_behind 10 = .ok (.iload_n 2, 1) := by decide +kernel
theorem dX9_behind_11 : decode cX9_behind 11 = .ok (.ifCond .lt 8, 3) := by decide +kernel
theorem dX9_behind_14 : decode cX9_behind 14 = .ok (.iload_n 2, 1) := by decide +kernel
theorem dX9_behind_15 : decode cX9_behind 15 = .ok (.iconst 2, 1) := by decide +kernel
theorem dX9_behind_16 : decode cX9_behind 16 = .ok (.if_icmp .le 5, 3) := by decide +kernel
theorem dX9_behind_19 : decode cX9_behind 19 = .ok (.iconst (-1), 1) := by decide +kernel
theorem dX9_behind_20 : decode cX9_behind 20 = .ok (.ireturn, 1) := by decide +kernel
theorem dX9_behind_21 : decode cX9_behind 21 = .ok (.aload_n 0, 1) := by decide +kernel
theorem dX9_behind_22 : decode cX9_behind 22 = .ok (.getfield 51, 3) := by decide +kernel
theorem dX9_behind_25 : decode cX9_behind 25 = .ok (.aload_n 0, 1) := by decide +kernel
theorem dX9_behind_26 : decode cX9_behind 26 = .ok (.getfield 47, 3) := by decide +kernel
theorem dX9_behind_29 : decode cX9_behind 29 = .ok (.invokevirtual 210, 3) := by decide +kernel
theorem dX9_behind_32 : decode cX9_behind 32 = .ok (.aload_n 0, 1) := by decide +kernel
theorem dX9_behind_33 : decode cX9_behind 33 = .ok (.aload_n 0, 1) := by decide +kernel
theorem dX9_behind_34 : decode cX9_behind 34 = .ok (.getfield 51, 3) := by decide +kernel
theorem dX9_behind_37 : decode cX9_behind 37 = .ok (.iload_n 1, 1) := by decide +kernel
theorem dX9_behind_38 : decode cX9_behind 38 = .ok (.invokevirtual 189, 3) := by decide +kernel
theorem dX9_behind_41 : decode cX9_behind 41 = .ok (.iload_n 2, 1) := by decide +kernel
theorem dX9_behind_42 : decode cX9_behind 42 = .ok (.ifCond .ne 13, 3) := by decide +kernel
theorem dX9_behind_45 : decode cX9_behind 45 = .ok (.aload_n 0, 1) := by decide +kernel
theorem dX9_behind_46 : decode cX9_behind 46 = .ok (.getfield 51, 3) := by decide +kernel
theorem dX9_behind_49 : decode cX9_behind 49 = .ok (.getfield 213, 3) := by decide +kernel
theorem dX9_behind_52 : decode cX9_behind 52 = .ok (.goto 25, 3) := by decide +kernel
theorem dX9_behind_55 : decode cX9_behind 55 = .ok (.iload_n 2, 1) := by decide +kernel
theorem dX9_behind_56 : decode cX9_behind 56 = .ok (.iconst 1, 1) := by decide +kernel
theorem dX9_behind_57 : decode cX9_behind 57 = .ok (.if_icmp .ne 13, 3) := by decide +kernel
theorem dX9_behind_60 : decode cX9_behind 60 = .ok (.aload_n 0, 1) := by decide +kernel
theorem dX9_behind_61 : decode cX9_behind 61 = .ok (.getfield 51, 3) := by decide +kernel
theorem dX9_behind_64 : decode cX9_behind 64 = .ok (.getfield 216, 3) := by decide +kernel
theorem dX9_behind_67 : decode cX9_behind 67 = .ok (.goto 10, 3) := by decide +kernel
theorem dX9_behind_70 : decode cX9_behind 70 = .ok (.aload_n 0, 1) := by decide +kernel
theorem dX9_behind_71 : decode cX9_behind 71 = .ok (.getfield 51, 3) := by decide +kernel
theorem dX9_behind_74 : decode cX9_behind 74 = .ok (.getfield 219, 3) := by decide +kernel
theorem dX9_behind_77 : decode cX9_behind 77 = .ok (.ireturn, 1) := by decide +kernel
theorem dX9_ham_0 : decode cX9_ham 0 = .ok (.iload_n 1, 1) := by decide +kernel
theorem dX9_ham_1 : decode cX9_ham 1 = .ok (.ifCond .lt 8, 3) := by decide +kernel
theorem dX9_ham_4 : decode cX9_ham 4 = .ok (.iload_n 1, 1) := by decide +kernel
theorem dX9_ham_5 : decode cX9_ham 5 = .ok (.iconst 1, 1) := by decide +kernel
theorem dX9_ham_6 : decode cX9_ham 6 = .ok (.if_icmp .le 5, 3) := by decide +kernel
theorem dX9_ham_9 : decode cX9_ham 9 = .ok (.iconst (-1), 1) := by decide +kernel
theorem dX9_ham_10 : decode cX9_ham 10 = .ok (.ireturn, 1) := by decide +kernel
theorem dX9_ham_11 : decode cX9_ham 11 = .ok (.aload_n 0, 1) := by decide +kernel
theorem dX9_ham_12 : decode cX9_ham 12 = .ok (.getfield 51, 3) := by decide +kernel
theorem dX9_ham_15 : decode cX9_ham 15 = .ok (.aload_n 0, 1) := by decide +kernel
theorem dX9_ham_16 : decode cX9_ham 16 = .ok (.getfield 47, 3) := by decide +kernel
theorem dX9_ham_19 : decode cX9_ham 19 = .ok (.invokevirtual 210, 3) := by decide +kernel
theorem dX9_ham_22 : decode cX9_ham 22 = .ok (.iconst 1, 1) := by decide +kernel
theorem dX9_ham_23 : decode cX9_ham 23 = .ok (.istore_n 2, 1) := by decide +kernel
theorem dX9_ham_24 : decode cX9_ham 24 = .ok (.iload_n 2, 1) := by decide +kernel
theorem dX9_ham_25 : decode cX9_ham 25 = .ok (.bipush 28, 2) := by decide +kernel
theorem dX9_ham_27 : decode cX9_ham 27 = .ok (.if_icmp .gt 44, 3) := by decide +kernel
theorem dX9_ham_30 : decode cX9_ham 30 = .ok (.aload_n 0, 1) := by decide +kernel
theorem dX9_ham_31 : decode cX9_ham 31 = .ok (.aload_n 0, 1) := by decide +kernel
theorem dX9_ham_32 : decode cX9_ham 32 = .ok (.getfield 51, 3) := by decide +kernel
theorem dX9_ham_35 : decode cX9_ham 35 = .ok (.iconst 1, 1) := by decide +kernel
theorem dX9_ham_36 : decode cX9_ham 36 = .ok (.invokevirtual 189, 3) := by decide +kernel
theorem dX9_ham_39 : decode cX9_ham 39 = .ok (.aload_n 0, 1) := by decide +kernel
theorem dX9_ham_40 : decode cX9_ham 40 = .ok (.getfield 40, 3) := by decide +kernel
theorem dX9_ham_43 : decode cX9_ham 43 = .ok (.getfield 222, 3) := by decide +kernel
theorem dX9_ham_46 : decode cX9_ham 46 = .ok (.ifCond .le 19, 3) := by decide +kernel
theorem dX9_ham_49 : decode cX9_ham 49 = .ok (.iload_n 1, 1) := by decide +kernel
theorem dX9_ham_50 : decode cX9_ham 50 = .ok (.ifCond .ne 7, 3) := by decide +kernel
theorem dX9_ham_53 : decode cX9_ham 53 = .ok (.iload_n 2, 1) := by decide +kernel
theorem dX9_ham_54 : decode cX9_ham 54 = .ok (.goto 10, 3) := by decide +kernel
theorem dX9_ham_57 : decode cX9_ham 57 = .ok (.aload_n 0, 1) := by decide +kernel
theorem dX9_ham_58 : decode cX9_ham 58 = .ok (.getfield 40, 3) := by decide +kernel
theorem dX9_ham_61 : decode cX9_ham 61 = .ok (.getfield 223, 3) := by decide +kernel
theorem dX9_ham_64 : decode cX9_ham 64 = .ok (.ireturn, 1) := by decide +kernel
theorem dX9_ham_65 : decode cX9_ham 65 = .ok (.iinc 2 1, 3) := by decide +kernel
theorem dX9_ham_68 : decode cX9_ham 68 = .ok (.goto (-44), 3) := by decide +kernel
theorem dX9_ham_71 : decode cX9_ham 71 = .ok (.bipush (-4), 2) := by decide +kernel
theorem dX9_ham_73 : decode cX9_ham 73 = .ok (.ireturn, 1) := by decide +kernel
theorem dX9_suppers_0 : decode cX9_suppers 0 = .ok (.iload_n 1, 1) := by decide +kernel
theorem dX9_suppers_1 : decode cX9_suppers 1 = .ok (.ifCond .lt 8, 3) := by decide +kernel
theorem dX9_suppers_4 : decode cX9_suppers 4 = .ok (.iload_n 1, 1) := by decide +kernel
theorem dX9_suppers_5 : decode cX9_suppers 5 = .ok (.iconst 1, 1) := by decide +kernel
theorem dX9_suppers_6 : decode cX9_suppers 6 = .ok (.if_icmp .le 5, 3) := by decide +kernel
theorem dX9_suppers_9 : decode cX9_suppers 9 = .ok (.iconst (-1), 1) := by decide +kernel
theorem dX9_suppers_10 : decode cX9_suppers 10 = .ok (.ireturn, 1) := by decide +kernel
theorem dX9_suppers_11 : decode cX9_suppers 11 = .ok (.aload_n 0, 1) := by decide +kernel
theorem dX9_suppers_12 : decode cX9_suppers 12 = .ok (.getfield 76, 3) := by decide +kernel
theorem dX9_suppers_15 : decode cX9_suppers 15 = .ok (.invokevirtual 226, 3) := by decide +kernel
theorem dX9_suppers_18 : decode cX9_suppers 18 = .ok (.iconst 0, 1) := by decide +kernel
theorem dX9_suppers_19 : decode cX9_suppers 19 = .ok (.istore_n 2, 1) := by decide +kernel
theorem dX9_suppers_20 : decode cX9_suppers 20 = .ok (.iload_n 2, 1) := by decide +kernel
theorem dX9_suppers_21 : decode cX9_suppers 21 = .ok (.iconst 1, 1) := by decide +kernel
theorem dX9_suppers_22 : decode cX9_suppers 22 = .ok (.aload_n 0, 1) := by decide +kernel
theorem dX9_suppers_23 : decode cX9_suppers 23 = .ok (.getfield 19, 3) := by decide +kernel
theorem dX9_suppers_26 : decode cX9_suppers 26 = .ok (.getfield 107, 3) := by decide +kernel
theorem dX9_suppers_29 : decode cX9_suppers 29 = .ok (.ishl, 1) := by decide +kernel
theorem dX9_suppers_30 : decode cX9_suppers 30 = .ok (.if_icmp .ge 34, 3) := by decide +kernel
theorem dX9_suppers_33 : decode cX9_suppers 33 = .ok (.iload_n 2, 1) := by decide +kernel
theorem dX9_suppers_34 : decode cX9_suppers 34 = .ok (.aload_n 0, 1) := by decide +kernel
theorem dX9_suppers_35 : decode cX9_suppers 35 = .ok (.getfield 47, 3) := by decide +kernel
theorem dX9_suppers_38 : decode cX9_suppers 38 = .ok (.getfield 143, 3) := by decide +kernel
theorem dX9_suppers_41 : decode cX9_suppers 41 = .ok (.iand, 1) := by decide +kernel
theorem dX9_suppers_42 : decode cX9_suppers 42 = .ok (.ifCond .ne 16, 3) := by decide +kernel
theorem dX9_suppers_45 : decode cX9_suppers 45 = .ok (.aload_n 0, 1) := by decide +kernel
theorem dX9_suppers_46 : decode cX9_suppers 46 = .ok (.getfield 76, 3) := by decide +kernel
theorem dX9_suppers_49 : decode cX9_suppers 49 = .ok (.iload_n 2, 1) := by decide +kernel
theorem dX9_suppers_50 : decode cX9_suppers 50 = .ok (.aload_n 0, 1) := by decide +kernel
theorem dX9_suppers_51 : decode cX9_suppers 51 = .ok (.iload_n 2, 1) := by decide +kernel
theorem dX9_suppers_52 : decode cX9_suppers 52 = .ok (.invokevirtual 227, 3) := by decide +kernel
theorem dX9_suppers_55 : decode cX9_suppers 55 = .ok (.invokevirtual 230, 3) := by decide +kernel
theorem dX9_suppers_58 : decode cX9_suppers 58 = .ok (.iinc 2 1, 3) := by decide +kernel
theorem dX9_suppers_61 : decode cX9_suppers 61 = .ok (.goto (-41), 3) := by decide +kernel
theorem dX9_suppers_64 : decode cX9_suppers 64 = .ok (.iload_n 1, 1) := by decide +kernel
theorem dX9_suppers_65 : decode cX9_suppers 65 = .ok (.ifCond .ne 13, 3) := by decide +kernel
theorem dX9_suppers_68 : decode cX9_suppers 68 = .ok (.aload_n 0, 1) := by decide +kernel
theorem dX9_suppers_69 : decode cX9_suppers 69 = .ok (.getfield 76, 3) := by decide +kernel
theorem dX9_suppers_72 : decode cX9_suppers 72 = .ok (.getfield 233, 3) := by decide +kernel
theorem dX9_suppers_75 : decode cX9_suppers 75 = .ok (.goto 10, 3) := by decide +kernel
theorem dX9_suppers_78 : decode cX9_suppers 78 = .ok (.aload_n 0, 1) := by decide +kernel
theorem dX9_suppers_79 : decode cX9_suppers 79 = .ok (.getfield 76, 3) := by decide +kernel
theorem dX9_suppers_82 : decode cX9_suppers 82 = .ok (.getfield 236, 3) := by decide +kernel
theorem dX9_suppers_85 : decode cX9_suppers 85 = .ok (.ireturn, 1) := by decide +kernel
theorem dX9_apart_0 : decode cX9_apart 0 = .ok (.iload_n 1, 1) := by decide +kernel
theorem dX9_apart_1 : decode cX9_apart 1 = .ok (.iconst 1, 1) := by decide +kernel
theorem dX9_apart_2 : decode cX9_apart 2 = .ok (.if_icmp .lt 18, 3) := by decide +kernel
theorem dX9_apart_5 : decode cX9_apart 5 = .ok (.iload_n 1, 1) := by decide +kernel
theorem dX9_apart_6 : decode cX9_apart 6 = .ok (.bipush 14, 2) := by decide +kernel
theorem dX9_apart_8 : decode cX9_apart 8 = .ok (.if_icmp .gt 12, 3) := by decide +kernel
theorem dX9_apart_11 : decode cX9_apart 11 = .ok (.iload_n 2, 1) := by decide +kernel
theorem dX9_apart_12 : decode cX9_apart 12 = .ok (.ifCond .lt 8, 3) := by decide +kernel
theorem dX9_apart_15 : decode cX9_apart 15 = .ok (.iload_n 2, 1) := by decide +kernel
theorem dX9_apart_16 : decode cX9_apart 16 = .ok (.iconst 1, 1) := by decide +kernel
theorem dX9_apart_17 : decode cX9_apart 17 = .ok (.if_icmp .le 5, 3) := by decide +kernel
theorem dX9_apart_20 : decode cX9_apart 20 = .ok (.iconst (-1), 1) := by decide +kernel
theorem dX9_apart_21 : decode cX9_apart 21 = .ok (.ireturn, 1) := by decide +kernel
theorem dX9_apart_22 : decode cX9_apart 22 = .ok (.iconst 1, 1) := by decide +kernel
theorem dX9_apart_23 : decode cX9_apart 23 = .ok (.aload_n 0, 1) := by decide +kernel
theorem dX9_apart_24 : decode cX9_apart 24 = .ok (.getfield 47, 3) := by decide +kernel
theorem dX9_apart_27 : decode cX9_apart 27 = .ok (.getfield 173, 3) := by decide +kernel
theorem dX9_apart_30 : decode cX9_apart 30 = .ok (.invokestatic 196, 3) := by decide +kernel
theorem dX9_apart_33 : decode cX9_apart 33 = .ok (.ishl, 1) := by decide +kernel
theorem dX9_apart_34 : decode cX9_apart 34 = .ok (.istore_n 3, 1) := by decide +kernel
theorem dX9_apart_35 : decode cX9_apart 35 = .ok (.aload_n 0, 1) := by decide +kernel
theorem dX9_apart_36 : decode cX9_apart 36 = .ok (.getfield 76, 3) := by decide +kernel
theorem dX9_apart_39 : decode cX9_apart 39 = .ok (.invokevirtual 226, 3) := by decide +kernel
theorem dX9_apart_42 : decode cX9_apart 42 = .ok (.iconst 0, 1) := by decide +kernel
theorem dX9_apart_43 : decode cX9_apart 43 = .ok (.istore 4, 2) := by decide +kernel
theorem dX9_apart_45 : decode cX9_apart 45 = .ok (.iload 4, 2) := by decide +kernel
theorem dX9_apart_47 : decode cX9_apart 47 = .ok (.iload_n 3, 1) := by decide +kernel
theorem dX9_apart_48 : decode cX9_apart 48 = .ok (.if_icmp .ge 25, 3) := by decide +kernel
theorem dX9_apart_51 : decode cX9_apart 51 = .ok (.aload_n 0, 1) := by decide +kernel
theorem dX9_apart_52 : decode cX9_apart 52 = .ok (.getfield 76, 3) := by decide +kernel
theorem dX9_apart_55 : decode cX9_apart 55 = .ok (.iload 4, 2) := by decide +kernel
theorem dX9_apart_57 : decode cX9_apart 57 = .ok (.aload_n 0, 1) := by decide +kernel
theorem dX9_apart_58 : decode cX9_apart 58 = .ok (.iload 4, 2) := by decide +kernel
theorem dX9_apart_60 : decode cX9_apart 60 = .ok (.iload_n 1, 1) := by decide +kernel
theorem dX9_apart_61 : decode cX9_apart 61 = .ok (.invokevirtual 239, 3) := by decide +kernel
theorem dX9_apart_64 : decode cX9_apart 64 = .ok (.invokevirtual 230, 3) := by decide +kernel
theorem dX9_apart_67 : decode cX9_apart 67 = .ok (.iinc 4 1, 3) := by decide +kernel
theorem dX9_apart_70 : decode cX9_apart 70 = .ok (.goto (-25), 3) := by decide +kernel
theorem dX9_apart_73 : decode cX9_apart 73 = .ok (.iload_n 2, 1) := by decide +kernel
theorem dX9_apart_74 : decode cX9_apart 74 = .ok (.ifCond .ne 13, 3) := by decide +kernel
theorem dX9_apart_77 : decode cX9_apart 77 = .ok (.aload_n 0, 1) := by decide +kernel
theorem dX9_apart_78 : decode cX9_apart 78 = .ok (.getfield 76, 3) := by decide +kernel
theorem dX9_apart_81 : decode cX9_apart 81 = .ok (.getfield 236, 3) := by decide +kernel
theorem dX9_apart_84 : decode cX9_apart 84 = .ok (.goto 10, 3) := by decide +kernel
theorem dX9_apart_87 : decode cX9_apart 87 = .ok (.aload_n 0, 1) := by decide +kernel
theorem dX9_apart_88 : decode cX9_apart 88 = .ok (.getfield 76, 3) := by decide +kernel
theorem dX9_apart_91 : decode cX9_apart 91 = .ok (.getfield 233, 3) := by decide +kernel
theorem dX9_apart_94 : decode cX9_apart 94 = .ok (.ireturn, 1) := by decide +kernel
theorem dX9_ask_0 : decode cX9_ask 0 = .ok (.aload_n 0, 1) := by decide +kernel
theorem dX9_ask_1 : decode cX9_ask 1 = .ok (.iload_n 1, 1) := by decide +kernel
theorem dX9_ask_2 : decode cX9_ask 2 = .ok (.invokevirtual 146, 3) := by decide +kernel
theorem dX9_ask_5 : decode cX9_ask 5 = .ok (.ifCond .ne 5, 3) := by decide +kernel
theorem dX9_ask_8 : decode cX9_ask 8 = .ok (.iconst (-1), 1) := by decide +kernel
theorem dX9_ask_9 : decode cX9_ask 9 = .ok (.ireturn, 1) := by decide +kernel
theorem dX9_ask_10 : decode cX9_ask 10 = .ok (.aload_n 0, 1) := by decide +kernel
theorem dX9_ask_11 : decode cX9_ask 11 = .ok (.getfield 19, 3) := by decide +kernel
theorem dX9_ask_14 : decode cX9_ask 14 = .ok (.iload_n 1, 1) := by decide +kernel
theorem dX9_ask_15 : decode cX9_ask 15 = .ok (.aload_n 0, 1) := by decide +kernel
theorem dX9_ask_16 : decode cX9_ask 16 = .ok (.getfield 47, 3) := by decide +kernel
theorem dX9_ask_19 : decode cX9_ask 19 = .ok (.getfield 161, 3) := by decide +kernel
theorem dX9_ask_22 : decode cX9_ask 22 = .ok (.invokevirtual 163, 3) := by decide +kernel
theorem dX9_ask_25 : decode cX9_ask 25 = .ok (.ifCond .ne 6, 3) := by decide +kernel
theorem dX9_ask_28 : decode cX9_ask 28 = .ok (.bipush (-4), 2) := by decide +kernel
theorem dX9_ask_30 : decode cX9_ask 30 = .ok (.ireturn, 1) := by decide +kernel
theorem dX9_ask_31 : decode cX9_ask 31 = .ok (.aload_n 0, 1) := by decide +kernel
theorem dX9_ask_32 : decode cX9_ask 32 = .ok (.getfield 40, 3) := by decide +kernel
theorem dX9_ask_35 : decode cX9_ask 35 = .ok (.aload_n 0, 1) := by decide +kernel
theorem dX9_ask_36 : decode cX9_ask 36 = .ok (.getfield 47, 3) := by decide +kernel
theorem dX9_ask_39 : decode cX9_ask 39 = .ok (.aload_n 0, 1) := by decide +kernel
theorem dX9_ask_40 : decode cX9_ask 40 = .ok (.getfield 19, 3) := by decide +kernel
theorem dX9_ask_43 : decode cX9_ask 43 = .ok (.aload_n 0, 1) := by decide +kernel
theorem dX9_ask_44 : decode cX9_ask 44 = .ok (.getfield 47, 3) := by decide +kernel
theorem dX9_ask_47 : decode cX9_ask 47 = .ok (.getfield 161, 3) := by decide +kernel
theorem dX9_ask_50 : decode cX9_ask 50 = .ok (.invokevirtual 242, 3) := by decide +kernel
theorem dX9_ask_53 : decode cX9_ask 53 = .ok (.iload_n 1, 1) := by decide +kernel
theorem dX9_ask_54 : decode cX9_ask 54 = .ok (.invokevirtual 245, 3) := by decide +kernel
theorem dX9_ask_57 : decode cX9_ask 57 = .ok (.aload_n 0, 1) := by decide +kernel
theorem dX9_ask_58 : decode cX9_ask 58 = .ok (.getfield 40, 3) := by decide +kernel
theorem dX9_ask_61 : decode cX9_ask 61 = .ok (.aload_n 0, 1) := by decide +kernel
theorem dX9_ask_62 : decode cX9_ask 62 = .ok (.getfield 19, 3) := by decide +kernel
theorem dX9_ask_65 : decode cX9_ask 65 = .ok (.getfield 152, 3) := by decide +kernel
theorem dX9_ask_68 : decode cX9_ask 68 = .ok (.iload_n 1, 1) := by decide +kernel
theorem dX9_ask_69 : decode cX9_ask 69 = .ok (.invokevirtual 118, 3) := by decide +kernel
theorem dX9_ask_72 : decode cX9_ask 72 = .ok (.invokevirtual 249, 3) := by decide +kernel
theorem dX9_ask_75 : decode cX9_ask 75 = .ok (.istore_n 2, 1) := by decide +kernel
theorem dX9_ask_76 : decode cX9_ask 76 = .ok (.iload_n 2, 1) := by decide +kernel
theorem dX9_ask_77 : decode cX9_ask 77 = .ok (.bipush (-4), 2) := by decide +kernel
theorem dX9_ask_79 : decode cX9_ask 79 = .ok (.if_icmp .ne 6, 3) := by decide +kernel
theorem dX9_ask_82 : decode cX9_ask 82 = .ok (.bipush (-4), 2) := by decide +kernel
theorem dX9_ask_84 : decode cX9_ask 84 = .ok (.ireturn, 1) := by decide +kernel
theorem dX9_ask_85 : decode cX9_ask 85 = .ok (.iconst 0, 1) := by decide +kernel
theorem dX9_ask_86 : decode cX9_ask 86 = .ok (.istore_n 3, 1) := by decide +kernel
theorem dX9_ask_87 : decode cX9_ask 87 = .ok (.iload_n 3, 1) := by decide +kernel
theorem dX9_ask_88 : decode cX9_ask 88 = .ok (.iconst 3, 1) := by decide +kernel
theorem dX9_ask_89 : decode cX9_ask 89 = .ok (.if_icmp .gt 40, 3) := by decide +kernel
theorem dX9_ask_92 : decode cX9_ask 92 = .ok (.iload_n 3, 1) := by decide +kernel
theorem dX9_ask_93 : decode cX9_ask 93 = .ok (.aload_n 0, 1) := by decide +kernel
theorem dX9_ask_94 : decode cX9_ask 94 = .ok (.getfield 19, 3) := by decide +kernel
theorem dX9_ask_97 : decode cX9_ask 97 = .ok (.getfield 158, 3) := by decide +kernel
theorem dX9_ask_100 : decode cX9_ask 100 = .ok (.iload_n 1, 1) := by decide +kernel
theorem dX9_ask_101 : decode cX9_ask 101 = .ok (.invokevirtual 118, 3) := by decide +kernel
theorem dX9_ask_104 : decode cX9_ask 104 = .ok (.aload_n 0, 1) := by decide +kernel
theorem dX9_ask_105 : decode cX9_ask 105 = .ok (.getfield 19, 3) := by decide +kernel
theorem dX9_ask_108 : decode cX9_ask 108 = .ok (.getfield 114, 3) := by decide +kernel
theorem dX9_ask_111 : decode cX9_ask 111 = .ok (.iload_n 2, 1) := by decide +kernel
theorem dX9_ask_112 : decode cX9_ask 112 = .ok (.invokevirtual 118, 3) := by decide +kernel
theorem dX9_ask_115 : decode cX9_ask 115 = .ok (.invokestatic 252, 3) := by decide +kernel
theorem dX9_ask_118 : decode cX9_ask 118 = .ok (.ifCond .ne 5, 3) := by decide +kernel
theorem dX9_ask_121 : decode cX9_ask 121 = .ok (.iload_n 3, 1) := by decide +kernel
theorem dX9_ask_122 : decode cX9_ask 122 = .ok (.ireturn, 1) := by decide +kernel
theorem dX9_ask_123 : decode cX9_ask 123 = .ok (.iinc 3 1, 3) := by decide +kernel
theorem dX9_ask_126 : decode cX9_ask 126 = .ok (.goto (-39), 3) := by decide +kernel
theorem dX9_ask_129 : decode cX9_ask 129 = .ok (.bipush (-4), 2) := by decide +kernel
theorem dX9_ask_131 : decode cX9_ask 131 = .ok (.ireturn, 1) := by decide +kernel
theorem dX9_see_0 : decode cX9_see 0 = .ok (.aload_n 0, 1) := by decide +kernel
theorem dX9_see_1 : decode cX9_see 1 = .ok (.iload_n 1, 1) := by decide +kernel
theorem dX9_see_2 : decode cX9_see 2 = .ok (.invokevirtual 110, 3) := by decide +kernel
theorem dX9_see_5 : decode cX9_see 5 = .ok (.ifCond .eq 13, 3) := by decide +kernel
theorem dX9_see_8 : decode cX9_see 8 = .ok (.iload_n 2, 1) := by decide +kernel
theorem dX9_see_9 : decode cX9_see 9 = .ok (.ifCond .lt 9, 3) := by decide +kernel
theorem dX9_see_12 : decode cX9_see 12 = .ok (.iload_n 2, 1) := by decide +kernel
theorem dX9_see_13 : decode cX9_see 13 = .ok (.bipush 99, 2) := by decide +kernel
theorem dX9_see_15 : decode cX9_see 15 = .ok (.if_icmp .le 5, 3) := by decide +kernel
theorem dX9_see_18 : decode cX9_see 18 = .ok (.iconst (-1), 1) := by decide +kernel
theorem dX9_see_19 : decode cX9_see 19 = .ok (.ireturn, 1) := by decide +kernel
theorem dX9_see_20 : decode cX9_see 20 = .ok (.aload_n 0, 1) := by decide +kernel
theorem dX9_see_21 : decode cX9_see 21 = .ok (.getfield 69, 3) := by decide +kernel
theorem dX9_see_24 : decode cX9_see 24 = .ok (.getfield 256, 3) := by decide +kernel
theorem dX9_see_27 : decode cX9_see 27 = .ok (.bipush 8, 2) := by decide +kernel
theorem dX9_see_29 : decode cX9_see 29 = .ok (.if_icmp .lt 6, 3) := by decide +kernel
theorem dX9_see_32 : decode cX9_see 32 = .ok (.bipush (-3), 2) := by decide +kernel
theorem dX9_see_34 : decode cX9_see 34 = .ok (.ireturn, 1) := by decide +kernel
theorem dX9_see_35 : decode cX9_see 35 = .ok (.aload_n 0, 1) := by decide +kernel
theorem dX9_see_36 : decode cX9_see 36 = .ok (.getfield 69, 3) := by decide +kernel
theorem dX9_see_39 : decode cX9_see 39 = .ok (.iload_n 1, 1) := by decide +kernel
theorem dX9_see_40 : decode cX9_see 40 = .ok (.iload_n 2, 1) := by decide +kernel
theorem dX9_see_41 : decode cX9_see 41 = .ok (.iload_n 3, 1) := by decide +kernel
theorem dX9_see_42 : decode cX9_see 42 = .ok (.invokevirtual 257, 3) := by decide +kernel
theorem dX9_see_45 : decode cX9_see 45 = .ok (.aload_n 0, 1) := by decide +kernel
theorem dX9_see_46 : decode cX9_see 46 = .ok (.getfield 69, 3) := by decide +kernel
theorem dX9_see_49 : decode cX9_see 49 = .ok (.getfield 256, 3) := by decide +kernel
theorem dX9_see_52 : decode cX9_see 52 = .ok (.ireturn, 1) := by decide +kernel
theorem dX9_forget_0 : decode cX9_forget 0 = .ok (.aload_n 0, 1) := by decide +kernel
theorem dX9_forget_1 : decode cX9_forget 1 = .ok (.getfield 69, 3) := by decide +kernel
theorem dX9_forget_4 : decode cX9_forget 4 = .ok (.getfield 256, 3) := by decide +kernel
theorem dX9_forget_7 : decode cX9_forget 7 = .ok (.istore_n 1, 1) := by decide +kernel
theorem dX9_forget_8 : decode cX9_forget 8 = .ok (.aload_n 0, 1) := by decide +kernel
theorem dX9_forget_9 : decode cX9_forget 9 = .ok (.getfield 69, 3) := by decide +kernel
theorem dX9_forget_12 : decode cX9_forget 12 = .ok (.invokevirtual 260, 3) := by decide +kernel
theorem dX9_forget_15 : decode cX9_forget 15 = .ok (.iload_n 1, 1) := by decide +kernel
theorem dX9_forget_16 : decode cX9_forget 16 = .ok (.ireturn, 1) := by decide +kernel
theorem dX9_law_0 : decode cX9_law 0 = .ok (.aload_n 0, 1) := by decide +kernel
theorem dX9_law_1 : decode cX9_law 1 = .ok (.iload_n 1, 1) := by decide +kernel
theorem dX9_law_2 : decode cX9_law 2 = .ok (.invokevirtual 110, 3) := by decide +kernel
theorem dX9_law_5 : decode cX9_law 5 = .ok (.ifCond .eq 12, 3) := by decide +kernel
theorem dX9_law_8 : decode cX9_law 8 = .ok (.iload_n 2, 1) := by decide +kernel
theorem dX9_law_9 : decode cX9_law 9 = .ok (.ifCond .lt 8, 3) := by decide +kernel
theorem dX9_law_12 : decode cX9_law 12 = .ok (.iload_n 2, 1) := by decide +kernel
theorem dX9_law_13 : decode cX9_law 13 = .ok (.iconst 1, 1) := by decide +kernel
theorem dX9_law_14 : decode cX9_law 14 = .ok (.if_icmp .le 5, 3) := by decide +kernel
theorem dX9_law_17 : decode cX9_law 17 = .ok (.iconst (-1), 1) := by decide +kernel
theorem dX9_law_18 : decode cX9_law 18 = .ok (.ireturn, 1) := by decide +kernel
theorem dX9_law_19 : decode cX9_law 19 = .ok (.iconst 0, 1) := by decide +kernel
theorem dX9_law_20 : decode cX9_law 20 = .ok (.istore_n 3, 1) := by decide +kernel
theorem dX9_law_21 : decode cX9_law 21 = .ok (.bipush (-4), 2) := by decide +kernel
theorem dX9_law_23 : decode cX9_law 23 = .ok (.istore 4, 2) := by decide +kernel
theorem dX9_law_25 : decode cX9_law 25 = .ok (.iconst 1, 1) := by decide +kernel
theorem dX9_law_26 : decode cX9_law 26 = .ok (.istore 5, 2) := by decide +kernel
theorem dX9_law_28 : decode cX9_law 28 = .ok (.iload 5, 2) := by decide +kernel
theorem dX9_law_30 : decode cX9_law 30 = .ok (.bipush 10, 2) := by decide +kernel
theorem dX9_law_32 : decode cX9_law 32 = .ok (.if_icmp .gt 62, 3) := by decide +kernel
theorem dX9_law_35 : decode cX9_law 35 = .ok (.iconst 0, 1) := by decide +kernel
theorem dX9_law_36 : decode cX9_law 36 = .ok (.istore 6, 2) := by decide +kernel
theorem dX9_law_38 : decode cX9_law 38 = .ok (.iload 6, 2) := by decide +kernel
theorem dX9_law_40 : decode cX9_law 40 = .ok (.iload 5, 2) := by decide +kernel
theorem dX9_law_42 : decode cX9_law 42 = .ok (.if_icmp .ge 46, 3) := by decide +kernel
theorem dX9_law_45 : decode cX9_law 45 = .ok (.aload_n 0, 1) := by decide +kernel
theorem dX9_law_46 : decode cX9_law 46 = .ok (.getfield 69, 3) := by decide +kernel
theorem dX9_law_49 : decode cX9_law 49 = .ok (.iload_n 1, 1) := by decide +kernel
theorem dX9_law_50 : decode cX9_law 50 = .ok (.iload 5, 2) := by decide +kernel
theorem dX9_law_52 : decode cX9_law 52 = .ok (.iload 6, 2) := by decide +kernel
theorem dX9_law_54 : decode cX9_law 54 = .ok (.invokevirtual 261, 3) := by decide +kernel
theorem dX9_law_57 : decode cX9_law 57 = .ok (.ifCond .eq 25, 3) := by decide +kernel
theorem dX9_law_60 : decode cX9_law 60 = .ok (.iload_n 3, 1) := by decide +kernel
theorem dX9_law_61 : decode cX9_law 61 = .ok (.ifCond .ne 14, 3) := by decide +kernel
theorem dX9_law_64 : decode cX9_law 64 = .ok (.bipush 10, 2) := by decide +kernel
theorem dX9_law_66 : decode cX9_law 66 = .ok (.iload 5, 2) := by decide +kernel
theorem dX9_law_68 : decode cX9_law 68 = .ok (.imul, 1) := by decide +kernel
theorem dX9_law_69 : decode cX9_law 69 = .ok (.iload 6, 2) := by decide +kernel
theorem dX9_law_71 : decode cX9_law 71 = .ok (.iadd, 1) := by decide +kernel
theorem dX9_law_72 : decode cX9_law 72 = .ok (.goto 5, 3) := by decide +kernel
theorem dX9_law_75 : decode cX9_law 75 = .ok (.iload 4, 2) := by decide +kernel
theorem dX9_law_77 : decode cX9_law 77 = .ok (.istore 4, 2) := by decide +kernel
theorem dX9_law_79 : decode cX9_law 79 = .ok (.iinc 3 1, 3) := by decide +kernel
theorem dX9_law_82 : decode cX9_law 82 = .ok (.iinc 6 1, 3) := by decide +kernel
theorem dX9_law_85 : decode cX9_law 85 = .ok (.goto (-47), 3) := by decide +kernel
theorem dX9_law_88 : decode cX9_law 88 = .ok (.iinc 5 1, 3) := by decide +kernel
theorem dX9_law_91 : decode cX9_law 91 = .ok (.goto (-63), 3) := by decide +kernel
theorem dX9_law_94 : decode cX9_law 94 = .ok (.iload_n 2, 1) := by decide +kernel
theorem dX9_law_95 : decode cX9_law 95 = .ok (.ifCond .ne 7, 3) := by decide +kernel
theorem dX9_law_98 : decode cX9_law 98 = .ok (.iload_n 3, 1) := by decide +kernel
theorem dX9_law_99 : decode cX9_law 99 = .ok (.goto 5, 3) := by decide +kernel
theorem dX9_law_102 : decode cX9_law 102 = .ok (.iload 4, 2) := by decide +kernel
theorem dX9_law_104 : decode cX9_law 104 = .ok (.ireturn, 1) := by decide +kernel
theorem dX9_did_0 : decode cX9_did 0 = .ok (.aload_n 0, 1) := by decide +kernel
theorem dX9_did_1 : decode cX9_did 1 = .ok (.iload_n 1, 1) := by decide +kernel
theorem dX9_did_2 : decode cX9_did 2 = .ok (.invokevirtual 146, 3) := by decide +kernel
theorem dX9_did_5 : decode cX9_did 5 = .ok (.ifCond .ne 5, 3) := by decide +kernel
theorem dX9_did_8 : decode cX9_did 8 = .ok (.iconst (-1), 1) := by decide +kernel
theorem dX9_did_9 : decode cX9_did 9 = .ok (.ireturn, 1) := by decide +kernel
theorem dX9_did_10 : decode cX9_did 10 = .ok (.iconst 0, 1) := by decide +kernel
theorem dX9_did_11 : decode cX9_did 11 = .ok (.istore_n 2, 1) := by decide +kernel
theorem dX9_did_12 : decode cX9_did 12 = .ok (.iconst 0, 1) := by decide +kernel
theorem dX9_did_13 : decode cX9_did 13 = .ok (.istore_n 3, 1) := by decide +kernel
theorem dX9_did_14 : decode cX9_did 14 = .ok (.iload_n 3, 1) := by decide +kernel
theorem dX9_did_15 : decode cX9_did 15 = .ok (.aload_n 0, 1) := by decide +kernel
theorem dX9_did_16 : decode cX9_did 16 = .ok (.getfield 19, 3) := by decide +kernel
theorem dX9_did_19 : decode cX9_did 19 = .ok (.getfield 107, 3) := by decide +kernel
theorem dX9_did_22 : decode cX9_did 22 = .ok (.if_icmp .ge 55, 3) := by decide +kernel
theorem dX9_did_25 : decode cX9_did 25 = .ok (.aload_n 0, 1) := by decide +kernel
theorem dX9_did_26 : decode cX9_did 26 = .ok (.getfield 19, 3) := by decide +kernel
theorem dX9_did_29 : decode cX9_did 29 = .ok (.getfield 264, 3) := by decide +kernel
theorem dX9_did_32 : decode cX9_did 32 = .ok (.aload_n 0, 1) := by decide +kernel
theorem dX9_did_33 : decode cX9_did 33 = .ok (.getfield 19, 3) := by decide +kernel
theorem dX9_did_36 : decode cX9_did 36 = .ok (.getfield 152, 3) := by decide +kernel
theorem dX9_did_39 : decode cX9_did 39 = .ok (.iload_n 1, 1) := by decide +kernel
theorem dX9_did_40 : decode cX9_did 40 = .ok (.invokevirtual 118, 3) := by decide +kernel
theorem dX9_did_43 : decode cX9_did 43 = .ok (.invokevirtual 118, 3) := by decide +kernel
theorem dX9_did_46 : decode cX9_did 46 = .ok (.iload_n 3, 1) := by decide +kernel
theorem dX9_did_47 : decode cX9_did 47 = .ok (.invokestatic 193, 3) := by decide +kernel
theorem dX9_did_50 : decode cX9_did 50 = .ok (.ifCond .eq 21, 3) := by decide +kernel
theorem dX9_did_53 : decode cX9_did 53 = .ok (.aload_n 0, 1) := by decide +kernel
theorem dX9_did_54 : decode cX9_did 54 = .ok (.getfield 19, 3) := by decide +kernel
theorem dX9_did_57 : decode cX9_did 57 = .ok (.iload_n 1, 1) := by decide +kernel
theorem dX9_did_58 : decode cX9_did 58 = .ok (.iload_n 3, 1) := by decide +kernel
theorem dX9_did_59 : decode cX9_did 59 = .ok (.invokevirtual 267, 3) := by decide +kernel
theorem dX9_did_62 : decode cX9_did 62 = .ok (.ifCond .ne 9, 3) := by decide +kernel
theorem dX9_did_65 : decode cX9_did 65 = .ok (.iload_n 2, 1) := by decide +kernel
theorem dX9_did_66 : decode cX9_did 66 = .ok (.iconst 1, 1) := by decide +kernel
theorem dX9_did_67 : decode cX9_did 67 = .ok (.iload_n 3, 1) := by decide +kernel
theorem dX9_did_68 : decode cX9_did 68 = .ok (.ishl, 1) := by decide +kernel
theorem dX9_did_69 : decode cX9_did 69 = .ok (.ior, 1) := by decide +kernel
theorem dX9_did_70 : decode cX9_did 70 = .ok (.istore_n 2, 1) := by decide +kernel
theorem dX9_did_71 : decode cX9_did 71 = .ok (.iinc 3 1, 3) := by decide +kernel
theorem dX9_did_74 : decode cX9_did 74 = .ok (.goto (-60), 3) := by decide +kernel
theorem dX9_did_77 : decode cX9_did 77 = .ok (.iload_n 2, 1) := by decide +kernel
theorem dX9_did_78 : decode cX9_did 78 = .ok (.ireturn, 1) := by decide +kernel
theorem dX9_dogs_0 : decode cX9_dogs 0 = .ok (.iload_n 1, 1) := by decide +kernel
theorem dX9_dogs_1 : decode cX9_dogs 1 = .ok (.ifCond .lt 28, 3) := by decide +kernel
theorem dX9_dogs_4 : decode cX9_dogs 4 = .ok (.iload_n 1, 1) := by decide +kernel
theorem dX9_dogs_5 : decode cX9_dogs 5 = .ok (.bipush 6, 2) := by decide +kernel
theorem dX9_dogs_7 : decode cX9_dogs 7 = .ok (.if_icmp .gt 22, 3) := by decide +kernel
theorem dX9_dogs_10 : decode cX9_dogs 10 = .ok (.iload_n 2, 1) := by decide +kernel
theorem dX9_dogs_11 : decode cX9_dogs 11 = .ok (.ifCond .lt 18, 3) := by decide +kernel
theorem dX9_dogs_14 : decode cX9_dogs 14 = .ok (.iload_n 2, 1) := by decide +kernel
theorem dX9_dogs_15 : decode cX9_dogs 15 = .ok (.bipush 10, 2) := by decide +kernel
theorem dX9_dogs_17 : decode cX9_dogs 17 = .ok (.if_icmp .gt 12, 3) := by decide +kernel
theorem dX9_dogs_20 : decode cX9_dogs 20 = .ok (.iload_n 3, 1) := by decide +kernel
theorem dX9_dogs_21 : decode cX9_dogs 21 = .ok (.ifCond .lt 8, 3) := by decide +kernel
theorem dX9_dogs_24 : decode cX9_dogs 24 = .ok (.iload_n 3, 1) := by decide +kernel
theorem dX9_dogs_25 : decode cX9_dogs 25 = .ok (.iconst 1, 1) := by decide +kernel
theorem dX9_dogs_26 : decode cX9_dogs 26 = .ok (.if_icmp .le 5, 3) := by decide +kernel
theorem dX9_dogs_29 : decode cX9_dogs 29 = .ok (.iconst (-1), 1) := by decide +kernel
theorem dX9_dogs_30 : decode cX9_dogs 30 = .ok (.ireturn, 1) := by decide +kernel
theorem dX9_dogs_31 : decode cX9_dogs 31 = .ok (.iconst 0, 1) := by decide +kernel
theorem dX9_dogs_32 : decode cX9_dogs 32 = .ok (.istore 4, 2) := by decide +kernel
theorem dX9_dogs_34 : decode cX9_dogs 34 = .ok (.iconst 1, 1) := by decide +kernel
theorem dX9_dogs_35 : decode cX9_dogs 35 = .ok (.istore 5, 2) := by decide +kernel
theorem dX9_dogs_37 : decode cX9_dogs 37 = .ok (.iconst 0, 1) := by decide +kernel
theorem dX9_dogs_38 : decode cX9_dogs 38 = .ok (.istore 6, 2) := by decide +kernel
theorem dX9_dogs_40 : decode cX9_dogs 40 = .ok (.iload 6, 2) := by decide +kernel
theorem dX9_dogs_42 : decode cX9_dogs 42 = .ok (.iconst 1, 1) := by decide +kernel
theorem dX9_dogs_43 : decode cX9_dogs 43 = .ok (.iload_n 1, 1) := by decide +kernel
theorem dX9_dogs_44 : decode cX9_dogs 44 = .ok (.ishl, 1) := by decide +kernel
theorem dX9_dogs_45 : decode cX9_dogs 45 = .ok (.if_icmp .ge 31, 3) := by decide +kernel
theorem dX9_dogs_48 : decode cX9_dogs 48 = .ok (.aload_n 0, 1) := by decide +kernel
theorem dX9_dogs_49 : decode cX9_dogs 49 = .ok (.iload_n 1, 1) := by decide +kernel
theorem dX9_dogs_50 : decode cX9_dogs 50 = .ok (.iload 6, 2) := by decide +kernel
theorem dX9_dogs_52 : decode cX9_dogs 52 = .ok (.invokevirtual 270, 3) := by decide +kernel
theorem dX9_dogs_55 : decode cX9_dogs 55 = .ok (.ifCond .eq 15, 3) := by decide +kernel
theorem dX9_dogs_58 : decode cX9_dogs 58 = .ok (.iload 4, 2) := by decide +kernel
theorem dX9_dogs_60 : decode cX9_dogs 60 = .ok (.iload_n 1, 1) := by decide +kernel
theorem dX9_dogs_61 : decode cX9_dogs 61 = .ok (.iload_n 2, 1) := by decide +kernel
theorem dX9_dogs_62 : decode cX9_dogs 62 = .ok (.iload 6, 2) := by decide +kernel
theorem dX9_dogs_64 : decode cX9_dogs 64 = .ok (.invokestatic 273, 3) := by decide +kernel
theorem dX9_dogs_67 : decode cX9_dogs 67 = .ok (.iadd, 1) := by decide +kernel
theorem dX9_dogs_68 : decode cX9_dogs 68 = .ok (.istore 4, 2) := by decide +kernel
theorem dX9_dogs_70 : decode cX9_dogs 70 = .ok (.iinc 6 1, 3) := by decide +kernel
theorem dX9_dogs_73 : decode cX9_dogs 73 = .ok (.goto (-33), 3) := by decide +kernel
theorem dX9_dogs_76 : decode cX9_dogs 76 = .ok (.iconst 0, 1) := by decide +kernel
theorem dX9_dogs_77 : decode cX9_dogs 77 = .ok (.istore 6, 2) := by decide +kernel
theorem dX9_dogs_79 : decode cX9_dogs 79 = .ok (.iload 6, 2) := by decide +kernel
theorem dX9_dogs_81 : decode cX9_dogs 81 = .ok (.iload_n 1, 1) := by decide +kernel
theorem dX9_dogs_82 : decode cX9_dogs 82 = .ok (.if_icmp .ge 16, 3) := by decide +kernel
theorem dX9_dogs_85 : decode cX9_dogs 85 = .ok (.iload 5, 2) := by decide +kernel
theorem dX9_dogs_87 : decode cX9_dogs 87 = .ok (.bipush 10, 2) := by decide +kernel
theorem dX9_dogs_89 : decode cX9_dogs 89 = .ok (.imul, 1) := by decide +kernel
theorem dX9_dogs_90 : decode cX9_dogs 90 = .ok (.istore 5, 2) := by decide +kernel
theorem dX9_dogs_92 : decode cX9_dogs 92 = .ok (.iinc 6 1, 3) := by decide +kernel
theorem dX9_dogs_95 : decode cX9_dogs 95 = .ok (.goto (-16), 3) := by decide +kernel
theorem dX9_dogs_98 : decode cX9_dogs 98 = .ok (.iload_n 3, 1) := by decide +kernel
theorem dX9_dogs_99 : decode cX9_dogs 99 = .ok (.ifCond .ne 8, 3) := by decide +kernel
theorem dX9_dogs_102 : decode cX9_dogs 102 = .ok (.iload 4, 2) := by decide +kernel
theorem dX9_dogs_104 : decode cX9_dogs 104 = .ok (.goto 5, 3) := by decide +kernel
theorem dX9_dogs_107 : decode cX9_dogs 107 = .ok (.iload 5, 2) := by decide +kernel
theorem dX9_dogs_109 : decode cX9_dogs 109 = .ok (.iload 4, 2) := by decide +kernel
theorem dX9_dogs_111 : decode cX9_dogs 111 = .ok (.iload 5, 2) := by decide +kernel
theorem dX9_dogs_113 : decode cX9_dogs 113 = .ok (.iload_n 1, 1) := by decide +kernel
theorem dX9_dogs_114 : decode cX9_dogs 114 = .ok (.invokestatic 277, 3) := by decide +kernel
theorem dX9_dogs_117 : decode cX9_dogs 117 = .ok (.invokestatic 280, 3) := by decide +kernel
theorem dX9_dogs_120 : decode cX9_dogs 120 = .ok (.ireturn, 1) := by decide +kernel
theorem dX9_year_0 : decode cX9_year 0 = .ok (.iload_n 1, 1) := by decide +kernel
theorem dX9_year_1 : decode cX9_year 1 = .ok (.ifCond .lt 30, 3) := by decide +kernel
theorem dX9_year_4 : decode cX9_year 4 = .ok (.iload_n 1, 1) := by decide +kernel
theorem dX9_year_5 : decode cX9_year 5 = .ok (.sipush 9999, 3) := by decide +kernel
theorem dX9_year_8 : decode cX9_year 8 = .ok (.if_icmp .gt 23, 3) := by decide +kernel
theorem dX9_year_11 : decode cX9_year 11 = .ok (.iload_n 2, 1) := by decide +kernel
theorem dX9_year_12 : decode cX9_year 12 = .ok (.iconst 1, 1) := by decide +kernel
theorem dX9_year_13 : decode cX9_year 13 = .ok (.if_icmp .lt 18, 3) := by decide +kernel
theorem dX9_year_16 : decode cX9_year 16 = .ok (.iload_n 2, 1) := by decide +kernel
theorem dX9_year_17 : decode cX9_year 17 = .ok (.bipush 40, 2) := by decide +kernel
theorem dX9_year_19 : decode cX9_year 19 = .ok (.if_icmp .gt 12, 3) := by decide +kernel
theorem dX9_year_22 : decode cX9_year 22 = .ok (.iload_n 3, 1) := by decide +kernel
theorem dX9_year_23 : decode cX9_year 23 = .ok (.ifCond .lt 8, 3) := by decide +kernel
theorem dX9_year_26 : decode cX9_year 26 = .ok (.iload_n 3, 1) := by decide +kernel
theorem dX9_year_27 : decode cX9_year 27 = .ok (.iconst 1, 1) := by decide +kernel
theorem dX9_year_28 : decode cX9_year 28 = .ok (.if_icmp .le 5, 3) := by decide +kernel
theorem dX9_year_31 : decode cX9_year 31 = .ok (.iconst (-1), 1) := by decide +kernel
theorem dX9_year_32 : decode cX9_year 32 = .ok (.ireturn, 1) := by decide +kernel
theorem dX9_year_33 : decode cX9_year 33 = .ok (.aload_n 0, 1) := by decide +kernel
theorem dX9_year_34 : decode cX9_year 34 = .ok (.getfield 51, 3) := by decide +kernel
theorem dX9_year_37 : decode cX9_year 37 = .ok (.aload_n 0, 1) := by decide +kernel
theorem dX9_year_38 : decode cX9_year 38 = .ok (.getfield 47, 3) := by decide +kernel
theorem dX9_year_41 : decode cX9_year 41 = .ok (.invokevirtual 210, 3) := by decide +kernel
theorem dX9_year_44 : decode cX9_year 44 = .ok (.iconst 0, 1) := by decide +kernel
theorem dX9_year_45 : decode cX9_year 45 = .ok (.istore 4, 2) := by decide +kernel
theorem dX9_year_47 : decode cX9_year 47 = .ok (.iload 4, 2) := by decide +kernel
theorem dX9_year_49 : decode cX9_year 49 = .ok (.iload_n 2, 1) := by decide +kernel
theorem dX9_year_50 : decode cX9_year 50 = .ok (.if_icmp .ge 62, 3) := by decide +kernel
theorem dX9_year_53 : decode cX9_year 53 = .ok (.iload_n 1, 1) := by decide +kernel
theorem dX9_year_54 : decode cX9_year 54 = .ok (.iload 4, 2) := by decide +kernel
theorem dX9_year_56 : decode cX9_year 56 = .ok (.invokestatic 283, 3) := by decide +kernel
theorem dX9_year_59 : decode cX9_year 59 = .ok (.istore 5, 2) := by decide +kernel
theorem dX9_year_61 : decode cX9_year 61 = .ok (.iload 5, 2) := by decide +kernel
theorem dX9_year_63 : decode cX9_year 63 = .ok (.bipush 8, 2) := by decide +kernel
theorem dX9_year_65 : decode cX9_year 65 = .ok (.idiv, 1) := by decide +kernel
theorem dX9_year_66 : decode cX9_year 66 = .ok (.iconst 3, 1) := by decide +kernel
theorem dX9_year_67 : decode cX9_year 67 = .ok (.irem, 1) := by decide +kernel
theorem dX9_year_68 : decode cX9_year 68 = .ok (.ifCond .ne 29, 3) := by decide +kernel
theorem dX9_year_71 : decode cX9_year 71 = .ok (.aload_n 0, 1) := by decide +kernel
theorem dX9_year_72 : decode cX9_year 72 = .ok (.getfield 51, 3) := by decide +kernel
theorem dX9_year_75 : decode cX9_year 75 = .ok (.dup, 1) := by decide +kernel
theorem dX9_year_76 : decode cX9_year 76 = .ok (.getfield 143, 3) := by decide +kernel
theorem dX9_year_79 : decode cX9_year 79 = .ok (.iconst 1, 1) := by decide +kernel
theorem dX9_year_80 : decode cX9_year 80 = .ok (.iload 5, 2) := by decide +kernel
theorem dX9_year_82 : decode cX9_year 82 = .ok (.aload_n 0, 1) := by decide +kernel
theorem dX9_year_83 : decode cX9_year 83 = .ok (.getfield 19, 3) := by decide +kernel
theorem dX9_year_86 : decode cX9_year 86 = .ok (.getfield 107, 3) := by decide +kernel
theorem dX9_year_89 : decode cX9_year 89 = .ok (.invokestatic 286, 3) := by decide +kernel
theorem dX9_year_92 : decode cX9_year 92 = .ok (.ishl, 1) := by decide +kernel
theorem dX9_year_93 : decode cX9_year 93 = .ok (.ior, 1) := by decide +kernel
theorem dX9_year_94 : decode cX9_year 94 = .ok (.putfield 143, 3) := by decide +kernel
theorem dX9_year_97 : decode cX9_year 97 = .ok (.aload_n 0, 1) := by decide +kernel
theorem dX9_year_98 : decode cX9_year 98 = .ok (.aload_n 0, 1) := by decide +kernel
theorem dX9_year_99 : decode cX9_year 99 = .ok (.getfield 51, 3) := by decide +kernel
theorem dX9_year_102 : decode cX9_year 102 = .ok (.iconst 1, 1) := by decide +kernel
theorem dX9_year_103 : decode cX9_year 103 = .ok (.invokevirtual 189, 3) := by decide +kernel
theorem dX9_year_106 : decode cX9_year 106 = .ok (.iinc 4 1, 3) := by decide +kernel
theorem dX9_year_109 : decode cX9_year 109 = .ok (.goto (-62), 3) := by decide +kernel
theorem dX9_year_112 : decode cX9_year 112 = .ok (.iload_n 3, 1) := by decide +kernel
theorem dX9_year_113 : decode cX9_year 113 = .ok (.ifCond .ne 13, 3) := by decide +kernel
theorem dX9_year_116 : decode cX9_year 116 = .ok (.aload_n 0, 1) := by decide +kernel
theorem dX9_year_117 : decode cX9_year 117 = .ok (.getfield 51, 3) := by decide +kernel
theorem dX9_year_120 : decode cX9_year 120 = .ok (.getfield 213, 3) := by decide +kernel
theorem dX9_year_123 : decode cX9_year 123 = .ok (.goto 18, 3) := by decide +kernel
theorem dX9_year_126 : decode cX9_year 126 = .ok (.aload_n 0, 1) := by decide +kernel
theorem dX9_year_127 : decode cX9_year 127 = .ok (.getfield 51, 3) := by decide +kernel
theorem dX9_year_130 : decode cX9_year 130 = .ok (.getfield 219, 3) := by decide +kernel
theorem dX9_year_133 : decode cX9_year 133 = .ok (.aload_n 0, 1) := by decide +kernel
theorem dX9_year_134 : decode cX9_year 134 = .ok (.getfield 47, 3) := by decide +kernel
theorem dX9_year_137 : decode cX9_year 137 = .ok (.getfield 219, 3) := by decide +kernel
theorem dX9_year_140 : decode cX9_year 140 = .ok (.isub, 1) := by decide +kernel
theorem dX9_year_141 : decode cX9_year 141 = .ok (.ireturn, 1) := by decide +kernel
theorem dX9_keep_0 : decode cX9_keep 0 = .ok (.aload_n 0, 1) := by decide +kernel
theorem dX9_keep_1 : decode cX9_keep 1 = .ok (.getfield 63, 3) := by decide +kernel
theorem dX9_keep_4 : decode cX9_keep 4 = .ok (.getfield 204, 3) := by decide +kernel
theorem dX9_keep_7 : decode cX9_keep 7 = .ok (.iconst 2, 1) := by decide +kernel
theorem dX9_keep_8 : decode cX9_keep 8 = .ok (.if_icmp .lt 6, 3) := by decide +kernel
theorem dX9_keep_11 : decode cX9_keep 11 = .ok (.bipush (-3), 2) := by decide +kernel
theorem dX9_keep_13 : decode cX9_keep 13 = .ok (.ireturn, 1) := by decide +kernel
theorem dX9_keep_14 : decode cX9_keep 14 = .ok (.aload_n 0, 1) := by decide +kernel
theorem dX9_keep_15 : decode cX9_keep 15 = .ok (.getfield 63, 3) := by decide +kernel
theorem dX9_keep_18 : decode cX9_keep 18 = .ok (.aload_n 0, 1) := by decide +kernel
theorem dX9_keep_19 : decode cX9_keep 19 = .ok (.getfield 47, 3) := by decide +kernel
theorem dX9_keep_22 : decode cX9_keep 22 = .ok (.invokevirtual 185, 3) := by decide +kernel
theorem dX9_keep_25 : decode cX9_keep 25 = .ok (.aload_n 0, 1) := by decide +kernel
theorem dX9_keep_26 : decode cX9_keep 26 = .ok (.getfield 63, 3) := by decide +kernel
theorem dX9_keep_29 : decode cX9_keep 29 = .ok (.getfield 204, 3) := by decide +kernel
theorem dX9_keep_32 : decode cX9_keep 32 = .ok (.ireturn, 1) := by decide +kernel
theorem dX9_back_0 : decode cX9_back 0 = .ok (.aload_n 0, 1) := by decide +kernel
theorem dX9_back_1 : decode cX9_back 1 = .ok (.getfield 63, 3) := by decide +kernel
theorem dX9_back_4 : decode cX9_back 4 = .ok (.getfield 204, 3) := by decide +kernel
theorem dX9_back_7 : decode cX9_back 7 = .ok (.ifCond .ne 6, 3) := by decide +kernel
theorem dX9_back_10 : decode cX9_back 10 = .ok (.bipush (-2), 2) := by decide +kernel
theorem dX9_back_12 : decode cX9_back 12 = .ok (.ireturn, 1) := by decide +kernel
theorem dX9_back_13 : decode cX9_back 13 = .ok (.aload_n 0, 1) := by decide +kernel
theorem dX9_back_14 : decode cX9_back 14 = .ok (.getfield 63, 3) := by decide +kernel
theorem dX9_back_17 : decode cX9_back 17 = .ok (.aload_n 0, 1) := by decide +kernel
theorem dX9_back_18 : decode cX9_back 18 = .ok (.getfield 47, 3) := by decide +kernel
theorem dX9_back_21 : decode cX9_back 21 = .ok (.invokevirtual 207, 3) := by decide +kernel
theorem dX9_back_24 : decode cX9_back 24 = .ok (.aload_n 0, 1) := by decide +kernel
theorem dX9_back_25 : decode cX9_back 25 = .ok (.getfield 59, 3) := by decide +kernel
theorem dX9_back_28 : decode cX9_back 28 = .ok (.invokevirtual 289, 3) := by decide +kernel
theorem dX9_back_31 : decode cX9_back 31 = .ok (.aload_n 0, 1) := by decide +kernel
theorem dX9_back_32 : decode cX9_back 32 = .ok (.getfield 63, 3) := by decide +kernel
theorem dX9_back_35 : decode cX9_back 35 = .ok (.getfield 204, 3) := by decide +kernel
theorem dX9_back_38 : decode cX9_back 38 = .ok (.ireturn, 1) := by decide +kernel
theorem dX9_count_0 : decode cX9_count 0 = .ok (.iload_n 1, 1) := by decide +kernel
theorem dX9_count_1 : decode cX9_count 1 = .ok (.tableswitch 162 0 11 #[63, 71, 79, 90, 98, 106, 114, 122, 130, 138, 146, 154], 63) := by decide +kernel
theorem dX9_count_64 : decode cX9_count 64 = .ok (.aload_n 0, 1) := by decide +kernel
theorem dX9_count_65 : decode cX9_count 65 = .ok (.getfield 19, 3) := by decide +kernel
theorem dX9_count_68 : decode cX9_count 68 = .ok (.getfield 107, 3) := by decide +kernel
theorem dX9_count_71 : decode cX9_count 71 = .ok (.ireturn, 1) := by decide +kernel
theorem dX9_count_72 : decode cX9_count 72 = .ok (.aload_n 0, 1) := by decide +kernel
theorem dX9_count_73 : decode cX9_count 73 = .ok (.getfield 19, 3) := by decide +kernel
theorem dX9_count_76 : decode cX9_count 76 = .ok (.getfield 290, 3) := by decide +kernel
theorem dX9_count_79 : decode cX9_count 79 = .ok (.ireturn, 1) := by decide +kernel
theorem dX9_count_80 : decode cX9_count 80 = .ok (.aload_n 0, 1) := by decide +kernel
theorem dX9_count_81 : decode cX9_count 81 = .ok (.getfield 47, 3) := by decide +kernel
theorem dX9_count_84 : decode cX9_count 84 = .ok (.getfield 173, 3) := by decide +kernel
theorem dX9_count_87 : decode cX9_count 87 = .ok (.invokestatic 196, 3) := by decide +kernel
theorem dX9_count_90 : decode cX9_count 90 = .ok (.ireturn, 1) := by decide +kernel
theorem dX9_count_91 : decode cX9_count 91 = .ok (.aload_n 0, 1) := by decide +kernel
theorem dX9_count_92 : decode cX9_count 92 = .ok (.getfield 47, 3) := by decide +kernel
theorem dX9_count_95 : decode cX9_count 95 = .ok (.getfield 161, 3) := by decide +kernel
theorem dX9_count_98 : decode cX9_count 98 = .ok (.ireturn, 1) := by decide +kernel
theorem dX9_count_99 : decode cX9_count 99 = .ok (.aload_n 0, 1) := by decide +kernel
theorem dX9_count_100 : decode cX9_count 100 = .ok (.invokevirtual 133, 3) := by decide +kernel
theorem dX9_count_103 : decode cX9_count 103 = .ok (.invokestatic 196, 3) := by decide +kernel
theorem dX9_count_106 : decode cX9_count 106 = .ok (.ireturn, 1) := by decide +kernel
theorem dX9_count_107 : decode cX9_count 107 = .ok (.aload_n 0, 1) := by decide +kernel
theorem dX9_count_108 : decode cX9_count 108 = .ok (.getfield 47, 3) := by decide +kernel
theorem dX9_count_111 : decode cX9_count 111 = .ok (.getfield 213, 3) := by decide +kernel
theorem dX9_count_114 : decode cX9_count 114 = .ok (.ireturn, 1) := by decide +kernel
theorem dX9_count_115 : decode cX9_count 115 = .ok (.aload_n 0, 1) := by decide +kernel
theorem dX9_count_116 : decode cX9_count 116 = .ok (.getfield 47, 3) := by decide +kernel
theorem dX9_count_119 : decode cX9_count 119 = .ok (.getfield 216, 3) := by decide +kernel
theorem dX9_count_122 : decode cX9_count 122 = .ok (.ireturn, 1) := by decide +kernel
theorem dX9_count_123 : decode cX9_count 123 = .ok (.aload_n 0, 1) := by decide +kernel
theorem dX9_count_124 : decode cX9_count 124 = .ok (.getfield 47, 3) := by decide +kernel
theorem dX9_count_127 : decode cX9_count 127 = .ok (.getfield 219, 3) := by decide +kernel
theorem dX9_count_130 : decode cX9_count 130 = .ok (.ireturn, 1) := by decide +kernel
theorem dX9_count_131 : decode cX9_count 131 = .ok (.aload_n 0, 1) := by decide +kernel
theorem dX9_count_132 : decode cX9_count 132 = .ok (.getfield 69, 3) := by decide +kernel
theorem dX9_count_135 : decode cX9_count 135 = .ok (.getfield 256, 3) := by decide +kernel
theorem dX9_count_138 : decode cX9_count 138 = .ok (.ireturn, 1) := by decide +kernel
theorem dX9_count_139 : decode cX9_count 139 = .ok (.aload_n 0, 1) := by decide +kernel
theorem dX9_count_140 : decode cX9_count 140 = .ok (.getfield 59, 3) := by decide +kernel
theorem dX9_count_143 : decode cX9_count 143 = .ok (.getfield 204, 3) := by decide +kernel
theorem dX9_count_146 : decode cX9_count 146 = .ok (.ireturn, 1) := by decide +kernel
theorem dX9_count_147 : decode cX9_count 147 = .ok (.aload_n 0, 1) := by decide +kernel
theorem dX9_count_148 : decode cX9_count 148 = .ok (.getfield 63, 3) := by decide +kernel
theorem dX9_count_151 : decode cX9_count 151 = .ok (.getfield 204, 3) := by decide +kernel
theorem dX9_count_154 : decode cX9_count 154 = .ok (.ireturn, 1) := by decide +kernel
theorem dX9_count_155 : decode cX9_count 155 = .ok (.aload_n 0, 1) := by decide +kernel
theorem dX9_count_156 : decode cX9_count 156 = .ok (.getfield 12, 3) := by decide +kernel
theorem dX9_count_159 : decode cX9_count 159 = .ok (.getfield 104, 3) := by decide +kernel
theorem dX9_count_162 : decode cX9_count 162 = .ok (.ireturn, 1) := by decide +kernel
theorem dX9_count_163 : decode cX9_count 163 = .ok (.iconst (-1), 1) := by decide +kernel
theorem dX9_count_164 : decode cX9_count 164 = .ok (.ireturn, 1) := by decide +kernel
theorem dX9_openDraft_0 : decode cX9_openDraft 0 = .ok (.aload_n 0, 1) := by decide +kernel
theorem dX9_openDraft_1 : decode cX9_openDraft 1 = .ok (.getfield 19, 3) := by decide +kernel
theorem dX9_openDraft_4 : decode cX9_openDraft 4 = .ok (.aload_n 0, 1) := by decide +kernel
theorem dX9_openDraft_5 : decode cX9_openDraft 5 = .ok (.getfield 23, 3) := by decide +kernel
theorem dX9_openDraft_8 : decode cX9_openDraft 8 = .ok (.invokevirtual 293, 3) := by decide +kernel
theorem dX9_openDraft_11 : decode cX9_openDraft 11 = .ok (.aload_n 0, 1) := by decide +kernel
theorem dX9_openDraft_12 : decode cX9_openDraft 12 = .ok (.getfield 47, 3) := by decide +kernel
theorem dX9_openDraft_15 : decode cX9_openDraft 15 = .ok (.aload_n 0, 1) := by decide +kernel
theorem dX9_openDraft_16 : decode cX9_openDraft 16 = .ok (.getfield 19, 3) := by decide +kernel
theorem dX9_openDraft_19 : decode cX9_openDraft 19 = .ok (.getfield 295, 3) := by decide +kernel
theorem dX9_openDraft_22 : decode cX9_openDraft 22 = .ok (.invokevirtual 296, 3) := by decide +kernel
theorem dX9_openDraft_25 : decode cX9_openDraft 25 = .ok (.aload_n 0, 1) := by decide +kernel
theorem dX9_openDraft_26 : decode cX9_openDraft 26 = .ok (.getfield 59, 3) := by decide +kernel
theorem dX9_openDraft_29 : decode cX9_openDraft 29 = .ok (.invokevirtual 289, 3) := by decide +kernel
theorem dX9_openDraft_32 : decode cX9_openDraft 32 = .ok (.aload_n 0, 1) := by decide +kernel
theorem dX9_openDraft_33 : decode cX9_openDraft 33 = .ok (.getfield 63, 3) := by decide +kernel
theorem dX9_openDraft_36 : decode cX9_openDraft 36 = .ok (.invokevirtual 289, 3) := by decide +kernel
theorem dX9_openDraft_39 : decode cX9_openDraft 39 = .ok (.aload_n 0, 1) := by decide +kernel
theorem dX9_openDraft_40 : decode cX9_openDraft 40 = .ok (.getfield 69, 3) := by decide +kernel
theorem dX9_openDraft_43 : decode cX9_openDraft 43 = .ok (.invokevirtual 260, 3) := by decide +kernel
theorem dX9_openDraft_46 : decode cX9_openDraft 46 = .ok (.return_, 1) := by decide +kernel
theorem dX9_isStaff_0 : decode cX9_isStaff 0 = .ok (.iload_n 1, 1) := by decide +kernel
theorem dX9_isStaff_1 : decode cX9_isStaff 1 = .ok (.ifCond .lt 18, 3) := by decide +kernel
theorem dX9_isStaff_4 : decode cX9_isStaff 4 = .ok (.iload_n 1, 1) := by decide +kernel
theorem dX9_isStaff_5 : decode cX9_isStaff 5 = .ok (.aload_n 0, 1) := by decide +kernel
theorem dX9_isStaff_6 : decode cX9_isStaff 6 = .ok (.getfield 19, 3) := by decide +kernel
theorem dX9_isStaff_9 : decode cX9_isStaff 9 = .ok (.getfield 107, 3) := by decide +kernel
theorem dX9_isStaff_12 : decode cX9_isStaff 12 = .ok (.if_icmp .ge 7, 3) := by decide +kernel
theorem dX9_isStaff_15 : decode cX9_isStaff 15 = .ok (.iconst 1, 1) := by decide +kernel
theorem dX9_isStaff_16 : decode cX9_isStaff 16 = .ok (.goto 4, 3) := by decide +kernel
theorem dX9_isStaff_19 : decode cX9_isStaff 19 = .ok (.iconst 0, 1) := by decide +kernel
theorem dX9_isStaff_20 : decode cX9_isStaff 20 = .ok (.ireturn, 1) := by decide +kernel
theorem dX9_isCustomer_0 : decode cX9_isCustomer 0 = .ok (.iload_n 1, 1) := by decide +kernel
theorem dX9_isCustomer_1 : decode cX9_isCustomer 1 = .ok (.ifCond .lt 18, 3) := by decide +kernel
theorem dX9_isCustomer_4 : decode cX9_isCustomer 4 = .ok (.iload_n 1, 1) := by decide +kernel
theorem dX9_isCustomer_5 : decode cX9_isCustomer 5 = .ok (.aload_n 0, 1) := by decide +kernel
theorem dX9_isCustomer_6 : decode cX9_isCustomer 6 = .ok (.getfield 19, 3) := by decide +kernel
theorem dX9_isCustomer_9 : decode cX9_isCustomer 9 = .ok (.getfield 290, 3) := by decide +kernel
theorem dX9_isCustomer_12 : decode cX9_isCustomer 12 = .ok (.if_icmp .ge 7, 3) := by decide +kernel
theorem dX9_isCustomer_15 : decode cX9_isCustomer 15 = .ok (.iconst 1, 1) := by decide +kernel
theorem dX9_isCustomer_16 : decode cX9_isCustomer 16 = .ok (.goto 4, 3) := by decide +kernel
theorem dX9_isCustomer_19 : decode cX9_isCustomer 19 = .ok (.iconst 0, 1) := by decide +kernel
theorem dX9_isCustomer_20 : decode cX9_isCustomer 20 = .ok (.ireturn, 1) := by decide +kernel
theorem dX9_areTwoStaff_0 : decode cX9_areTwoStaff 0 = .ok (.aload_n 0, 1) := by decide +kernel
theorem dX9_areTwoStaff_1 : decode cX9_areTwoStaff 1 = .ok (.iload_n 1, 1) := by decide +kernel
theorem dX9_areTwoStaff_2 : decode cX9_areTwoStaff 2 = .ok (.invokevirtual 110, 3) := by decide +kernel
theorem dX9_areTwoStaff_5 : decode cX9_areTwoStaff 5 = .ok (.ifCond .eq 20, 3) := by decide +kernel
theorem dX9_areTwoStaff_8 : decode cX9_areTwoStaff 8 = .ok (.aload_n 0, 1) := by decide +kernel
theorem dX9_areTwoStaff_9 : decode cX9_areTwoStaff 9 = .ok (.iload_n 2, 1) := by decide +kernel
theorem dX9_areTwoStaff_10 : decode cX9_areTwoStaff 10 = .ok (.invokevirtual 110, 3) := by decide +kernel
theorem dX9_areTwoStaff_13 : decode cX9_areTwoStaff 13 = .ok (.ifCond .eq 12, 3) := by decide +kernel
theorem dX9_areTwoStaff_16 : decode cX9_areTwoStaff 16 = .ok (.iload_n 1, 1) := by decide +kernel
theorem dX9_areTwoStaff_17 : decode cX9_areTwoStaff 17 = .ok (.iload_n 2, 1) := by decide +kernel
theorem dX9_areTwoStaff_18 : decode cX9_areTwoStaff 18 = .ok (.if_icmp .eq 7, 3) := by decide +kernel
theorem dX9_areTwoStaff_21 : decode cX9_areTwoStaff 21 = .ok (.iconst 1, 1) := by decide +kernel
theorem dX9_areTwoStaff_22 : decode cX9_areTwoStaff 22 = .ok (.goto 4, 3) := by decide +kernel
theorem dX9_areTwoStaff_25 : decode cX9_areTwoStaff 25 = .ok (.iconst 0, 1) := by decide +kernel
theorem dX9_areTwoStaff_26 : decode cX9_areTwoStaff 26 = .ok (.ireturn, 1) := by decide +kernel
theorem dX9_goBy_0 : decode cX9_goBy 0 = .ok (.iconst 0, 1) := by decide +kernel
theorem dX9_goBy_1 : decode cX9_goBy 1 = .ok (.istore_n 3, 1) := by decide +kernel
theorem dX9_goBy_2 : decode cX9_goBy 2 = .ok (.iload_n 3, 1) := by decide +kernel
theorem dX9_goBy_3 : decode cX9_goBy 3 = .ok (.iload_n 2, 1) := by decide +kernel
theorem dX9_goBy_4 : decode cX9_goBy 4 = .ok (.if_icmp .ge 43, 3) := by decide +kernel
theorem dX9_goBy_7 : decode cX9_goBy 7 = .ok (.aload_n 0, 1) := by decide +kernel
theorem dX9_goBy_8 : decode cX9_goBy 8 = .ok (.getfield 40, 3) := by decide +kernel
theorem dX9_goBy_11 : decode cX9_goBy 11 = .ok (.aload_n 1, 1) := by decide +kernel
theorem dX9_goBy_12 : decode cX9_goBy 12 = .ok (.aload_n 0, 1) := by decide +kernel
theorem dX9_goBy_13 : decode cX9_goBy 13 = .ok (.getfield 19, 3) := by decide +kernel
theorem dX9_goBy_16 : decode cX9_goBy 16 = .ok (.aload_n 1, 1) := by decide +kernel
theorem dX9_goBy_17 : decode cX9_goBy 17 = .ok (.getfield 161, 3) := by decide +kernel
theorem dX9_goBy_20 : decode cX9_goBy 20 = .ok (.invokevirtual 242, 3) := by decide +kernel
theorem dX9_goBy_23 : decode cX9_goBy 23 = .ok (.aload_n 0, 1) := by decide +kernel
theorem dX9_goBy_24 : decode cX9_goBy 24 = .ok (.getfield 19, 3) := by decide +kernel
theorem dX9_goBy_27 : decode cX9_goBy 27 = .ok (.getfield 290, 3) := by decide +kernel
theorem dX9_goBy_30 : decode cX9_goBy 30 = .ok (.invokevirtual 245, 3) := by decide +kernel
theorem dX9_goBy_33 : decode cX9_goBy 33 = .ok (.aload_n 0, 1) := by decide +kernel
theorem dX9_goBy_34 : decode cX9_goBy 34 = .ok (.getfield 40, 3) := by decide +kernel
theorem dX9_goBy_37 : decode cX9_goBy 37 = .ok (.aload_n 1, 1) := by decide +kernel
theorem dX9_goBy_38 : decode cX9_goBy 38 = .ok (.invokevirtual 299, 3) := by decide +kernel
theorem dX9_goBy_41 : decode cX9_goBy 41 = .ok (.iinc 3 1, 3) := by decide +kernel
theorem dX9_goBy_44 : decode cX9_goBy 44 = .ok (.goto (-42), 3) := by decide +kernel
theorem dX9_goBy_47 : decode cX9_goBy 47 = .ok (.return_, 1) := by decide +kernel
theorem dX9_playTonight_0 : decode cX9_playTonight 0 = .ok (.aload_n 0, 1) := by decide +kernel
theorem dX9_playTonight_1 : decode cX9_playTonight 1 = .ok (.getfield 40, 3) := by decide +kernel
theorem dX9_playTonight_4 : decode cX9_playTonight 4 = .ok (.aload_n 0, 1) := by decide +kernel
theorem dX9_playTonight_5 : decode cX9_playTonight 5 = .ok (.getfield 47, 3) := by decide +kernel
theorem dX9_playTonight_8 : decode cX9_playTonight 8 = .ok (.aload_n 0, 1) := by decide +kernel
theorem dX9_playTonight_9 : decode cX9_playTonight 9 = .ok (.getfield 19, 3) := by decide +kernel
theorem dX9_playTonight_12 : decode cX9_playTonight 12 = .ok (.aload_n 0, 1) := by decide +kernel
theorem dX9_playTonight_13 : decode cX9_playTonight 13 = .ok (.getfield 47, 3) := by decide +kernel
theorem dX9_playTonight_16 : decode cX9_playTonight 16 = .ok (.getfield 161, 3) := by decide +kernel
theorem dX9_playTonight_19 : decode cX9_playTonight 19 = .ok (.invokevirtual 242, 3) := by decide +kernel
theorem dX9_playTonight_22 : decode cX9_playTonight 22 = .ok (.aload_n 0, 1) := by decide +kernel
theorem dX9_playTonight_23 : decode cX9_playTonight 23 = .ok (.getfield 19, 3) := by decide +kernel
theorem dX9_playTonight_26 : decode cX9_playTonight 26 = .ok (.getfield 290, 3) := by decide +kernel
theorem dX9_playTonight_29 : decode cX9_playTonight 29 = .ok (.invokevirtual 245, 3) := by decide +kernel
theorem dX9_playTonight_32 : decode cX9_playTonight 32 = .ok (.return_, 1) := by decide +kernel
theorem dX9_walkersTonight_0 : decode cX9_walkersTonight 0 = .ok (.aload_n 0, 1) := by decide +kernel
theorem dX9_walkersTonight_1 : decode cX9_walkersTonight 1 = .ok (.getfield 40, 3) := by decide +kernel
theorem dX9_walkersTonight_4 : decode cX9_walkersTonight 4 = .ok (.aload_n 0, 1) := by decide +kernel
theorem dX9_walkersTonight_5 : decode cX9_walkersTonight 5 = .ok (.getfield 47, 3) := by decide +kernel
theorem dX9_walkersTonight_8 : decode cX9_walkersTonight 8 = .ok (.aload_n 0, 1) := by decide +kernel
theorem dX9_walkersTonight_9 : decode cX9_walkersTonight 9 = .ok (.getfield 19, 3) := by decide +kernel
theorem dX9_walkersTonight_12 : decode cX9_walkersTonight 12 = .ok (.aload_n 0, 1) := by decide +kernel
theorem dX9_walkersTonight_13 : decode cX9_walkersTonight 13 = .ok (.getfield 47, 3) := by decide +kernel
theorem dX9_walkersTonight_16 : decode cX9_walkersTonight 16 = .ok (.getfield 161, 3) := by decide +kernel
theorem dX9_walkersTonight_19 : decode cX9_walkersTonight 19 = .ok (.invokevirtual 242, 3) := by decide +kernel
theorem dX9_walkersTonight_22 : decode cX9_walkersTonight 22 = .ok (.invokevirtual 302, 3) := by decide +kernel
theorem dX9_walkersTonight_25 : decode cX9_walkersTonight 25 = .ok (.aload_n 0, 1) := by decide +kernel
theorem dX9_walkersTonight_26 : decode cX9_walkersTonight 26 = .ok (.getfield 40, 3) := by decide +kernel
theorem dX9_walkersTonight_29 : decode cX9_walkersTonight 29 = .ok (.getfield 306, 3) := by decide +kernel
theorem dX9_walkersTonight_32 : decode cX9_walkersTonight 32 = .ok (.ireturn, 1) := by decide +kernel
theorem dX9_serverTonight_0 : decode cX9_serverTonight 0 = .ok (.aload_n 0, 1) := by decide +kernel
theorem dX9_serverTonight_1 : decode cX9_serverTonight 1 = .ok (.invokevirtual 179, 3) := by decide +kernel
theorem dX9_serverTonight_4 : decode cX9_serverTonight 4 = .ok (.aload_n 0, 1) := by decide +kernel
theorem dX9_serverTonight_5 : decode cX9_serverTonight 5 = .ok (.getfield 40, 3) := by decide +kernel
theorem dX9_serverTonight_8 : decode cX9_serverTonight 8 = .ok (.getfield 309, 3) := by decide +kernel
theorem dX9_serverTonight_11 : decode cX9_serverTonight 11 = .ok (.iload_n 1, 1) := by decide +kernel
theorem dX9_serverTonight_12 : decode cX9_serverTonight 12 = .ok (.invokevirtual 118, 3) := by decide +kernel
theorem dX9_serverTonight_15 : decode cX9_serverTonight 15 = .ok (.ireturn, 1) := by decide +kernel
theorem dX9_servedIfFed_0 : decode cX9_servedIfFed 0 = .ok (.aload_n 0, 1) := by decide +kernel
theorem dX9_servedIfFed_1 : decode cX9_servedIfFed 1 = .ok (.getfield 51, 3) := by decide +kernel
theorem dX9_servedIfFed_4 : decode cX9_servedIfFed 4 = .ok (.aload_n 0, 1) := by decide +kernel
theorem dX9_servedIfFed_5 : decode cX9_servedIfFed 5 = .ok (.getfield 47, 3) := by decide +kernel
theorem dX9_servedIfFed_8 : decode cX9_servedIfFed 8 = .ok (.invokevirtual 210, 3) := by decide +kernel
theorem dX9_servedIfFed_11 : decode cX9_servedIfFed 11 = .ok (.aload_n 0, 1) := by decide +kernel
theorem dX9_servedIfFed_12 : decode cX9_servedIfFed 12 = .ok (.getfield 51, 3) := by decide +kernel
theorem dX9_servedIfFed_15 : decode cX9_servedIfFed 15 = .ok (.dup, 1) := by decide +kernel
theorem dX9_servedIfFed_16 : decode cX9_servedIfFed 16 = .ok (.getfield 143, 3) := by decide +kernel
theorem dX9_servedIfFed_19 : decode cX9_servedIfFed 19 = .ok (.iload_n 1, 1) := by decide +kernel
theorem dX9_servedIfFed_20 : decode cX9_servedIfFed 20 = .ok (.ior, 1) := by decide +kernel
theorem dX9_servedIfFed_21 : decode cX9_servedIfFed 21 = .ok (.putfield 143, 3) := by decide +kernel
theorem dX9_servedIfFed_24 : decode cX9_servedIfFed 24 = .ok (.aload_n 0, 1) := by decide +kernel
theorem dX9_servedIfFed_25 : decode cX9_servedIfFed 25 = .ok (.getfield 40, 3) := by decide +kernel
theorem dX9_servedIfFed_28 : decode cX9_servedIfFed 28 = .ok (.aload_n 0, 1) := by decide +kernel
theorem dX9_servedIfFed_29 : decode cX9_servedIfFed 29 = .ok (.getfield 51, 3) := by decide +kernel
theorem dX9_servedIfFed_32 : decode cX9_servedIfFed 32 = .ok (.aload_n 0, 1) := by decide +kernel
theorem dX9_servedIfFed_33 : decode cX9_servedIfFed 33 = .ok (.getfield 19, 3) := by decide +kernel
theorem dX9_servedIfFed_36 : decode cX9_servedIfFed 36 = .ok (.aload_n 0, 1) := by decide +kernel
theorem dX9_servedIfFed_37 : decode cX9_servedIfFed 37 = .ok (.getfield 51, 3) := by decide +kernel
theorem dX9_servedIfFed_40 : decode cX9_servedIfFed 40 = .ok (.getfield 161, 3) := by decide +kernel
theorem dX9_servedIfFed_43 : decode cX9_servedIfFed 43 = .ok (.invokevirtual 242, 3) := by decide +kernel
theorem dX9_servedIfFed_46 : decode cX9_servedIfFed 46 = .ok (.aload_n 0, 1) := by decide +kernel
theorem dX9_servedIfFed_47 : decode cX9_servedIfFed 47 = .ok (.getfield 19, 3) := by decide +kernel
theorem dX9_servedIfFed_50 : decode cX9_servedIfFed 50 = .ok (.getfield 290, 3) := by decide +kernel
theorem dX9_servedIfFed_53 : decode cX9_servedIfFed 53 = .ok (.invokevirtual 245, 3) := by decide +kernel
theorem dX9_servedIfFed_56 : decode cX9_servedIfFed 56 = .ok (.aload_n 0, 1) := by decide +kernel
theorem dX9_servedIfFed_57 : decode cX9_servedIfFed 57 = .ok (.getfield 40, 3) := by decide +kernel
theorem dX9_servedIfFed_60 : decode cX9_servedIfFed 60 = .ok (.getfield 312, 3) := by decide +kernel
theorem dX9_servedIfFed_63 : decode cX9_servedIfFed 63 = .ok (.ireturn, 1) := by decide +kernel
theorem dX9_servedIfMadeUp_0 : decode cX9_servedIfMadeUp 0 = .ok (.aload_n 0, 1) := by decide +kernel
theorem dX9_servedIfMadeUp_1 : decode cX9_servedIfMadeUp 1 = .ok (.getfield 51, 3) := by decide +kernel
theorem dX9_servedIfMadeUp_4 : decode cX9_servedIfMadeUp 4 = .ok (.aload_n 0, 1) := by decide +kernel
theorem dX9_servedIfMadeUp_5 : decode cX9_servedIfMadeUp 5 = .ok (.getfield 47, 3) := by decide +kernel
theorem dX9_servedIfMadeUp_8 : decode cX9_servedIfMadeUp 8 = .ok (.invokevirtual 210, 3) := by decide +kernel
theorem dX9_servedIfMadeUp_11 : decode cX9_servedIfMadeUp 11 = .ok (.aload_n 0, 1) := by decide +kernel
theorem dX9_servedIfMadeUp_12 : decode cX9_servedIfMadeUp 12 = .ok (.getfield 51, 3) := by decide +kernel
theorem dX9_servedIfMadeUp_15 : decode cX9_servedIfMadeUp 15 = .ok (.aload_n 0, 1) := by decide +kernel
theorem dX9_servedIfMadeUp_16 : decode cX9_servedIfMadeUp 16 = .ok (.getfield 47, 3) := by decide +kernel
theorem dX9_servedIfMadeUp_19 : decode cX9_servedIfMadeUp 19 = .ok (.getfield 173, 3) := by decide +kernel
theorem dX9_servedIfMadeUp_22 : decode cX9_servedIfMadeUp 22 = .ok (.iload_n 1, 1) := by decide +kernel
theorem dX9_servedIfMadeUp_23 : decode cX9_servedIfMadeUp 23 = .ok (.invokestatic 313, 3) := by decide +kernel
theorem dX9_servedIfMadeUp_26 : decode cX9_servedIfMadeUp 26 = .ok (.putfield 173, 3) := by decide +kernel
theorem dX9_servedIfMadeUp_29 : decode cX9_servedIfMadeUp 29 = .ok (.iconst 0, 1) := by decide +kernel
theorem dX9_servedIfMadeUp_30 : decode cX9_servedIfMadeUp 30 = .ok (.istore_n 3, 1) := by decide +kernel
theorem dX9_servedIfMadeUp_31 : decode cX9_servedIfMadeUp 31 = .ok (.iconst 0, 1) := by decide +kernel
theorem dX9_servedIfMadeUp_32 : decode cX9_servedIfMadeUp 32 = .ok (.istore 4, 2) := by decide +kernel
theorem dX9_servedIfMadeUp_34 : decode cX9_servedIfMadeUp 34 = .ok (.iload 4, 2) := by decide +kernel
theorem dX9_servedIfMadeUp_36 : decode cX9_servedIfMadeUp 36 = .ok (.iload_n 2, 1) := by decide +kernel
theorem dX9_servedIfMadeUp_37 : decode cX9_servedIfMadeUp 37 = .ok (.if_icmp .ge 28, 3) := by decide +kernel
theorem dX9_servedIfMadeUp_40 : decode cX9_servedIfMadeUp 40 = .ok (.aload_n 0, 1) := by decide +kernel
theorem dX9_servedIfMadeUp_41 : decode cX9_servedIfMadeUp 41 = .ok (.aload_n 0, 1) := by decide +kernel
theorem dX9_servedIfMadeUp_42 : decode cX9_servedIfMadeUp 42 = .ok (.getfield 51, 3) := by decide +kernel
theorem dX9_servedIfMadeUp_45 : decode cX9_servedIfMadeUp 45 = .ok (.iconst 1, 1) := by decide +kernel
theorem dX9_servedIfMadeUp_46 : decode cX9_servedIfMadeUp 46 = .ok (.invokevirtual 189, 3) := by decide +kernel
theorem dX9_servedIfMadeUp_49 : decode cX9_servedIfMadeUp 49 = .ok (.iload_n 3, 1) := by decide +kernel
theorem dX9_servedIfMadeUp_50 : decode cX9_servedIfMadeUp 50 = .ok (.aload_n 0, 1) := by decide +kernel
theorem dX9_servedIfMadeUp_51 : decode cX9_servedIfMadeUp 51 = .ok (.getfield 40, 3) := by decide +kernel
theorem dX9_servedIfMadeUp_54 : decode cX9_servedIfMadeUp 54 = .ok (.getfield 312, 3) := by decide +kernel
theorem dX9_servedIfMadeUp_57 : decode cX9_servedIfMadeUp 57 = .ok (.iadd, 1) := by decide +kernel
theorem dX9_servedIfMadeUp_58 : decode cX9_servedIfMadeUp 58 = .ok (.istore_n 3, 1) := by decide +kernel
theorem dX9_servedIfMadeUp_59 : decode cX9_servedIfMadeUp 59 = .ok (.iinc 4 1, 3) := by decide +kernel
theorem dX9_servedIfMadeUp_62 : decode cX9_servedIfMadeUp 62 = .ok (.goto (-28), 3) := by decide +kernel
theorem dX9_servedIfMadeUp_65 : decode cX9_servedIfMadeUp 65 = .ok (.iload_n 3, 1) := by decide +kernel
theorem dX9_servedIfMadeUp_66 : decode cX9_servedIfMadeUp 66 = .ok (.ireturn, 1) := by decide +kernel
theorem dX9_without_0 : decode cX9_without 0 = .ok (.iload_n 0, 1) := by decide +kernel
theorem dX9_without_1 : decode cX9_without 1 = .ok (.istore_n 2, 1) := by decide +kernel
theorem dX9_without_2 : decode cX9_without 2 = .ok (.iconst 0, 1) := by decide +kernel
theorem dX9_without_3 : decode cX9_without 3 = .ok (.istore_n 3, 1) := by decide +kernel
theorem dX9_without_4 : decode cX9_without 4 = .ok (.iconst 0, 1) := by decide +kernel
theorem dX9_without_5 : decode cX9_without 5 = .ok (.istore 4, 2) := by decide +kernel
theorem dX9_without_7 : decode cX9_without 7 = .ok (.iload 4, 2) := by decide +kernel
theorem dX9_without_9 : decode cX9_without 9 = .ok (.bipush 30, 2) := by decide +kernel
theorem dX9_without_11 : decode cX9_without 11 = .ok (.if_icmp .ge 32, 3) := by decide +kernel
theorem dX9_without_14 : decode cX9_without 14 = .ok (.iload_n 0, 1) := by decide +kernel
theorem dX9_without_15 : decode cX9_without 15 = .ok (.iload 4, 2) := by decide +kernel
theorem dX9_without_17 : decode cX9_without 17 = .ok (.invokestatic 193, 3) := by decide +kernel
theorem dX9_without_20 : decode cX9_without 20 = .ok (.ifCond .eq 17, 3) := by decide +kernel
theorem dX9_without_23 : decode cX9_without 23 = .ok (.iload_n 2, 1) := by decide +kernel
theorem dX9_without_24 : decode cX9_without 24 = .ok (.iload_n 1, 1) := by decide +kernel
theorem dX9_without_25 : decode cX9_without 25 = .ok (.iload_n 3, 1) := by decide +kernel
theorem dX9_without_26 : decode cX9_without 26 = .ok (.invokestatic 136, 3) := by decide +kernel
theorem dX9_without_29 : decode cX9_without 29 = .ok (.iload 4, 2) := by decide +kernel
theorem dX9_without_31 : decode cX9_without 31 = .ok (.ishl, 1) := by decide +kernel
theorem dX9_without_32 : decode cX9_without 32 = .ok (.ixor, 1) := by decide +kernel
theorem dX9_without_33 : decode cX9_without 33 = .ok (.istore_n 2, 1) := by decide +kernel
theorem dX9_without_34 : decode cX9_without 34 = .ok (.iinc 3 1, 3) := by decide +kernel
theorem dX9_without_37 : decode cX9_without 37 = .ok (.iinc 4 1, 3) := by decide +kernel
theorem dX9_without_40 : decode cX9_without 40 = .ok (.goto (-33), 3) := by decide +kernel
theorem dX9_without_43 : decode cX9_without 43 = .ok (.iload_n 2, 1) := by decide +kernel
theorem dX9_without_44 : decode cX9_without 44 = .ok (.ireturn, 1) := by decide +kernel
theorem dX9_isWithoutHam_0 : decode cX9_isWithoutHam 0 = .ok (.aload_n 0, 1) := by decide +kernel
theorem dX9_isWithoutHam_1 : decode cX9_isWithoutHam 1 = .ok (.getfield 51, 3) := by decide +kernel
theorem dX9_isWithoutHam_4 : decode cX9_isWithoutHam 4 = .ok (.aload_n 0, 1) := by decide +kernel
theorem dX9_isWithoutHam_5 : decode cX9_isWithoutHam 5 = .ok (.getfield 47, 3) := by decide +kernel
theorem dX9_isWithoutHam_8 : decode cX9_isWithoutHam 8 = .ok (.invokevirtual 210, 3) := by decide +kernel
theorem dX9_isWithoutHam_11 : decode cX9_isWithoutHam 11 = .ok (.iconst 0, 1) := by decide +kernel
theorem dX9_isWithoutHam_12 : decode cX9_isWithoutHam 12 = .ok (.istore_n 3, 1) := by decide +kernel
theorem dX9_isWithoutHam_13 : decode cX9_isWithoutHam 13 = .ok (.iload_n 3, 1) := by decide +kernel
theorem dX9_isWithoutHam_14 : decode cX9_isWithoutHam 14 = .ok (.iload_n 1, 1) := by decide +kernel
theorem dX9_isWithoutHam_15 : decode cX9_isWithoutHam 15 = .ok (.if_icmp .ge 55, 3) := by decide +kernel
theorem dX9_isWithoutHam_18 : decode cX9_isWithoutHam 18 = .ok (.aload_n 0, 1) := by decide +kernel
theorem dX9_isWithoutHam_19 : decode cX9_isWithoutHam 19 = .ok (.getfield 40, 3) := by decide +kernel
theorem dX9_isWithoutHam_22 : decode cX9_isWithoutHam 22 = .ok (.aload_n 0, 1) := by decide +kernel
theorem dX9_isWithoutHam_23 : decode cX9_isWithoutHam 23 = .ok (.getfield 51, 3) := by decide +kernel
theorem dX9_isWithoutHam_26 : decode cX9_isWithoutHam 26 = .ok (.iload_n 2, 1) := by decide +kernel
theorem dX9_isWithoutHam_27 : decode cX9_isWithoutHam 27 = .ok (.iload_n 3, 1) := by decide +kernel
theorem dX9_isWithoutHam_28 : decode cX9_isWithoutHam 28 = .ok (.invokestatic 193, 3) := by decide +kernel
theorem dX9_isWithoutHam_31 : decode cX9_isWithoutHam 31 = .ok (.aload_n 0, 1) := by decide +kernel
theorem dX9_isWithoutHam_32 : decode cX9_isWithoutHam 32 = .ok (.getfield 19, 3) := by decide +kernel
theorem dX9_isWithoutHam_35 : decode cX9_isWithoutHam 35 = .ok (.getfield 290, 3) := by decide +kernel
theorem dX9_isWithoutHam_38 : decode cX9_isWithoutHam 38 = .ok (.invokevirtual 245, 3) := by decide +kernel
theorem dX9_isWithoutHam_41 : decode cX9_isWithoutHam 41 = .ok (.aload_n 0, 1) := by decide +kernel
theorem dX9_isWithoutHam_42 : decode cX9_isWithoutHam 42 = .ok (.getfield 40, 3) := by decide +kernel
theorem dX9_isWithoutHam_45 : decode cX9_isWithoutHam 45 = .ok (.getfield 222, 3) := by decide +kernel
theorem dX9_isWithoutHam_48 : decode cX9_isWithoutHam 48 = .ok (.ifCond .le 5, 3) := by decide +kernel
theorem dX9_isWithoutHam_51 : decode cX9_isWithoutHam 51 = .ok (.iconst 0, 1) := by decide +kernel
theorem dX9_isWithoutHam_52 : decode cX9_isWithoutHam 52 = .ok (.ireturn, 1) := by decide +kernel
theorem dX9_isWithoutHam_53 : decode cX9_isWithoutHam 53 = .ok (.aload_n 0, 1) := by decide +kernel
theorem dX9_isWithoutHam_54 : decode cX9_isWithoutHam 54 = .ok (.getfield 40, 3) := by decide +kernel
theorem dX9_isWithoutHam_57 : decode cX9_isWithoutHam 57 = .ok (.aload_n 0, 1) := by decide +kernel
theorem dX9_isWithoutHam_58 : decode cX9_isWithoutHam 58 = .ok (.getfield 51, 3) := by decide +kernel
theorem dX9_isWithoutHam_61 : decode cX9_isWithoutHam 61 = .ok (.invokevirtual 299, 3) := by decide +kernel
theorem dX9_isWithoutHam_64 : decode cX9_isWithoutHam 64 = .ok (.iinc 3 1, 3) := by decide +kernel
theorem dX9_isWithoutHam_67 : decode cX9_isWithoutHam 67 = .ok (.goto (-54), 3) := by decide +kernel
theorem dX9_isWithoutHam_70 : decode cX9_isWithoutHam 70 = .ok (.iconst 1, 1) := by decide +kernel
theorem dX9_isWithoutHam_71 : decode cX9_isWithoutHam 71 = .ok (.ireturn, 1) := by decide +kernel
theorem dX9_weight_0 : decode cX9_weight 0 = .ok (.iconst 1, 1) := by decide +kernel
theorem dX9_weight_1 : decode cX9_weight 1 = .ok (.istore_n 3, 1) := by decide +kernel
theorem dX9_weight_2 : decode cX9_weight 2 = .ok (.iconst 0, 1) := by decide +kernel
theorem dX9_weight_3 : decode cX9_weight 3 = .ok (.istore 4, 2) := by decide +kernel
theorem dX9_weight_5 : decode cX9_weight 5 = .ok (.iload 4, 2) := by decide +kernel
theorem dX9_weight_7 : decode cX9_weight 7 = .ok (.iload_n 0, 1) := by decide +kernel
theorem dX9_weight_8 : decode cX9_weight 8 = .ok (.if_icmp .ge 29, 3) := by decide +kernel
theorem dX9_weight_11 : decode cX9_weight 11 = .ok (.iload_n 3, 1) := by decide +kernel
theorem dX9_weight_12 : decode cX9_weight 12 = .ok (.iload_n 2, 1) := by decide +kernel
theorem dX9_weight_13 : decode cX9_weight 13 = .ok (.iload 4, 2) := by decide +kernel
theorem dX9_weight_15 : decode cX9_weight 15 = .ok (.invokestatic 193, 3) := by decide +kernel
theorem dX9_weight_18 : decode cX9_weight 18 = .ok (.ifCond .eq 7, 3) := by decide +kernel
theorem dX9_weight_21 : decode cX9_weight 21 = .ok (.iload_n 1, 1) := by decide +kernel
theorem dX9_weight_22 : decode cX9_weight 22 = .ok (.goto 7, 3) := by decide +kernel
theorem dX9_weight_25 : decode cX9_weight 25 = .ok (.bipush 10, 2) := by decide +kernel
theorem dX9_weight_27 : decode cX9_weight 27 = .ok (.iload_n 1, 1) := by decide +kernel
theorem dX9_weight_28 : decode cX9_weight 28 = .ok (.isub, 1) := by decide +kernel
theorem dX9_weight_29 : decode cX9_weight 29 = .ok (.imul, 1) := by decide +kernel
theorem dX9_weight_30 : decode cX9_weight 30 = .ok (.istore_n 3, 1) := by decide +kernel
theorem dX9_weight_31 : decode cX9_weight 31 = .ok (.iinc 4 1, 3) := by decide +kernel
theorem dX9_weight_34 : decode cX9_weight 34 = .ok (.goto (-29), 3) := by decide +kernel
theorem dX9_weight_37 : decode cX9_weight 37 = .ok (.iload_n 3, 1) := by decide +kernel
theorem dX9_weight_38 : decode cX9_weight 38 = .ok (.ireturn, 1) := by decide +kernel
theorem dX9_sharedDivisor_0 : decode cX9_sharedDivisor 0 = .ok (.iconst 1, 1) := by decide +kernel
theorem dX9_sharedDivisor_1 : decode cX9_sharedDivisor 1 = .ok (.istore_n 3, 1) := by decide +kernel
theorem dX9_sharedDivisor_2 : decode cX9_sharedDivisor 2 = .ok (.iconst 0, 1) := by decide +kernel
theorem dX9_sharedDivisor_3 : decode cX9_sharedDivisor 3 = .ok (.istore 4, 2) := by decide +kernel
theorem dX9_sharedDivisor_5 : decode cX9_sharedDivisor 5 = .ok (.iload 4, 2) := by decide +kernel
theorem dX9_sharedDivisor_7 : decode cX9_sharedDivisor 7 = .ok (.iload_n 2, 1) := by decide +kernel
theorem dX9_sharedDivisor_8 : decode cX9_sharedDivisor 8 = .ok (.if_icmp .ge 47, 3) := by decide +kernel
theorem dX9_sharedDivisor_11 : decode cX9_sharedDivisor 11 = .ok (.iload_n 3, 1) := by decide +kernel
theorem dX9_sharedDivisor_12 : decode cX9_sharedDivisor 12 = .ok (.iconst 2, 1) := by decide +kernel
theorem dX9_sharedDivisor_13 : decode cX9_sharedDivisor 13 = .ok (.iload_n 3, 1) := by decide +kernel
theorem dX9_sharedDivisor_14 : decode cX9_sharedDivisor 14 = .ok (.imul, 1) := by decide +kernel
theorem dX9_sharedDivisor_15 : decode cX9_sharedDivisor 15 = .ok (.iload_n 0, 1) := by decide +kernel
theorem dX9_sharedDivisor_16 : decode cX9_sharedDivisor 16 = .ok (.iload_n 1, 1) := by decide +kernel
theorem dX9_sharedDivisor_17 : decode cX9_sharedDivisor 17 = .ok (.invokestatic 316, 3) := by decide +kernel
theorem dX9_sharedDivisor_20 : decode cX9_sharedDivisor 20 = .ok (.ifCond .eq 7, 3) := by decide +kernel
theorem dX9_sharedDivisor_23 : decode cX9_sharedDivisor 23 = .ok (.iconst 2, 1) := by decide +kernel
theorem dX9_sharedDivisor_24 : decode cX9_sharedDivisor 24 = .ok (.goto 4, 3) := by decide +kernel
theorem dX9_sharedDivisor_27 : decode cX9_sharedDivisor 27 = .ok (.iconst 1, 1) := by decide +kernel
theorem dX9_sharedDivisor_28 : decode cX9_sharedDivisor 28 = .ok (.imul, 1) := by decide +kernel
theorem dX9_sharedDivisor_29 : decode cX9_sharedDivisor 29 = .ok (.istore_n 3, 1) := by decide +kernel
theorem dX9_sharedDivisor_30 : decode cX9_sharedDivisor 30 = .ok (.iload_n 3, 1) := by decide +kernel
theorem dX9_sharedDivisor_31 : decode cX9_sharedDivisor 31 = .ok (.iconst 5, 1) := by decide +kernel
theorem dX9_sharedDivisor_32 : decode cX9_sharedDivisor 32 = .ok (.iload_n 3, 1) := by decide +kernel
theorem dX9_sharedDivisor_33 : decode cX9_sharedDivisor 33 = .ok (.imul, 1) := by decide +kernel
theorem dX9_sharedDivisor_34 : decode cX9_sharedDivisor 34 = .ok (.iload_n 0, 1) := by decide +kernel
theorem dX9_sharedDivisor_35 : decode cX9_sharedDivisor 35 = .ok (.iload_n 1, 1) := by decide +kernel
theorem dX9_sharedDivisor_36 : decode cX9_sharedDivisor 36 = .ok (.invokestatic 316, 3) := by decide +kernel
theorem dX9_sharedDivisor_39 : decode cX9_sharedDivisor 39 = .ok (.ifCond .eq 7, 3) := by decide +kernel
theorem dX9_sharedDivisor_42 : decode cX9_sharedDivisor 42 = .ok (.iconst 5, 1) := by decide +kernel
theorem dX9_sharedDivisor_43 : decode cX9_sharedDivisor 43 = .ok (.goto 4, 3) := by decide +kernel
theorem dX9_sharedDivisor_46 : decode cX9_sharedDivisor 46 = .ok (.iconst 1, 1) := by decide +kernel
theorem dX9_sharedDivisor_47 : decode cX9_sharedDivisor 47 = .ok (.imul, 1) := by decide +kernel
theorem dX9_sharedDivisor_48 : decode cX9_sharedDivisor 48 = .ok (.istore_n 3, 1) := by decide +kernel
theorem dX9_sharedDivisor_49 : decode cX9_sharedDivisor 49 = .ok (.iinc 4 1, 3) := by decide +kernel
theorem dX9_sharedDivisor_52 : decode cX9_sharedDivisor 52 = .ok (.goto (-47), 3) := by decide +kernel
theorem dX9_sharedDivisor_55 : decode cX9_sharedDivisor 55 = .ok (.iload_n 3, 1) := by decide +kernel
theorem dX9_sharedDivisor_56 : decode cX9_sharedDivisor 56 = .ok (.ireturn, 1) := by decide +kernel
theorem dX9_dividesBoth_0 : decode cX9_dividesBoth 0 = .ok (.iload_n 0, 1) := by decide +kernel
theorem dX9_dividesBoth_1 : decode cX9_dividesBoth 1 = .ok (.ifCond .le 19, 3) := by decide +kernel
theorem dX9_dividesBoth_4 : decode cX9_dividesBoth 4 = .ok (.iload_n 1, 1) := by decide +kernel
theorem dX9_dividesBoth_5 : decode cX9_dividesBoth 5 = .ok (.iload_n 0, 1) := by decide +kernel
theorem dX9_dividesBoth_6 : decode cX9_dividesBoth 6 = .ok (.irem, 1) := by decide +kernel
theorem dX9_dividesBoth_7 : decode cX9_dividesBoth 7 = .ok (.ifCond .ne 13, 3) := by decide +kernel
theorem dX9_dividesBoth_10 : decode cX9_dividesBoth 10 = .ok (.iload_n 2, 1) := by decide +kernel
theorem dX9_dividesBoth_11 : decode cX9_dividesBoth 11 = .ok (.iload_n 0, 1) := by decide +kernel
theorem dX9_dividesBoth_12 : decode cX9_dividesBoth 12 = .ok (.irem, 1) := by decide +kernel
theorem dX9_dividesBoth_13 : decode cX9_dividesBoth 13 = .ok (.ifCond .ne 7, 3) := by decide +kernel
theorem dX9_dividesBoth_16 : decode cX9_dividesBoth 16 = .ok (.iconst 1, 1) := by decide +kernel
theorem dX9_dividesBoth_17 : decode cX9_dividesBoth 17 = .ok (.goto 4, 3) := by decide +kernel
theorem dX9_dividesBoth_20 : decode cX9_dividesBoth 20 = .ok (.iconst 0, 1) := by decide +kernel
theorem dX9_dividesBoth_21 : decode cX9_dividesBoth 21 = .ok (.ireturn, 1) := by decide +kernel
theorem dX9_draw_0 : decode cX9_draw 0 = .ok (.ldc2_w 319, 3) := by decide +kernel
theorem dX9_draw_3 : decode cX9_draw 3 = .ok (.iload_n 0, 1) := by decide +kernel
theorem dX9_draw_4 : decode cX9_draw 4 = .ok (.i2l, 1) := by decide +kernel
theorem dX9_draw_5 : decode cX9_draw 5 = .ok (.lmul, 1) := by decide +kernel
theorem dX9_draw_6 : decode cX9_draw 6 = .ok (.ldc2_w 321, 3) := by decide +kernel
theorem dX9_draw_9 : decode cX9_draw 9 = .ok (.iload_n 1, 1) := by decide +kernel
theorem dX9_draw_10 : decode cX9_draw 10 = .ok (.i2l, 1) := by decide +kernel
theorem dX9_draw_11 : decode cX9_draw 11 = .ok (.lmul, 1) := by decide +kernel
theorem dX9_draw_12 : decode cX9_draw 12 = .ok (.ladd, 1) := by decide +kernel
theorem dX9_draw_13 : decode cX9_draw 13 = .ok (.lconst 1, 1) := by decide +kernel
theorem dX9_draw_14 : decode cX9_draw 14 = .ok (.ladd, 1) := by decide +kernel
theorem dX9_draw_15 : decode cX9_draw 15 = .ok (.lstore_n 2, 1) := by decide +kernel
theorem dX9_draw_16 : decode cX9_draw 16 = .ok (.lload_n 2, 1) := by decide +kernel
theorem dX9_draw_17 : decode cX9_draw 17 = .ok (.lload_n 2, 1) := by decide +kernel
theorem dX9_draw_18 : decode cX9_draw 18 = .ok (.lmul, 1) := by decide +kernel
theorem dX9_draw_19 : decode cX9_draw 19 = .ok (.ldc2_w 323, 3) := by decide +kernel
theorem dX9_draw_22 : decode cX9_draw 22 = .ok (.lrem, 1) := by decide +kernel
theorem dX9_draw_23 : decode cX9_draw 23 = .ok (.ldc2_w 325, 3) := by decide +kernel
theorem dX9_draw_26 : decode cX9_draw 26 = .ok (.ldiv, 1) := by decide +kernel
theorem dX9_draw_27 : decode cX9_draw 27 = .ok (.l2i, 1) := by decide +kernel
theorem dX9_draw_28 : decode cX9_draw 28 = .ok (.ireturn, 1) := by decide +kernel
theorem dX9_wakes_0 : decode cX9_wakes 0 = .ok (.iload_n 0, 1) := by decide +kernel
theorem dX9_wakes_1 : decode cX9_wakes 1 = .ok (.tableswitch 70 0 2 #[27, 49, 59], 27) := by decide +kernel
theorem dX9_wakes_28 : decode cX9_wakes 28 = .ok (.iload_n 2, 1) := by decide +kernel
theorem dX9_wakes_29 : decode cX9_wakes 29 = .ok (.iconst 2, 1) := by decide +kernel
theorem dX9_wakes_30 : decode cX9_wakes 30 = .ok (.if_icmp .eq 14, 3) := by decide +kernel
theorem dX9_wakes_33 : decode cX9_wakes 33 = .ok (.iload_n 2, 1) := by decide +kernel
theorem dX9_wakes_34 : decode cX9_wakes 34 = .ok (.iconst 1, 1) := by decide +kernel
theorem dX9_wakes_35 : decode cX9_wakes 35 = .ok (.if_icmp .ne 13, 3) := by decide +kernel
theorem dX9_wakes_38 : decode cX9_wakes 38 = .ok (.iload_n 1, 1) := by decide +kernel
theorem dX9_wakes_39 : decode cX9_wakes 39 = .ok (.bipush 10, 2) := by decide +kernel
theorem dX9_wakes_41 : decode cX9_wakes 41 = .ok (.if_icmp .le 7, 3) := by decide +kernel
theorem dX9_wakes_44 : decode cX9_wakes 44 = .ok (.iconst 1, 1) := by decide +kernel
theorem dX9_wakes_45 : decode cX9_wakes 45 = .ok (.goto 4, 3) := by decide +kernel
theorem dX9_wakes_48 : decode cX9_wakes 48 = .ok (.iconst 0, 1) := by decide +kernel
theorem dX9_wakes_49 : decode cX9_wakes 49 = .ok (.ireturn, 1) := by decide +kernel
theorem dX9_wakes_50 : decode cX9_wakes 50 = .ok (.iload_n 2, 1) := by decide +kernel
theorem dX9_wakes_51 : decode cX9_wakes 51 = .ok (.ifCond .ne 7, 3) := by decide +kernel
theorem dX9_wakes_54 : decode cX9_wakes 54 = .ok (.iconst 1, 1) := by decide +kernel
theorem dX9_wakes_55 : decode cX9_wakes 55 = .ok (.goto 4, 3) := by decide +kernel
theorem dX9_wakes_58 : decode cX9_wakes 58 = .ok (.iconst 0, 1) := by decide +kernel
theorem dX9_wakes_59 : decode cX9_wakes 59 = .ok (.ireturn, 1) := by decide +kernel
theorem dX9_wakes_60 : decode cX9_wakes 60 = .ok (.iload_n 2, 1) := by decide +kernel
theorem dX9_wakes_61 : decode cX9_wakes 61 = .ok (.iconst 3, 1) := by decide +kernel
theorem dX9_wakes_62 : decode cX9_wakes 62 = .ok (.if_icmp .ne 7, 3) := by decide +kernel
theorem dX9_wakes_65 : decode cX9_wakes 65 = .ok (.iconst 1, 1) := by decide +kernel
theorem dX9_wakes_66 : decode cX9_wakes 66 = .ok (.goto 4, 3) := by decide +kernel
theorem dX9_wakes_69 : decode cX9_wakes 69 = .ok (.iconst 0, 1) := by decide +kernel
theorem dX9_wakes_70 : decode cX9_wakes 70 = .ok (.ireturn, 1) := by decide +kernel
theorem dX9_wakes_71 : decode cX9_wakes 71 = .ok (.iconst 0, 1) := by decide +kernel
theorem dX9_wakes_72 : decode cX9_wakes 72 = .ok (.ireturn, 1) := by decide +kernel
theorem dX9_pair_0 : decode cX9_pair 0 = .ok (.iload_n 0, 1) := by decide +kernel
theorem dX9_pair_1 : decode cX9_pair 1 = .ok (.iload_n 1, 1) := by decide +kernel
theorem dX9_pair_2 : decode cX9_pair 2 = .ok (.if_icmp .ge 12, 3) := by decide +kernel
theorem dX9_pair_5 : decode cX9_pair 5 = .ok (.bipush 6, 2) := by decide +kernel
theorem dX9_pair_7 : decode cX9_pair 7 = .ok (.iload_n 0, 1) := by decide +kernel
theorem dX9_pair_8 : decode cX9_pair 8 = .ok (.imul, 1) := by decide +kernel
theorem dX9_pair_9 : decode cX9_pair 9 = .ok (.iload_n 1, 1) := by decide +kernel
theorem dX9_pair_10 : decode cX9_pair 10 = .ok (.iadd, 1) := by decide +kernel
theorem dX9_pair_11 : decode cX9_pair 11 = .ok (.goto 9, 3) := by decide +kernel
theorem dX9_pair_14 : decode cX9_pair 14 = .ok (.bipush 6, 2) := by decide +kernel
theorem dX9_pair_16 : decode cX9_pair 16 = .ok (.iload_n 1, 1) := by decide +kernel
theorem dX9_pair_17 : decode cX9_pair 17 = .ok (.imul, 1) := by decide +kernel
theorem dX9_pair_18 : decode cX9_pair 18 = .ok (.iload_n 0, 1) := by decide +kernel
theorem dX9_pair_19 : decode cX9_pair 19 = .ok (.iadd, 1) := by decide +kernel
theorem dX9_pair_20 : decode cX9_pair 20 = .ok (.ireturn, 1) := by decide +kernel
theorem dX9_has_0 : decode cX9_has 0 = .ok (.iload_n 0, 1) := by decide +kernel
theorem dX9_has_1 : decode cX9_has 1 = .ok (.iload_n 1, 1) := by decide +kernel
theorem dX9_has_2 : decode cX9_has 2 = .ok (.ishr, 1) := by decide +kernel
theorem dX9_has_3 : decode cX9_has 3 = .ok (.iconst 1, 1) := by decide +kernel
theorem dX9_has_4 : decode cX9_has 4 = .ok (.iand, 1) := by decide +kernel
theorem dX9_has_5 : decode cX9_has 5 = .ok (.iconst 1, 1) := by decide +kernel
theorem dX9_has_6 : decode cX9_has 6 = .ok (.if_icmp .ne 7, 3) := by decide +kernel
theorem dX9_has_9 : decode cX9_has 9 = .ok (.iconst 1, 1) := by decide +kernel
theorem dX9_has_10 : decode cX9_has 10 = .ok (.goto 4, 3) := by decide +kernel
theorem dX9_has_13 : decode cX9_has 13 = .ok (.iconst 0, 1) := by decide +kernel
theorem dX9_has_14 : decode cX9_has 14 = .ok (.ireturn, 1) := by decide +kernel
theorem dX9_bit_0 : decode cX9_bit 0 = .ok (.iload_n 0, 1) := by decide +kernel
theorem dX9_bit_1 : decode cX9_bit 1 = .ok (.iload_n 1, 1) := by decide +kernel
theorem dX9_bit_2 : decode cX9_bit 2 = .ok (.ishr, 1) := by decide +kernel
theorem dX9_bit_3 : decode cX9_bit 3 = .ok (.iconst 1, 1) := by decide +kernel
theorem dX9_bit_4 : decode cX9_bit 4 = .ok (.iand, 1) := by decide +kernel
theorem dX9_bit_5 : decode cX9_bit 5 = .ok (.ireturn, 1) := by decide +kernel
theorem dX9_mod_0 : decode cX9_mod 0 = .ok (.iload_n 1, 1) := by decide +kernel
theorem dX9_mod_1 : decode cX9_mod 1 = .ok (.ifCond .le 9, 3) := by decide +kernel
theorem dX9_mod_4 : decode cX9_mod 4 = .ok (.iload_n 0, 1) := by decide +kernel
theorem dX9_mod_5 : decode cX9_mod 5 = .ok (.iload_n 1, 1) := by decide +kernel
theorem dX9_mod_6 : decode cX9_mod 6 = .ok (.irem, 1) := by decide +kernel
theorem dX9_mod_7 : decode cX9_mod 7 = .ok (.goto 4, 3) := by decide +kernel
theorem dX9_mod_10 : decode cX9_mod 10 = .ok (.iconst 0, 1) := by decide +kernel
theorem dX9_mod_11 : decode cX9_mod 11 = .ok (.ireturn, 1) := by decide +kernel
theorem dX9_quotient_0 : decode cX9_quotient 0 = .ok (.iload_n 1, 1) := by decide +kernel
theorem dX9_quotient_1 : decode cX9_quotient 1 = .ok (.ifCond .le 9, 3) := by decide +kernel
theorem dX9_quotient_4 : decode cX9_quotient 4 = .ok (.iload_n 0, 1) := by decide +kernel
theorem dX9_quotient_5 : decode cX9_quotient 5 = .ok (.iload_n 1, 1) := by decide +kernel
theorem dX9_quotient_6 : decode cX9_quotient 6 = .ok (.idiv, 1) := by decide +kernel
theorem dX9_quotient_7 : decode cX9_quotient 7 = .ok (.goto 4, 3) := by decide +kernel
theorem dX9_quotient_10 : decode cX9_quotient 10 = .ok (.iconst 0, 1) := by decide +kernel
theorem dX9_quotient_11 : decode cX9_quotient 11 = .ok (.ireturn, 1) := by decide +kernel
theorem dX9_isWithin_0 : decode cX9_isWithin 0 = .ok (.iload_n 0, 1) := by decide +kernel
theorem dX9_isWithin_1 : decode cX9_isWithin 1 = .ok (.iload_n 1, 1) := by decide +kernel
theorem dX9_isWithin_2 : decode cX9_isWithin 2 = .ok (.if_icmp .lt 12, 3) := by decide +kernel
theorem dX9_isWithin_5 : decode cX9_isWithin 5 = .ok (.iload_n 0, 1) := by decide +kernel
theorem dX9_isWithin_6 : decode cX9_isWithin 6 = .ok (.iload_n 2, 1) := by decide +kernel
theorem dX9_isWithin_7 : decode cX9_isWithin 7 = .ok (.if_icmp .gt 7, 3) := by decide +kernel
theorem dX9_isWithin_10 : decode cX9_isWithin 10 = .ok (.iconst 1, 1) := by decide +kernel
theorem dX9_isWithin_11 : decode cX9_isWithin 11 = .ok (.goto 4, 3) := by decide +kernel
theorem dX9_isWithin_14 : decode cX9_isWithin 14 = .ok (.iconst 0, 1) := by decide +kernel
theorem dX9_isWithin_15 : decode cX9_isWithin 15 = .ok (.ireturn, 1) := by decide +kernel
theorem dJ6_bitCount_0f7a4_0 : decode cJ6_bitCount_0f7a4 0 = .ok (.iload_n 0, 1) := by decide +kernel
theorem dJ6_bitCount_0f7a4_1 : decode cJ6_bitCount_0f7a4 1 = .ok (.iload_n 0, 1) := by decide +kernel
theorem dJ6_bitCount_0f7a4_2 : decode cJ6_bitCount_0f7a4 2 = .ok (.iconst 1, 1) := by decide +kernel
theorem dJ6_bitCount_0f7a4_3 : decode cJ6_bitCount_0f7a4 3 = .ok (.iushr, 1) := by decide +kernel
theorem dJ6_bitCount_0f7a4_4 : decode cJ6_bitCount_0f7a4 4 = .ok (.ldc_w 265, 3) := by decide +kernel
theorem dJ6_bitCount_0f7a4_7 : decode cJ6_bitCount_0f7a4 7 = .ok (.iand, 1) := by decide +kernel
theorem dJ6_bitCount_0f7a4_8 : decode cJ6_bitCount_0f7a4 8 = .ok (.isub, 1) := by decide +kernel
theorem dJ6_bitCount_0f7a4_9 : decode cJ6_bitCount_0f7a4 9 = .ok (.istore_n 0, 1) := by decide +kernel
theorem dJ6_bitCount_0f7a4_10 : decode cJ6_bitCount_0f7a4 10 = .ok (.iload_n 0, 1) := by decide +kernel
theorem dJ6_bitCount_0f7a4_11 : decode cJ6_bitCount_0f7a4 11 = .ok (.ldc_w 266, 3) := by decide +kernel
theorem dJ6_bitCount_0f7a4_14 : decode cJ6_bitCount_0f7a4 14 = .ok (.iand, 1) := by decide +kernel
theorem dJ6_bitCount_0f7a4_15 : decode cJ6_bitCount_0f7a4 15 = .ok (.iload_n 0, 1) := by decide +kernel
theorem dJ6_bitCount_0f7a4_16 : decode cJ6_bitCount_0f7a4 16 = .ok (.iconst 2, 1) := by decide +kernel
theorem dJ6_bitCount_0f7a4_17 : decode cJ6_bitCount_0f7a4 17 = .ok (.iushr, 1) := by decide +kernel
theorem dJ6_bitCount_0f7a4_18 : decode cJ6_bitCount_0f7a4 18 = .ok (.ldc_w 266, 3) := by decide +kernel
theorem dJ6_bitCount_0f7a4_21 : decode cJ6_bitCount_0f7a4 21 = .ok (.iand, 1) := by decide +kernel
theorem dJ6_bitCount_0f7a4_22 : decode cJ6_bitCount_0f7a4 22 = .ok (.iadd, 1) := by decide +kernel
theorem dJ6_bitCount_0f7a4_23 : decode cJ6_bitCount_0f7a4 23 = .ok (.istore_n 0, 1) := by decide +kernel
theorem dJ6_bitCount_0f7a4_24 : decode cJ6_bitCount_0f7a4 24 = .ok (.iload_n 0, 1) := by decide +kernel
theorem dJ6_bitCount_0f7a4_25 : decode cJ6_bitCount_0f7a4 25 = .ok (.iload_n 0, 1) := by decide +kernel
theorem dJ6_bitCount_0f7a4_26 : decode cJ6_bitCount_0f7a4 26 = .ok (.iconst 4, 1) := by decide +kernel
theorem dJ6_bitCount_0f7a4_27 : decode cJ6_bitCount_0f7a4 27 = .ok (.iushr, 1) := by decide +kernel
theorem dJ6_bitCount_0f7a4_28 : decode cJ6_bitCount_0f7a4 28 = .ok (.iadd, 1) := by decide +kernel
theorem dJ6_bitCount_0f7a4_29 : decode cJ6_bitCount_0f7a4 29 = .ok (.ldc_w 267, 3) := by decide +kernel
theorem dJ6_bitCount_0f7a4_32 : decode cJ6_bitCount_0f7a4 32 = .ok (.iand, 1) := by decide +kernel
theorem dJ6_bitCount_0f7a4_33 : decode cJ6_bitCount_0f7a4 33 = .ok (.istore_n 0, 1) := by decide +kernel
theorem dJ6_bitCount_0f7a4_34 : decode cJ6_bitCount_0f7a4 34 = .ok (.iload_n 0, 1) := by decide +kernel
theorem dJ6_bitCount_0f7a4_35 : decode cJ6_bitCount_0f7a4 35 = .ok (.iload_n 0, 1) := by decide +kernel
theorem dJ6_bitCount_0f7a4_36 : decode cJ6_bitCount_0f7a4 36 = .ok (.bipush 8, 2) := by decide +kernel
theorem dJ6_bitCount_0f7a4_38 : decode cJ6_bitCount_0f7a4 38 = .ok (.iushr, 1) := by decide +kernel
theorem dJ6_bitCount_0f7a4_39 : decode cJ6_bitCount_0f7a4 39 = .ok (.iadd, 1) := by decide +kernel
theorem dJ6_bitCount_0f7a4_40 : decode cJ6_bitCount_0f7a4 40 = .ok (.istore_n 0, 1) := by decide +kernel
theorem dJ6_bitCount_0f7a4_41 : decode cJ6_bitCount_0f7a4 41 = .ok (.iload_n 0, 1) := by decide +kernel
theorem dJ6_bitCount_0f7a4_42 : decode cJ6_bitCount_0f7a4 42 = .ok (.iload_n 0, 1) := by decide +kernel
theorem dJ6_bitCount_0f7a4_43 : decode cJ6_bitCount_0f7a4 43 = .ok (.bipush 16, 2) := by decide +kernel
theorem dJ6_bitCount_0f7a4_45 : decode cJ6_bitCount_0f7a4 45 = .ok (.iushr, 1) := by decide +kernel
theorem dJ6_bitCount_0f7a4_46 : decode cJ6_bitCount_0f7a4 46 = .ok (.iadd, 1) := by decide +kernel
theorem dJ6_bitCount_0f7a4_47 : decode cJ6_bitCount_0f7a4 47 = .ok (.istore_n 0, 1) := by decide +kernel
theorem dJ6_bitCount_0f7a4_48 : decode cJ6_bitCount_0f7a4 48 = .ok (.iload_n 0, 1) := by decide +kernel
theorem dJ6_bitCount_0f7a4_49 : decode cJ6_bitCount_0f7a4 49 = .ok (.bipush 63, 2) := by decide +kernel
theorem dJ6_bitCount_0f7a4_51 : decode cJ6_bitCount_0f7a4 51 = .ok (.iand, 1) := by decide +kernel
theorem dJ6_bitCount_0f7a4_52 : decode cJ6_bitCount_0f7a4 52 = .ok (.ireturn, 1) := by decide +kernel
theorem dJ0_length_8abf5_0 : decode cJ0_length_8abf5 0 = .ok (.aload_n 0, 1) := by decide +kernel
theorem dJ0_length_8abf5_1 : decode cJ0_length_8abf5 1 = .ok (.getfield 9, 3) := by decide +kernel
theorem dJ0_length_8abf5_4 : decode cJ0_length_8abf5 4 = .ok (.arraylength, 1) := by decide +kernel
theorem dJ0_length_8abf5_5 : decode cJ0_length_8abf5 5 = .ok (.aload_n 0, 1) := by decide +kernel
theorem dJ0_length_8abf5_6 : decode cJ0_length_8abf5 6 = .ok (.invokevirtual 335, 3) := by decide +kernel
theorem dJ0_length_8abf5_9 : decode cJ0_length_8abf5 9 = .ok (.ishr, 1) := by decide +kernel
theorem dJ0_length_8abf5_10 : decode cJ0_length_8abf5 10 = .ok (.ireturn, 1) := by decide +kernel
theorem dJ0_charAt_5068e_0 : decode cJ0_charAt_5068e 0 = .ok (.aload_n 0, 1) := by decide +kernel
theorem dJ0_charAt_5068e_1 : decode cJ0_charAt_5068e 1 = .ok (.invokevirtual 492, 3) := by decide +kernel
theorem dJ0_charAt_5068e_4 : decode cJ0_charAt_5068e 4 = .ok (.ifCond .eq 12, 3) := by decide +kernel
theorem dJ0_charAt_5068e_7 : decode cJ0_charAt_5068e 7 = .ok (.aload_n 0, 1) := by decide +kernel
theorem dJ0_charAt_5068e_8 : decode cJ0_charAt_5068e 8 = .ok (.getfield 9, 3) := by decide +kernel
theorem dJ0_charAt_5068e_11 : decode cJ0_charAt_5068e 11 = .ok (.iload_n 1, 1) := by decide +kernel
theorem dJ0_charAt_5068e_12 : decode cJ0_charAt_5068e 12 = .ok (.invokestatic 495, 3) := by decide +kernel
theorem dJ0_charAt_5068e_15 : decode cJ0_charAt_5068e 15 = .ok (.ireturn, 1) := by decide +kernel
theorem dJ0_charAt_5068e_16 : decode cJ0_charAt_5068e 16 = .ok (.aload_n 0, 1) := by decide +kernel
theorem dJ0_charAt_5068e_17 : decode cJ0_charAt_5068e 17 = .ok (.getfield 9, 3) := by decide +kernel
theorem dJ0_charAt_5068e_20 : decode cJ0_charAt_5068e 20 = .ok (.iload_n 1, 1) := by decide +kernel
theorem dJ0_charAt_5068e_21 : decode cJ0_charAt_5068e 21 = .ok (.invokestatic 498, 3) := by decide +kernel
theorem dJ0_charAt_5068e_24 : decode cJ0_charAt_5068e 24 = .ok (.ireturn, 1) := by decide +kernel
theorem dJ0_coder_7d493_0 : decode cJ0_coder_7d493 0 = .ok (.getstatic 38, 3) := by decide +kernel
theorem dJ0_coder_7d493_3 : decode cJ0_coder_7d493 3 = .ok (.ifCond .eq 10, 3) := by decide +kernel
theorem dJ0_coder_7d493_6 : decode cJ0_coder_7d493 6 = .ok (.aload_n 0, 1) := by decide +kernel
theorem dJ0_coder_7d493_7 : decode cJ0_coder_7d493 7 = .ok (.getfield 15, 3) := by decide +kernel
theorem dJ0_coder_7d493_10 : decode cJ0_coder_7d493 10 = .ok (.goto 4, 3) := by decide +kernel
theorem dJ0_coder_7d493_13 : decode cJ0_coder_7d493 13 = .ok (.iconst 1, 1) := by decide +kernel
theorem dJ0_coder_7d493_14 : decode cJ0_coder_7d493 14 = .ok (.ireturn, 1) := by decide +kernel
theorem dJ0_isLatin1_aae02_0 : decode cJ0_isLatin1_aae02 0 = .ok (.getstatic 38, 3) := by decide +kernel
theorem dJ0_isLatin1_aae02_3 : decode cJ0_isLatin1_aae02 3 = .ok (.ifCond .eq 14, 3) := by decide +kernel
theorem dJ0_isLatin1_aae02_6 : decode cJ0_isLatin1_aae02 6 = .ok (.aload_n 0, 1) := by decide +kernel
theorem dJ0_isLatin1_aae02_7 : decode cJ0_isLatin1_aae02 7 = .ok (.getfield 15, 3) := by decide +kernel
theorem dJ0_isLatin1_aae02_10 : decode cJ0_isLatin1_aae02 10 = .ok (.ifCond .ne 7, 3) := by decide +kernel
theorem dJ0_isLatin1_aae02_13 : decode cJ0_isLatin1_aae02 13 = .ok (.iconst 1, 1) := by decide +kernel
theorem dJ0_isLatin1_aae02_14 : decode cJ0_isLatin1_aae02 14 = .ok (.goto 4, 3) := by decide +kernel
theorem dJ0_isLatin1_aae02_17 : decode cJ0_isLatin1_aae02 17 = .ok (.iconst 0, 1) := by decide +kernel
theorem dJ0_isLatin1_aae02_18 : decode cJ0_isLatin1_aae02 18 = .ok (.ireturn, 1) := by decide +kernel
theorem dJ0_checkIndex_df160_0 : decode cJ0_checkIndex_df160 0 = .ok (.iload_n 0, 1) := by decide +kernel
theorem dJ0_checkIndex_df160_1 : decode cJ0_checkIndex_df160 1 = .ok (.iload_n 1, 1) := by decide +kernel
theorem dJ0_checkIndex_df160_2 : decode cJ0_checkIndex_df160 2 = .ok (.getstatic 1053, 3) := by decide +kernel
theorem dJ0_checkIndex_df160_5 : decode cJ0_checkIndex_df160 5 = .ok (.invokestatic 1059, 3) := by decide +kernel
theorem dJ0_checkIndex_df160_8 : decode cJ0_checkIndex_df160 8 = .ok (.pop, 1) := by decide +kernel
theorem dJ0_checkIndex_df160_9 : decode cJ0_checkIndex_df160 9 = .ok (.return_, 1) := by decide +kernel
theorem dJ1_charAt_3b067_0 : decode cJ1_charAt_3b067 0 = .ok (.iload_n 1, 1) := by decide +kernel
theorem dJ1_charAt_3b067_1 : decode cJ1_charAt_3b067 1 = .ok (.aload_n 0, 1) := by decide +kernel
theorem dJ1_charAt_3b067_2 : decode cJ1_charAt_3b067 2 = .ok (.arraylength, 1) := by decide +kernel
theorem dJ1_charAt_3b067_3 : decode cJ1_charAt_3b067 3 = .ok (.invokestatic 9, 3) := by decide +kernel
theorem dJ1_charAt_3b067_6 : decode cJ1_charAt_3b067 6 = .ok (.aload_n 0, 1) := by decide +kernel
theorem dJ1_charAt_3b067_7 : decode cJ1_charAt_3b067 7 = .ok (.iload_n 1, 1) := by decide +kernel
theorem dJ1_charAt_3b067_8 : decode cJ1_charAt_3b067 8 = .ok (.baload, 1) := by decide +kernel
theorem dJ1_charAt_3b067_9 : decode cJ1_charAt_3b067 9 = .ok (.sipush 255, 3) := by decide +kernel
theorem dJ1_charAt_3b067_12 : decode cJ1_charAt_3b067 12 = .ok (.iand, 1) := by decide +kernel
theorem dJ1_charAt_3b067_13 : decode cJ1_charAt_3b067 13 = .ok (.i2c, 1) := by decide +kernel
theorem dJ1_charAt_3b067_14 : decode cJ1_charAt_3b067 14 = .ok (.ireturn, 1) := by decide +kernel
theorem dJ3_checkIndex_8e157_0 : decode cJ3_checkIndex_8e157 0 = .ok (.iload_n 0, 1) := by decide +kernel
theorem dJ3_checkIndex_8e157_1 : decode cJ3_checkIndex_8e157 1 = .ok (.ifCond .lt 8, 3) := by decide +kernel
theorem dJ3_checkIndex_8e157_4 : decode cJ3_checkIndex_8e157 4 = .ok (.iload_n 0, 1) := by decide +kernel
theorem dJ3_checkIndex_8e157_5 : decode cJ3_checkIndex_8e157 5 = .ok (.iload_n 1, 1) := by decide +kernel
theorem dJ3_checkIndex_8e157_6 : decode cJ3_checkIndex_8e157 6 = .ok (.if_icmp .lt 10, 3) := by decide +kernel
theorem dJ3_checkIndex_8e157_9 : decode cJ3_checkIndex_8e157 9 = .ok (.aload_n 2, 1) := by decide +kernel
theorem dJ3_checkIndex_8e157_10 : decode cJ3_checkIndex_8e157 10 = .ok (.iload_n 0, 1) := by decide +kernel
theorem dJ3_checkIndex_8e157_11 : decode cJ3_checkIndex_8e157 11 = .ok (.iload_n 1, 1) := by decide +kernel
theorem dJ3_checkIndex_8e157_12 : decode cJ3_checkIndex_8e157 12 = .ok (.invokestatic 95, 3) := by decide +kernel
theorem dJ3_checkIndex_8e157_15 : decode cJ3_checkIndex_8e157 15 = .ok (.athrow, 1) := by decide +kernel
theorem dJ3_checkIndex_8e157_16 : decode cJ3_checkIndex_8e157 16 = .ok (.iload_n 0, 1) := by decide +kernel
theorem dJ3_checkIndex_8e157_17 : decode cJ3_checkIndex_8e157 17 = .ok (.ireturn, 1) := by decide +kernel
end
section
/-! decode rows, by program -/
theorem dX10_init_0 : decode cX10_init 0 = .ok (.aload_n 0, 1) := by decide +kernel
theorem dX10_init_1 : decode cX10_init 1 = .ok (.invokespecial 1, 3) := by decide +kernel
theorem dX10_init_4 : decode cX10_init 4 = .ok (.aload_n 0, 1) := by decide +kernel
theorem dX10_init_5 : decode cX10_init 5 = .ok (.sipush 200, 3) := by decide +kernel
theorem dX10_init_8 : decode cX10_init 8 = .ok (.newarray .int, 2) := by decide +kernel
theorem dX10_init_10 : decode cX10_init 10 = .ok (.putfield 7, 3) := by decide +kernel
theorem dX10_init_13 : decode cX10_init 13 = .ok (.aload_n 0, 1) := by decide +kernel
theorem dX10_init_14 : decode cX10_init 14 = .ok (.bipush 24, 2) := by decide +kernel
theorem dX10_init_16 : decode cX10_init 16 = .ok (.newarray .int, 2) := by decide +kernel
theorem dX10_init_18 : decode cX10_init 18 = .ok (.putfield 13, 3) := by decide +kernel
theorem dX10_init_21 : decode cX10_init 21 = .ok (.aload_n 0, 1) := by decide +kernel
theorem dX10_init_22 : decode cX10_init 22 = .ok (.bipush 40, 2) := by decide +kernel
theorem dX10_init_24 : decode cX10_init 24 = .ok (.newarray .int, 2) := by decide +kernel
theorem dX10_init_26 : decode cX10_init 26 = .ok (.putfield 16, 3) := by decide +kernel
theorem dX10_init_29 : decode cX10_init 29 = .ok (.aload_n 0, 1) := by decide +kernel
theorem dX10_init_30 : decode cX10_init 30 = .ok (.bipush 6, 2) := by decide +kernel
theorem dX10_init_32 : decode cX10_init 32 = .ok (.newarray .int, 2) := by decide +kernel
theorem dX10_init_34 : decode cX10_init 34 = .ok (.putfield 19, 3) := by decide +kernel
theorem dX10_init_37 : decode cX10_init 37 = .ok (.aload_n 0, 1) := by decide +kernel
theorem dX10_init_38 : decode cX10_init 38 = .ok (.bipush 24, 2) := by decide +kernel
theorem dX10_init_40 : decode cX10_init 40 = .ok (.newarray .int, 2) := by decide +kernel
theorem dX10_init_42 : decode cX10_init 42 = .ok (.putfield 22, 3) := by decide +kernel
theorem dX10_init_45 : decode cX10_init 45 = .ok (.aload_n 0, 1) := by decide +kernel
theorem dX10_init_46 : decode cX10_init 46 = .ok (.bipush 40, 2) := by decide +kernel
theorem dX10_init_48 : decode cX10_init 48 = .ok (.newarray .int, 2) := by decide +kernel
theorem dX10_init_50 : decode cX10_init 50 = .ok (.putfield 25, 3) := by decide +kernel
theorem dX10_init_53 : decode cX10_init 53 = .ok (.aload_n 0, 1) := by decide +kernel
theorem dX10_init_54 : decode cX10_init 54 = .ok (.bipush 17, 2) := by decide +kernel
theorem dX10_init_56 : decode cX10_init 56 = .ok (.newarray .int, 2) := by decide +kernel
theorem dX10_init_58 : decode cX10_init 58 = .ok (.putfield 28, 3) := by decide +kernel
theorem dX10_init_61 : decode cX10_init 61 = .ok (.aload_n 0, 1) := by decide +kernel
theorem dX10_init_62 : decode cX10_init 62 = .ok (.bipush 17, 2) := by decide +kernel
theorem dX10_init_64 : decode cX10_init 64 = .ok (.newarray .int, 2) := by decide +kernel
theorem dX10_init_66 : decode cX10_init 66 = .ok (.putfield 31, 3) := by decide +kernel
theorem dX10_init_69 : decode cX10_init 69 = .ok (.aload_n 0, 1) := by decide +kernel
theorem dX10_init_70 : decode cX10_init 70 = .ok (.sipush 136, 3) := by decide +kernel
theorem dX10_init_73 : decode cX10_init 73 = .ok (.newarray .int, 2) := by decide +kernel
theorem dX10_init_75 : decode cX10_init 75 = .ok (.putfield 34, 3) := by decide +kernel
theorem dX10_init_78 : decode cX10_init 78 = .ok (.aload_n 0, 1) := by decide +kernel
theorem dX10_init_79 : decode cX10_init 79 = .ok (.bipush 34, 2) := by decide +kernel
theorem dX10_init_81 : decode cX10_init 81 = .ok (.newarray .int, 2) := by decide +kernel
theorem dX10_init_83 : decode cX10_init 83 = .ok (.putfield 37, 3) := by decide +kernel
theorem dX10_init_86 : decode cX10_init 86 = .ok (.aload_n 0, 1) := by decide +kernel
theorem dX10_init_87 : decode cX10_init 87 = .ok (.bipush 24, 2) := by decide +kernel
theorem dX10_init_89 : decode cX10_init 89 = .ok (.newarray .int, 2) := by decide +kernel
theorem dX10_init_91 : decode cX10_init 91 = .ok (.putfield 40, 3) := by decide +kernel
theorem dX10_init_94 : decode cX10_init 94 = .ok (.aload_n 0, 1) := by decide +kernel
theorem dX10_init_95 : decode cX10_init 95 = .ok (.bipush 10, 2) := by decide +kernel
theorem dX10_init_97 : decode cX10_init 97 = .ok (.newarray .int, 2) := by decide +kernel
theorem dX10_init_99 : decode cX10_init 99 = .ok (.putfield 43, 3) := by decide +kernel
theorem dX10_init_102 : decode cX10_init 102 = .ok (.aload_n 0, 1) := by decide +kernel
theorem dX10_init_103 : decode cX10_init 103 = .ok (.iconst 0, 1) := by decide +kernel
theorem dX10_init_104 : decode cX10_init 104 = .ok (.iconst 0, 1) := by decide +kernel
theorem dX10_init_105 : decode cX10_init 105 = .ok (.iconst 1, 1) := by decide +kernel
theorem dX10_init_106 : decode cX10_init 106 = .ok (.iconst 2, 1) := by decide +kernel
theorem dX10_init_107 : decode cX10_init 107 = .ok (.iconst 0, 1) := by decide +kernel
theorem dX10_init_108 : decode cX10_init 108 = .ok (.invokevirtual 46, 3) := by decide +kernel
theorem dX10_init_111 : decode cX10_init 111 = .ok (.aload_n 0, 1) := by decide +kernel
theorem dX10_init_112 : decode cX10_init 112 = .ok (.iconst 1, 1) := by decide +kernel
theorem dX10_init_113 : decode cX10_init 113 = .ok (.iconst 1, 1) := by decide +kernel
theorem dX10_init_114 : decode cX10_init 114 = .ok (.iconst 2, 1) := by decide +kernel
theorem dX10_init_115 : decode cX10_init 115 = .ok (.iconst 3, 1) := by decide +kernel
theorem dX10_init_116 : decode cX10_init 116 = .ok (.iconst 1, 1) := by decide +kernel
theorem dX10_init_117 : decode cX10_init 117 = .ok (.invokevirtual 46, 3) := by decide +kernel
theorem dX10_init_120 : decode cX10_init 120 = .ok (.aload_n 0, 1) := by decide +kernel
theorem dX10_init_121 : decode cX10_init 121 = .ok (.iconst 2, 1) := by decide +kernel
theorem dX10_init_122 : decode cX10_init 122 = .ok (.iconst 2, 1) := by decide +kernel
theorem dX10_init_123 : decode cX10_init 123 = .ok (.iconst 1, 1) := by decide +kernel
theorem dX10_init_124 : decode cX10_init 124 = .ok (.iconst 1, 1) := by decide +kernel
theorem dX10_init_125 : decode cX10_init 125 = .ok (.iconst 0, 1) := by decide +kernel
theorem dX10_init_126 : decode cX10_init 126 = .ok (.invokevirtual 46, 3) := by decide +kernel
theorem dX10_init_129 : decode cX10_init 129 = .ok (.aload_n 0, 1) := by decide +kernel
theorem dX10_init_130 : decode cX10_init 130 = .ok (.iconst 3, 1) := by decide +kernel
theorem dX10_init_131 : decode cX10_init 131 = .ok (.iconst 3, 1) := by decide +kernel
theorem dX10_init_132 : decode cX10_init 132 = .ok (.iconst 4, 1) := by decide +kernel
theorem dX10_init_133 : decode cX10_init 133 = .ok (.iconst 2, 1) := by decide +kernel
theorem dX10_init_134 : decode cX10_init 134 = .ok (.iconst 1, 1) := by decide +kernel
theorem dX10_init_135 : decode cX10_init 135 = .ok (.invokevirtual 46, 3) := by decide +kernel
theorem dX10_init_138 : decode cX10_init 138 = .ok (.aload_n 0, 1) := by decide +kernel
theorem dX10_init_139 : decode cX10_init 139 = .ok (.iconst 4, 1) := by decide +kernel
theorem dX10_init_140 : decode cX10_init 140 = .ok (.iconst 0, 1) := by decide +kernel
theorem dX10_init_141 : decode cX10_init 141 = .ok (.iconst 2, 1) := by decide +kernel
theorem dX10_init_142 : decode cX10_init 142 = .ok (.iconst 4, 1) := by decide +kernel
theorem dX10_init_143 : decode cX10_init 143 = .ok (.iconst 2, 1) := by decide +kernel
theorem dX10_init_144 : decode cX10_init 144 = .ok (.invokevirtual 46, 3) := by decide +kernel
theorem dX10_init_147 : decode cX10_init 147 = .ok (.aload_n 0, 1) := by decide +kernel
theorem dX10_init_148 : decode cX10_init 148 = .ok (.iconst 5, 1) := by decide +kernel
theorem dX10_init_149 : decode cX10_init 149 = .ok (.putfield 50, 3) := by decide +kernel
theorem dX10_init_152 : decode cX10_init 152 = .ok (.aload_n 0, 1) := by decide +kernel
theorem dX10_init_153 : decode cX10_init 153 = .ok (.getfield 28, 3) := by decide +kernel
theorem dX10_init_156 : decode cX10_init 156 = .ok (.iconst 5, 1) := by decide +kernel
theorem dX10_init_157 : decode cX10_init 157 = .ok (.iconst 0, 1) := by decide +kernel
theorem dX10_init_158 : decode cX10_init 158 = .ok (.iconst 2, 1) := by decide +kernel
theorem dX10_init_159 : decode cX10_init 159 = .ok (.invokestatic 54, 3) := by decide +kernel
theorem dX10_init_162 : decode cX10_init 162 = .ok (.aload_n 0, 1) := by decide +kernel
theorem dX10_init_163 : decode cX10_init 163 = .ok (.getfield 28, 3) := by decide +kernel
theorem dX10_init_166 : decode cX10_init 166 = .ok (.iconst 5, 1) := by decide +kernel
theorem dX10_init_167 : decode cX10_init 167 = .ok (.iconst 1, 1) := by decide +kernel
theorem dX10_init_168 : decode cX10_init 168 = .ok (.iconst 3, 1) := by decide +kernel
theorem dX10_init_169 : decode cX10_init 169 = .ok (.invokestatic 54, 3) := by decide +kernel
theorem dX10_init_172 : decode cX10_init 172 = .ok (.aload_n 0, 1) := by decide +kernel
theorem dX10_init_173 : decode cX10_init 173 = .ok (.iconst 0, 1) := by decide +kernel
theorem dX10_init_174 : decode cX10_init 174 = .ok (.iconst 0, 1) := by decide +kernel
theorem dX10_init_175 : decode cX10_init 175 = .ok (.iconst 1, 1) := by decide +kernel
theorem dX10_init_176 : decode cX10_init 176 = .ok (.iconst 0, 1) := by decide +kernel
theorem dX10_init_177 : decode cX10_init 177 = .ok (.bipush 12, 2) := by decide +kernel
theorem dX10_init_179 : decode cX10_init 179 = .ok (.invokevirtual 58, 3) := by decide +kernel
theorem dX10_init_182 : decode cX10_init 182 = .ok (.aload_n 0, 1) := by decide +kernel
theorem dX10_init_183 : decode cX10_init 183 = .ok (.iconst 1, 1) := by decide +kernel
theorem dX10_init_184 : decode cX10_init 184 = .ok (.iconst 0, 1) := by decide +kernel
theorem dX10_init_185 : decode cX10_init 185 = .ok (.iconst 2, 1) := by decide +kernel
theorem dX10_init_186 : decode cX10_init 186 = .ok (.iconst 1, 1) := by decide +kernel
theorem dX10_init_187 : decode cX10_init 187 = .ok (.iconst 5, 1) := by decide +kernel
theorem dX10_init_188 : decode cX10_init 188 = .ok (.invokevirtual 58, 3) := by decide +kernel
theorem dX10_init_191 : decode cX10_init 191 = .ok (.aload_n 0, 1) := by decide +kernel
theorem dX10_init_192 : decode cX10_init 192 = .ok (.iconst 2, 1) := by decide +kernel
theorem dX10_init_193 : decode cX10_init 193 = .ok (.iconst 1, 1) := by decide +kernel
theorem dX10_init_194 : decode cX10_init 194 = .ok (.iconst 4, 1) := by decide +kernel
theorem dX10_init_195 : decode cX10_init 195 = .ok (.iconst 2, 1) := by decide +kernel
theorem dX10_init_196 : decode cX10_init 196 = .ok (.bipush 30, 2) := by decide +kernel
theorem dX10_init_198 : decode cX10_init 198 = .ok (.invokevirtual 58, 3) := by decide +kernel
theorem dX10_init_201 : decode cX10_init 201 = .ok (.aload_n 0, 1) := by decide +kernel
theorem dX10_init_202 : decode cX10_init 202 = .ok (.iconst 3, 1) := by decide +kernel
theorem dX10_init_203 : decode cX10_init 203 = .ok (.iconst 1, 1) := by decide +kernel
theorem dX10_init_204 : decode cX10_init 204 = .ok (.iconst 1, 1) := by decide +kernel
theorem dX10_init_205 : decode cX10_init 205 = .ok (.iconst 1, 1) := by decide +kernel
theorem dX10_init_206 : decode cX10_init 206 = .ok (.bipush 8, 2) := by decide +kernel
theorem dX10_init_208 : decode cX10_init 208 = .ok (.invokevirtual 58, 3) := by decide +kernel
theorem dX10_init_211 : decode cX10_init 211 = .ok (.aload_n 0, 1) := by decide +kernel
theorem dX10_init_212 : decode cX10_init 212 = .ok (.iconst 4, 1) := by decide +kernel
theorem dX10_init_213 : decode cX10_init 213 = .ok (.iconst 2, 1) := by decide +kernel
theorem dX10_init_214 : decode cX10_init 214 = .ok (.iconst 2, 1) := by decide +kernel
theorem dX10_init_215 : decode cX10_init 215 = .ok (.iconst 0, 1) := by decide +kernel
theorem dX10_init_216 : decode cX10_init 216 = .ok (.bipush 9, 2) := by decide +kernel
theorem dX10_init_218 : decode cX10_init 218 = .ok (.invokevirtual 58, 3) := by decide +kernel
theorem dX10_init_221 : decode cX10_init 221 = .ok (.aload_n 0, 1) := by decide +kernel
theorem dX10_init_222 : decode cX10_init 222 = .ok (.iconst 5, 1) := by decide +kernel
theorem dX10_init_223 : decode cX10_init 223 = .ok (.iconst 3, 1) := by decide +kernel
theorem dX10_init_224 : decode cX10_init 224 = .ok (.iconst 4, 1) := by decide +kernel
theorem dX10_init_225 : decode cX10_init 225 = .ok (.iconst 3, 1) := by decide +kernel
theorem dX10_init_226 : decode cX10_init 226 = .ok (.bipush 20, 2) := by decide +kernel
theorem dX10_init_228 : decode cX10_init 228 = .ok (.invokevirtual 58, 3) := by decide +kernel
theorem dX10_init_231 : decode cX10_init 231 = .ok (.aload_n 0, 1) := by decide +kernel
theorem dX10_init_232 : decode cX10_init 232 = .ok (.bipush 6, 2) := by decide +kernel
theorem dX10_init_234 : decode cX10_init 234 = .ok (.iconst 4, 1) := by decide +kernel
theorem dX10_init_235 : decode cX10_init 235 = .ok (.iconst 1, 1) := by decide +kernel
theorem dX10_init_236 : decode cX10_init 236 = .ok (.iconst 2, 1) := by decide +kernel
theorem dX10_init_237 : decode cX10_init 237 = .ok (.bipush 15, 2) := by decide +kernel
theorem dX10_init_239 : decode cX10_init 239 = .ok (.invokevirtual 58, 3) := by decide +kernel
theorem dX10_init_242 : decode cX10_init 242 = .ok (.aload_n 0, 1) := by decide +kernel
theorem dX10_init_243 : decode cX10_init 243 = .ok (.bipush 7, 2) := by decide +kernel
theorem dX10_init_245 : decode cX10_init 245 = .ok (.putfield 61, 3) := by decide +kernel
theorem dX10_init_248 : decode cX10_init 248 = .ok (.aload_n 0, 1) := by decide +kernel
theorem dX10_init_249 : decode cX10_init 249 = .ok (.iconst 5, 1) := by decide +kernel
theorem dX10_init_250 : decode cX10_init 250 = .ok (.putfield 64, 3) := by decide +kernel
theorem dX10_init_253 : decode cX10_init 253 = .ok (.return_, 1) := by decide +kernel
theorem dX10_addOne_0 : decode cX10_addOne 0 = .ok (.aload_n 0, 1) := by decide +kernel
theorem dX10_addOne_1 : decode cX10_addOne 1 = .ok (.getfield 22, 3) := by decide +kernel
theorem dX10_addOne_4 : decode cX10_addOne 4 = .ok (.iconst 4, 1) := by decide +kernel
theorem dX10_addOne_5 : decode cX10_addOne 5 = .ok (.iload_n 1, 1) := by decide +kernel
theorem dX10_addOne_6 : decode cX10_addOne 6 = .ok (.imul, 1) := by decide +kernel
theorem dX10_addOne_7 : decode cX10_addOne 7 = .ok (.iload_n 2, 1) := by decide +kernel
theorem dX10_addOne_8 : decode cX10_addOne 8 = .ok (.iastore, 1) := by decide +kernel
theorem dX10_addOne_9 : decode cX10_addOne 9 = .ok (.aload_n 0, 1) := by decide +kernel
theorem dX10_addOne_10 : decode cX10_addOne 10 = .ok (.getfield 22, 3) := by decide +kernel
theorem dX10_addOne_13 : decode cX10_addOne 13 = .ok (.iconst 4, 1) := by decide +kernel
theorem dX10_addOne_14 : decode cX10_addOne 14 = .ok (.iload_n 1, 1) := by decide +kernel
theorem dX10_addOne_15 : decode cX10_addOne 15 = .ok (.imul, 1) := by decide +kernel
theorem dX10_addOne_16 : decode cX10_addOne 16 = .ok (.iconst 1, 1) := by decide +kernel
theorem dX10_addOne_17 : decode cX10_addOne 17 = .ok (.iadd, 1) := by decide +kernel
theorem dX10_addOne_18 : decode cX10_addOne 18 = .ok (.iload_n 3, 1) := by decide +kernel
theorem dX10_addOne_19 : decode cX10_addOne 19 = .ok (.iastore, 1) := by decide +kernel
theorem dX10_addOne_20 : decode cX10_addOne 20 = .ok (.aload_n 0, 1) := by decide +kernel
theorem dX10_addOne_21 : decode cX10_addOne 21 = .ok (.getfield 22, 3) := by decide +kernel
theorem dX10_addOne_24 : decode cX10_addOne 24 = .ok (.iconst 4, 1) := by decide +kernel
theorem dX10_addOne_25 : decode cX10_addOne 25 = .ok (.iload_n 1, 1) := by decide +kernel
theorem dX10_addOne_26 : decode cX10_addOne 26 = .ok (.imul, 1) := by decide +kernel
theorem dX10_addOne_27 : decode cX10_addOne 27 = .ok (.iconst 2, 1) := by decide +kernel
theorem dX10_addOne_28 : decode cX10_addOne 28 = .ok (.iadd, 1) := by decide +kernel
theorem dX10_addOne_29 : decode cX10_addOne 29 = .ok (.iload 4, 2) := by decide +kernel
theorem dX10_addOne_31 : decode cX10_addOne 31 = .ok (.iastore, 1) := by decide +kernel
theorem dX10_addOne_32 : decode cX10_addOne 32 = .ok (.aload_n 0, 1) := by decide +kernel
theorem dX10_addOne_33 : decode cX10_addOne 33 = .ok (.getfield 22, 3) := by decide +kernel
theorem dX10_addOne_36 : decode cX10_addOne 36 = .ok (.iconst 4, 1) := by decide +kernel
theorem dX10_addOne_37 : decode cX10_addOne 37 = .ok (.iload_n 1, 1) := by decide +kernel
theorem dX10_addOne_38 : decode cX10_addOne 38 = .ok (.imul, 1) := by decide +kernel
theorem dX10_addOne_39 : decode cX10_addOne 39 = .ok (.iconst 3, 1) := by decide +kernel
theorem dX10_addOne_40 : decode cX10_addOne 40 = .ok (.iadd, 1) := by decide +kernel
theorem dX10_addOne_41 : decode cX10_addOne 41 = .ok (.iload 5, 2) := by decide +kernel
theorem dX10_addOne_43 : decode cX10_addOne 43 = .ok (.iastore, 1) := by decide +kernel
theorem dX10_addOne_44 : decode cX10_addOne 44 = .ok (.return_, 1) := by decide +kernel
theorem dX10_addGuest_0 : decode cX10_addGuest 0 = .ok (.aload_n 0, 1) := by decide +kernel
theorem dX10_addGuest_1 : decode cX10_addGuest 1 = .ok (.getfield 25, 3) := by decide +kernel
theorem dX10_addGuest_4 : decode cX10_addGuest 4 = .ok (.iconst 4, 1) := by decide +kernel
theorem dX10_addGuest_5 : decode cX10_addGuest 5 = .ok (.iload_n 1, 1) := by decide +kernel
theorem dX10_addGuest_6 : decode cX10_addGuest 6 = .ok (.imul, 1) := by decide +kernel
theorem dX10_addGuest_7 : decode cX10_addGuest 7 = .ok (.iload_n 2, 1) := by decide +kernel
theorem dX10_addGuest_8 : decode cX10_addGuest 8 = .ok (.iastore, 1) := by decide +kernel
theorem dX10_addGuest_9 : decode cX10_addGuest 9 = .ok (.aload_n 0, 1) := by decide +kernel
theorem dX10_addGuest_10 : decode cX10_addGuest 10 = .ok (.getfield 25, 3) := by decide +kernel
theorem dX10_addGuest_13 : decode cX10_addGuest 13 = .ok (.iconst 4, 1) := by decide +kernel
theorem dX10_addGuest_14 : decode cX10_addGuest 14 = .ok (.iload_n 1, 1) := by decide +kernel
theorem dX10_addGuest_15 : decode cX10_addGuest 15 = .ok (.imul, 1) := by decide +kernel
theorem dX10_addGuest_16 : decode cX10_addGuest 16 = .ok (.iconst 1, 1) := by decide +kernel
theorem dX10_addGuest_17 : decode cX10_addGuest 17 = .ok (.iadd, 1) := by decide +kernel
theorem dX10_addGuest_18 : decode cX10_addGuest 18 = .ok (.iload_n 3, 1) := by decide +kernel
theorem dX10_addGuest_19 : decode cX10_addGuest 19 = .ok (.iastore, 1) := by decide +kernel
theorem dX10_addGuest_20 : decode cX10_addGuest 20 = .ok (.aload_n 0, 1) := by decide +kernel
theorem dX10_addGuest_21 : decode cX10_addGuest 21 = .ok (.getfield 25, 3) := by decide +kernel
theorem dX10_addGuest_24 : decode cX10_addGuest 24 = .ok (.iconst 4, 1) := by decide +kernel
theorem dX10_addGuest_25 : decode cX10_addGuest 25 = .ok (.iload_n 1, 1) := by decide +kernel
theorem dX10_addGuest_26 : decode cX10_addGuest 26 = .ok (.imul, 1) := by decide +kernel
theorem dX10_addGuest_27 : decode cX10_addGuest 27 = .ok (.iconst 2, 1) := by decide +kernel
theorem dX10_addGuest_28 : decode cX10_addGuest 28 = .ok (.iadd, 1) := by decide +kernel
theorem dX10_addGuest_29 : decode cX10_addGuest 29 = .ok (.iload 4, 2) := by decide +kernel
theorem dX10_addGuest_31 : decode cX10_addGuest 31 = .ok (.iastore, 1) := by decide +kernel
theorem dX10_addGuest_32 : decode cX10_addGuest 32 = .ok (.aload_n 0, 1) := by decide +kernel
theorem dX10_addGuest_33 : decode cX10_addGuest 33 = .ok (.getfield 25, 3) := by decide +kernel
theorem dX10_addGuest_36 : decode cX10_addGuest 36 = .ok (.iconst 4, 1) := by decide +kernel
theorem dX10_addGuest_37 : decode cX10_addGuest 37 = .ok (.iload_n 1, 1) := by decide +kernel
theorem dX10_addGuest_38 : decode cX10_addGuest 38 = .ok (.imul, 1) := by decide +kernel
theorem dX10_addGuest_39 : decode cX10_addGuest 39 = .ok (.iconst 3, 1) := by decide +kernel
theorem dX10_addGuest_40 : decode cX10_addGuest 40 = .ok (.iadd, 1) := by decide +kernel
theorem dX10_addGuest_41 : decode cX10_addGuest 41 = .ok (.iload 5, 2) := by decide +kernel
theorem dX10_addGuest_43 : decode cX10_addGuest 43 = .ok (.iastore, 1) := by decide +kernel
theorem dX10_addGuest_44 : decode cX10_addGuest 44 = .ok (.return_, 1) := by decide +kernel
theorem dX10_in_0 : decode cX10_in 0 = .ok (.iload_n 0, 1) := by decide +kernel
theorem dX10_in_1 : decode cX10_in 1 = .ok (.iload_n 1, 1) := by decide +kernel
theorem dX10_in_2 : decode cX10_in 2 = .ok (.if_icmp .lt 12, 3) := by decide +kernel
theorem dX10_in_5 : decode cX10_in 5 = .ok (.iload_n 0, 1) := by decide +kernel
theorem dX10_in_6 : decode cX10_in 6 = .ok (.iload_n 2, 1) := by decide +kernel
theorem dX10_in_7 : decode cX10_in 7 = .ok (.if_icmp .gt 7, 3) := by decide +kernel
theorem dX10_in_10 : decode cX10_in 10 = .ok (.iconst 1, 1) := by decide +kernel
theorem dX10_in_11 : decode cX10_in 11 = .ok (.goto 4, 3) := by decide +kernel
theorem dX10_in_14 : decode cX10_in 14 = .ok (.iconst 0, 1) := by decide +kernel
theorem dX10_in_15 : decode cX10_in 15 = .ok (.ireturn, 1) := by decide +kernel
theorem dX10_has_0 : decode cX10_has 0 = .ok (.iload_n 0, 1) := by decide +kernel
theorem dX10_has_1 : decode cX10_has 1 = .ok (.iload_n 1, 1) := by decide +kernel
theorem dX10_has_2 : decode cX10_has 2 = .ok (.ishr, 1) := by decide +kernel
theorem dX10_has_3 : decode cX10_has 3 = .ok (.iconst 1, 1) := by decide +kernel
theorem dX10_has_4 : decode cX10_has 4 = .ok (.iand, 1) := by decide +kernel
theorem dX10_has_5 : decode cX10_has 5 = .ok (.iconst 1, 1) := by decide +kernel
theorem dX10_has_6 : decode cX10_has 6 = .ok (.if_icmp .ne 7, 3) := by decide +kernel
theorem dX10_has_9 : decode cX10_has 9 = .ok (.iconst 1, 1) := by decide +kernel
theorem dX10_has_10 : decode cX10_has 10 = .ok (.goto 4, 3) := by decide +kernel
theorem dX10_has_13 : decode cX10_has 13 = .ok (.iconst 0, 1) := by decide +kernel
theorem dX10_has_14 : decode cX10_has 14 = .ok (.ireturn, 1) := by decide +kernel
theorem dX10_bits_0 : decode cX10_bits 0 = .ok (.iconst 0, 1) := by decide +kernel
theorem dX10_bits_1 : decode cX10_bits 1 = .ok (.istore_n 1, 1) := by decide +kernel
theorem dX10_bits_2 : decode cX10_bits 2 = .ok (.iconst 0, 1) := by decide +kernel
theorem dX10_bits_3 : decode cX10_bits 3 = .ok (.istore_n 2, 1) := by decide +kernel
theorem dX10_bits_4 : decode cX10_bits 4 = .ok (.iload_n 2, 1) := by decide +kernel
theorem dX10_bits_5 : decode cX10_bits 5 = .ok (.bipush 15, 2) := by decide +kernel
theorem dX10_bits_7 : decode cX10_bits 7 = .ok (.if_icmp .ge 17, 3) := by decide +kernel
theorem dX10_bits_10 : decode cX10_bits 10 = .ok (.iload_n 1, 1) := by decide +kernel
theorem dX10_bits_11 : decode cX10_bits 11 = .ok (.iload_n 0, 1) := by decide +kernel
theorem dX10_bits_12 : decode cX10_bits 12 = .ok (.iload_n 2, 1) := by decide +kernel
theorem dX10_bits_13 : decode cX10_bits 13 = .ok (.ishr, 1) := by decide +kernel
theorem dX10_bits_14 : decode cX10_bits 14 = .ok (.iconst 1, 1) := by decide +kernel
theorem dX10_bits_15 : decode cX10_bits 15 = .ok (.iand, 1) := by decide +kernel
theorem dX10_bits_16 : decode cX10_bits 16 = .ok (.iadd, 1) := by decide +kernel
theorem dX10_bits_17 : decode cX10_bits 17 = .ok (.istore_n 1, 1) := by decide +kernel
theorem dX10_bits_18 : decode cX10_bits 18 = .ok (.iinc 2 1, 3) := by decide +kernel
theorem dX10_bits_21 : decode cX10_bits 21 = .ok (.goto (-17), 3) := by decide +kernel
theorem dX10_bits_24 : decode cX10_bits 24 = .ok (.iload_n 1, 1) := by decide +kernel
theorem dX10_bits_25 : decode cX10_bits 25 = .ok (.ireturn, 1) := by decide +kernel
theorem dX10_bring_0 : decode cX10_bring 0 = .ok (.iconst 0, 1) := by decide +kernel
theorem dX10_bring_1 : decode cX10_bring 1 = .ok (.istore 5, 2) := by decide +kernel
theorem dX10_bring_3 : decode cX10_bring 3 = .ok (.iload 5, 2) := by decide +kernel
theorem dX10_bring_5 : decode cX10_bring 5 = .ok (.iload 4, 2) := by decide +kernel
theorem dX10_bring_7 : decode cX10_bring 7 = .ok (.if_icmp .ge 21, 3) := by decide +kernel
theorem dX10_bring_10 : decode cX10_bring 10 = .ok (.aload_n 2, 1) := by decide +kernel
theorem dX10_bring_11 : decode cX10_bring 11 = .ok (.iload_n 3, 1) := by decide +kernel
theorem dX10_bring_12 : decode cX10_bring 12 = .ok (.iload 5, 2) := by decide +kernel
theorem dX10_bring_14 : decode cX10_bring 14 = .ok (.iadd, 1) := by decide +kernel
theorem dX10_bring_15 : decode cX10_bring 15 = .ok (.aload_n 0, 1) := by decide +kernel
theorem dX10_bring_16 : decode cX10_bring 16 = .ok (.iload_n 1, 1) := by decide +kernel
theorem dX10_bring_17 : decode cX10_bring 17 = .ok (.iload 5, 2) := by decide +kernel
theorem dX10_bring_19 : decode cX10_bring 19 = .ok (.iadd, 1) := by decide +kernel
theorem dX10_bring_20 : decode cX10_bring 20 = .ok (.iaload, 1) := by decide +kernel
theorem dX10_bring_21 : decode cX10_bring 21 = .ok (.iastore, 1) := by decide +kernel
theorem dX10_bring_22 : decode cX10_bring 22 = .ok (.iinc 5 1, 3) := by decide +kernel
theorem dX10_bring_25 : decode cX10_bring 25 = .ok (.goto (-22), 3) := by decide +kernel
theorem dX10_bring_28 : decode cX10_bring 28 = .ok (.return_, 1) := by decide +kernel
theorem dX10_isOne_0 : decode cX10_isOne 0 = .ok (.iload_n 1, 1) := by decide +kernel
theorem dX10_isOne_1 : decode cX10_isOne 1 = .ok (.iconst 0, 1) := by decide +kernel
theorem dX10_isOne_2 : decode cX10_isOne 2 = .ok (.aload_n 0, 1) := by decide +kernel
theorem dX10_isOne_3 : decode cX10_isOne 3 = .ok (.getfield 50, 3) := by decide +kernel
theorem dX10_isOne_6 : decode cX10_isOne 6 = .ok (.iconst 1, 1) := by decide +kernel
theorem dX10_isOne_7 : decode cX10_isOne 7 = .ok (.isub, 1) := by decide +kernel
theorem dX10_isOne_8 : decode cX10_isOne 8 = .ok (.invokestatic 67, 3) := by decide +kernel
theorem dX10_isOne_11 : decode cX10_isOne 11 = .ok (.ireturn, 1) := by decide +kernel
theorem dX10_isGuest_0 : decode cX10_isGuest 0 = .ok (.iload_n 1, 1) := by decide +kernel
theorem dX10_isGuest_1 : decode cX10_isGuest 1 = .ok (.iconst 0, 1) := by decide +kernel
theorem dX10_isGuest_2 : decode cX10_isGuest 2 = .ok (.aload_n 0, 1) := by decide +kernel
theorem dX10_isGuest_3 : decode cX10_isGuest 3 = .ok (.getfield 61, 3) := by decide +kernel
theorem dX10_isGuest_6 : decode cX10_isGuest 6 = .ok (.iconst 1, 1) := by decide +kernel
theorem dX10_isGuest_7 : decode cX10_isGuest 7 = .ok (.isub, 1) := by decide +kernel
theorem dX10_isGuest_8 : decode cX10_isGuest 8 = .ok (.invokestatic 67, 3) := by decide +kernel
theorem dX10_isGuest_11 : decode cX10_isGuest 11 = .ok (.ireturn, 1) := by decide +kernel
theorem dX10_areTwo_0 : decode cX10_areTwo 0 = .ok (.aload_n 0, 1) := by decide +kernel
theorem dX10_areTwo_1 : decode cX10_areTwo 1 = .ok (.iload_n 1, 1) := by decide +kernel
theorem dX10_areTwo_2 : decode cX10_areTwo 2 = .ok (.invokevirtual 71, 3) := by decide +kernel
theorem dX10_areTwo_5 : decode cX10_areTwo 5 = .ok (.ifCond .eq 20, 3) := by decide +kernel
theorem dX10_areTwo_8 : decode cX10_areTwo 8 = .ok (.aload_n 0, 1) := by decide +kernel
theorem dX10_areTwo_9 : decode cX10_areTwo 9 = .ok (.iload_n 2, 1) := by decide +kernel
theorem dX10_areTwo_10 : decode cX10_areTwo 10 = .ok (.invokevirtual 71, 3) := by decide +kernel
theorem dX10_areTwo_13 : decode cX10_areTwo 13 = .ok (.ifCond .eq 12, 3) := by decide +kernel
theorem dX10_areTwo_16 : decode cX10_areTwo 16 = .ok (.iload_n 1, 1) := by decide +kernel
theorem dX10_areTwo_17 : decode cX10_areTwo 17 = .ok (.iload_n 2, 1) := by decide +kernel
theorem dX10_areTwo_18 : decode cX10_areTwo 18 = .ok (.if_icmp .eq 7, 3) := by decide +kernel
theorem dX10_areTwo_21 : decode cX10_areTwo 21 = .ok (.iconst 1, 1) := by decide +kernel
theorem dX10_areTwo_22 : decode cX10_areTwo 22 = .ok (.goto 4, 3) := by decide +kernel
theorem dX10_areTwo_25 : decode cX10_areTwo 25 = .ok (.iconst 0, 1) := by decide +kernel
theorem dX10_areTwo_26 : decode cX10_areTwo 26 = .ok (.ireturn, 1) := by decide +kernel
theorem dX10_turn_0 : decode cX10_turn 0 = .ok (.aload_n 0, 1) := by decide +kernel
theorem dX10_turn_1 : decode cX10_turn 1 = .ok (.iload_n 1, 1) := by decide +kernel
theorem dX10_turn_2 : decode cX10_turn 2 = .ok (.iload_n 2, 1) := by decide +kernel
theorem dX10_turn_3 : decode cX10_turn 3 = .ok (.iadd, 1) := by decide +kernel
theorem dX10_turn_4 : decode cX10_turn 4 = .ok (.aload_n 0, 1) := by decide +kernel
theorem dX10_turn_5 : decode cX10_turn 5 = .ok (.iload_n 1, 1) := by decide +kernel
theorem dX10_turn_6 : decode cX10_turn 6 = .ok (.iload_n 2, 1) := by decide +kernel
theorem dX10_turn_7 : decode cX10_turn 7 = .ok (.iadd, 1) := by decide +kernel
theorem dX10_turn_8 : decode cX10_turn 8 = .ok (.iaload, 1) := by decide +kernel
theorem dX10_turn_9 : decode cX10_turn 9 = .ok (.iconst 1, 1) := by decide +kernel
theorem dX10_turn_10 : decode cX10_turn 10 = .ok (.iload_n 3, 1) := by decide +kernel
theorem dX10_turn_11 : decode cX10_turn 11 = .ok (.ishl, 1) := by decide +kernel
theorem dX10_turn_12 : decode cX10_turn 12 = .ok (.ixor, 1) := by decide +kernel
theorem dX10_turn_13 : decode cX10_turn 13 = .ok (.iastore, 1) := by decide +kernel
theorem dX10_turn_14 : decode cX10_turn 14 = .ok (.aload_n 0, 1) := by decide +kernel
theorem dX10_turn_15 : decode cX10_turn 15 = .ok (.iload_n 1, 1) := by decide +kernel
theorem dX10_turn_16 : decode cX10_turn 16 = .ok (.iload_n 3, 1) := by decide +kernel
theorem dX10_turn_17 : decode cX10_turn 17 = .ok (.iadd, 1) := by decide +kernel
theorem dX10_turn_18 : decode cX10_turn 18 = .ok (.aload_n 0, 1) := by decide +kernel
theorem dX10_turn_19 : decode cX10_turn 19 = .ok (.iload_n 1, 1) := by decide +kernel
theorem dX10_turn_20 : decode cX10_turn 20 = .ok (.iload_n 3, 1) := by decide +kernel
theorem dX10_turn_21 : decode cX10_turn 21 = .ok (.iadd, 1) := by decide +kernel
theorem dX10_turn_22 : decode cX10_turn 22 = .ok (.iaload, 1) := by decide +kernel
theorem dX10_turn_23 : decode cX10_turn 23 = .ok (.iconst 1, 1) := by decide +kernel
theorem dX10_turn_24 : decode cX10_turn 24 = .ok (.iload_n 2, 1) := by decide +kernel
theorem dX10_turn_25 : decode cX10_turn 25 = .ok (.ishl, 1) := by decide +kernel
theorem dX10_turn_26 : decode cX10_turn 26 = .ok (.ixor, 1) := by decide +kernel
theorem dX10_turn_27 : decode cX10_turn 27 = .ok (.iastore, 1) := by decide +kernel
theorem dX10_turn_28 : decode cX10_turn 28 = .ok (.return_, 1) := by decide +kernel
theorem dX10_quarrelsIn_0 : decode cX10_quarrelsIn 0 = .ok (.iconst 0, 1) := by decide +kernel
theorem dX10_quarrelsIn_1 : decode cX10_quarrelsIn 1 = .ok (.istore_n 2, 1) := by decide +kernel
theorem dX10_quarrelsIn_2 : decode cX10_quarrelsIn 2 = .ok (.iconst 0, 1) := by decide +kernel
theorem dX10_quarrelsIn_3 : decode cX10_quarrelsIn 3 = .ok (.istore_n 3, 1) := by decide +kernel
theorem dX10_quarrelsIn_4 : decode cX10_quarrelsIn 4 = .ok (.iload_n 3, 1) := by decide +kernel
theorem dX10_quarrelsIn_5 : decode cX10_quarrelsIn 5 = .ok (.bipush 6, 2) := by decide +kernel
theorem dX10_quarrelsIn_7 : decode cX10_quarrelsIn 7 = .ok (.if_icmp .ge 20, 3) := by decide +kernel
theorem dX10_quarrelsIn_10 : decode cX10_quarrelsIn 10 = .ok (.iload_n 2, 1) := by decide +kernel
theorem dX10_quarrelsIn_11 : decode cX10_quarrelsIn 11 = .ok (.aload_n 0, 1) := by decide +kernel
theorem dX10_quarrelsIn_12 : decode cX10_quarrelsIn 12 = .ok (.iload_n 1, 1) := by decide +kernel
theorem dX10_quarrelsIn_13 : decode cX10_quarrelsIn 13 = .ok (.iload_n 3, 1) := by decide +kernel
theorem dX10_quarrelsIn_14 : decode cX10_quarrelsIn 14 = .ok (.iadd, 1) := by decide +kernel
theorem dX10_quarrelsIn_15 : decode cX10_quarrelsIn 15 = .ok (.iaload, 1) := by decide +kernel
theorem dX10_quarrelsIn_16 : decode cX10_quarrelsIn 16 = .ok (.invokestatic 75, 3) := by decide +kernel
theorem dX10_quarrelsIn_19 : decode cX10_quarrelsIn 19 = .ok (.iadd, 1) := by decide +kernel
theorem dX10_quarrelsIn_20 : decode cX10_quarrelsIn 20 = .ok (.istore_n 2, 1) := by decide +kernel
theorem dX10_quarrelsIn_21 : decode cX10_quarrelsIn 21 = .ok (.iinc 3 1, 3) := by decide +kernel
theorem dX10_quarrelsIn_24 : decode cX10_quarrelsIn 24 = .ok (.goto (-20), 3) := by decide +kernel
theorem dX10_quarrelsIn_27 : decode cX10_quarrelsIn 27 = .ok (.iload_n 2, 1) := by decide +kernel
theorem dX10_quarrelsIn_28 : decode cX10_quarrelsIn 28 = .ok (.iconst 2, 1) := by decide +kernel
theorem dX10_quarrelsIn_29 : decode cX10_quarrelsIn 29 = .ok (.idiv, 1) := by decide +kernel
theorem dX10_quarrelsIn_30 : decode cX10_quarrelsIn 30 = .ok (.ireturn, 1) := by decide +kernel
theorem dX10_write_0 : decode cX10_write 0 = .ok (.iload_n 1, 1) := by decide +kernel
theorem dX10_write_1 : decode cX10_write 1 = .ok (.bipush 32, 2) := by decide +kernel
theorem dX10_write_3 : decode cX10_write 3 = .ok (.bipush 126, 2) := by decide +kernel
theorem dX10_write_5 : decode cX10_write 5 = .ok (.invokestatic 67, 3) := by decide +kernel
theorem dX10_write_8 : decode cX10_write 8 = .ok (.ifCond .ne 5, 3) := by decide +kernel
theorem dX10_write_11 : decode cX10_write 11 = .ok (.iconst (-1), 1) := by decide +kernel
theorem dX10_write_12 : decode cX10_write 12 = .ok (.ireturn, 1) := by decide +kernel
theorem dX10_write_13 : decode cX10_write 13 = .ok (.aload_n 0, 1) := by decide +kernel
theorem dX10_write_14 : decode cX10_write 14 = .ok (.getfield 79, 3) := by decide +kernel
theorem dX10_write_17 : decode cX10_write 17 = .ok (.sipush 200, 3) := by decide +kernel
theorem dX10_write_20 : decode cX10_write 20 = .ok (.if_icmp .ne 6, 3) := by decide +kernel
theorem dX10_write_23 : decode cX10_write 23 = .ok (.bipush (-3), 2) := by decide +kernel
theorem dX10_write_25 : decode cX10_write 25 = .ok (.ireturn, 1) := by decide +kernel
theorem dX10_write_26 : decode cX10_write 26 = .ok (.aload_n 0, 1) := by decide +kernel
theorem dX10_write_27 : decode cX10_write 27 = .ok (.getfield 7, 3) := by decide +kernel
theorem dX10_write_30 : decode cX10_write 30 = .ok (.aload_n 0, 1) := by decide +kernel
theorem dX10_write_31 : decode cX10_write 31 = .ok (.getfield 79, 3) := by decide +kernel
theorem dX10_write_34 : decode cX10_write 34 = .ok (.iload_n 1, 1) := by decide +kernel
theorem dX10_write_35 : decode cX10_write 35 = .ok (.iastore, 1) := by decide +kernel
theorem dX10_write_36 : decode cX10_write 36 = .ok (.aload_n 0, 1) := by decide +kernel
theorem dX10_write_37 : decode cX10_write 37 = .ok (.dup, 1) := by decide +kernel
theorem dX10_write_38 : decode cX10_write 38 = .ok (.getfield 79, 3) := by decide +kernel
theorem dX10_write_41 : decode cX10_write 41 = .ok (.iconst 1, 1) := by decide +kernel
theorem dX10_write_42 : decode cX10_write 42 = .ok (.iadd, 1) := by decide +kernel
theorem dX10_write_43 : decode cX10_write 43 = .ok (.putfield 79, 3) := by decide +kernel
theorem dX10_write_46 : decode cX10_write 46 = .ok (.aload_n 0, 1) := by decide +kernel
theorem dX10_write_47 : decode cX10_write 47 = .ok (.getfield 79, 3) := by decide +kernel
theorem dX10_write_50 : decode cX10_write 50 = .ok (.ireturn, 1) := by decide +kernel
theorem dX10_wipe_0 : decode cX10_wipe 0 = .ok (.aload_n 0, 1) := by decide +kernel
theorem dX10_wipe_1 : decode cX10_wipe 1 = .ok (.getfield 79, 3) := by decide +kernel
theorem dX10_wipe_4 : decode cX10_wipe 4 = .ok (.istore_n 1, 1) := by decide +kernel
theorem dX10_wipe_5 : decode cX10_wipe 5 = .ok (.aload_n 0, 1) := by decide +kernel
theorem dX10_wipe_6 : decode cX10_wipe 6 = .ok (.iconst 0, 1) := by decide +kernel
theorem dX10_wipe_7 : decode cX10_wipe 7 = .ok (.putfield 79, 3) := by decide +kernel
theorem dX10_wipe_10 : decode cX10_wipe 10 = .ok (.iload_n 1, 1) := by decide +kernel
theorem dX10_wipe_11 : decode cX10_wipe 11 = .ok (.ireturn, 1) := by decide +kernel
theorem dX10_letterAt_0 : decode cX10_letterAt 0 = .ok (.iload_n 1, 1) := by decide +kernel
theorem dX10_letterAt_1 : decode cX10_letterAt 1 = .ok (.aload_n 0, 1) := by decide +kernel
theorem dX10_letterAt_2 : decode cX10_letterAt 2 = .ok (.getfield 79, 3) := by decide +kernel
theorem dX10_letterAt_5 : decode cX10_letterAt 5 = .ok (.if_icmp .ge 12, 3) := by decide +kernel
theorem dX10_letterAt_8 : decode cX10_letterAt 8 = .ok (.aload_n 0, 1) := by decide +kernel
theorem dX10_letterAt_9 : decode cX10_letterAt 9 = .ok (.getfield 7, 3) := by decide +kernel
theorem dX10_letterAt_12 : decode cX10_letterAt 12 = .ok (.iload_n 1, 1) := by decide +kernel
theorem dX10_letterAt_13 : decode cX10_letterAt 13 = .ok (.iaload, 1) := by decide +kernel
theorem dX10_letterAt_14 : decode cX10_letterAt 14 = .ok (.goto 4, 3) := by decide +kernel
theorem dX10_letterAt_17 : decode cX10_letterAt 17 = .ok (.iconst 0, 1) := by decide +kernel
theorem dX10_letterAt_18 : decode cX10_letterAt 18 = .ok (.ireturn, 1) := by decide +kernel
theorem dX10_isNumber_0 : decode cX10_isNumber 0 = .ok (.iconst 0, 1) := by decide +kernel
theorem dX10_isNumber_1 : decode cX10_isNumber 1 = .ok (.istore 4, 2) := by decide +kernel
theorem dX10_isNumber_3 : decode cX10_isNumber 3 = .ok (.aload_n 0, 1) := by decide +kernel
theorem dX10_isNumber_4 : decode cX10_isNumber 4 = .ok (.iconst 0, 1) := by decide +kernel
theorem dX10_isNumber_5 : decode cX10_isNumber 5 = .ok (.putfield 82, 3) := by decide +kernel
theorem dX10_isNumber_8 : decode cX10_isNumber 8 = .ok (.iload 4, 2) := by decide +kernel
theorem dX10_isNumber_10 : decode cX10_isNumber 10 = .ok (.iconst 2, 1) := by decide +kernel
theorem dX10_isNumber_11 : decode cX10_isNumber 11 = .ok (.if_icmp .ge 60, 3) := by decide +kernel
theorem dX10_isNumber_14 : decode cX10_isNumber 14 = .ok (.aload_n 0, 1) := by decide +kernel
theorem dX10_isNumber_15 : decode cX10_isNumber 15 = .ok (.aload_n 0, 1) := by decide +kernel
theorem dX10_isNumber_16 : decode cX10_isNumber 16 = .ok (.getfield 85, 3) := by decide +kernel
theorem dX10_isNumber_19 : decode cX10_isNumber 19 = .ok (.invokevirtual 88, 3) := by decide +kernel
theorem dX10_isNumber_22 : decode cX10_isNumber 22 = .ok (.bipush 48, 2) := by decide +kernel
theorem dX10_isNumber_24 : decode cX10_isNumber 24 = .ok (.bipush 57, 2) := by decide +kernel
theorem dX10_isNumber_26 : decode cX10_isNumber 26 = .ok (.invokestatic 67, 3) := by decide +kernel
theorem dX10_isNumber_29 : decode cX10_isNumber 29 = .ok (.ifCond .eq 42, 3) := by decide +kernel
theorem dX10_isNumber_32 : decode cX10_isNumber 32 = .ok (.aload_n 0, 1) := by decide +kernel
theorem dX10_isNumber_33 : decode cX10_isNumber 33 = .ok (.bipush 10, 2) := by decide +kernel
theorem dX10_isNumber_35 : decode cX10_isNumber 35 = .ok (.aload_n 0, 1) := by decide +kernel
theorem dX10_isNumber_36 : decode cX10_isNumber 36 = .ok (.getfield 82, 3) := by decide +kernel
theorem dX10_isNumber_39 : decode cX10_isNumber 39 = .ok (.imul, 1) := by decide +kernel
theorem dX10_isNumber_40 : decode cX10_isNumber 40 = .ok (.aload_n 0, 1) := by decide +kernel
theorem dX10_isNumber_41 : decode cX10_isNumber 41 = .ok (.aload_n 0, 1) := by decide +kernel
theorem dX10_isNumber_42 : decode cX10_isNumber 42 = .ok (.getfield 85, 3) := by decide +kernel
theorem dX10_isNumber_45 : decode cX10_isNumber 45 = .ok (.invokevirtual 88, 3) := by decide +kernel
theorem dX10_isNumber_48 : decode cX10_isNumber 48 = .ok (.iadd, 1) := by decide +kernel
theorem dX10_isNumber_49 : decode cX10_isNumber 49 = .ok (.bipush 48, 2) := by decide +kernel
theorem dX10_isNumber_51 : decode cX10_isNumber 51 = .ok (.isub, 1) := by decide +kernel
theorem dX10_isNumber_52 : decode cX10_isNumber 52 = .ok (.putfield 82, 3) := by decide +kernel
theorem dX10_isNumber_55 : decode cX10_isNumber 55 = .ok (.aload_n 0, 1) := by decide +kernel
theorem dX10_isNumber_56 : decode cX10_isNumber 56 = .ok (.dup, 1) := by decide +kernel
theorem dX10_isNumber_57 : decode cX10_isNumber 57 = .ok (.getfield 85, 3) := by decide +kernel
theorem dX10_isNumber_60 : decode cX10_isNumber 60 = .ok (.iconst 1, 1) := by decide +kernel
theorem dX10_isNumber_61 : decode cX10_isNumber 61 = .ok (.iadd, 1) := by decide +kernel
theorem dX10_isNumber_62 : decode cX10_isNumber 62 = .ok (.putfield 85, 3) := by decide +kernel
theorem dX10_isNumber_65 : decode cX10_isNumber 65 = .ok (.iinc 4 1, 3) := by decide +kernel
theorem dX10_isNumber_68 : decode cX10_isNumber 68 = .ok (.goto (-60), 3) := by decide +kernel
theorem dX10_isNumber_71 : decode cX10_isNumber 71 = .ok (.iload 4, 2) := by decide +kernel
theorem dX10_isNumber_73 : decode cX10_isNumber 73 = .ok (.ifCond .eq 27, 3) := by decide +kernel
theorem dX10_isNumber_76 : decode cX10_isNumber 76 = .ok (.aload_n 0, 1) := by decide +kernel
theorem dX10_isNumber_77 : decode cX10_isNumber 77 = .ok (.getfield 82, 3) := by decide +kernel
theorem dX10_isNumber_80 : decode cX10_isNumber 80 = .ok (.iload_n 1, 1) := by decide +kernel
theorem dX10_isNumber_81 : decode cX10_isNumber 81 = .ok (.iload_n 2, 1) := by decide +kernel
theorem dX10_isNumber_82 : decode cX10_isNumber 82 = .ok (.invokestatic 67, 3) := by decide +kernel
theorem dX10_isNumber_85 : decode cX10_isNumber 85 = .ok (.ifCond .eq 15, 3) := by decide +kernel
theorem dX10_isNumber_88 : decode cX10_isNumber 88 = .ok (.aload_n 0, 1) := by decide +kernel
theorem dX10_isNumber_89 : decode cX10_isNumber 89 = .ok (.aload_n 0, 1) := by decide +kernel
theorem dX10_isNumber_90 : decode cX10_isNumber 90 = .ok (.getfield 85, 3) := by decide +kernel
theorem dX10_isNumber_93 : decode cX10_isNumber 93 = .ok (.invokevirtual 88, 3) := by decide +kernel
theorem dX10_isNumber_96 : decode cX10_isNumber 96 = .ok (.iload_n 3, 1) := by decide +kernel
theorem dX10_isNumber_97 : decode cX10_isNumber 97 = .ok (.if_icmp .eq 5, 3) := by decide +kernel
theorem dX10_isNumber_100 : decode cX10_isNumber 100 = .ok (.iconst 0, 1) := by decide +kernel
theorem dX10_isNumber_101 : decode cX10_isNumber 101 = .ok (.ireturn, 1) := by decide +kernel
theorem dX10_isNumber_102 : decode cX10_isNumber 102 = .ok (.aload_n 0, 1) := by decide +kernel
theorem dX10_isNumber_103 : decode cX10_isNumber 103 = .ok (.dup, 1) := by decide +kernel
theorem dX10_isNumber_104 : decode cX10_isNumber 104 = .ok (.getfield 85, 3) := by decide +kernel
theorem dX10_isNumber_107 : decode cX10_isNumber 107 = .ok (.iconst 1, 1) := by decide +kernel
theorem dX10_isNumber_108 : decode cX10_isNumber 108 = .ok (.iadd, 1) := by decide +kernel
theorem dX10_isNumber_109 : decode cX10_isNumber 109 = .ok (.putfield 85, 3) := by decide +kernel
theorem dX10_isNumber_112 : decode cX10_isNumber 112 = .ok (.iconst 1, 1) := by decide +kernel
theorem dX10_isNumber_113 : decode cX10_isNumber 113 = .ok (.ireturn, 1) := by decide +kernel
theorem dX10_least_0 : decode cX10_least 0 = .ok (.iload_n 1, 1) := by decide +kernel
theorem dX10_least_1 : decode cX10_least 1 = .ok (.bipush 115, 2) := by decide +kernel
theorem dX10_least_3 : decode cX10_least 3 = .ok (.if_icmp .ne 8, 3) := by decide +kernel
theorem dX10_least_6 : decode cX10_least 6 = .ok (.iload_n 2, 1) := by decide +kernel
theorem dX10_least_7 : decode cX10_least 7 = .ok (.iconst 2, 1) := by decide +kernel
theorem dX10_least_8 : decode cX10_least 8 = .ok (.if_icmp .eq 20, 3) := by decide +kernel
theorem dX10_least_11 : decode cX10_least 11 = .ok (.iload_n 1, 1) := by decide +kernel
theorem dX10_least_12 : decode cX10_least 12 = .ok (.bipush 99, 2) := by decide +kernel
theorem dX10_least_14 : decode cX10_least 14 = .ok (.if_icmp .ne 8, 3) := by decide +kernel
theorem dX10_least_17 : decode cX10_least 17 = .ok (.iload_n 2, 1) := by decide +kernel
theorem dX10_least_18 : decode cX10_least 18 = .ok (.iconst 3, 1) := by decide +kernel
theorem dX10_least_19 : decode cX10_least 19 = .ok (.if_icmp .eq 9, 3) := by decide +kernel
theorem dX10_least_22 : decode cX10_least 22 = .ok (.iload_n 1, 1) := by decide +kernel
theorem dX10_least_23 : decode cX10_least 23 = .ok (.bipush 104, 2) := by decide +kernel
theorem dX10_least_25 : decode cX10_least 25 = .ok (.if_icmp .ne 7, 3) := by decide +kernel
theorem dX10_least_28 : decode cX10_least 28 = .ok (.iconst 1, 1) := by decide +kernel
theorem dX10_least_29 : decode cX10_least 29 = .ok (.goto 4, 3) := by decide +kernel
theorem dX10_least_32 : decode cX10_least 32 = .ok (.iconst 0, 1) := by decide +kernel
theorem dX10_least_33 : decode cX10_least 33 = .ok (.ireturn, 1) := by decide +kernel
theorem dX10_most_0 : decode cX10_most 0 = .ok (.iload_n 1, 1) := by decide +kernel
theorem dX10_most_1 : decode cX10_most 1 = .ok (.bipush 115, 2) := by decide +kernel
theorem dX10_most_3 : decode cX10_most 3 = .ok (.if_icmp .ne 33, 3) := by decide +kernel
theorem dX10_most_6 : decode cX10_most 6 = .ok (.iload_n 2, 1) := by decide +kernel
theorem dX10_most_7 : decode cX10_most 7 = .ok (.ifCond .ne 7, 3) := by decide +kernel
theorem dX10_most_10 : decode cX10_most 10 = .ok (.iconst 3, 1) := by decide +kernel
theorem dX10_most_11 : decode cX10_most 11 = .ok (.goto 24, 3) := by decide +kernel
theorem dX10_most_14 : decode cX10_most 14 = .ok (.iload_n 2, 1) := by decide +kernel
theorem dX10_most_15 : decode cX10_most 15 = .ok (.iconst 1, 1) := by decide +kernel
theorem dX10_most_16 : decode cX10_most 16 = .ok (.if_icmp .ne 7, 3) := by decide +kernel
theorem dX10_most_19 : decode cX10_most 19 = .ok (.iconst 5, 1) := by decide +kernel
theorem dX10_most_20 : decode cX10_most 20 = .ok (.goto 15, 3) := by decide +kernel
theorem dX10_most_23 : decode cX10_most 23 = .ok (.iload_n 2, 1) := by decide +kernel
theorem dX10_most_24 : decode cX10_most 24 = .ok (.iconst 2, 1) := by decide +kernel
theorem dX10_most_25 : decode cX10_most 25 = .ok (.if_icmp .ne 8, 3) := by decide +kernel
theorem dX10_most_28 : decode cX10_most 28 = .ok (.bipush 10, 2) := by decide +kernel
theorem dX10_most_30 : decode cX10_most 30 = .ok (.goto 5, 3) := by decide +kernel
theorem dX10_most_33 : decode cX10_most 33 = .ok (.bipush 9, 2) := by decide +kernel
theorem dX10_most_35 : decode cX10_most 35 = .ok (.ireturn, 1) := by decide +kernel
theorem dX10_most_36 : decode cX10_most 36 = .ok (.iload_n 1, 1) := by decide +kernel
theorem dX10_most_37 : decode cX10_most 37 = .ok (.bipush 113, 2) := by decide +kernel
theorem dX10_most_39 : decode cX10_most 39 = .ok (.if_icmp .ne 10, 3) := by decide +kernel
theorem dX10_most_42 : decode cX10_most 42 = .ok (.aload_n 0, 1) := by decide +kernel
theorem dX10_most_43 : decode cX10_most 43 = .ok (.getfield 91, 3) := by decide +kernel
theorem dX10_most_46 : decode cX10_most 46 = .ok (.iconst 1, 1) := by decide +kernel
theorem dX10_most_47 : decode cX10_most 47 = .ok (.isub, 1) := by decide +kernel
theorem dX10_most_48 : decode cX10_most 48 = .ok (.ireturn, 1) := by decide +kernel
theorem dX10_most_49 : decode cX10_most 49 = .ok (.iload_n 1, 1) := by decide +kernel
theorem dX10_most_50 : decode cX10_most 50 = .ok (.bipush 104, 2) := by decide +kernel
theorem dX10_most_52 : decode cX10_most 52 = .ok (.if_icmp .ne 6, 3) := by decide +kernel
theorem dX10_most_55 : decode cX10_most 55 = .ok (.bipush 10, 2) := by decide +kernel
theorem dX10_most_57 : decode cX10_most 57 = .ok (.ireturn, 1) := by decide +kernel
theorem dX10_most_58 : decode cX10_most 58 = .ok (.iload_n 2, 1) := by decide +kernel
theorem dX10_most_59 : decode cX10_most 59 = .ok (.ifCond .ne 8, 3) := by decide +kernel
theorem dX10_most_62 : decode cX10_most 62 = .ok (.bipush 13, 2) := by decide +kernel
theorem dX10_most_64 : decode cX10_most 64 = .ok (.goto 23, 3) := by decide +kernel
theorem dX10_most_67 : decode cX10_most 67 = .ok (.iload_n 2, 1) := by decide +kernel
theorem dX10_most_68 : decode cX10_most 68 = .ok (.iconst 1, 1) := by decide +kernel
theorem dX10_most_69 : decode cX10_most 69 = .ok (.if_icmp .ne 7, 3) := by decide +kernel
theorem dX10_most_72 : decode cX10_most 72 = .ok (.iconst 5, 1) := by decide +kernel
theorem dX10_most_73 : decode cX10_most 73 = .ok (.goto 14, 3) := by decide +kernel
theorem dX10_most_76 : decode cX10_most 76 = .ok (.iload_n 2, 1) := by decide +kernel
theorem dX10_most_77 : decode cX10_most 77 = .ok (.iconst 2, 1) := by decide +kernel
theorem dX10_most_78 : decode cX10_most 78 = .ok (.if_icmp .ne 7, 3) := by decide +kernel
theorem dX10_most_81 : decode cX10_most 81 = .ok (.iconst 3, 1) := by decide +kernel
theorem dX10_most_82 : decode cX10_most 82 = .ok (.goto 5, 3) := by decide +kernel
theorem dX10_most_85 : decode cX10_most 85 = .ok (.bipush 60, 2) := by decide +kernel
theorem dX10_most_87 : decode cX10_most 87 = .ok (.ireturn, 1) := by decide +kernel
theorem dX10_isItem_0 : decode cX10_isItem 0 = .ok (.aload_n 0, 1) := by decide +kernel
theorem dX10_isItem_1 : decode cX10_isItem 1 = .ok (.aload_n 0, 1) := by decide +kernel
theorem dX10_isItem_2 : decode cX10_isItem 2 = .ok (.getfield 85, 3) := by decide +kernel
theorem dX10_isItem_5 : decode cX10_isItem 5 = .ok (.invokevirtual 88, 3) := by decide +kernel
theorem dX10_isItem_8 : decode cX10_isItem 8 = .ok (.istore_n 1, 1) := by decide +kernel
theorem dX10_isItem_9 : decode cX10_isItem 9 = .ok (.iload_n 1, 1) := by decide +kernel
theorem dX10_isItem_10 : decode cX10_isItem 10 = .ok (.bipush 115, 2) := by decide +kernel
theorem dX10_isItem_12 : decode cX10_isItem 12 = .ok (.if_icmp .eq 9, 3) := by decide +kernel
theorem dX10_isItem_15 : decode cX10_isItem 15 = .ok (.iload_n 1, 1) := by decide +kernel
theorem dX10_isItem_16 : decode cX10_isItem 16 = .ok (.bipush 99, 2) := by decide +kernel
theorem dX10_isItem_18 : decode cX10_isItem 18 = .ok (.if_icmp .ne 7, 3) := by decide +kernel
theorem dX10_isItem_21 : decode cX10_isItem 21 = .ok (.iconst 4, 1) := by decide +kernel
theorem dX10_isItem_22 : decode cX10_isItem 22 = .ok (.goto 24, 3) := by decide +kernel
theorem dX10_isItem_25 : decode cX10_isItem 25 = .ok (.iload_n 1, 1) := by decide +kernel
theorem dX10_isItem_26 : decode cX10_isItem 26 = .ok (.bipush 113, 2) := by decide +kernel
theorem dX10_isItem_28 : decode cX10_isItem 28 = .ok (.if_icmp .ne 7, 3) := by decide +kernel
theorem dX10_isItem_31 : decode cX10_isItem 31 = .ok (.iconst 2, 1) := by decide +kernel
theorem dX10_isItem_32 : decode cX10_isItem 32 = .ok (.goto 14, 3) := by decide +kernel
theorem dX10_isItem_35 : decode cX10_isItem 35 = .ok (.iload_n 1, 1) := by decide +kernel
theorem dX10_isItem_36 : decode cX10_isItem 36 = .ok (.bipush 104, 2) := by decide +kernel
theorem dX10_isItem_38 : decode cX10_isItem 38 = .ok (.if_icmp .ne 7, 3) := by decide +kernel
theorem dX10_isItem_41 : decode cX10_isItem 41 = .ok (.iconst 1, 1) := by decide +kernel
theorem dX10_isItem_42 : decode cX10_isItem 42 = .ok (.goto 4, 3) := by decide +kernel
theorem dX10_isItem_45 : decode cX10_isItem 45 = .ok (.iconst 0, 1) := by decide +kernel
theorem dX10_isItem_46 : decode cX10_isItem 46 = .ok (.istore_n 2, 1) := by decide +kernel
theorem dX10_isItem_47 : decode cX10_isItem 47 = .ok (.iload_n 1, 1) := by decide +kernel
theorem dX10_isItem_48 : decode cX10_isItem 48 = .ok (.bipush 115, 2) := by decide +kernel
theorem dX10_isItem_50 : decode cX10_isItem 50 = .ok (.if_icmp .ne 20, 3) := by decide +kernel
theorem dX10_isItem_53 : decode cX10_isItem 53 = .ok (.aload_n 0, 1) := by decide +kernel
theorem dX10_isItem_54 : decode cX10_isItem 54 = .ok (.getfield 91, 3) := by decide +kernel
theorem dX10_isItem_57 : decode cX10_isItem 57 = .ok (.bipush 6, 2) := by decide +kernel
theorem dX10_isItem_59 : decode cX10_isItem 59 = .ok (.if_icmp .ge 7, 3) := by decide +kernel
theorem dX10_isItem_62 : decode cX10_isItem 62 = .ok (.iconst 1, 1) := by decide +kernel
theorem dX10_isItem_63 : decode cX10_isItem 63 = .ok (.goto 27, 3) := by decide +kernel
theorem dX10_isItem_66 : decode cX10_isItem 66 = .ok (.iconst 0, 1) := by decide +kernel
theorem dX10_isItem_67 : decode cX10_isItem 67 = .ok (.goto 23, 3) := by decide +kernel
theorem dX10_isItem_70 : decode cX10_isItem 70 = .ok (.iload_n 1, 1) := by decide +kernel
theorem dX10_isItem_71 : decode cX10_isItem 71 = .ok (.bipush 99, 2) := by decide +kernel
theorem dX10_isItem_73 : decode cX10_isItem 73 = .ok (.if_icmp .ne 12, 3) := by decide +kernel
theorem dX10_isItem_76 : decode cX10_isItem 76 = .ok (.aload_n 0, 1) := by decide +kernel
theorem dX10_isItem_77 : decode cX10_isItem 77 = .ok (.getfield 94, 3) := by decide +kernel
theorem dX10_isItem_80 : decode cX10_isItem 80 = .ok (.bipush 10, 2) := by decide +kernel
theorem dX10_isItem_82 : decode cX10_isItem 82 = .ok (.if_icmp .ge 7, 3) := by decide +kernel
theorem dX10_isItem_85 : decode cX10_isItem 85 = .ok (.iconst 1, 1) := by decide +kernel
theorem dX10_isItem_86 : decode cX10_isItem 86 = .ok (.goto 4, 3) := by decide +kernel
theorem dX10_isItem_89 : decode cX10_isItem 89 = .ok (.iconst 0, 1) := by decide +kernel
theorem dX10_isItem_90 : decode cX10_isItem 90 = .ok (.istore_n 3, 1) := by decide +kernel
theorem dX10_isItem_91 : decode cX10_isItem 91 = .ok (.iload_n 2, 1) := by decide +kernel
theorem dX10_isItem_92 : decode cX10_isItem 92 = .ok (.ifCond .eq 7, 3) := by decide +kernel
theorem dX10_isItem_95 : decode cX10_isItem 95 = .ok (.iload_n 3, 1) := by decide +kernel
theorem dX10_isItem_96 : decode cX10_isItem 96 = .ok (.ifCond .ne 5, 3) := by decide +kernel
theorem dX10_isItem_99 : decode cX10_isItem 99 = .ok (.iconst 0, 1) := by decide +kernel
theorem dX10_isItem_100 : decode cX10_isItem 100 = .ok (.ireturn, 1) := by decide +kernel
theorem dX10_isItem_101 : decode cX10_isItem 101 = .ok (.aload_n 0, 1) := by decide +kernel
theorem dX10_isItem_102 : decode cX10_isItem 102 = .ok (.dup, 1) := by decide +kernel
theorem dX10_isItem_103 : decode cX10_isItem 103 = .ok (.getfield 85, 3) := by decide +kernel
theorem dX10_isItem_106 : decode cX10_isItem 106 = .ok (.iconst 1, 1) := by decide +kernel
theorem dX10_isItem_107 : decode cX10_isItem 107 = .ok (.iadd, 1) := by decide +kernel
theorem dX10_isItem_108 : decode cX10_isItem 108 = .ok (.putfield 85, 3) := by decide +kernel
theorem dX10_isItem_111 : decode cX10_isItem 111 = .ok (.iconst 0, 1) := by decide +kernel
theorem dX10_isItem_112 : decode cX10_isItem 112 = .ok (.istore 4, 2) := by decide +kernel
theorem dX10_isItem_114 : decode cX10_isItem 114 = .ok (.iconst 0, 1) := by decide +kernel
theorem dX10_isItem_115 : decode cX10_isItem 115 = .ok (.istore 5, 2) := by decide +kernel
theorem dX10_isItem_117 : decode cX10_isItem 117 = .ok (.iload 5, 2) := by decide +kernel
theorem dX10_isItem_119 : decode cX10_isItem 119 = .ok (.iload_n 2, 1) := by decide +kernel
theorem dX10_isItem_120 : decode cX10_isItem 120 = .ok (.if_icmp .ge 114, 3) := by decide +kernel
theorem dX10_isItem_123 : decode cX10_isItem 123 = .ok (.aload_n 0, 1) := by decide +kernel
theorem dX10_isItem_124 : decode cX10_isItem 124 = .ok (.aload_n 0, 1) := by decide +kernel
theorem dX10_isItem_125 : decode cX10_isItem 125 = .ok (.iload_n 1, 1) := by decide +kernel
theorem dX10_isItem_126 : decode cX10_isItem 126 = .ok (.iload 5, 2) := by decide +kernel
theorem dX10_isItem_128 : decode cX10_isItem 128 = .ok (.invokevirtual 97, 3) := by decide +kernel
theorem dX10_isItem_131 : decode cX10_isItem 131 = .ok (.aload_n 0, 1) := by decide +kernel
theorem dX10_isItem_132 : decode cX10_isItem 132 = .ok (.iload_n 1, 1) := by decide +kernel
theorem dX10_isItem_133 : decode cX10_isItem 133 = .ok (.iload 5, 2) := by decide +kernel
theorem dX10_isItem_135 : decode cX10_isItem 135 = .ok (.invokevirtual 101, 3) := by decide +kernel
theorem dX10_isItem_138 : decode cX10_isItem 138 = .ok (.iload 5, 2) := by decide +kernel
theorem dX10_isItem_140 : decode cX10_isItem 140 = .ok (.iload_n 2, 1) := by decide +kernel
theorem dX10_isItem_141 : decode cX10_isItem 141 = .ok (.iconst 1, 1) := by decide +kernel
theorem dX10_isItem_142 : decode cX10_isItem 142 = .ok (.isub, 1) := by decide +kernel
theorem dX10_isItem_143 : decode cX10_isItem 143 = .ok (.if_icmp .ne 8, 3) := by decide +kernel
theorem dX10_isItem_146 : decode cX10_isItem 146 = .ok (.bipush 59, 2) := by decide +kernel
theorem dX10_isItem_148 : decode cX10_isItem 148 = .ok (.goto 5, 3) := by decide +kernel
theorem dX10_isItem_151 : decode cX10_isItem 151 = .ok (.bipush 44, 2) := by decide +kernel
theorem dX10_isItem_153 : decode cX10_isItem 153 = .ok (.invokevirtual 104, 3) := by decide +kernel
theorem dX10_isItem_156 : decode cX10_isItem 156 = .ok (.ifCond .ne 5, 3) := by decide +kernel
theorem dX10_isItem_159 : decode cX10_isItem 159 = .ok (.iconst 0, 1) := by decide +kernel
theorem dX10_isItem_160 : decode cX10_isItem 160 = .ok (.ireturn, 1) := by decide +kernel
theorem dX10_isItem_161 : decode cX10_isItem 161 = .ok (.iload_n 1, 1) := by decide +kernel
theorem dX10_isItem_162 : decode cX10_isItem 162 = .ok (.bipush 115, 2) := by decide +kernel
theorem dX10_isItem_164 : decode cX10_isItem 164 = .ok (.if_icmp .ne 24, 3) := by decide +kernel
theorem dX10_isItem_167 : decode cX10_isItem 167 = .ok (.aload_n 0, 1) := by decide +kernel
theorem dX10_isItem_168 : decode cX10_isItem 168 = .ok (.getfield 13, 3) := by decide +kernel
theorem dX10_isItem_171 : decode cX10_isItem 171 = .ok (.iconst 4, 1) := by decide +kernel
theorem dX10_isItem_172 : decode cX10_isItem 172 = .ok (.aload_n 0, 1) := by decide +kernel
theorem dX10_isItem_173 : decode cX10_isItem 173 = .ok (.getfield 91, 3) := by decide +kernel
theorem dX10_isItem_176 : decode cX10_isItem 176 = .ok (.imul, 1) := by decide +kernel
theorem dX10_isItem_177 : decode cX10_isItem 177 = .ok (.iload 5, 2) := by decide +kernel
theorem dX10_isItem_179 : decode cX10_isItem 179 = .ok (.iadd, 1) := by decide +kernel
theorem dX10_isItem_180 : decode cX10_isItem 180 = .ok (.aload_n 0, 1) := by decide +kernel
theorem dX10_isItem_181 : decode cX10_isItem 181 = .ok (.getfield 82, 3) := by decide +kernel
theorem dX10_isItem_184 : decode cX10_isItem 184 = .ok (.iastore, 1) := by decide +kernel
theorem dX10_isItem_185 : decode cX10_isItem 185 = .ok (.goto 27, 3) := by decide +kernel
theorem dX10_isItem_188 : decode cX10_isItem 188 = .ok (.iload_n 1, 1) := by decide +kernel
theorem dX10_isItem_189 : decode cX10_isItem 189 = .ok (.bipush 99, 2) := by decide +kernel
theorem dX10_isItem_191 : decode cX10_isItem 191 = .ok (.if_icmp .ne 21, 3) := by decide +kernel
theorem dX10_isItem_194 : decode cX10_isItem 194 = .ok (.aload_n 0, 1) := by decide +kernel
theorem dX10_isItem_195 : decode cX10_isItem 195 = .ok (.getfield 16, 3) := by decide +kernel
theorem dX10_isItem_198 : decode cX10_isItem 198 = .ok (.iconst 4, 1) := by decide +kernel
theorem dX10_isItem_199 : decode cX10_isItem 199 = .ok (.aload_n 0, 1) := by decide +kernel
theorem dX10_isItem_200 : decode cX10_isItem 200 = .ok (.getfield 94, 3) := by decide +kernel
theorem dX10_isItem_203 : decode cX10_isItem 203 = .ok (.imul, 1) := by decide +kernel
theorem dX10_isItem_204 : decode cX10_isItem 204 = .ok (.iload 5, 2) := by decide +kernel
theorem dX10_isItem_206 : decode cX10_isItem 206 = .ok (.iadd, 1) := by decide +kernel
theorem dX10_isItem_207 : decode cX10_isItem 207 = .ok (.aload_n 0, 1) := by decide +kernel
theorem dX10_isItem_208 : decode cX10_isItem 208 = .ok (.getfield 82, 3) := by decide +kernel
theorem dX10_isItem_211 : decode cX10_isItem 211 = .ok (.iastore, 1) := by decide +kernel
theorem dX10_isItem_212 : decode cX10_isItem 212 = .ok (.iload 5, 2) := by decide +kernel
theorem dX10_isItem_214 : decode cX10_isItem 214 = .ok (.ifCond .ne 10, 3) := by decide +kernel
theorem dX10_isItem_217 : decode cX10_isItem 217 = .ok (.aload_n 0, 1) := by decide +kernel
theorem dX10_isItem_218 : decode cX10_isItem 218 = .ok (.getfield 82, 3) := by decide +kernel
theorem dX10_isItem_221 : decode cX10_isItem 221 = .ok (.goto 5, 3) := by decide +kernel
theorem dX10_isItem_224 : decode cX10_isItem 224 = .ok (.iload 4, 2) := by decide +kernel
theorem dX10_isItem_226 : decode cX10_isItem 226 = .ok (.istore 4, 2) := by decide +kernel
theorem dX10_isItem_228 : decode cX10_isItem 228 = .ok (.iinc 5 1, 3) := by decide +kernel
theorem dX10_isItem_231 : decode cX10_isItem 231 = .ok (.goto (-114), 3) := by decide +kernel
theorem dX10_isItem_234 : decode cX10_isItem 234 = .ok (.iload_n 1, 1) := by decide +kernel
theorem dX10_isItem_235 : decode cX10_isItem 235 = .ok (.bipush 113, 2) := by decide +kernel
theorem dX10_isItem_237 : decode cX10_isItem 237 = .ok (.if_icmp .ne 58, 3) := by decide +kernel
theorem dX10_isItem_240 : decode cX10_isItem 240 = .ok (.iload 4, 2) := by decide +kernel
theorem dX10_isItem_242 : decode cX10_isItem 242 = .ok (.aload_n 0, 1) := by decide +kernel
theorem dX10_isItem_243 : decode cX10_isItem 243 = .ok (.getfield 82, 3) := by decide +kernel
theorem dX10_isItem_246 : decode cX10_isItem 246 = .ok (.if_icmp .eq 33, 3) := by decide +kernel
theorem dX10_isItem_249 : decode cX10_isItem 249 = .ok (.aload_n 0, 1) := by decide +kernel
theorem dX10_isItem_250 : decode cX10_isItem 250 = .ok (.getfield 19, 3) := by decide +kernel
theorem dX10_isItem_253 : decode cX10_isItem 253 = .ok (.iload 4, 2) := by decide +kernel
theorem dX10_isItem_255 : decode cX10_isItem 255 = .ok (.iaload, 1) := by decide +kernel
theorem dX10_isItem_256 : decode cX10_isItem 256 = .ok (.aload_n 0, 1) := by decide +kernel
theorem dX10_isItem_257 : decode cX10_isItem 257 = .ok (.getfield 82, 3) := by decide +kernel
theorem dX10_isItem_260 : decode cX10_isItem 260 = .ok (.invokestatic 107, 3) := by decide +kernel
theorem dX10_isItem_263 : decode cX10_isItem 263 = .ok (.ifCond .ne 18, 3) := by decide +kernel
theorem dX10_isItem_266 : decode cX10_isItem 266 = .ok (.aload_n 0, 1) := by decide +kernel
theorem dX10_isItem_267 : decode cX10_isItem 267 = .ok (.getfield 19, 3) := by decide +kernel
theorem dX10_isItem_270 : decode cX10_isItem 270 = .ok (.iconst 0, 1) := by decide +kernel
theorem dX10_isItem_271 : decode cX10_isItem 271 = .ok (.invokestatic 111, 3) := by decide +kernel
theorem dX10_isItem_274 : decode cX10_isItem 274 = .ok (.bipush 6, 2) := by decide +kernel
theorem dX10_isItem_276 : decode cX10_isItem 276 = .ok (.if_icmp .ne 5, 3) := by decide +kernel
theorem dX10_isItem_279 : decode cX10_isItem 279 = .ok (.iconst 0, 1) := by decide +kernel
theorem dX10_isItem_280 : decode cX10_isItem 280 = .ok (.ireturn, 1) := by decide +kernel
theorem dX10_isItem_281 : decode cX10_isItem 281 = .ok (.aload_n 0, 1) := by decide +kernel
theorem dX10_isItem_282 : decode cX10_isItem 282 = .ok (.getfield 19, 3) := by decide +kernel
theorem dX10_isItem_285 : decode cX10_isItem 285 = .ok (.iconst 0, 1) := by decide +kernel
theorem dX10_isItem_286 : decode cX10_isItem 286 = .ok (.iload 4, 2) := by decide +kernel
theorem dX10_isItem_288 : decode cX10_isItem 288 = .ok (.aload_n 0, 1) := by decide +kernel
theorem dX10_isItem_289 : decode cX10_isItem 289 = .ok (.getfield 82, 3) := by decide +kernel
theorem dX10_isItem_292 : decode cX10_isItem 292 = .ok (.invokestatic 54, 3) := by decide +kernel
theorem dX10_isItem_295 : decode cX10_isItem 295 = .ok (.aload_n 0, 1) := by decide +kernel
theorem dX10_isItem_296 : decode cX10_isItem 296 = .ok (.dup, 1) := by decide +kernel
theorem dX10_isItem_297 : decode cX10_isItem 297 = .ok (.getfield 91, 3) := by decide +kernel
theorem dX10_isItem_300 : decode cX10_isItem 300 = .ok (.iload_n 1, 1) := by decide +kernel
theorem dX10_isItem_301 : decode cX10_isItem 301 = .ok (.bipush 115, 2) := by decide +kernel
theorem dX10_isItem_303 : decode cX10_isItem 303 = .ok (.if_icmp .ne 7, 3) := by decide +kernel
theorem dX10_isItem_306 : decode cX10_isItem 306 = .ok (.iconst 1, 1) := by decide +kernel
theorem dX10_isItem_307 : decode cX10_isItem 307 = .ok (.goto 4, 3) := by decide +kernel
theorem dX10_isItem_310 : decode cX10_isItem 310 = .ok (.iconst 0, 1) := by decide +kernel
theorem dX10_isItem_311 : decode cX10_isItem 311 = .ok (.iadd, 1) := by decide +kernel
theorem dX10_isItem_312 : decode cX10_isItem 312 = .ok (.putfield 91, 3) := by decide +kernel
theorem dX10_isItem_315 : decode cX10_isItem 315 = .ok (.aload_n 0, 1) := by decide +kernel
theorem dX10_isItem_316 : decode cX10_isItem 316 = .ok (.dup, 1) := by decide +kernel
theorem dX10_isItem_317 : decode cX10_isItem 317 = .ok (.getfield 94, 3) := by decide +kernel
theorem dX10_isItem_320 : decode cX10_isItem 320 = .ok (.iload_n 1, 1) := by decide +kernel
theorem dX10_isItem_321 : decode cX10_isItem 321 = .ok (.bipush 99, 2) := by decide +kernel
theorem dX10_isItem_323 : decode cX10_isItem 323 = .ok (.if_icmp .ne 7, 3) := by decide +kernel
theorem dX10_isItem_326 : decode cX10_isItem 326 = .ok (.iconst 1, 1) := by decide +kernel
theorem dX10_isItem_327 : decode cX10_isItem 327 = .ok (.goto 4, 3) := by decide +kernel
theorem dX10_isItem_330 : decode cX10_isItem 330 = .ok (.iconst 0, 1) := by decide +kernel
theorem dX10_isItem_331 : decode cX10_isItem 331 = .ok (.iadd, 1) := by decide +kernel
theorem dX10_isItem_332 : decode cX10_isItem 332 = .ok (.putfield 94, 3) := by decide +kernel
theorem dX10_isItem_335 : decode cX10_isItem 335 = .ok (.aload_n 0, 1) := by decide +kernel
theorem dX10_isItem_336 : decode cX10_isItem 336 = .ok (.iload_n 1, 1) := by decide +kernel
theorem dX10_isItem_337 : decode cX10_isItem 337 = .ok (.bipush 104, 2) := by decide +kernel
theorem dX10_isItem_339 : decode cX10_isItem 339 = .ok (.if_icmp .ne 10, 3) := by decide +kernel
theorem dX10_isItem_342 : decode cX10_isItem 342 = .ok (.aload_n 0, 1) := by decide +kernel
theorem dX10_isItem_343 : decode cX10_isItem 343 = .ok (.getfield 82, 3) := by decide +kernel
theorem dX10_isItem_346 : decode cX10_isItem 346 = .ok (.goto 7, 3) := by decide +kernel
theorem dX10_isItem_349 : decode cX10_isItem 349 = .ok (.aload_n 0, 1) := by decide +kernel
theorem dX10_isItem_350 : decode cX10_isItem 350 = .ok (.getfield 115, 3) := by decide +kernel
theorem dX10_isItem_353 : decode cX10_isItem 353 = .ok (.putfield 115, 3) := by decide +kernel
theorem dX10_isItem_356 : decode cX10_isItem 356 = .ok (.iconst 1, 1) := by decide +kernel
theorem dX10_isItem_357 : decode cX10_isItem 357 = .ok (.ireturn, 1) := by decide +kernel
theorem dX10_fault_0 : decode cX10_fault 0 = .ok (.aload_n 0, 1) := by decide +kernel
theorem dX10_fault_1 : decode cX10_fault 1 = .ok (.iconst 0, 1) := by decide +kernel
theorem dX10_fault_2 : decode cX10_fault 2 = .ok (.putfield 85, 3) := by decide +kernel
theorem dX10_fault_5 : decode cX10_fault 5 = .ok (.aload_n 0, 1) := by decide +kernel
theorem dX10_fault_6 : decode cX10_fault 6 = .ok (.iconst 0, 1) := by decide +kernel
theorem dX10_fault_7 : decode cX10_fault 7 = .ok (.putfield 91, 3) := by decide +kernel
theorem dX10_fault_10 : decode cX10_fault 10 = .ok (.aload_n 0, 1) := by decide +kernel
theorem dX10_fault_11 : decode cX10_fault 11 = .ok (.iconst 0, 1) := by decide +kernel
theorem dX10_fault_12 : decode cX10_fault 12 = .ok (.putfield 94, 3) := by decide +kernel
theorem dX10_fault_15 : decode cX10_fault 15 = .ok (.aload_n 0, 1) := by decide +kernel
theorem dX10_fault_16 : decode cX10_fault 16 = .ok (.iconst 0, 1) := by decide +kernel
theorem dX10_fault_17 : decode cX10_fault 17 = .ok (.putfield 115, 3) := by decide +kernel
theorem dX10_fault_20 : decode cX10_fault 20 = .ok (.iconst 0, 1) := by decide +kernel
theorem dX10_fault_21 : decode cX10_fault 21 = .ok (.istore_n 1, 1) := by decide +kernel
theorem dX10_fault_22 : decode cX10_fault 22 = .ok (.iload_n 1, 1) := by decide +kernel
theorem dX10_fault_23 : decode cX10_fault 23 = .ok (.bipush 6, 2) := by decide +kernel
theorem dX10_fault_25 : decode cX10_fault 25 = .ok (.if_icmp .ge 16, 3) := by decide +kernel
theorem dX10_fault_28 : decode cX10_fault 28 = .ok (.aload_n 0, 1) := by decide +kernel
theorem dX10_fault_29 : decode cX10_fault 29 = .ok (.getfield 19, 3) := by decide +kernel
theorem dX10_fault_32 : decode cX10_fault 32 = .ok (.iload_n 1, 1) := by decide +kernel
theorem dX10_fault_33 : decode cX10_fault 33 = .ok (.iconst 0, 1) := by decide +kernel
theorem dX10_fault_34 : decode cX10_fault 34 = .ok (.iastore, 1) := by decide +kernel
theorem dX10_fault_35 : decode cX10_fault 35 = .ok (.iinc 1 1, 3) := by decide +kernel
theorem dX10_fault_38 : decode cX10_fault 38 = .ok (.goto (-16), 3) := by decide +kernel
theorem dX10_fault_41 : decode cX10_fault 41 = .ok (.aload_n 0, 1) := by decide +kernel
theorem dX10_fault_42 : decode cX10_fault 42 = .ok (.getfield 85, 3) := by decide +kernel
theorem dX10_fault_45 : decode cX10_fault 45 = .ok (.aload_n 0, 1) := by decide +kernel
theorem dX10_fault_46 : decode cX10_fault 46 = .ok (.getfield 79, 3) := by decide +kernel
theorem dX10_fault_49 : decode cX10_fault 49 = .ok (.if_icmp .ge 20, 3) := by decide +kernel
theorem dX10_fault_52 : decode cX10_fault 52 = .ok (.aload_n 0, 1) := by decide +kernel
theorem dX10_fault_53 : decode cX10_fault 53 = .ok (.getfield 85, 3) := by decide +kernel
theorem dX10_fault_56 : decode cX10_fault 56 = .ok (.istore_n 1, 1) := by decide +kernel
theorem dX10_fault_57 : decode cX10_fault 57 = .ok (.aload_n 0, 1) := by decide +kernel
theorem dX10_fault_58 : decode cX10_fault 58 = .ok (.invokevirtual 118, 3) := by decide +kernel
theorem dX10_fault_61 : decode cX10_fault 61 = .ok (.ifCond .ne 5, 3) := by decide +kernel
theorem dX10_fault_64 : decode cX10_fault 64 = .ok (.iload_n 1, 1) := by decide +kernel
theorem dX10_fault_65 : decode cX10_fault 65 = .ok (.ireturn, 1) := by decide +kernel
theorem dX10_fault_66 : decode cX10_fault 66 = .ok (.goto (-25), 3) := by decide +kernel
theorem dX10_fault_69 : decode cX10_fault 69 = .ok (.bipush (-4), 2) := by decide +kernel
theorem dX10_fault_71 : decode cX10_fault 71 = .ok (.ireturn, 1) := by decide +kernel
theorem dX10_lay_0 : decode cX10_lay 0 = .ok (.aload_n 0, 1) := by decide +kernel
theorem dX10_lay_1 : decode cX10_lay 1 = .ok (.invokevirtual 122, 3) := by decide +kernel
theorem dX10_lay_4 : decode cX10_lay 4 = .ok (.bipush (-4), 2) := by decide +kernel
theorem dX10_lay_6 : decode cX10_lay 6 = .ok (.if_icmp .ne 10, 3) := by decide +kernel
theorem dX10_lay_9 : decode cX10_lay 9 = .ok (.aload_n 0, 1) := by decide +kernel
theorem dX10_lay_10 : decode cX10_lay 10 = .ok (.getfield 91, 3) := by decide +kernel
theorem dX10_lay_13 : decode cX10_lay 13 = .ok (.ifCond .ne 6, 3) := by decide +kernel
theorem dX10_lay_16 : decode cX10_lay 16 = .ok (.bipush (-2), 2) := by decide +kernel
theorem dX10_lay_18 : decode cX10_lay 18 = .ok (.ireturn, 1) := by decide +kernel
theorem dX10_lay_19 : decode cX10_lay 19 = .ok (.aload_n 0, 1) := by decide +kernel
theorem dX10_lay_20 : decode cX10_lay 20 = .ok (.aload_n 0, 1) := by decide +kernel
theorem dX10_lay_21 : decode cX10_lay 21 = .ok (.getfield 91, 3) := by decide +kernel
theorem dX10_lay_24 : decode cX10_lay 24 = .ok (.putfield 50, 3) := by decide +kernel
theorem dX10_lay_27 : decode cX10_lay 27 = .ok (.aload_n 0, 1) := by decide +kernel
theorem dX10_lay_28 : decode cX10_lay 28 = .ok (.aload_n 0, 1) := by decide +kernel
theorem dX10_lay_29 : decode cX10_lay 29 = .ok (.getfield 94, 3) := by decide +kernel
theorem dX10_lay_32 : decode cX10_lay 32 = .ok (.putfield 61, 3) := by decide +kernel
theorem dX10_lay_35 : decode cX10_lay 35 = .ok (.aload_n 0, 1) := by decide +kernel
theorem dX10_lay_36 : decode cX10_lay 36 = .ok (.aload_n 0, 1) := by decide +kernel
theorem dX10_lay_37 : decode cX10_lay 37 = .ok (.getfield 115, 3) := by decide +kernel
theorem dX10_lay_40 : decode cX10_lay 40 = .ok (.putfield 64, 3) := by decide +kernel
theorem dX10_lay_43 : decode cX10_lay 43 = .ok (.aload_n 0, 1) := by decide +kernel
theorem dX10_lay_44 : decode cX10_lay 44 = .ok (.getfield 13, 3) := by decide +kernel
theorem dX10_lay_47 : decode cX10_lay 47 = .ok (.iconst 0, 1) := by decide +kernel
theorem dX10_lay_48 : decode cX10_lay 48 = .ok (.aload_n 0, 1) := by decide +kernel
theorem dX10_lay_49 : decode cX10_lay 49 = .ok (.getfield 22, 3) := by decide +kernel
theorem dX10_lay_52 : decode cX10_lay 52 = .ok (.iconst 0, 1) := by decide +kernel
theorem dX10_lay_53 : decode cX10_lay 53 = .ok (.bipush 24, 2) := by decide +kernel
theorem dX10_lay_55 : decode cX10_lay 55 = .ok (.invokestatic 126, 3) := by decide +kernel
theorem dX10_lay_58 : decode cX10_lay 58 = .ok (.aload_n 0, 1) := by decide +kernel
theorem dX10_lay_59 : decode cX10_lay 59 = .ok (.getfield 16, 3) := by decide +kernel
theorem dX10_lay_62 : decode cX10_lay 62 = .ok (.iconst 0, 1) := by decide +kernel
theorem dX10_lay_63 : decode cX10_lay 63 = .ok (.aload_n 0, 1) := by decide +kernel
theorem dX10_lay_64 : decode cX10_lay 64 = .ok (.getfield 25, 3) := by decide +kernel
theorem dX10_lay_67 : decode cX10_lay 67 = .ok (.iconst 0, 1) := by decide +kernel
theorem dX10_lay_68 : decode cX10_lay 68 = .ok (.bipush 40, 2) := by decide +kernel
theorem dX10_lay_70 : decode cX10_lay 70 = .ok (.invokestatic 126, 3) := by decide +kernel
theorem dX10_lay_73 : decode cX10_lay 73 = .ok (.iconst 0, 1) := by decide +kernel
theorem dX10_lay_74 : decode cX10_lay 74 = .ok (.istore_n 1, 1) := by decide +kernel
theorem dX10_lay_75 : decode cX10_lay 75 = .ok (.iload_n 1, 1) := by decide +kernel
theorem dX10_lay_76 : decode cX10_lay 76 = .ok (.bipush 17, 2) := by decide +kernel
theorem dX10_lay_78 : decode cX10_lay 78 = .ok (.if_icmp .ge 16, 3) := by decide +kernel
theorem dX10_lay_81 : decode cX10_lay 81 = .ok (.aload_n 0, 1) := by decide +kernel
theorem dX10_lay_82 : decode cX10_lay 82 = .ok (.getfield 28, 3) := by decide +kernel
theorem dX10_lay_85 : decode cX10_lay 85 = .ok (.iload_n 1, 1) := by decide +kernel
theorem dX10_lay_86 : decode cX10_lay 86 = .ok (.iconst 0, 1) := by decide +kernel
theorem dX10_lay_87 : decode cX10_lay 87 = .ok (.iastore, 1) := by decide +kernel
theorem dX10_lay_88 : decode cX10_lay 88 = .ok (.iinc 1 1, 3) := by decide +kernel
theorem dX10_lay_91 : decode cX10_lay 91 = .ok (.goto (-16), 3) := by decide +kernel
theorem dX10_lay_94 : decode cX10_lay 94 = .ok (.aload_n 0, 1) := by decide +kernel
theorem dX10_lay_95 : decode cX10_lay 95 = .ok (.getfield 19, 3) := by decide +kernel
theorem dX10_lay_98 : decode cX10_lay 98 = .ok (.iconst 0, 1) := by decide +kernel
theorem dX10_lay_99 : decode cX10_lay 99 = .ok (.aload_n 0, 1) := by decide +kernel
theorem dX10_lay_100 : decode cX10_lay 100 = .ok (.getfield 28, 3) := by decide +kernel
theorem dX10_lay_103 : decode cX10_lay 103 = .ok (.iconst 5, 1) := by decide +kernel
theorem dX10_lay_104 : decode cX10_lay 104 = .ok (.bipush 6, 2) := by decide +kernel
theorem dX10_lay_106 : decode cX10_lay 106 = .ok (.invokestatic 126, 3) := by decide +kernel
theorem dX10_lay_109 : decode cX10_lay 109 = .ok (.aload_n 0, 1) := by decide +kernel
theorem dX10_lay_110 : decode cX10_lay 110 = .ok (.iconst 0, 1) := by decide +kernel
theorem dX10_lay_111 : decode cX10_lay 111 = .ok (.putfield 130, 3) := by decide +kernel
theorem dX10_lay_114 : decode cX10_lay 114 = .ok (.aload_n 0, 1) := by decide +kernel
theorem dX10_lay_115 : decode cX10_lay 115 = .ok (.iconst 0, 1) := by decide +kernel
theorem dX10_lay_116 : decode cX10_lay 116 = .ok (.putfield 133, 3) := by decide +kernel
theorem dX10_lay_119 : decode cX10_lay 119 = .ok (.aload_n 0, 1) := by decide +kernel
theorem dX10_lay_120 : decode cX10_lay 120 = .ok (.iconst 0, 1) := by decide +kernel
theorem dX10_lay_121 : decode cX10_lay 121 = .ok (.putfield 136, 3) := by decide +kernel
theorem dX10_lay_124 : decode cX10_lay 124 = .ok (.aload_n 0, 1) := by decide +kernel
theorem dX10_lay_125 : decode cX10_lay 125 = .ok (.getfield 50, 3) := by decide +kernel
theorem dX10_lay_128 : decode cX10_lay 128 = .ok (.ireturn, 1) := by decide +kernel
theorem dX10_serves_0 : decode cX10_serves 0 = .ok (.aload_n 0, 1) := by decide +kernel
theorem dX10_serves_1 : decode cX10_serves 1 = .ok (.getfield 22, 3) := by decide +kernel
theorem dX10_serves_4 : decode cX10_serves 4 = .ok (.iconst 4, 1) := by decide +kernel
theorem dX10_serves_5 : decode cX10_serves 5 = .ok (.iload_n 1, 1) := by decide +kernel
theorem dX10_serves_6 : decode cX10_serves 6 = .ok (.imul, 1) := by decide +kernel
theorem dX10_serves_7 : decode cX10_serves 7 = .ok (.iconst 1, 1) := by decide +kernel
theorem dX10_serves_8 : decode cX10_serves 8 = .ok (.iadd, 1) := by decide +kernel
theorem dX10_serves_9 : decode cX10_serves 9 = .ok (.iaload, 1) := by decide +kernel
theorem dX10_serves_10 : decode cX10_serves 10 = .ok (.istore_n 3, 1) := by decide +kernel
theorem dX10_serves_11 : decode cX10_serves 11 = .ok (.iload_n 2, 1) := by decide +kernel
theorem dX10_serves_12 : decode cX10_serves 12 = .ok (.iload_n 3, 1) := by decide +kernel
theorem dX10_serves_13 : decode cX10_serves 13 = .ok (.if_icmp .eq 13, 3) := by decide +kernel
theorem dX10_serves_16 : decode cX10_serves 16 = .ok (.iload_n 2, 1) := by decide +kernel
theorem dX10_serves_17 : decode cX10_serves 17 = .ok (.iload_n 3, 1) := by decide +kernel
theorem dX10_serves_18 : decode cX10_serves 18 = .ok (.iconst 1, 1) := by decide +kernel
theorem dX10_serves_19 : decode cX10_serves 19 = .ok (.iadd, 1) := by decide +kernel
theorem dX10_serves_20 : decode cX10_serves 20 = .ok (.bipush 6, 2) := by decide +kernel
theorem dX10_serves_22 : decode cX10_serves 22 = .ok (.irem, 1) := by decide +kernel
theorem dX10_serves_23 : decode cX10_serves 23 = .ok (.if_icmp .ne 7, 3) := by decide +kernel
theorem dX10_serves_26 : decode cX10_serves 26 = .ok (.iconst 1, 1) := by decide +kernel
theorem dX10_serves_27 : decode cX10_serves 27 = .ok (.goto 4, 3) := by decide +kernel
theorem dX10_serves_30 : decode cX10_serves 30 = .ok (.iconst 0, 1) := by decide +kernel
theorem dX10_serves_31 : decode cX10_serves 31 = .ok (.ireturn, 1) := by decide +kernel
theorem dX10_wakes_0 : decode cX10_wakes 0 = .ok (.aload_n 0, 1) := by decide +kernel
theorem dX10_wakes_1 : decode cX10_wakes 1 = .ok (.getfield 22, 3) := by decide +kernel
theorem dX10_wakes_4 : decode cX10_wakes 4 = .ok (.iconst 4, 1) := by decide +kernel
theorem dX10_wakes_5 : decode cX10_wakes 5 = .ok (.iload_n 3, 1) := by decide +kernel
theorem dX10_wakes_6 : decode cX10_wakes 6 = .ok (.imul, 1) := by decide +kernel
theorem dX10_wakes_7 : decode cX10_wakes 7 = .ok (.iaload, 1) := by decide +kernel
theorem dX10_wakes_8 : decode cX10_wakes 8 = .ok (.istore 4, 2) := by decide +kernel
theorem dX10_wakes_10 : decode cX10_wakes 10 = .ok (.iload_n 1, 1) := by decide +kernel
theorem dX10_wakes_11 : decode cX10_wakes 11 = .ok (.iconst 1, 1) := by decide +kernel
theorem dX10_wakes_12 : decode cX10_wakes 12 = .ok (.if_icmp .ne 16, 3) := by decide +kernel
theorem dX10_wakes_15 : decode cX10_wakes 15 = .ok (.iload 4, 2) := by decide +kernel
theorem dX10_wakes_17 : decode cX10_wakes 17 = .ok (.ifCond .ne 7, 3) := by decide +kernel
theorem dX10_wakes_20 : decode cX10_wakes 20 = .ok (.iconst 1, 1) := by decide +kernel
theorem dX10_wakes_21 : decode cX10_wakes 21 = .ok (.goto 53, 3) := by decide +kernel
theorem dX10_wakes_24 : decode cX10_wakes 24 = .ok (.iconst 0, 1) := by decide +kernel
theorem dX10_wakes_25 : decode cX10_wakes 25 = .ok (.goto 49, 3) := by decide +kernel
theorem dX10_wakes_28 : decode cX10_wakes 28 = .ok (.iload_n 1, 1) := by decide +kernel
theorem dX10_wakes_29 : decode cX10_wakes 29 = .ok (.iconst 2, 1) := by decide +kernel
theorem dX10_wakes_30 : decode cX10_wakes 30 = .ok (.if_icmp .ne 17, 3) := by decide +kernel
theorem dX10_wakes_33 : decode cX10_wakes 33 = .ok (.iload 4, 2) := by decide +kernel
theorem dX10_wakes_35 : decode cX10_wakes 35 = .ok (.iconst 3, 1) := by decide +kernel
theorem dX10_wakes_36 : decode cX10_wakes 36 = .ok (.if_icmp .ne 7, 3) := by decide +kernel
theorem dX10_wakes_39 : decode cX10_wakes 39 = .ok (.iconst 1, 1) := by decide +kernel
theorem dX10_wakes_40 : decode cX10_wakes 40 = .ok (.goto 34, 3) := by decide +kernel
theorem dX10_wakes_43 : decode cX10_wakes 43 = .ok (.iconst 0, 1) := by decide +kernel
theorem dX10_wakes_44 : decode cX10_wakes 44 = .ok (.goto 30, 3) := by decide +kernel
theorem dX10_wakes_47 : decode cX10_wakes 47 = .ok (.iload_n 1, 1) := by decide +kernel
theorem dX10_wakes_48 : decode cX10_wakes 48 = .ok (.ifCond .ne 25, 3) := by decide +kernel
theorem dX10_wakes_51 : decode cX10_wakes 51 = .ok (.iload 4, 2) := by decide +kernel
theorem dX10_wakes_53 : decode cX10_wakes 53 = .ok (.iconst 2, 1) := by decide +kernel
theorem dX10_wakes_54 : decode cX10_wakes 54 = .ok (.if_icmp .eq 15, 3) := by decide +kernel
theorem dX10_wakes_57 : decode cX10_wakes 57 = .ok (.iload 4, 2) := by decide +kernel
theorem dX10_wakes_59 : decode cX10_wakes 59 = .ok (.iconst 1, 1) := by decide +kernel
theorem dX10_wakes_60 : decode cX10_wakes 60 = .ok (.if_icmp .ne 13, 3) := by decide +kernel
theorem dX10_wakes_63 : decode cX10_wakes 63 = .ok (.iload_n 2, 1) := by decide +kernel
theorem dX10_wakes_64 : decode cX10_wakes 64 = .ok (.bipush 10, 2) := by decide +kernel
theorem dX10_wakes_66 : decode cX10_wakes 66 = .ok (.if_icmp .le 7, 3) := by decide +kernel
theorem dX10_wakes_69 : decode cX10_wakes 69 = .ok (.iconst 1, 1) := by decide +kernel
theorem dX10_wakes_70 : decode cX10_wakes 70 = .ok (.goto 4, 3) := by decide +kernel
theorem dX10_wakes_73 : decode cX10_wakes 73 = .ok (.iconst 0, 1) := by decide +kernel
theorem dX10_wakes_74 : decode cX10_wakes 74 = .ok (.ireturn, 1) := by decide +kernel
theorem dX10_isDogNight_0 : decode cX10_isDogNight 0 = .ok (.aload_n 0, 1) := by decide +kernel
theorem dX10_isDogNight_1 : decode cX10_isDogNight 1 = .ok (.getfield 139, 3) := by decide +kernel
theorem dX10_isDogNight_4 : decode cX10_isDogNight 4 = .ok (.bipush (-4), 2) := by decide +kernel
theorem dX10_isDogNight_6 : decode cX10_isDogNight 6 = .ok (.if_icmp .ne 27, 3) := by decide +kernel
theorem dX10_isDogNight_9 : decode cX10_isDogNight 9 = .ok (.aload_n 0, 1) := by decide +kernel
theorem dX10_isDogNight_10 : decode cX10_isDogNight 10 = .ok (.getfield 64, 3) := by decide +kernel
theorem dX10_isDogNight_13 : decode cX10_isDogNight 13 = .ok (.ifCond .le 16, 3) := by decide +kernel
theorem dX10_isDogNight_16 : decode cX10_isDogNight 16 = .ok (.iload_n 1, 1) := by decide +kernel
theorem dX10_isDogNight_17 : decode cX10_isDogNight 17 = .ok (.aload_n 0, 1) := by decide +kernel
theorem dX10_isDogNight_18 : decode cX10_isDogNight 18 = .ok (.getfield 64, 3) := by decide +kernel
theorem dX10_isDogNight_21 : decode cX10_isDogNight 21 = .ok (.irem, 1) := by decide +kernel
theorem dX10_isDogNight_22 : decode cX10_isDogNight 22 = .ok (.ifCond .ne 7, 3) := by decide +kernel
theorem dX10_isDogNight_25 : decode cX10_isDogNight 25 = .ok (.iconst 1, 1) := by decide +kernel
theorem dX10_isDogNight_26 : decode cX10_isDogNight 26 = .ok (.goto 20, 3) := by decide +kernel
theorem dX10_isDogNight_29 : decode cX10_isDogNight 29 = .ok (.iconst 0, 1) := by decide +kernel
theorem dX10_isDogNight_30 : decode cX10_isDogNight 30 = .ok (.goto 16, 3) := by decide +kernel
theorem dX10_isDogNight_33 : decode cX10_isDogNight 33 = .ok (.aload_n 0, 1) := by decide +kernel
theorem dX10_isDogNight_34 : decode cX10_isDogNight 34 = .ok (.getfield 139, 3) := by decide +kernel
theorem dX10_isDogNight_37 : decode cX10_isDogNight 37 = .ok (.iconst 1, 1) := by decide +kernel
theorem dX10_isDogNight_38 : decode cX10_isDogNight 38 = .ok (.if_icmp .ne 7, 3) := by decide +kernel
theorem dX10_isDogNight_41 : decode cX10_isDogNight 41 = .ok (.iconst 1, 1) := by decide +kernel
theorem dX10_isDogNight_42 : decode cX10_isDogNight 42 = .ok (.goto 4, 3) := by decide +kernel
theorem dX10_isDogNight_45 : decode cX10_isDogNight 45 = .ok (.iconst 0, 1) := by decide +kernel
theorem dX10_isDogNight_46 : decode cX10_isDogNight 46 = .ok (.ireturn, 1) := by decide +kernel
theorem dX10_layWalks_0 : decode cX10_layWalks 0 = .ok (.aload_n 0, 1) := by decide +kernel
theorem dX10_layWalks_1 : decode cX10_layWalks 1 = .ok (.iconst 0, 1) := by decide +kernel
theorem dX10_layWalks_2 : decode cX10_layWalks 2 = .ok (.putfield 142, 3) := by decide +kernel
theorem dX10_layWalks_5 : decode cX10_layWalks 5 = .ok (.iconst 0, 1) := by decide +kernel
theorem dX10_layWalks_6 : decode cX10_layWalks 6 = .ok (.istore_n 2, 1) := by decide +kernel
theorem dX10_layWalks_7 : decode cX10_layWalks 7 = .ok (.iload_n 2, 1) := by decide +kernel
theorem dX10_layWalks_8 : decode cX10_layWalks 8 = .ok (.aload_n 0, 1) := by decide +kernel
theorem dX10_layWalks_9 : decode cX10_layWalks 9 = .ok (.getfield 50, 3) := by decide +kernel
theorem dX10_layWalks_12 : decode cX10_layWalks 12 = .ok (.if_icmp .ge 110, 3) := by decide +kernel
theorem dX10_layWalks_15 : decode cX10_layWalks 15 = .ok (.aload_n 0, 1) := by decide +kernel
theorem dX10_layWalks_16 : decode cX10_layWalks 16 = .ok (.getfield 22, 3) := by decide +kernel
theorem dX10_layWalks_19 : decode cX10_layWalks 19 = .ok (.iconst 4, 1) := by decide +kernel
theorem dX10_layWalks_20 : decode cX10_layWalks 20 = .ok (.iload_n 2, 1) := by decide +kernel
theorem dX10_layWalks_21 : decode cX10_layWalks 21 = .ok (.imul, 1) := by decide +kernel
theorem dX10_layWalks_22 : decode cX10_layWalks 22 = .ok (.iconst 2, 1) := by decide +kernel
theorem dX10_layWalks_23 : decode cX10_layWalks 23 = .ok (.iadd, 1) := by decide +kernel
theorem dX10_layWalks_24 : decode cX10_layWalks 24 = .ok (.iaload, 1) := by decide +kernel
theorem dX10_layWalks_25 : decode cX10_layWalks 25 = .ok (.istore_n 3, 1) := by decide +kernel
theorem dX10_layWalks_26 : decode cX10_layWalks 26 = .ok (.aload_n 1, 1) := by decide +kernel
theorem dX10_layWalks_27 : decode cX10_layWalks 27 = .ok (.iconst 0, 1) := by decide +kernel
theorem dX10_layWalks_28 : decode cX10_layWalks 28 = .ok (.iaload, 1) := by decide +kernel
theorem dX10_layWalks_29 : decode cX10_layWalks 29 = .ok (.iload_n 3, 1) := by decide +kernel
theorem dX10_layWalks_30 : decode cX10_layWalks 30 = .ok (.irem, 1) := by decide +kernel
theorem dX10_layWalks_31 : decode cX10_layWalks 31 = .ok (.aload_n 0, 1) := by decide +kernel
theorem dX10_layWalks_32 : decode cX10_layWalks 32 = .ok (.getfield 22, 3) := by decide +kernel
theorem dX10_layWalks_35 : decode cX10_layWalks 35 = .ok (.iconst 4, 1) := by decide +kernel
theorem dX10_layWalks_36 : decode cX10_layWalks 36 = .ok (.iload_n 2, 1) := by decide +kernel
theorem dX10_layWalks_37 : decode cX10_layWalks 37 = .ok (.imul, 1) := by decide +kernel
theorem dX10_layWalks_38 : decode cX10_layWalks 38 = .ok (.iconst 3, 1) := by decide +kernel
theorem dX10_layWalks_39 : decode cX10_layWalks 39 = .ok (.iadd, 1) := by decide +kernel
theorem dX10_layWalks_40 : decode cX10_layWalks 40 = .ok (.iaload, 1) := by decide +kernel
theorem dX10_layWalks_41 : decode cX10_layWalks 41 = .ok (.iload_n 3, 1) := by decide +kernel
theorem dX10_layWalks_42 : decode cX10_layWalks 42 = .ok (.irem, 1) := by decide +kernel
theorem dX10_layWalks_43 : decode cX10_layWalks 43 = .ok (.if_icmp .ne 36, 3) := by decide +kernel
theorem dX10_layWalks_46 : decode cX10_layWalks 46 = .ok (.aload_n 0, 1) := by decide +kernel
theorem dX10_layWalks_47 : decode cX10_layWalks 47 = .ok (.aload_n 1, 1) := by decide +kernel
theorem dX10_layWalks_48 : decode cX10_layWalks 48 = .ok (.iconst 0, 1) := by decide +kernel
theorem dX10_layWalks_49 : decode cX10_layWalks 49 = .ok (.iaload, 1) := by decide +kernel
theorem dX10_layWalks_50 : decode cX10_layWalks 50 = .ok (.invokevirtual 145, 3) := by decide +kernel
theorem dX10_layWalks_53 : decode cX10_layWalks 53 = .ok (.ifCond .ne 26, 3) := by decide +kernel
theorem dX10_layWalks_56 : decode cX10_layWalks 56 = .ok (.aload_n 1, 1) := by decide +kernel
theorem dX10_layWalks_57 : decode cX10_layWalks 57 = .ok (.bipush 11, 2) := by decide +kernel
theorem dX10_layWalks_59 : decode cX10_layWalks 59 = .ok (.iload_n 2, 1) := by decide +kernel
theorem dX10_layWalks_60 : decode cX10_layWalks 60 = .ok (.iadd, 1) := by decide +kernel
theorem dX10_layWalks_61 : decode cX10_layWalks 61 = .ok (.iaload, 1) := by decide +kernel
theorem dX10_layWalks_62 : decode cX10_layWalks 62 = .ok (.ifCond .ne 17, 3) := by decide +kernel
theorem dX10_layWalks_65 : decode cX10_layWalks 65 = .ok (.aload_n 1, 1) := by decide +kernel
theorem dX10_layWalks_66 : decode cX10_layWalks 66 = .ok (.iconst 4, 1) := by decide +kernel
theorem dX10_layWalks_67 : decode cX10_layWalks 67 = .ok (.iaload, 1) := by decide +kernel
theorem dX10_layWalks_68 : decode cX10_layWalks 68 = .ok (.iload_n 2, 1) := by decide +kernel
theorem dX10_layWalks_69 : decode cX10_layWalks 69 = .ok (.invokestatic 107, 3) := by decide +kernel
theorem dX10_layWalks_72 : decode cX10_layWalks 72 = .ok (.ifCond .ne 7, 3) := by decide +kernel
theorem dX10_layWalks_75 : decode cX10_layWalks 75 = .ok (.iconst 1, 1) := by decide +kernel
theorem dX10_layWalks_76 : decode cX10_layWalks 76 = .ok (.goto 4, 3) := by decide +kernel
theorem dX10_layWalks_79 : decode cX10_layWalks 79 = .ok (.iconst 0, 1) := by decide +kernel
theorem dX10_layWalks_80 : decode cX10_layWalks 80 = .ok (.istore 4, 2) := by decide +kernel
theorem dX10_layWalks_82 : decode cX10_layWalks 82 = .ok (.aload_n 0, 1) := by decide +kernel
theorem dX10_layWalks_83 : decode cX10_layWalks 83 = .ok (.aload_n 0, 1) := by decide +kernel
theorem dX10_layWalks_84 : decode cX10_layWalks 84 = .ok (.getfield 142, 3) := by decide +kernel
theorem dX10_layWalks_87 : decode cX10_layWalks 87 = .ok (.iload 4, 2) := by decide +kernel
theorem dX10_layWalks_89 : decode cX10_layWalks 89 = .ok (.ifCond .eq 22, 3) := by decide +kernel
theorem dX10_layWalks_92 : decode cX10_layWalks 92 = .ok (.aload_n 1, 1) := by decide +kernel
theorem dX10_layWalks_93 : decode cX10_layWalks 93 = .ok (.iconst 5, 1) := by decide +kernel
theorem dX10_layWalks_94 : decode cX10_layWalks 94 = .ok (.iload_n 2, 1) := by decide +kernel
theorem dX10_layWalks_95 : decode cX10_layWalks 95 = .ok (.iadd, 1) := by decide +kernel
theorem dX10_layWalks_96 : decode cX10_layWalks 96 = .ok (.iaload, 1) := by decide +kernel
theorem dX10_layWalks_97 : decode cX10_layWalks 97 = .ok (.aload_n 0, 1) := by decide +kernel
theorem dX10_layWalks_98 : decode cX10_layWalks 98 = .ok (.getfield 142, 3) := by decide +kernel
theorem dX10_layWalks_101 : decode cX10_layWalks 101 = .ok (.iand, 1) := by decide +kernel
theorem dX10_layWalks_102 : decode cX10_layWalks 102 = .ok (.ifCond .ne 9, 3) := by decide +kernel
theorem dX10_layWalks_105 : decode cX10_layWalks 105 = .ok (.iconst 1, 1) := by decide +kernel
theorem dX10_layWalks_106 : decode cX10_layWalks 106 = .ok (.iload_n 2, 1) := by decide +kernel
theorem dX10_layWalks_107 : decode cX10_layWalks 107 = .ok (.ishl, 1) := by decide +kernel
theorem dX10_layWalks_108 : decode cX10_layWalks 108 = .ok (.goto 4, 3) := by decide +kernel
theorem dX10_layWalks_111 : decode cX10_layWalks 111 = .ok (.iconst 0, 1) := by decide +kernel
theorem dX10_layWalks_112 : decode cX10_layWalks 112 = .ok (.ior, 1) := by decide +kernel
theorem dX10_layWalks_113 : decode cX10_layWalks 113 = .ok (.putfield 142, 3) := by decide +kernel
theorem dX10_layWalks_116 : decode cX10_layWalks 116 = .ok (.iinc 2 1, 3) := by decide +kernel
theorem dX10_layWalks_119 : decode cX10_layWalks 119 = .ok (.goto (-112), 3) := by decide +kernel
theorem dX10_layWalks_122 : decode cX10_layWalks 122 = .ok (.return_, 1) := by decide +kernel
theorem dX10_layNight_0 : decode cX10_layNight 0 = .ok (.aload_n 0, 1) := by decide +kernel
theorem dX10_layNight_1 : decode cX10_layNight 1 = .ok (.aload_n 1, 1) := by decide +kernel
theorem dX10_layNight_2 : decode cX10_layNight 2 = .ok (.invokevirtual 148, 3) := by decide +kernel
theorem dX10_layNight_5 : decode cX10_layNight 5 = .ok (.aload_n 0, 1) := by decide +kernel
theorem dX10_layNight_6 : decode cX10_layNight 6 = .ok (.iconst 0, 1) := by decide +kernel
theorem dX10_layNight_7 : decode cX10_layNight 7 = .ok (.putfield 152, 3) := by decide +kernel
theorem dX10_layNight_10 : decode cX10_layNight 10 = .ok (.aload_n 0, 1) := by decide +kernel
theorem dX10_layNight_11 : decode cX10_layNight 11 = .ok (.iconst 0, 1) := by decide +kernel
theorem dX10_layNight_12 : decode cX10_layNight 12 = .ok (.putfield 155, 3) := by decide +kernel
theorem dX10_layNight_15 : decode cX10_layNight 15 = .ok (.aload_n 0, 1) := by decide +kernel
theorem dX10_layNight_16 : decode cX10_layNight 16 = .ok (.bipush (-4), 2) := by decide +kernel
theorem dX10_layNight_18 : decode cX10_layNight 18 = .ok (.putfield 158, 3) := by decide +kernel
theorem dX10_layNight_21 : decode cX10_layNight 21 = .ok (.aload_n 0, 1) := by decide +kernel
theorem dX10_layNight_22 : decode cX10_layNight 22 = .ok (.iconst 0, 1) := by decide +kernel
theorem dX10_layNight_23 : decode cX10_layNight 23 = .ok (.putfield 161, 3) := by decide +kernel
theorem dX10_layNight_26 : decode cX10_layNight 26 = .ok (.iconst 0, 1) := by decide +kernel
theorem dX10_layNight_27 : decode cX10_layNight 27 = .ok (.istore 4, 2) := by decide +kernel
theorem dX10_layNight_29 : decode cX10_layNight 29 = .ok (.iload 4, 2) := by decide +kernel
theorem dX10_layNight_31 : decode cX10_layNight 31 = .ok (.aload_n 0, 1) := by decide +kernel
theorem dX10_layNight_32 : decode cX10_layNight 32 = .ok (.getfield 61, 3) := by decide +kernel
theorem dX10_layNight_35 : decode cX10_layNight 35 = .ok (.if_icmp .ge 312, 3) := by decide +kernel
theorem dX10_layNight_38 : decode cX10_layNight 38 = .ok (.aload_n 0, 1) := by decide +kernel
theorem dX10_layNight_39 : decode cX10_layNight 39 = .ok (.getfield 25, 3) := by decide +kernel
theorem dX10_layNight_42 : decode cX10_layNight 42 = .ok (.iconst 4, 1) := by decide +kernel
theorem dX10_layNight_43 : decode cX10_layNight 43 = .ok (.iload 4, 2) := by decide +kernel
theorem dX10_layNight_45 : decode cX10_layNight 45 = .ok (.imul, 1) := by decide +kernel
theorem dX10_layNight_46 : decode cX10_layNight 46 = .ok (.iaload, 1) := by decide +kernel
theorem dX10_layNight_47 : decode cX10_layNight 47 = .ok (.aload_n 1, 1) := by decide +kernel
theorem dX10_layNight_48 : decode cX10_layNight 48 = .ok (.iconst 0, 1) := by decide +kernel
theorem dX10_layNight_49 : decode cX10_layNight 49 = .ok (.iaload, 1) := by decide +kernel
theorem dX10_layNight_50 : decode cX10_layNight 50 = .ok (.bipush 14, 2) := by decide +kernel
theorem dX10_layNight_52 : decode cX10_layNight 52 = .ok (.irem, 1) := by decide +kernel
theorem dX10_layNight_53 : decode cX10_layNight 53 = .ok (.if_icmp .ne 7, 3) := by decide +kernel
theorem dX10_layNight_56 : decode cX10_layNight 56 = .ok (.iconst 1, 1) := by decide +kernel
theorem dX10_layNight_57 : decode cX10_layNight 57 = .ok (.goto 4, 3) := by decide +kernel
theorem dX10_layNight_60 : decode cX10_layNight 60 = .ok (.iconst 0, 1) := by decide +kernel
theorem dX10_layNight_61 : decode cX10_layNight 61 = .ok (.istore 5, 2) := by decide +kernel
theorem dX10_layNight_63 : decode cX10_layNight 63 = .ok (.iload 4, 2) := by decide +kernel
theorem dX10_layNight_65 : decode cX10_layNight 65 = .ok (.iload_n 2, 1) := by decide +kernel
theorem dX10_layNight_66 : decode cX10_layNight 66 = .ok (.if_icmp .ne 7, 3) := by decide +kernel
theorem dX10_layNight_69 : decode cX10_layNight 69 = .ok (.iload_n 3, 1) := by decide +kernel
theorem dX10_layNight_70 : decode cX10_layNight 70 = .ok (.goto 14, 3) := by decide +kernel
theorem dX10_layNight_73 : decode cX10_layNight 73 = .ok (.aload_n 0, 1) := by decide +kernel
theorem dX10_layNight_74 : decode cX10_layNight 74 = .ok (.getfield 25, 3) := by decide +kernel
theorem dX10_layNight_77 : decode cX10_layNight 77 = .ok (.iconst 4, 1) := by decide +kernel
theorem dX10_layNight_78 : decode cX10_layNight 78 = .ok (.iload 4, 2) := by decide +kernel
theorem dX10_layNight_80 : decode cX10_layNight 80 = .ok (.imul, 1) := by decide +kernel
theorem dX10_layNight_81 : decode cX10_layNight 81 = .ok (.iconst 2, 1) := by decide +kernel
theorem dX10_layNight_82 : decode cX10_layNight 82 = .ok (.iadd, 1) := by decide +kernel
theorem dX10_layNight_83 : decode cX10_layNight 83 = .ok (.iaload, 1) := by decide +kernel
theorem dX10_layNight_84 : decode cX10_layNight 84 = .ok (.istore 6, 2) := by decide +kernel
theorem dX10_layNight_86 : decode cX10_layNight 86 = .ok (.aload_n 0, 1) := by decide +kernel
theorem dX10_layNight_87 : decode cX10_layNight 87 = .ok (.getfield 152, 3) := by decide +kernel
theorem dX10_layNight_90 : decode cX10_layNight 90 = .ok (.istore 7, 2) := by decide +kernel
theorem dX10_layNight_92 : decode cX10_layNight 92 = .ok (.aload_n 0, 1) := by decide +kernel
theorem dX10_layNight_93 : decode cX10_layNight 93 = .ok (.getfield 43, 3) := by decide +kernel
theorem dX10_layNight_96 : decode cX10_layNight 96 = .ok (.iload 4, 2) := by decide +kernel
theorem dX10_layNight_98 : decode cX10_layNight 98 = .ok (.bipush (-4), 2) := by decide +kernel
theorem dX10_layNight_100 : decode cX10_layNight 100 = .ok (.iastore, 1) := by decide +kernel
theorem dX10_layNight_101 : decode cX10_layNight 101 = .ok (.iconst 0, 1) := by decide +kernel
theorem dX10_layNight_102 : decode cX10_layNight 102 = .ok (.istore 8, 2) := by decide +kernel
theorem dX10_layNight_104 : decode cX10_layNight 104 = .ok (.iload 8, 2) := by decide +kernel
theorem dX10_layNight_106 : decode cX10_layNight 106 = .ok (.aload_n 0, 1) := by decide +kernel
theorem dX10_layNight_107 : decode cX10_layNight 107 = .ok (.getfield 50, 3) := by decide +kernel
theorem dX10_layNight_110 : decode cX10_layNight 110 = .ok (.if_icmp .ge 127, 3) := by decide +kernel
theorem dX10_layNight_113 : decode cX10_layNight 113 = .ok (.iload 5, 2) := by decide +kernel
theorem dX10_layNight_115 : decode cX10_layNight 115 = .ok (.ifCond .eq 122, 3) := by decide +kernel
theorem dX10_layNight_118 : decode cX10_layNight 118 = .ok (.aload_n 0, 1) := by decide +kernel
theorem dX10_layNight_119 : decode cX10_layNight 119 = .ok (.getfield 43, 3) := by decide +kernel
theorem dX10_layNight_122 : decode cX10_layNight 122 = .ok (.iload 4, 2) := by decide +kernel
theorem dX10_layNight_124 : decode cX10_layNight 124 = .ok (.iaload, 1) := by decide +kernel
theorem dX10_layNight_125 : decode cX10_layNight 125 = .ok (.bipush (-4), 2) := by decide +kernel
theorem dX10_layNight_127 : decode cX10_layNight 127 = .ok (.if_icmp .ne 110, 3) := by decide +kernel
theorem dX10_layNight_130 : decode cX10_layNight 130 = .ok (.aload_n 0, 1) := by decide +kernel
theorem dX10_layNight_131 : decode cX10_layNight 131 = .ok (.getfield 142, 3) := by decide +kernel
theorem dX10_layNight_134 : decode cX10_layNight 134 = .ok (.aload_n 0, 1) := by decide +kernel
theorem dX10_layNight_135 : decode cX10_layNight 135 = .ok (.getfield 152, 3) := by decide +kernel
theorem dX10_layNight_138 : decode cX10_layNight 138 = .ok (.iconst (-1), 1) := by decide +kernel
theorem dX10_layNight_139 : decode cX10_layNight 139 = .ok (.ixor, 1) := by decide +kernel
theorem dX10_layNight_140 : decode cX10_layNight 140 = .ok (.iand, 1) := by decide +kernel
theorem dX10_layNight_141 : decode cX10_layNight 141 = .ok (.iload 8, 2) := by decide +kernel
theorem dX10_layNight_143 : decode cX10_layNight 143 = .ok (.invokestatic 107, 3) := by decide +kernel
theorem dX10_layNight_146 : decode cX10_layNight 146 = .ok (.ifCond .eq 85, 3) := by decide +kernel
theorem dX10_layNight_149 : decode cX10_layNight 149 = .ok (.aload_n 0, 1) := by decide +kernel
theorem dX10_layNight_150 : decode cX10_layNight 150 = .ok (.iload 8, 2) := by decide +kernel
theorem dX10_layNight_152 : decode cX10_layNight 152 = .ok (.aload_n 0, 1) := by decide +kernel
theorem dX10_layNight_153 : decode cX10_layNight 153 = .ok (.getfield 25, 3) := by decide +kernel
theorem dX10_layNight_156 : decode cX10_layNight 156 = .ok (.iconst 4, 1) := by decide +kernel
theorem dX10_layNight_157 : decode cX10_layNight 157 = .ok (.iload 4, 2) := by decide +kernel
theorem dX10_layNight_159 : decode cX10_layNight 159 = .ok (.imul, 1) := by decide +kernel
theorem dX10_layNight_160 : decode cX10_layNight 160 = .ok (.iconst 1, 1) := by decide +kernel
theorem dX10_layNight_161 : decode cX10_layNight 161 = .ok (.iadd, 1) := by decide +kernel
theorem dX10_layNight_162 : decode cX10_layNight 162 = .ok (.iaload, 1) := by decide +kernel
theorem dX10_layNight_163 : decode cX10_layNight 163 = .ok (.invokevirtual 164, 3) := by decide +kernel
theorem dX10_layNight_166 : decode cX10_layNight 166 = .ok (.ifCond .eq 65, 3) := by decide +kernel
theorem dX10_layNight_169 : decode cX10_layNight 169 = .ok (.aload_n 0, 1) := by decide +kernel
theorem dX10_layNight_170 : decode cX10_layNight 170 = .ok (.iload 6, 2) := by decide +kernel
theorem dX10_layNight_172 : decode cX10_layNight 172 = .ok (.aload_n 0, 1) := by decide +kernel
theorem dX10_layNight_173 : decode cX10_layNight 173 = .ok (.getfield 25, 3) := by decide +kernel
theorem dX10_layNight_176 : decode cX10_layNight 176 = .ok (.iconst 4, 1) := by decide +kernel
theorem dX10_layNight_177 : decode cX10_layNight 177 = .ok (.iload 4, 2) := by decide +kernel
theorem dX10_layNight_179 : decode cX10_layNight 179 = .ok (.imul, 1) := by decide +kernel
theorem dX10_layNight_180 : decode cX10_layNight 180 = .ok (.iconst 3, 1) := by decide +kernel
theorem dX10_layNight_181 : decode cX10_layNight 181 = .ok (.iadd, 1) := by decide +kernel
theorem dX10_layNight_182 : decode cX10_layNight 182 = .ok (.iaload, 1) := by decide +kernel
theorem dX10_layNight_183 : decode cX10_layNight 183 = .ok (.iload 8, 2) := by decide +kernel
theorem dX10_layNight_185 : decode cX10_layNight 185 = .ok (.invokevirtual 167, 3) := by decide +kernel
theorem dX10_layNight_188 : decode cX10_layNight 188 = .ok (.istore 9, 2) := by decide +kernel
theorem dX10_layNight_190 : decode cX10_layNight 190 = .ok (.aload_n 0, 1) := by decide +kernel
theorem dX10_layNight_191 : decode cX10_layNight 191 = .ok (.aload_n 0, 1) := by decide +kernel
theorem dX10_layNight_192 : decode cX10_layNight 192 = .ok (.getfield 152, 3) := by decide +kernel
theorem dX10_layNight_195 : decode cX10_layNight 195 = .ok (.iload 9, 2) := by decide +kernel
theorem dX10_layNight_197 : decode cX10_layNight 197 = .ok (.ifCond .eq 10, 3) := by decide +kernel
theorem dX10_layNight_200 : decode cX10_layNight 200 = .ok (.iconst 1, 1) := by decide +kernel
theorem dX10_layNight_201 : decode cX10_layNight 201 = .ok (.iload 8, 2) := by decide +kernel
theorem dX10_layNight_203 : decode cX10_layNight 203 = .ok (.ishl, 1) := by decide +kernel
theorem dX10_layNight_204 : decode cX10_layNight 204 = .ok (.goto 4, 3) := by decide +kernel
theorem dX10_layNight_207 : decode cX10_layNight 207 = .ok (.iconst 0, 1) := by decide +kernel
theorem dX10_layNight_208 : decode cX10_layNight 208 = .ok (.ior, 1) := by decide +kernel
theorem dX10_layNight_209 : decode cX10_layNight 209 = .ok (.putfield 152, 3) := by decide +kernel
theorem dX10_layNight_212 : decode cX10_layNight 212 = .ok (.aload_n 0, 1) := by decide +kernel
theorem dX10_layNight_213 : decode cX10_layNight 213 = .ok (.getfield 43, 3) := by decide +kernel
theorem dX10_layNight_216 : decode cX10_layNight 216 = .ok (.iload 4, 2) := by decide +kernel
theorem dX10_layNight_218 : decode cX10_layNight 218 = .ok (.iload 9, 2) := by decide +kernel
theorem dX10_layNight_220 : decode cX10_layNight 220 = .ok (.ifCond .eq 8, 3) := by decide +kernel
theorem dX10_layNight_223 : decode cX10_layNight 223 = .ok (.bipush (-4), 2) := by decide +kernel
theorem dX10_layNight_225 : decode cX10_layNight 225 = .ok (.goto 5, 3) := by decide +kernel
theorem dX10_layNight_228 : decode cX10_layNight 228 = .ok (.iload 8, 2) := by decide +kernel
theorem dX10_layNight_230 : decode cX10_layNight 230 = .ok (.iastore, 1) := by decide +kernel
theorem dX10_layNight_231 : decode cX10_layNight 231 = .ok (.iinc 8 1, 3) := by decide +kernel
theorem dX10_layNight_234 : decode cX10_layNight 234 = .ok (.goto (-130), 3) := by decide +kernel
theorem dX10_layNight_237 : decode cX10_layNight 237 = .ok (.aload_n 0, 1) := by decide +kernel
theorem dX10_layNight_238 : decode cX10_layNight 238 = .ok (.dup, 1) := by decide +kernel
theorem dX10_layNight_239 : decode cX10_layNight 239 = .ok (.getfield 155, 3) := by decide +kernel
theorem dX10_layNight_242 : decode cX10_layNight 242 = .ok (.aload_n 0, 1) := by decide +kernel
theorem dX10_layNight_243 : decode cX10_layNight 243 = .ok (.getfield 43, 3) := by decide +kernel
theorem dX10_layNight_246 : decode cX10_layNight 246 = .ok (.iload 4, 2) := by decide +kernel
theorem dX10_layNight_248 : decode cX10_layNight 248 = .ok (.iaload, 1) := by decide +kernel
theorem dX10_layNight_249 : decode cX10_layNight 249 = .ok (.bipush (-4), 2) := by decide +kernel
theorem dX10_layNight_251 : decode cX10_layNight 251 = .ok (.if_icmp .ne 7, 3) := by decide +kernel
theorem dX10_layNight_254 : decode cX10_layNight 254 = .ok (.iconst 0, 1) := by decide +kernel
theorem dX10_layNight_255 : decode cX10_layNight 255 = .ok (.goto 4, 3) := by decide +kernel
theorem dX10_layNight_258 : decode cX10_layNight 258 = .ok (.iconst 1, 1) := by decide +kernel
theorem dX10_layNight_259 : decode cX10_layNight 259 = .ok (.iadd, 1) := by decide +kernel
theorem dX10_layNight_260 : decode cX10_layNight 260 = .ok (.putfield 155, 3) := by decide +kernel
theorem dX10_layNight_263 : decode cX10_layNight 263 = .ok (.aload_n 0, 1) := by decide +kernel
theorem dX10_layNight_264 : decode cX10_layNight 264 = .ok (.iload 5, 2) := by decide +kernel
theorem dX10_layNight_266 : decode cX10_layNight 266 = .ok (.ifCond .eq 29, 3) := by decide +kernel
theorem dX10_layNight_269 : decode cX10_layNight 269 = .ok (.aload_n 0, 1) := by decide +kernel
theorem dX10_layNight_270 : decode cX10_layNight 270 = .ok (.getfield 43, 3) := by decide +kernel
theorem dX10_layNight_273 : decode cX10_layNight 273 = .ok (.iload 4, 2) := by decide +kernel
theorem dX10_layNight_275 : decode cX10_layNight 275 = .ok (.iaload, 1) := by decide +kernel
theorem dX10_layNight_276 : decode cX10_layNight 276 = .ok (.bipush (-4), 2) := by decide +kernel
theorem dX10_layNight_278 : decode cX10_layNight 278 = .ok (.if_icmp .ne 17, 3) := by decide +kernel
theorem dX10_layNight_281 : decode cX10_layNight 281 = .ok (.aload_n 0, 1) := by decide +kernel
theorem dX10_layNight_282 : decode cX10_layNight 282 = .ok (.getfield 158, 3) := by decide +kernel
theorem dX10_layNight_285 : decode cX10_layNight 285 = .ok (.bipush (-4), 2) := by decide +kernel
theorem dX10_layNight_287 : decode cX10_layNight 287 = .ok (.if_icmp .ne 8, 3) := by decide +kernel
theorem dX10_layNight_290 : decode cX10_layNight 290 = .ok (.iload 4, 2) := by decide +kernel
theorem dX10_layNight_292 : decode cX10_layNight 292 = .ok (.goto 7, 3) := by decide +kernel
theorem dX10_layNight_295 : decode cX10_layNight 295 = .ok (.aload_n 0, 1) := by decide +kernel
theorem dX10_layNight_296 : decode cX10_layNight 296 = .ok (.getfield 158, 3) := by decide +kernel
theorem dX10_layNight_299 : decode cX10_layNight 299 = .ok (.putfield 158, 3) := by decide +kernel
theorem dX10_layNight_302 : decode cX10_layNight 302 = .ok (.aload_n 0, 1) := by decide +kernel
theorem dX10_layNight_303 : decode cX10_layNight 303 = .ok (.iload 4, 2) := by decide +kernel
theorem dX10_layNight_305 : decode cX10_layNight 305 = .ok (.iload_n 2, 1) := by decide +kernel
theorem dX10_layNight_306 : decode cX10_layNight 306 = .ok (.if_icmp .ne 28, 3) := by decide +kernel
theorem dX10_layNight_309 : decode cX10_layNight 309 = .ok (.aload_n 0, 1) := by decide +kernel
theorem dX10_layNight_310 : decode cX10_layNight 310 = .ok (.getfield 43, 3) := by decide +kernel
theorem dX10_layNight_313 : decode cX10_layNight 313 = .ok (.iload 4, 2) := by decide +kernel
theorem dX10_layNight_315 : decode cX10_layNight 315 = .ok (.iaload, 1) := by decide +kernel
theorem dX10_layNight_316 : decode cX10_layNight 316 = .ok (.bipush (-4), 2) := by decide +kernel
theorem dX10_layNight_318 : decode cX10_layNight 318 = .ok (.if_icmp .eq 16, 3) := by decide +kernel
theorem dX10_layNight_321 : decode cX10_layNight 321 = .ok (.aload_n 0, 1) := by decide +kernel
theorem dX10_layNight_322 : decode cX10_layNight 322 = .ok (.getfield 152, 3) := by decide +kernel
theorem dX10_layNight_325 : decode cX10_layNight 325 = .ok (.iload 7, 2) := by decide +kernel
theorem dX10_layNight_327 : decode cX10_layNight 327 = .ok (.if_icmp .ne 7, 3) := by decide +kernel
theorem dX10_layNight_330 : decode cX10_layNight 330 = .ok (.iconst 1, 1) := by decide +kernel
theorem dX10_layNight_331 : decode cX10_layNight 331 = .ok (.goto 7, 3) := by decide +kernel
theorem dX10_layNight_334 : decode cX10_layNight 334 = .ok (.aload_n 0, 1) := by decide +kernel
theorem dX10_layNight_335 : decode cX10_layNight 335 = .ok (.getfield 161, 3) := by decide +kernel
theorem dX10_layNight_338 : decode cX10_layNight 338 = .ok (.putfield 161, 3) := by decide +kernel
theorem dX10_layNight_341 : decode cX10_layNight 341 = .ok (.iinc 4 1, 3) := by decide +kernel
theorem dX10_layNight_344 : decode cX10_layNight 344 = .ok (.goto (-315), 3) := by decide +kernel
theorem dX10_layNight_347 : decode cX10_layNight 347 = .ok (.return_, 1) := by decide +kernel
theorem dX10_goBy_0 : decode cX10_goBy 0 = .ok (.aload_n 0, 1) := by decide +kernel
theorem dX10_goBy_1 : decode cX10_goBy 1 = .ok (.aload_n 1, 1) := by decide +kernel
theorem dX10_goBy_2 : decode cX10_goBy 2 = .ok (.bipush (-4), 2) := by decide +kernel
theorem dX10_goBy_4 : decode cX10_goBy 4 = .ok (.iconst 0, 1) := by decide +kernel
theorem dX10_goBy_5 : decode cX10_goBy 5 = .ok (.invokevirtual 170, 3) := by decide +kernel
theorem dX10_goBy_8 : decode cX10_goBy 8 = .ok (.iconst 0, 1) := by decide +kernel
theorem dX10_goBy_9 : decode cX10_goBy 9 = .ok (.istore_n 2, 1) := by decide +kernel
theorem dX10_goBy_10 : decode cX10_goBy 10 = .ok (.iconst 0, 1) := by decide +kernel
theorem dX10_goBy_11 : decode cX10_goBy 11 = .ok (.istore_n 3, 1) := by decide +kernel
theorem dX10_goBy_12 : decode cX10_goBy 12 = .ok (.iload_n 3, 1) := by decide +kernel
theorem dX10_goBy_13 : decode cX10_goBy 13 = .ok (.aload_n 0, 1) := by decide +kernel
theorem dX10_goBy_14 : decode cX10_goBy 14 = .ok (.getfield 61, 3) := by decide +kernel
theorem dX10_goBy_17 : decode cX10_goBy 17 = .ok (.if_icmp .ge 134, 3) := by decide +kernel
theorem dX10_goBy_20 : decode cX10_goBy 20 = .ok (.aload_n 0, 1) := by decide +kernel
theorem dX10_goBy_21 : decode cX10_goBy 21 = .ok (.getfield 25, 3) := by decide +kernel
theorem dX10_goBy_24 : decode cX10_goBy 24 = .ok (.iconst 4, 1) := by decide +kernel
theorem dX10_goBy_25 : decode cX10_goBy 25 = .ok (.iload_n 3, 1) := by decide +kernel
theorem dX10_goBy_26 : decode cX10_goBy 26 = .ok (.imul, 1) := by decide +kernel
theorem dX10_goBy_27 : decode cX10_goBy 27 = .ok (.iaload, 1) := by decide +kernel
theorem dX10_goBy_28 : decode cX10_goBy 28 = .ok (.aload_n 1, 1) := by decide +kernel
theorem dX10_goBy_29 : decode cX10_goBy 29 = .ok (.iconst 0, 1) := by decide +kernel
theorem dX10_goBy_30 : decode cX10_goBy 30 = .ok (.iaload, 1) := by decide +kernel
theorem dX10_goBy_31 : decode cX10_goBy 31 = .ok (.bipush 14, 2) := by decide +kernel
theorem dX10_goBy_33 : decode cX10_goBy 33 = .ok (.irem, 1) := by decide +kernel
theorem dX10_goBy_34 : decode cX10_goBy 34 = .ok (.if_icmp .ne 7, 3) := by decide +kernel
theorem dX10_goBy_37 : decode cX10_goBy 37 = .ok (.iconst 1, 1) := by decide +kernel
theorem dX10_goBy_38 : decode cX10_goBy 38 = .ok (.goto 4, 3) := by decide +kernel
theorem dX10_goBy_41 : decode cX10_goBy 41 = .ok (.iconst 0, 1) := by decide +kernel
theorem dX10_goBy_42 : decode cX10_goBy 42 = .ok (.istore 4, 2) := by decide +kernel
theorem dX10_goBy_44 : decode cX10_goBy 44 = .ok (.iload 4, 2) := by decide +kernel
theorem dX10_goBy_46 : decode cX10_goBy 46 = .ok (.ifCond .eq 41, 3) := by decide +kernel
theorem dX10_goBy_49 : decode cX10_goBy 49 = .ok (.aload_n 0, 1) := by decide +kernel
theorem dX10_goBy_50 : decode cX10_goBy 50 = .ok (.getfield 43, 3) := by decide +kernel
theorem dX10_goBy_53 : decode cX10_goBy 53 = .ok (.iload_n 3, 1) := by decide +kernel
theorem dX10_goBy_54 : decode cX10_goBy 54 = .ok (.iaload, 1) := by decide +kernel
theorem dX10_goBy_55 : decode cX10_goBy 55 = .ok (.bipush (-4), 2) := by decide +kernel
theorem dX10_goBy_57 : decode cX10_goBy 57 = .ok (.if_icmp .eq 30, 3) := by decide +kernel
theorem dX10_goBy_60 : decode cX10_goBy 60 = .ok (.aload_n 0, 1) := by decide +kernel
theorem dX10_goBy_61 : decode cX10_goBy 61 = .ok (.getfield 25, 3) := by decide +kernel
theorem dX10_goBy_64 : decode cX10_goBy 64 = .ok (.iconst 4, 1) := by decide +kernel
theorem dX10_goBy_65 : decode cX10_goBy 65 = .ok (.iload_n 3, 1) := by decide +kernel
theorem dX10_goBy_66 : decode cX10_goBy 66 = .ok (.imul, 1) := by decide +kernel
theorem dX10_goBy_67 : decode cX10_goBy 67 = .ok (.iconst 2, 1) := by decide +kernel
theorem dX10_goBy_68 : decode cX10_goBy 68 = .ok (.iadd, 1) := by decide +kernel
theorem dX10_goBy_69 : decode cX10_goBy 69 = .ok (.iaload, 1) := by decide +kernel
theorem dX10_goBy_70 : decode cX10_goBy 70 = .ok (.iconst 3, 1) := by decide +kernel
theorem dX10_goBy_71 : decode cX10_goBy 71 = .ok (.if_icmp .eq 16, 3) := by decide +kernel
theorem dX10_goBy_74 : decode cX10_goBy 74 = .ok (.aload_n 0, 1) := by decide +kernel
theorem dX10_goBy_75 : decode cX10_goBy 75 = .ok (.getfield 25, 3) := by decide +kernel
theorem dX10_goBy_78 : decode cX10_goBy 78 = .ok (.iconst 4, 1) := by decide +kernel
theorem dX10_goBy_79 : decode cX10_goBy 79 = .ok (.iload_n 3, 1) := by decide +kernel
theorem dX10_goBy_80 : decode cX10_goBy 80 = .ok (.imul, 1) := by decide +kernel
theorem dX10_goBy_81 : decode cX10_goBy 81 = .ok (.iconst 3, 1) := by decide +kernel
theorem dX10_goBy_82 : decode cX10_goBy 82 = .ok (.iadd, 1) := by decide +kernel
theorem dX10_goBy_83 : decode cX10_goBy 83 = .ok (.iaload, 1) := by decide +kernel
theorem dX10_goBy_84 : decode cX10_goBy 84 = .ok (.goto 4, 3) := by decide +kernel
theorem dX10_goBy_87 : decode cX10_goBy 87 = .ok (.iconst 0, 1) := by decide +kernel
theorem dX10_goBy_88 : decode cX10_goBy 88 = .ok (.istore 5, 2) := by decide +kernel
theorem dX10_goBy_90 : decode cX10_goBy 90 = .ok (.iload_n 2, 1) := by decide +kernel
theorem dX10_goBy_91 : decode cX10_goBy 91 = .ok (.iload 4, 2) := by decide +kernel
theorem dX10_goBy_93 : decode cX10_goBy 93 = .ok (.ifCond .eq 18, 3) := by decide +kernel
theorem dX10_goBy_96 : decode cX10_goBy 96 = .ok (.aload_n 0, 1) := by decide +kernel
theorem dX10_goBy_97 : decode cX10_goBy 97 = .ok (.getfield 43, 3) := by decide +kernel
theorem dX10_goBy_100 : decode cX10_goBy 100 = .ok (.iload_n 3, 1) := by decide +kernel
theorem dX10_goBy_101 : decode cX10_goBy 101 = .ok (.iaload, 1) := by decide +kernel
theorem dX10_goBy_102 : decode cX10_goBy 102 = .ok (.bipush (-4), 2) := by decide +kernel
theorem dX10_goBy_104 : decode cX10_goBy 104 = .ok (.if_icmp .ne 7, 3) := by decide +kernel
theorem dX10_goBy_107 : decode cX10_goBy 107 = .ok (.iconst 1, 1) := by decide +kernel
theorem dX10_goBy_108 : decode cX10_goBy 108 = .ok (.goto 4, 3) := by decide +kernel
theorem dX10_goBy_111 : decode cX10_goBy 111 = .ok (.iconst 0, 1) := by decide +kernel
theorem dX10_goBy_112 : decode cX10_goBy 112 = .ok (.iadd, 1) := by decide +kernel
theorem dX10_goBy_113 : decode cX10_goBy 113 = .ok (.istore_n 2, 1) := by decide +kernel
theorem dX10_goBy_114 : decode cX10_goBy 114 = .ok (.aload_n 1, 1) := by decide +kernel
theorem dX10_goBy_115 : decode cX10_goBy 115 = .ok (.iconst 2, 1) := by decide +kernel
theorem dX10_goBy_116 : decode cX10_goBy 116 = .ok (.dup2, 1) := by decide +kernel
theorem dX10_goBy_117 : decode cX10_goBy 117 = .ok (.iaload, 1) := by decide +kernel
theorem dX10_goBy_118 : decode cX10_goBy 118 = .ok (.iload 5, 2) := by decide +kernel
theorem dX10_goBy_120 : decode cX10_goBy 120 = .ok (.bipush 9, 2) := by decide +kernel
theorem dX10_goBy_122 : decode cX10_goBy 122 = .ok (.imul, 1) := by decide +kernel
theorem dX10_goBy_123 : decode cX10_goBy 123 = .ok (.bipush 100, 2) := by decide +kernel
theorem dX10_goBy_125 : decode cX10_goBy 125 = .ok (.idiv, 1) := by decide +kernel
theorem dX10_goBy_126 : decode cX10_goBy 126 = .ok (.iadd, 1) := by decide +kernel
theorem dX10_goBy_127 : decode cX10_goBy 127 = .ok (.iastore, 1) := by decide +kernel
theorem dX10_goBy_128 : decode cX10_goBy 128 = .ok (.aload_n 1, 1) := by decide +kernel
theorem dX10_goBy_129 : decode cX10_goBy 129 = .ok (.iconst 1, 1) := by decide +kernel
theorem dX10_goBy_130 : decode cX10_goBy 130 = .ok (.dup2, 1) := by decide +kernel
theorem dX10_goBy_131 : decode cX10_goBy 131 = .ok (.iaload, 1) := by decide +kernel
theorem dX10_goBy_132 : decode cX10_goBy 132 = .ok (.iload 5, 2) := by decide +kernel
theorem dX10_goBy_134 : decode cX10_goBy 134 = .ok (.iload 5, 2) := by decide +kernel
theorem dX10_goBy_136 : decode cX10_goBy 136 = .ok (.bipush 9, 2) := by decide +kernel
theorem dX10_goBy_138 : decode cX10_goBy 138 = .ok (.imul, 1) := by decide +kernel
theorem dX10_goBy_139 : decode cX10_goBy 139 = .ok (.bipush 100, 2) := by decide +kernel
theorem dX10_goBy_141 : decode cX10_goBy 141 = .ok (.idiv, 1) := by decide +kernel
theorem dX10_goBy_142 : decode cX10_goBy 142 = .ok (.isub, 1) := by decide +kernel
theorem dX10_goBy_143 : decode cX10_goBy 143 = .ok (.iadd, 1) := by decide +kernel
theorem dX10_goBy_144 : decode cX10_goBy 144 = .ok (.iastore, 1) := by decide +kernel
theorem dX10_goBy_145 : decode cX10_goBy 145 = .ok (.iinc 3 1, 3) := by decide +kernel
theorem dX10_goBy_148 : decode cX10_goBy 148 = .ok (.goto (-136), 3) := by decide +kernel
theorem dX10_goBy_151 : decode cX10_goBy 151 = .ok (.aload_n 1, 1) := by decide +kernel
theorem dX10_goBy_152 : decode cX10_goBy 152 = .ok (.iconst 3, 1) := by decide +kernel
theorem dX10_goBy_153 : decode cX10_goBy 153 = .ok (.dup2, 1) := by decide +kernel
theorem dX10_goBy_154 : decode cX10_goBy 154 = .ok (.iaload, 1) := by decide +kernel
theorem dX10_goBy_155 : decode cX10_goBy 155 = .ok (.iload_n 2, 1) := by decide +kernel
theorem dX10_goBy_156 : decode cX10_goBy 156 = .ok (.iadd, 1) := by decide +kernel
theorem dX10_goBy_157 : decode cX10_goBy 157 = .ok (.iastore, 1) := by decide +kernel
theorem dX10_goBy_158 : decode cX10_goBy 158 = .ok (.iconst 0, 1) := by decide +kernel
theorem dX10_goBy_159 : decode cX10_goBy 159 = .ok (.istore_n 3, 1) := by decide +kernel
theorem dX10_goBy_160 : decode cX10_goBy 160 = .ok (.iload_n 3, 1) := by decide +kernel
theorem dX10_goBy_161 : decode cX10_goBy 161 = .ok (.aload_n 0, 1) := by decide +kernel
theorem dX10_goBy_162 : decode cX10_goBy 162 = .ok (.getfield 50, 3) := by decide +kernel
theorem dX10_goBy_165 : decode cX10_goBy 165 = .ok (.if_icmp .ge 51, 3) := by decide +kernel
theorem dX10_goBy_168 : decode cX10_goBy 168 = .ok (.aload_n 1, 1) := by decide +kernel
theorem dX10_goBy_169 : decode cX10_goBy 169 = .ok (.bipush 11, 2) := by decide +kernel
theorem dX10_goBy_171 : decode cX10_goBy 171 = .ok (.iload_n 3, 1) := by decide +kernel
theorem dX10_goBy_172 : decode cX10_goBy 172 = .ok (.iadd, 1) := by decide +kernel
theorem dX10_goBy_173 : decode cX10_goBy 173 = .ok (.aload_n 0, 1) := by decide +kernel
theorem dX10_goBy_174 : decode cX10_goBy 174 = .ok (.getfield 152, 3) := by decide +kernel
theorem dX10_goBy_177 : decode cX10_goBy 177 = .ok (.iload_n 3, 1) := by decide +kernel
theorem dX10_goBy_178 : decode cX10_goBy 178 = .ok (.invokestatic 107, 3) := by decide +kernel
theorem dX10_goBy_181 : decode cX10_goBy 181 = .ok (.ifCond .eq 7, 3) := by decide +kernel
theorem dX10_goBy_184 : decode cX10_goBy 184 = .ok (.iconst 3, 1) := by decide +kernel
theorem dX10_goBy_185 : decode cX10_goBy 185 = .ok (.goto 24, 3) := by decide +kernel
theorem dX10_goBy_188 : decode cX10_goBy 188 = .ok (.aload_n 1, 1) := by decide +kernel
theorem dX10_goBy_189 : decode cX10_goBy 189 = .ok (.bipush 11, 2) := by decide +kernel
theorem dX10_goBy_191 : decode cX10_goBy 191 = .ok (.iload_n 3, 1) := by decide +kernel
theorem dX10_goBy_192 : decode cX10_goBy 192 = .ok (.iadd, 1) := by decide +kernel
theorem dX10_goBy_193 : decode cX10_goBy 193 = .ok (.iaload, 1) := by decide +kernel
theorem dX10_goBy_194 : decode cX10_goBy 194 = .ok (.ifCond .le 14, 3) := by decide +kernel
theorem dX10_goBy_197 : decode cX10_goBy 197 = .ok (.aload_n 1, 1) := by decide +kernel
theorem dX10_goBy_198 : decode cX10_goBy 198 = .ok (.bipush 11, 2) := by decide +kernel
theorem dX10_goBy_200 : decode cX10_goBy 200 = .ok (.iload_n 3, 1) := by decide +kernel
theorem dX10_goBy_201 : decode cX10_goBy 201 = .ok (.iadd, 1) := by decide +kernel
theorem dX10_goBy_202 : decode cX10_goBy 202 = .ok (.iaload, 1) := by decide +kernel
theorem dX10_goBy_203 : decode cX10_goBy 203 = .ok (.iconst 1, 1) := by decide +kernel
theorem dX10_goBy_204 : decode cX10_goBy 204 = .ok (.isub, 1) := by decide +kernel
theorem dX10_goBy_205 : decode cX10_goBy 205 = .ok (.goto 4, 3) := by decide +kernel
theorem dX10_goBy_208 : decode cX10_goBy 208 = .ok (.iconst 0, 1) := by decide +kernel
theorem dX10_goBy_209 : decode cX10_goBy 209 = .ok (.iastore, 1) := by decide +kernel
theorem dX10_goBy_210 : decode cX10_goBy 210 = .ok (.iinc 3 1, 3) := by decide +kernel
theorem dX10_goBy_213 : decode cX10_goBy 213 = .ok (.goto (-53), 3) := by decide +kernel
theorem dX10_goBy_216 : decode cX10_goBy 216 = .ok (.aload_n 1, 1) := by decide +kernel
theorem dX10_goBy_217 : decode cX10_goBy 217 = .ok (.iconst 4, 1) := by decide +kernel
theorem dX10_goBy_218 : decode cX10_goBy 218 = .ok (.iconst 0, 1) := by decide +kernel
theorem dX10_goBy_219 : decode cX10_goBy 219 = .ok (.iastore, 1) := by decide +kernel
theorem dX10_goBy_220 : decode cX10_goBy 220 = .ok (.aload_n 1, 1) := by decide +kernel
theorem dX10_goBy_221 : decode cX10_goBy 221 = .ok (.iconst 0, 1) := by decide +kernel
theorem dX10_goBy_222 : decode cX10_goBy 222 = .ok (.dup2, 1) := by decide +kernel
theorem dX10_goBy_223 : decode cX10_goBy 223 = .ok (.iaload, 1) := by decide +kernel
theorem dX10_goBy_224 : decode cX10_goBy 224 = .ok (.iconst 1, 1) := by decide +kernel
theorem dX10_goBy_225 : decode cX10_goBy 225 = .ok (.iadd, 1) := by decide +kernel
theorem dX10_goBy_226 : decode cX10_goBy 226 = .ok (.iastore, 1) := by decide +kernel
theorem dX10_goBy_227 : decode cX10_goBy 227 = .ok (.iload_n 2, 1) := by decide +kernel
theorem dX10_goBy_228 : decode cX10_goBy 228 = .ok (.ireturn, 1) := by decide +kernel
theorem dX10_layNow_0 : decode cX10_layNow 0 = .ok (.aload_n 0, 1) := by decide +kernel
theorem dX10_layNow_1 : decode cX10_layNow 1 = .ok (.bipush (-4), 2) := by decide +kernel
theorem dX10_layNow_3 : decode cX10_layNow 3 = .ok (.putfield 139, 3) := by decide +kernel
theorem dX10_layNow_6 : decode cX10_layNow 6 = .ok (.aload_n 0, 1) := by decide +kernel
theorem dX10_layNow_7 : decode cX10_layNow 7 = .ok (.aload_n 0, 1) := by decide +kernel
theorem dX10_layNow_8 : decode cX10_layNow 8 = .ok (.getfield 28, 3) := by decide +kernel
theorem dX10_layNow_11 : decode cX10_layNow 11 = .ok (.bipush (-4), 2) := by decide +kernel
theorem dX10_layNow_13 : decode cX10_layNow 13 = .ok (.iconst 0, 1) := by decide +kernel
theorem dX10_layNow_14 : decode cX10_layNow 14 = .ok (.invokevirtual 170, 3) := by decide +kernel
theorem dX10_layNow_17 : decode cX10_layNow 17 = .ok (.return_, 1) := by decide +kernel
theorem dX10_staff_0 : decode cX10_staff 0 = .ok (.aload_n 0, 1) := by decide +kernel
theorem dX10_staff_1 : decode cX10_staff 1 = .ok (.iload_n 1, 1) := by decide +kernel
theorem dX10_staff_2 : decode cX10_staff 2 = .ok (.invokevirtual 71, 3) := by decide +kernel
theorem dX10_staff_5 : decode cX10_staff 5 = .ok (.ifCond .eq 13, 3) := by decide +kernel
theorem dX10_staff_8 : decode cX10_staff 8 = .ok (.iload_n 2, 1) := by decide +kernel
theorem dX10_staff_9 : decode cX10_staff 9 = .ok (.iconst 0, 1) := by decide +kernel
theorem dX10_staff_10 : decode cX10_staff 10 = .ok (.bipush 6, 2) := by decide +kernel
theorem dX10_staff_12 : decode cX10_staff 12 = .ok (.invokestatic 67, 3) := by decide +kernel
theorem dX10_staff_15 : decode cX10_staff 15 = .ok (.ifCond .ne 5, 3) := by decide +kernel
theorem dX10_staff_18 : decode cX10_staff 18 = .ok (.iconst (-1), 1) := by decide +kernel
theorem dX10_staff_19 : decode cX10_staff 19 = .ok (.ireturn, 1) := by decide +kernel
theorem dX10_staff_20 : decode cX10_staff 20 = .ok (.iload_n 2, 1) := by decide +kernel
theorem dX10_staff_21 : decode cX10_staff 21 = .ok (.iconst 4, 1) := by decide +kernel
theorem dX10_staff_22 : decode cX10_staff 22 = .ok (.if_icmp .ge 14, 3) := by decide +kernel
theorem dX10_staff_25 : decode cX10_staff 25 = .ok (.aload_n 0, 1) := by decide +kernel
theorem dX10_staff_26 : decode cX10_staff 26 = .ok (.getfield 22, 3) := by decide +kernel
theorem dX10_staff_29 : decode cX10_staff 29 = .ok (.iconst 4, 1) := by decide +kernel
theorem dX10_staff_30 : decode cX10_staff 30 = .ok (.iload_n 1, 1) := by decide +kernel
theorem dX10_staff_31 : decode cX10_staff 31 = .ok (.imul, 1) := by decide +kernel
theorem dX10_staff_32 : decode cX10_staff 32 = .ok (.iload_n 2, 1) := by decide +kernel
theorem dX10_staff_33 : decode cX10_staff 33 = .ok (.iadd, 1) := by decide +kernel
theorem dX10_staff_34 : decode cX10_staff 34 = .ok (.iaload, 1) := by decide +kernel
theorem dX10_staff_35 : decode cX10_staff 35 = .ok (.ireturn, 1) := by decide +kernel
theorem dX10_staff_36 : decode cX10_staff 36 = .ok (.aload_n 0, 1) := by decide +kernel
theorem dX10_staff_37 : decode cX10_staff 37 = .ok (.invokevirtual 174, 3) := by decide +kernel
theorem dX10_staff_40 : decode cX10_staff 40 = .ok (.iload_n 2, 1) := by decide +kernel
theorem dX10_staff_41 : decode cX10_staff 41 = .ok (.iconst 4, 1) := by decide +kernel
theorem dX10_staff_42 : decode cX10_staff 42 = .ok (.if_icmp .ne 14, 3) := by decide +kernel
theorem dX10_staff_45 : decode cX10_staff 45 = .ok (.aload_n 0, 1) := by decide +kernel
theorem dX10_staff_46 : decode cX10_staff 46 = .ok (.getfield 142, 3) := by decide +kernel
theorem dX10_staff_49 : decode cX10_staff 49 = .ok (.iload_n 1, 1) := by decide +kernel
theorem dX10_staff_50 : decode cX10_staff 50 = .ok (.ishr, 1) := by decide +kernel
theorem dX10_staff_51 : decode cX10_staff 51 = .ok (.iconst 1, 1) := by decide +kernel
theorem dX10_staff_52 : decode cX10_staff 52 = .ok (.iand, 1) := by decide +kernel
theorem dX10_staff_53 : decode cX10_staff 53 = .ok (.goto 30, 3) := by decide +kernel
theorem dX10_staff_56 : decode cX10_staff 56 = .ok (.iload_n 2, 1) := by decide +kernel
theorem dX10_staff_57 : decode cX10_staff 57 = .ok (.iconst 5, 1) := by decide +kernel
theorem dX10_staff_58 : decode cX10_staff 58 = .ok (.if_icmp .ne 15, 3) := by decide +kernel
theorem dX10_staff_61 : decode cX10_staff 61 = .ok (.aload_n 0, 1) := by decide +kernel
theorem dX10_staff_62 : decode cX10_staff 62 = .ok (.getfield 28, 3) := by decide +kernel
theorem dX10_staff_65 : decode cX10_staff 65 = .ok (.bipush 11, 2) := by decide +kernel
theorem dX10_staff_67 : decode cX10_staff 67 = .ok (.iload_n 1, 1) := by decide +kernel
theorem dX10_staff_68 : decode cX10_staff 68 = .ok (.iadd, 1) := by decide +kernel
theorem dX10_staff_69 : decode cX10_staff 69 = .ok (.iaload, 1) := by decide +kernel
theorem dX10_staff_70 : decode cX10_staff 70 = .ok (.goto 13, 3) := by decide +kernel
theorem dX10_staff_73 : decode cX10_staff 73 = .ok (.aload_n 0, 1) := by decide +kernel
theorem dX10_staff_74 : decode cX10_staff 74 = .ok (.getfield 28, 3) := by decide +kernel
theorem dX10_staff_77 : decode cX10_staff 77 = .ok (.iconst 4, 1) := by decide +kernel
theorem dX10_staff_78 : decode cX10_staff 78 = .ok (.iaload, 1) := by decide +kernel
theorem dX10_staff_79 : decode cX10_staff 79 = .ok (.iload_n 1, 1) := by decide +kernel
theorem dX10_staff_80 : decode cX10_staff 80 = .ok (.ishr, 1) := by decide +kernel
theorem dX10_staff_81 : decode cX10_staff 81 = .ok (.iconst 1, 1) := by decide +kernel
theorem dX10_staff_82 : decode cX10_staff 82 = .ok (.iand, 1) := by decide +kernel
theorem dX10_staff_83 : decode cX10_staff 83 = .ok (.ireturn, 1) := by decide +kernel
theorem dX10_customer_0 : decode cX10_customer 0 = .ok (.aload_n 0, 1) := by decide +kernel
theorem dX10_customer_1 : decode cX10_customer 1 = .ok (.iload_n 1, 1) := by decide +kernel
theorem dX10_customer_2 : decode cX10_customer 2 = .ok (.invokevirtual 177, 3) := by decide +kernel
theorem dX10_customer_5 : decode cX10_customer 5 = .ok (.ifCond .eq 12, 3) := by decide +kernel
theorem dX10_customer_8 : decode cX10_customer 8 = .ok (.iload_n 2, 1) := by decide +kernel
theorem dX10_customer_9 : decode cX10_customer 9 = .ok (.iconst 0, 1) := by decide +kernel
theorem dX10_customer_10 : decode cX10_customer 10 = .ok (.iconst 5, 1) := by decide +kernel
theorem dX10_customer_11 : decode cX10_customer 11 = .ok (.invokestatic 67, 3) := by decide +kernel
theorem dX10_customer_14 : decode cX10_customer 14 = .ok (.ifCond .ne 5, 3) := by decide +kernel
theorem dX10_customer_17 : decode cX10_customer 17 = .ok (.iconst (-1), 1) := by decide +kernel
theorem dX10_customer_18 : decode cX10_customer 18 = .ok (.ireturn, 1) := by decide +kernel
theorem dX10_customer_19 : decode cX10_customer 19 = .ok (.iload_n 2, 1) := by decide +kernel
theorem dX10_customer_20 : decode cX10_customer 20 = .ok (.iconst 4, 1) := by decide +kernel
theorem dX10_customer_21 : decode cX10_customer 21 = .ok (.if_icmp .ge 14, 3) := by decide +kernel
theorem dX10_customer_24 : decode cX10_customer 24 = .ok (.aload_n 0, 1) := by decide +kernel
theorem dX10_customer_25 : decode cX10_customer 25 = .ok (.getfield 25, 3) := by decide +kernel
theorem dX10_customer_28 : decode cX10_customer 28 = .ok (.iconst 4, 1) := by decide +kernel
theorem dX10_customer_29 : decode cX10_customer 29 = .ok (.iload_n 1, 1) := by decide +kernel
theorem dX10_customer_30 : decode cX10_customer 30 = .ok (.imul, 1) := by decide +kernel
theorem dX10_customer_31 : decode cX10_customer 31 = .ok (.iload_n 2, 1) := by decide +kernel
theorem dX10_customer_32 : decode cX10_customer 32 = .ok (.iadd, 1) := by decide +kernel
theorem dX10_customer_33 : decode cX10_customer 33 = .ok (.iaload, 1) := by decide +kernel
theorem dX10_customer_34 : decode cX10_customer 34 = .ok (.ireturn, 1) := by decide +kernel
theorem dX10_customer_35 : decode cX10_customer 35 = .ok (.aload_n 0, 1) := by decide +kernel
theorem dX10_customer_36 : decode cX10_customer 36 = .ok (.invokevirtual 174, 3) := by decide +kernel
theorem dX10_customer_39 : decode cX10_customer 39 = .ok (.iload_n 2, 1) := by decide +kernel
theorem dX10_customer_40 : decode cX10_customer 40 = .ok (.iconst 5, 1) := by decide +kernel
theorem dX10_customer_41 : decode cX10_customer 41 = .ok (.if_icmp .ne 12, 3) := by decide +kernel
theorem dX10_customer_44 : decode cX10_customer 44 = .ok (.aload_n 0, 1) := by decide +kernel
theorem dX10_customer_45 : decode cX10_customer 45 = .ok (.getfield 43, 3) := by decide +kernel
theorem dX10_customer_48 : decode cX10_customer 48 = .ok (.iload_n 1, 1) := by decide +kernel
theorem dX10_customer_49 : decode cX10_customer 49 = .ok (.iaload, 1) := by decide +kernel
theorem dX10_customer_50 : decode cX10_customer 50 = .ok (.goto 28, 3) := by decide +kernel
theorem dX10_customer_53 : decode cX10_customer 53 = .ok (.aload_n 0, 1) := by decide +kernel
theorem dX10_customer_54 : decode cX10_customer 54 = .ok (.getfield 25, 3) := by decide +kernel
theorem dX10_customer_57 : decode cX10_customer 57 = .ok (.iconst 4, 1) := by decide +kernel
theorem dX10_customer_58 : decode cX10_customer 58 = .ok (.iload_n 1, 1) := by decide +kernel
theorem dX10_customer_59 : decode cX10_customer 59 = .ok (.imul, 1) := by decide +kernel
theorem dX10_customer_60 : decode cX10_customer 60 = .ok (.iaload, 1) := by decide +kernel
theorem dX10_customer_61 : decode cX10_customer 61 = .ok (.aload_n 0, 1) := by decide +kernel
theorem dX10_customer_62 : decode cX10_customer 62 = .ok (.getfield 28, 3) := by decide +kernel
theorem dX10_customer_65 : decode cX10_customer 65 = .ok (.iconst 0, 1) := by decide +kernel
theorem dX10_customer_66 : decode cX10_customer 66 = .ok (.iaload, 1) := by decide +kernel
theorem dX10_customer_67 : decode cX10_customer 67 = .ok (.bipush 14, 2) := by decide +kernel
theorem dX10_customer_69 : decode cX10_customer 69 = .ok (.irem, 1) := by decide +kernel
theorem dX10_customer_70 : decode cX10_customer 70 = .ok (.if_icmp .ne 7, 3) := by decide +kernel
theorem dX10_customer_73 : decode cX10_customer 73 = .ok (.iconst 1, 1) := by decide +kernel
theorem dX10_customer_74 : decode cX10_customer 74 = .ok (.goto 4, 3) := by decide +kernel
theorem dX10_customer_77 : decode cX10_customer 77 = .ok (.iconst 0, 1) := by decide +kernel
theorem dX10_customer_78 : decode cX10_customer 78 = .ok (.ireturn, 1) := by decide +kernel
theorem dX10_quarrel_0 : decode cX10_quarrel 0 = .ok (.aload_n 0, 1) := by decide +kernel
theorem dX10_quarrel_1 : decode cX10_quarrel 1 = .ok (.iload_n 1, 1) := by decide +kernel
theorem dX10_quarrel_2 : decode cX10_quarrel 2 = .ok (.iload_n 2, 1) := by decide +kernel
theorem dX10_quarrel_3 : decode cX10_quarrel 3 = .ok (.invokevirtual 180, 3) := by decide +kernel
theorem dX10_quarrel_6 : decode cX10_quarrel 6 = .ok (.ifCond .eq 18, 3) := by decide +kernel
theorem dX10_quarrel_9 : decode cX10_quarrel 9 = .ok (.aload_n 0, 1) := by decide +kernel
theorem dX10_quarrel_10 : decode cX10_quarrel 10 = .ok (.getfield 28, 3) := by decide +kernel
theorem dX10_quarrel_13 : decode cX10_quarrel 13 = .ok (.iconst 5, 1) := by decide +kernel
theorem dX10_quarrel_14 : decode cX10_quarrel 14 = .ok (.iload_n 1, 1) := by decide +kernel
theorem dX10_quarrel_15 : decode cX10_quarrel 15 = .ok (.iadd, 1) := by decide +kernel
theorem dX10_quarrel_16 : decode cX10_quarrel 16 = .ok (.iaload, 1) := by decide +kernel
theorem dX10_quarrel_17 : decode cX10_quarrel 17 = .ok (.iload_n 2, 1) := by decide +kernel
theorem dX10_quarrel_18 : decode cX10_quarrel 18 = .ok (.ishr, 1) := by decide +kernel
theorem dX10_quarrel_19 : decode cX10_quarrel 19 = .ok (.iconst 1, 1) := by decide +kernel
theorem dX10_quarrel_20 : decode cX10_quarrel 20 = .ok (.iand, 1) := by decide +kernel
theorem dX10_quarrel_21 : decode cX10_quarrel 21 = .ok (.goto 4, 3) := by decide +kernel
theorem dX10_quarrel_24 : decode cX10_quarrel 24 = .ok (.iconst (-1), 1) := by decide +kernel
theorem dX10_quarrel_25 : decode cX10_quarrel 25 = .ok (.ireturn, 1) := by decide +kernel
theorem dX10_woken_0 : decode cX10_woken 0 = .ok (.aload_n 0, 1) := by decide +kernel
theorem dX10_woken_1 : decode cX10_woken 1 = .ok (.invokevirtual 174, 3) := by decide +kernel
theorem dX10_woken_4 : decode cX10_woken 4 = .ok (.aload_n 0, 1) := by decide +kernel
theorem dX10_woken_5 : decode cX10_woken 5 = .ok (.getfield 152, 3) := by decide +kernel
theorem dX10_woken_8 : decode cX10_woken 8 = .ok (.ireturn, 1) := by decide +kernel
theorem dX10_note_0 : decode cX10_note 0 = .ok (.aload_n 0, 1) := by decide +kernel
theorem dX10_note_1 : decode cX10_note 1 = .ok (.getfield 133, 3) := by decide +kernel
theorem dX10_note_4 : decode cX10_note 4 = .ok (.bipush 8, 2) := by decide +kernel
theorem dX10_note_6 : decode cX10_note 6 = .ok (.if_icmp .ne 29, 3) := by decide +kernel
theorem dX10_note_9 : decode cX10_note 9 = .ok (.aload_n 0, 1) := by decide +kernel
theorem dX10_note_10 : decode cX10_note 10 = .ok (.getfield 34, 3) := by decide +kernel
theorem dX10_note_13 : decode cX10_note 13 = .ok (.bipush 17, 2) := by decide +kernel
theorem dX10_note_15 : decode cX10_note 15 = .ok (.aload_n 0, 1) := by decide +kernel
theorem dX10_note_16 : decode cX10_note 16 = .ok (.getfield 34, 3) := by decide +kernel
theorem dX10_note_19 : decode cX10_note 19 = .ok (.iconst 0, 1) := by decide +kernel
theorem dX10_note_20 : decode cX10_note 20 = .ok (.bipush 119, 2) := by decide +kernel
theorem dX10_note_22 : decode cX10_note 22 = .ok (.invokestatic 126, 3) := by decide +kernel
theorem dX10_note_25 : decode cX10_note 25 = .ok (.aload_n 0, 1) := by decide +kernel
theorem dX10_note_26 : decode cX10_note 26 = .ok (.dup, 1) := by decide +kernel
theorem dX10_note_27 : decode cX10_note 27 = .ok (.getfield 133, 3) := by decide +kernel
theorem dX10_note_30 : decode cX10_note 30 = .ok (.iconst 1, 1) := by decide +kernel
theorem dX10_note_31 : decode cX10_note 31 = .ok (.isub, 1) := by decide +kernel
theorem dX10_note_32 : decode cX10_note 32 = .ok (.putfield 133, 3) := by decide +kernel
theorem dX10_note_35 : decode cX10_note 35 = .ok (.aload_n 0, 1) := by decide +kernel
theorem dX10_note_36 : decode cX10_note 36 = .ok (.getfield 28, 3) := by decide +kernel
theorem dX10_note_39 : decode cX10_note 39 = .ok (.iconst 0, 1) := by decide +kernel
theorem dX10_note_40 : decode cX10_note 40 = .ok (.aload_n 0, 1) := by decide +kernel
theorem dX10_note_41 : decode cX10_note 41 = .ok (.getfield 34, 3) := by decide +kernel
theorem dX10_note_44 : decode cX10_note 44 = .ok (.bipush 17, 2) := by decide +kernel
theorem dX10_note_46 : decode cX10_note 46 = .ok (.aload_n 0, 1) := by decide +kernel
theorem dX10_note_47 : decode cX10_note 47 = .ok (.getfield 133, 3) := by decide +kernel
theorem dX10_note_50 : decode cX10_note 50 = .ok (.imul, 1) := by decide +kernel
theorem dX10_note_51 : decode cX10_note 51 = .ok (.bipush 17, 2) := by decide +kernel
theorem dX10_note_53 : decode cX10_note 53 = .ok (.invokestatic 126, 3) := by decide +kernel
theorem dX10_note_56 : decode cX10_note 56 = .ok (.aload_n 0, 1) := by decide +kernel
theorem dX10_note_57 : decode cX10_note 57 = .ok (.dup, 1) := by decide +kernel
theorem dX10_note_58 : decode cX10_note 58 = .ok (.getfield 133, 3) := by decide +kernel
theorem dX10_note_61 : decode cX10_note 61 = .ok (.iconst 1, 1) := by decide +kernel
theorem dX10_note_62 : decode cX10_note 62 = .ok (.iadd, 1) := by decide +kernel
theorem dX10_note_63 : decode cX10_note 63 = .ok (.putfield 133, 3) := by decide +kernel
theorem dX10_note_66 : decode cX10_note 66 = .ok (.return_, 1) := by decide +kernel
theorem dX10_pass_0 : decode cX10_pass 0 = .ok (.iload_n 1, 1) := by decide +kernel
theorem dX10_pass_1 : decode cX10_pass 1 = .ok (.iconst 1, 1) := by decide +kernel
theorem dX10_pass_2 : decode cX10_pass 2 = .ok (.bipush 14, 2) := by decide +kernel
theorem dX10_pass_4 : decode cX10_pass 4 = .ok (.invokestatic 67, 3) := by decide +kernel
theorem dX10_pass_7 : decode cX10_pass 7 = .ok (.ifCond .ne 5, 3) := by decide +kernel
theorem dX10_pass_10 : decode cX10_pass 10 = .ok (.iconst (-1), 1) := by decide +kernel
theorem dX10_pass_11 : decode cX10_pass 11 = .ok (.ireturn, 1) := by decide +kernel
theorem dX10_pass_12 : decode cX10_pass 12 = .ok (.aload_n 0, 1) := by decide +kernel
theorem dX10_pass_13 : decode cX10_pass 13 = .ok (.invokevirtual 183, 3) := by decide +kernel
theorem dX10_pass_16 : decode cX10_pass 16 = .ok (.aload_n 0, 1) := by decide +kernel
theorem dX10_pass_17 : decode cX10_pass 17 = .ok (.bipush (-4), 2) := by decide +kernel
theorem dX10_pass_19 : decode cX10_pass 19 = .ok (.putfield 139, 3) := by decide +kernel
theorem dX10_pass_22 : decode cX10_pass 22 = .ok (.iconst 0, 1) := by decide +kernel
theorem dX10_pass_23 : decode cX10_pass 23 = .ok (.istore_n 2, 1) := by decide +kernel
theorem dX10_pass_24 : decode cX10_pass 24 = .ok (.iload_n 2, 1) := by decide +kernel
theorem dX10_pass_25 : decode cX10_pass 25 = .ok (.iload_n 1, 1) := by decide +kernel
theorem dX10_pass_26 : decode cX10_pass 26 = .ok (.if_icmp .ge 18, 3) := by decide +kernel
theorem dX10_pass_29 : decode cX10_pass 29 = .ok (.aload_n 0, 1) := by decide +kernel
theorem dX10_pass_30 : decode cX10_pass 30 = .ok (.aload_n 0, 1) := by decide +kernel
theorem dX10_pass_31 : decode cX10_pass 31 = .ok (.getfield 28, 3) := by decide +kernel
theorem dX10_pass_34 : decode cX10_pass 34 = .ok (.invokevirtual 186, 3) := by decide +kernel
theorem dX10_pass_37 : decode cX10_pass 37 = .ok (.pop, 1) := by decide +kernel
theorem dX10_pass_38 : decode cX10_pass 38 = .ok (.iinc 2 1, 3) := by decide +kernel
theorem dX10_pass_41 : decode cX10_pass 41 = .ok (.goto (-17), 3) := by decide +kernel
theorem dX10_pass_44 : decode cX10_pass 44 = .ok (.aload_n 0, 1) := by decide +kernel
theorem dX10_pass_45 : decode cX10_pass 45 = .ok (.getfield 28, 3) := by decide +kernel
theorem dX10_pass_48 : decode cX10_pass 48 = .ok (.iconst 0, 1) := by decide +kernel
theorem dX10_pass_49 : decode cX10_pass 49 = .ok (.iaload, 1) := by decide +kernel
theorem dX10_pass_50 : decode cX10_pass 50 = .ok (.ireturn, 1) := by decide +kernel
theorem dX10_supper_0 : decode cX10_supper 0 = .ok (.aload_n 0, 1) := by decide +kernel
theorem dX10_supper_1 : decode cX10_supper 1 = .ok (.iload_n 1, 1) := by decide +kernel
theorem dX10_supper_2 : decode cX10_supper 2 = .ok (.invokevirtual 71, 3) := by decide +kernel
theorem dX10_supper_5 : decode cX10_supper 5 = .ok (.ifCond .ne 5, 3) := by decide +kernel
theorem dX10_supper_8 : decode cX10_supper 8 = .ok (.iconst (-1), 1) := by decide +kernel
theorem dX10_supper_9 : decode cX10_supper 9 = .ok (.ireturn, 1) := by decide +kernel
theorem dX10_supper_10 : decode cX10_supper 10 = .ok (.aload_n 0, 1) := by decide +kernel
theorem dX10_supper_11 : decode cX10_supper 11 = .ok (.getfield 28, 3) := by decide +kernel
theorem dX10_supper_14 : decode cX10_supper 14 = .ok (.iconst 4, 1) := by decide +kernel
theorem dX10_supper_15 : decode cX10_supper 15 = .ok (.iaload, 1) := by decide +kernel
theorem dX10_supper_16 : decode cX10_supper 16 = .ok (.iload_n 1, 1) := by decide +kernel
theorem dX10_supper_17 : decode cX10_supper 17 = .ok (.invokestatic 107, 3) := by decide +kernel
theorem dX10_supper_20 : decode cX10_supper 20 = .ok (.ifCond .eq 6, 3) := by decide +kernel
theorem dX10_supper_23 : decode cX10_supper 23 = .ok (.bipush (-2), 2) := by decide +kernel
theorem dX10_supper_25 : decode cX10_supper 25 = .ok (.ireturn, 1) := by decide +kernel
theorem dX10_supper_26 : decode cX10_supper 26 = .ok (.aload_n 0, 1) := by decide +kernel
theorem dX10_supper_27 : decode cX10_supper 27 = .ok (.invokevirtual 183, 3) := by decide +kernel
theorem dX10_supper_30 : decode cX10_supper 30 = .ok (.aload_n 0, 1) := by decide +kernel
theorem dX10_supper_31 : decode cX10_supper 31 = .ok (.getfield 28, 3) := by decide +kernel
theorem dX10_supper_34 : decode cX10_supper 34 = .ok (.iconst 4, 1) := by decide +kernel
theorem dX10_supper_35 : decode cX10_supper 35 = .ok (.aload_n 0, 1) := by decide +kernel
theorem dX10_supper_36 : decode cX10_supper 36 = .ok (.getfield 28, 3) := by decide +kernel
theorem dX10_supper_39 : decode cX10_supper 39 = .ok (.iconst 4, 1) := by decide +kernel
theorem dX10_supper_40 : decode cX10_supper 40 = .ok (.iaload, 1) := by decide +kernel
theorem dX10_supper_41 : decode cX10_supper 41 = .ok (.iconst 1, 1) := by decide +kernel
theorem dX10_supper_42 : decode cX10_supper 42 = .ok (.iload_n 1, 1) := by decide +kernel
theorem dX10_supper_43 : decode cX10_supper 43 = .ok (.ishl, 1) := by decide +kernel
theorem dX10_supper_44 : decode cX10_supper 44 = .ok (.ior, 1) := by decide +kernel
theorem dX10_supper_45 : decode cX10_supper 45 = .ok (.iastore, 1) := by decide +kernel
theorem dX10_supper_46 : decode cX10_supper 46 = .ok (.aload_n 0, 1) := by decide +kernel
theorem dX10_supper_47 : decode cX10_supper 47 = .ok (.getfield 28, 3) := by decide +kernel
theorem dX10_supper_50 : decode cX10_supper 50 = .ok (.iconst 4, 1) := by decide +kernel
theorem dX10_supper_51 : decode cX10_supper 51 = .ok (.iaload, 1) := by decide +kernel
theorem dX10_supper_52 : decode cX10_supper 52 = .ok (.invokestatic 75, 3) := by decide +kernel
theorem dX10_supper_55 : decode cX10_supper 55 = .ok (.ireturn, 1) := by decide +kernel
theorem dX10_settle_0 : decode cX10_settle 0 = .ok (.aload_n 0, 1) := by decide +kernel
theorem dX10_settle_1 : decode cX10_settle 1 = .ok (.iload_n 1, 1) := by decide +kernel
theorem dX10_settle_2 : decode cX10_settle 2 = .ok (.iload_n 2, 1) := by decide +kernel
theorem dX10_settle_3 : decode cX10_settle 3 = .ok (.invokevirtual 180, 3) := by decide +kernel
theorem dX10_settle_6 : decode cX10_settle 6 = .ok (.ifCond .ne 5, 3) := by decide +kernel
theorem dX10_settle_9 : decode cX10_settle 9 = .ok (.iconst (-1), 1) := by decide +kernel
theorem dX10_settle_10 : decode cX10_settle 10 = .ok (.ireturn, 1) := by decide +kernel
theorem dX10_settle_11 : decode cX10_settle 11 = .ok (.aload_n 0, 1) := by decide +kernel
theorem dX10_settle_12 : decode cX10_settle 12 = .ok (.getfield 28, 3) := by decide +kernel
theorem dX10_settle_15 : decode cX10_settle 15 = .ok (.iconst 5, 1) := by decide +kernel
theorem dX10_settle_16 : decode cX10_settle 16 = .ok (.iload_n 1, 1) := by decide +kernel
theorem dX10_settle_17 : decode cX10_settle 17 = .ok (.iadd, 1) := by decide +kernel
theorem dX10_settle_18 : decode cX10_settle 18 = .ok (.iaload, 1) := by decide +kernel
theorem dX10_settle_19 : decode cX10_settle 19 = .ok (.iload_n 2, 1) := by decide +kernel
theorem dX10_settle_20 : decode cX10_settle 20 = .ok (.invokestatic 107, 3) := by decide +kernel
theorem dX10_settle_23 : decode cX10_settle 23 = .ok (.ifCond .ne 19, 3) := by decide +kernel
theorem dX10_settle_26 : decode cX10_settle 26 = .ok (.aload_n 0, 1) := by decide +kernel
theorem dX10_settle_27 : decode cX10_settle 27 = .ok (.getfield 28, 3) := by decide +kernel
theorem dX10_settle_30 : decode cX10_settle 30 = .ok (.iconst 5, 1) := by decide +kernel
theorem dX10_settle_31 : decode cX10_settle 31 = .ok (.invokestatic 111, 3) := by decide +kernel
theorem dX10_settle_34 : decode cX10_settle 34 = .ok (.bipush 6, 2) := by decide +kernel
theorem dX10_settle_36 : decode cX10_settle 36 = .ok (.if_icmp .ne 6, 3) := by decide +kernel
theorem dX10_settle_39 : decode cX10_settle 39 = .ok (.bipush (-3), 2) := by decide +kernel
theorem dX10_settle_41 : decode cX10_settle 41 = .ok (.ireturn, 1) := by decide +kernel
theorem dX10_settle_42 : decode cX10_settle 42 = .ok (.aload_n 0, 1) := by decide +kernel
theorem dX10_settle_43 : decode cX10_settle 43 = .ok (.invokevirtual 183, 3) := by decide +kernel
theorem dX10_settle_46 : decode cX10_settle 46 = .ok (.aload_n 0, 1) := by decide +kernel
theorem dX10_settle_47 : decode cX10_settle 47 = .ok (.getfield 28, 3) := by decide +kernel
theorem dX10_settle_50 : decode cX10_settle 50 = .ok (.iconst 5, 1) := by decide +kernel
theorem dX10_settle_51 : decode cX10_settle 51 = .ok (.iload_n 1, 1) := by decide +kernel
theorem dX10_settle_52 : decode cX10_settle 52 = .ok (.iload_n 2, 1) := by decide +kernel
theorem dX10_settle_53 : decode cX10_settle 53 = .ok (.invokestatic 54, 3) := by decide +kernel
theorem dX10_settle_56 : decode cX10_settle 56 = .ok (.aload_n 0, 1) := by decide +kernel
theorem dX10_settle_57 : decode cX10_settle 57 = .ok (.getfield 28, 3) := by decide +kernel
theorem dX10_settle_60 : decode cX10_settle 60 = .ok (.iconst 5, 1) := by decide +kernel
theorem dX10_settle_61 : decode cX10_settle 61 = .ok (.iload_n 1, 1) := by decide +kernel
theorem dX10_settle_62 : decode cX10_settle 62 = .ok (.iadd, 1) := by decide +kernel
theorem dX10_settle_63 : decode cX10_settle 63 = .ok (.iaload, 1) := by decide +kernel
theorem dX10_settle_64 : decode cX10_settle 64 = .ok (.iload_n 2, 1) := by decide +kernel
theorem dX10_settle_65 : decode cX10_settle 65 = .ok (.ishr, 1) := by decide +kernel
theorem dX10_settle_66 : decode cX10_settle 66 = .ok (.iconst 1, 1) := by decide +kernel
theorem dX10_settle_67 : decode cX10_settle 67 = .ok (.iand, 1) := by decide +kernel
theorem dX10_settle_68 : decode cX10_settle 68 = .ok (.ireturn, 1) := by decide +kernel
theorem dX10_lull_0 : decode cX10_lull 0 = .ok (.aload_n 0, 1) := by decide +kernel
theorem dX10_lull_1 : decode cX10_lull 1 = .ok (.iload_n 1, 1) := by decide +kernel
theorem dX10_lull_2 : decode cX10_lull 2 = .ok (.invokevirtual 71, 3) := by decide +kernel
theorem dX10_lull_5 : decode cX10_lull 5 = .ok (.ifCond .ne 5, 3) := by decide +kernel
theorem dX10_lull_8 : decode cX10_lull 8 = .ok (.iconst (-1), 1) := by decide +kernel
theorem dX10_lull_9 : decode cX10_lull 9 = .ok (.ireturn, 1) := by decide +kernel
theorem dX10_lull_10 : decode cX10_lull 10 = .ok (.aload_n 0, 1) := by decide +kernel
theorem dX10_lull_11 : decode cX10_lull 11 = .ok (.getfield 28, 3) := by decide +kernel
theorem dX10_lull_14 : decode cX10_lull 14 = .ok (.bipush 11, 2) := by decide +kernel
theorem dX10_lull_16 : decode cX10_lull 16 = .ok (.iload_n 1, 1) := by decide +kernel
theorem dX10_lull_17 : decode cX10_lull 17 = .ok (.iadd, 1) := by decide +kernel
theorem dX10_lull_18 : decode cX10_lull 18 = .ok (.iaload, 1) := by decide +kernel
theorem dX10_lull_19 : decode cX10_lull 19 = .ok (.ifCond .ne 6, 3) := by decide +kernel
theorem dX10_lull_22 : decode cX10_lull 22 = .ok (.bipush (-2), 2) := by decide +kernel
theorem dX10_lull_24 : decode cX10_lull 24 = .ok (.ireturn, 1) := by decide +kernel
theorem dX10_lull_25 : decode cX10_lull 25 = .ok (.aload_n 0, 1) := by decide +kernel
theorem dX10_lull_26 : decode cX10_lull 26 = .ok (.invokevirtual 183, 3) := by decide +kernel
theorem dX10_lull_29 : decode cX10_lull 29 = .ok (.aload_n 0, 1) := by decide +kernel
theorem dX10_lull_30 : decode cX10_lull 30 = .ok (.getfield 28, 3) := by decide +kernel
theorem dX10_lull_33 : decode cX10_lull 33 = .ok (.bipush 11, 2) := by decide +kernel
theorem dX10_lull_35 : decode cX10_lull 35 = .ok (.iload_n 1, 1) := by decide +kernel
theorem dX10_lull_36 : decode cX10_lull 36 = .ok (.iadd, 1) := by decide +kernel
theorem dX10_lull_37 : decode cX10_lull 37 = .ok (.iaload, 1) := by decide +kernel
theorem dX10_lull_38 : decode cX10_lull 38 = .ok (.istore_n 2, 1) := by decide +kernel
theorem dX10_lull_39 : decode cX10_lull 39 = .ok (.aload_n 0, 1) := by decide +kernel
theorem dX10_lull_40 : decode cX10_lull 40 = .ok (.getfield 28, 3) := by decide +kernel
theorem dX10_lull_43 : decode cX10_lull 43 = .ok (.bipush 11, 2) := by decide +kernel
theorem dX10_lull_45 : decode cX10_lull 45 = .ok (.iload_n 1, 1) := by decide +kernel
theorem dX10_lull_46 : decode cX10_lull 46 = .ok (.iadd, 1) := by decide +kernel
theorem dX10_lull_47 : decode cX10_lull 47 = .ok (.iconst 0, 1) := by decide +kernel
theorem dX10_lull_48 : decode cX10_lull 48 = .ok (.iastore, 1) := by decide +kernel
theorem dX10_lull_49 : decode cX10_lull 49 = .ok (.iload_n 2, 1) := by decide +kernel
theorem dX10_lull_50 : decode cX10_lull 50 = .ok (.ireturn, 1) := by decide +kernel
theorem dX10_undo_0 : decode cX10_undo 0 = .ok (.aload_n 0, 1) := by decide +kernel
theorem dX10_undo_1 : decode cX10_undo 1 = .ok (.getfield 133, 3) := by decide +kernel
theorem dX10_undo_4 : decode cX10_undo 4 = .ok (.ifCond .ne 6, 3) := by decide +kernel
theorem dX10_undo_7 : decode cX10_undo 7 = .ok (.bipush (-2), 2) := by decide +kernel
theorem dX10_undo_9 : decode cX10_undo 9 = .ok (.ireturn, 1) := by decide +kernel
theorem dX10_undo_10 : decode cX10_undo 10 = .ok (.aload_n 0, 1) := by decide +kernel
theorem dX10_undo_11 : decode cX10_undo 11 = .ok (.dup, 1) := by decide +kernel
theorem dX10_undo_12 : decode cX10_undo 12 = .ok (.getfield 133, 3) := by decide +kernel
theorem dX10_undo_15 : decode cX10_undo 15 = .ok (.iconst 1, 1) := by decide +kernel
theorem dX10_undo_16 : decode cX10_undo 16 = .ok (.isub, 1) := by decide +kernel
theorem dX10_undo_17 : decode cX10_undo 17 = .ok (.putfield 133, 3) := by decide +kernel
theorem dX10_undo_20 : decode cX10_undo 20 = .ok (.aload_n 0, 1) := by decide +kernel
theorem dX10_undo_21 : decode cX10_undo 21 = .ok (.getfield 34, 3) := by decide +kernel
theorem dX10_undo_24 : decode cX10_undo 24 = .ok (.bipush 17, 2) := by decide +kernel
theorem dX10_undo_26 : decode cX10_undo 26 = .ok (.aload_n 0, 1) := by decide +kernel
theorem dX10_undo_27 : decode cX10_undo 27 = .ok (.getfield 133, 3) := by decide +kernel
theorem dX10_undo_30 : decode cX10_undo 30 = .ok (.imul, 1) := by decide +kernel
theorem dX10_undo_31 : decode cX10_undo 31 = .ok (.aload_n 0, 1) := by decide +kernel
theorem dX10_undo_32 : decode cX10_undo 32 = .ok (.getfield 28, 3) := by decide +kernel
theorem dX10_undo_35 : decode cX10_undo 35 = .ok (.iconst 0, 1) := by decide +kernel
theorem dX10_undo_36 : decode cX10_undo 36 = .ok (.bipush 17, 2) := by decide +kernel
theorem dX10_undo_38 : decode cX10_undo 38 = .ok (.invokestatic 126, 3) := by decide +kernel
theorem dX10_undo_41 : decode cX10_undo 41 = .ok (.aload_n 0, 1) := by decide +kernel
theorem dX10_undo_42 : decode cX10_undo 42 = .ok (.getfield 133, 3) := by decide +kernel
theorem dX10_undo_45 : decode cX10_undo 45 = .ok (.ireturn, 1) := by decide +kernel
theorem dX10_begin_0 : decode cX10_begin 0 = .ok (.aload_n 0, 1) := by decide +kernel
theorem dX10_begin_1 : decode cX10_begin 1 = .ok (.getfield 28, 3) := by decide +kernel
theorem dX10_begin_4 : decode cX10_begin 4 = .ok (.iconst 0, 1) := by decide +kernel
theorem dX10_begin_5 : decode cX10_begin 5 = .ok (.aload_n 0, 1) := by decide +kernel
theorem dX10_begin_6 : decode cX10_begin 6 = .ok (.getfield 31, 3) := by decide +kernel
theorem dX10_begin_9 : decode cX10_begin 9 = .ok (.iconst 0, 1) := by decide +kernel
theorem dX10_begin_10 : decode cX10_begin 10 = .ok (.bipush 17, 2) := by decide +kernel
theorem dX10_begin_12 : decode cX10_begin 12 = .ok (.invokestatic 126, 3) := by decide +kernel
theorem dX10_begin_15 : decode cX10_begin 15 = .ok (.aload_n 0, 1) := by decide +kernel
theorem dX10_begin_16 : decode cX10_begin 16 = .ok (.bipush (-4), 2) := by decide +kernel
theorem dX10_begin_18 : decode cX10_begin 18 = .ok (.putfield 139, 3) := by decide +kernel
theorem dX10_begin_21 : decode cX10_begin 21 = .ok (.return_, 1) := by decide +kernel
theorem dX10_behind_0 : decode cX10_behind 0 = .ok (.iload_n 1, 1) := by decide +kernel
theorem dX10_behind_1 : decode cX10_behind 1 = .ok (.iconst 0, 1) := by decide +kernel
theorem dX10_behind_2 : decode cX10_behind 2 = .ok (.bipush 28, 2) := by decide +kernel
theorem dX10_behind_4 : decode cX10_behind 4 = .ok (.invokestatic 67, 3) := by decide +kernel
theorem dX10_behind_7 : decode cX10_behind 7 = .ok (.ifCond .eq 12, 3) := by decide +kernel
theorem dX10_behind_10 : decode cX10_behind 10 = .ok (.iload_n 2, 1) := by decide +kernel
theorem dX10_behind_11 : decode cX10_behind 11 = .ok (.iconst 0, 1) := by decide +kernel
theorem dX10_behind_12 : decode cX10_behind 12 = .ok (.iconst 2, 1) := by decide +kernel
theorem dX10_behind_13 : decode cX10_behind 13 = .ok (.invokestatic 67, 3) := by decide +kernel
theorem dX10_behind_16 : decode cX10_behind 16 = .ok (.ifCond .ne 5, 3) := by decide +kernel
theorem dX10_behind_19 : decode cX10_behind 19 = .ok (.iconst (-1), 1) := by decide +kernel
theorem dX10_behind_20 : decode cX10_behind 20 = .ok (.ireturn, 1) := by decide +kernel
theorem dX10_behind_21 : decode cX10_behind 21 = .ok (.aload_n 0, 1) := by decide +kernel
theorem dX10_behind_22 : decode cX10_behind 22 = .ok (.invokevirtual 190, 3) := by decide +kernel
theorem dX10_behind_25 : decode cX10_behind 25 = .ok (.iconst 0, 1) := by decide +kernel
theorem dX10_behind_26 : decode cX10_behind 26 = .ok (.istore_n 3, 1) := by decide +kernel
theorem dX10_behind_27 : decode cX10_behind 27 = .ok (.iload_n 3, 1) := by decide +kernel
theorem dX10_behind_28 : decode cX10_behind 28 = .ok (.iload_n 1, 1) := by decide +kernel
theorem dX10_behind_29 : decode cX10_behind 29 = .ok (.if_icmp .ge 18, 3) := by decide +kernel
theorem dX10_behind_32 : decode cX10_behind 32 = .ok (.aload_n 0, 1) := by decide +kernel
theorem dX10_behind_33 : decode cX10_behind 33 = .ok (.aload_n 0, 1) := by decide +kernel
theorem dX10_behind_34 : decode cX10_behind 34 = .ok (.getfield 31, 3) := by decide +kernel
theorem dX10_behind_37 : decode cX10_behind 37 = .ok (.invokevirtual 186, 3) := by decide +kernel
theorem dX10_behind_40 : decode cX10_behind 40 = .ok (.pop, 1) := by decide +kernel
theorem dX10_behind_41 : decode cX10_behind 41 = .ok (.iinc 3 1, 3) := by decide +kernel
theorem dX10_behind_44 : decode cX10_behind 44 = .ok (.goto (-17), 3) := by decide +kernel
theorem dX10_behind_47 : decode cX10_behind 47 = .ok (.aload_n 0, 1) := by decide +kernel
theorem dX10_behind_48 : decode cX10_behind 48 = .ok (.getfield 31, 3) := by decide +kernel
theorem dX10_behind_51 : decode cX10_behind 51 = .ok (.iconst 1, 1) := by decide +kernel
theorem dX10_behind_52 : decode cX10_behind 52 = .ok (.iload_n 2, 1) := by decide +kernel
theorem dX10_behind_53 : decode cX10_behind 53 = .ok (.iadd, 1) := by decide +kernel
theorem dX10_behind_54 : decode cX10_behind 54 = .ok (.iaload, 1) := by decide +kernel
theorem dX10_behind_55 : decode cX10_behind 55 = .ok (.ireturn, 1) := by decide +kernel
theorem dX10_ham_0 : decode cX10_ham 0 = .ok (.iload_n 1, 1) := by decide +kernel
theorem dX10_ham_1 : decode cX10_ham 1 = .ok (.iconst 0, 1) := by decide +kernel
theorem dX10_ham_2 : decode cX10_ham 2 = .ok (.iconst 1, 1) := by decide +kernel
theorem dX10_ham_3 : decode cX10_ham 3 = .ok (.invokestatic 67, 3) := by decide +kernel
theorem dX10_ham_6 : decode cX10_ham 6 = .ok (.ifCond .ne 5, 3) := by decide +kernel
theorem dX10_ham_9 : decode cX10_ham 9 = .ok (.iconst (-1), 1) := by decide +kernel
theorem dX10_ham_10 : decode cX10_ham 10 = .ok (.ireturn, 1) := by decide +kernel
theorem dX10_ham_11 : decode cX10_ham 11 = .ok (.aload_n 0, 1) := by decide +kernel
theorem dX10_ham_12 : decode cX10_ham 12 = .ok (.invokevirtual 190, 3) := by decide +kernel
theorem dX10_ham_15 : decode cX10_ham 15 = .ok (.iconst 1, 1) := by decide +kernel
theorem dX10_ham_16 : decode cX10_ham 16 = .ok (.istore_n 2, 1) := by decide +kernel
theorem dX10_ham_17 : decode cX10_ham 17 = .ok (.iload_n 2, 1) := by decide +kernel
theorem dX10_ham_18 : decode cX10_ham 18 = .ok (.bipush 28, 2) := by decide +kernel
theorem dX10_ham_20 : decode cX10_ham 20 = .ok (.if_icmp .gt 33, 3) := by decide +kernel
theorem dX10_ham_23 : decode cX10_ham 23 = .ok (.aload_n 0, 1) := by decide +kernel
theorem dX10_ham_24 : decode cX10_ham 24 = .ok (.aload_n 0, 1) := by decide +kernel
theorem dX10_ham_25 : decode cX10_ham 25 = .ok (.getfield 31, 3) := by decide +kernel
theorem dX10_ham_28 : decode cX10_ham 28 = .ok (.invokevirtual 186, 3) := by decide +kernel
theorem dX10_ham_31 : decode cX10_ham 31 = .ok (.ifCond .le 16, 3) := by decide +kernel
theorem dX10_ham_34 : decode cX10_ham 34 = .ok (.iload_n 1, 1) := by decide +kernel
theorem dX10_ham_35 : decode cX10_ham 35 = .ok (.ifCond .ne 7, 3) := by decide +kernel
theorem dX10_ham_38 : decode cX10_ham 38 = .ok (.iload_n 2, 1) := by decide +kernel
theorem dX10_ham_39 : decode cX10_ham 39 = .ok (.goto 7, 3) := by decide +kernel
theorem dX10_ham_42 : decode cX10_ham 42 = .ok (.aload_n 0, 1) := by decide +kernel
theorem dX10_ham_43 : decode cX10_ham 43 = .ok (.getfield 158, 3) := by decide +kernel
theorem dX10_ham_46 : decode cX10_ham 46 = .ok (.ireturn, 1) := by decide +kernel
theorem dX10_ham_47 : decode cX10_ham 47 = .ok (.iinc 2 1, 3) := by decide +kernel
theorem dX10_ham_50 : decode cX10_ham 50 = .ok (.goto (-33), 3) := by decide +kernel
theorem dX10_ham_53 : decode cX10_ham 53 = .ok (.bipush (-4), 2) := by decide +kernel
theorem dX10_ham_55 : decode cX10_ham 55 = .ok (.ireturn, 1) := by decide +kernel
theorem dX10_suppers_0 : decode cX10_suppers 0 = .ok (.iload_n 1, 1) := by decide +kernel
theorem dX10_suppers_1 : decode cX10_suppers 1 = .ok (.iconst 0, 1) := by decide +kernel
theorem dX10_suppers_2 : decode cX10_suppers 2 = .ok (.iconst 1, 1) := by decide +kernel
theorem dX10_suppers_3 : decode cX10_suppers 3 = .ok (.invokestatic 67, 3) := by decide +kernel
theorem dX10_suppers_6 : decode cX10_suppers 6 = .ok (.ifCond .ne 5, 3) := by decide +kernel
theorem dX10_suppers_9 : decode cX10_suppers 9 = .ok (.iconst (-1), 1) := by decide +kernel
theorem dX10_suppers_10 : decode cX10_suppers 10 = .ok (.ireturn, 1) := by decide +kernel
theorem dX10_suppers_11 : decode cX10_suppers 11 = .ok (.iconst 0, 1) := by decide +kernel
theorem dX10_suppers_12 : decode cX10_suppers 12 = .ok (.istore_n 2, 1) := by decide +kernel
theorem dX10_suppers_13 : decode cX10_suppers 13 = .ok (.iconst (-1), 1) := by decide +kernel
theorem dX10_suppers_14 : decode cX10_suppers 14 = .ok (.istore_n 3, 1) := by decide +kernel
theorem dX10_suppers_15 : decode cX10_suppers 15 = .ok (.iconst 0, 1) := by decide +kernel
theorem dX10_suppers_16 : decode cX10_suppers 16 = .ok (.istore 4, 2) := by decide +kernel
theorem dX10_suppers_18 : decode cX10_suppers 18 = .ok (.iload 4, 2) := by decide +kernel
theorem dX10_suppers_20 : decode cX10_suppers 20 = .ok (.iconst 1, 1) := by decide +kernel
theorem dX10_suppers_21 : decode cX10_suppers 21 = .ok (.aload_n 0, 1) := by decide +kernel
theorem dX10_suppers_22 : decode cX10_suppers 22 = .ok (.getfield 50, 3) := by decide +kernel
theorem dX10_suppers_25 : decode cX10_suppers 25 = .ok (.ishl, 1) := by decide +kernel
theorem dX10_suppers_26 : decode cX10_suppers 26 = .ok (.if_icmp .ge 115, 3) := by decide +kernel
theorem dX10_suppers_29 : decode cX10_suppers 29 = .ok (.iload 4, 2) := by decide +kernel
theorem dX10_suppers_31 : decode cX10_suppers 31 = .ok (.aload_n 0, 1) := by decide +kernel
theorem dX10_suppers_32 : decode cX10_suppers 32 = .ok (.getfield 28, 3) := by decide +kernel
theorem dX10_suppers_35 : decode cX10_suppers 35 = .ok (.iconst 4, 1) := by decide +kernel
theorem dX10_suppers_36 : decode cX10_suppers 36 = .ok (.iaload, 1) := by decide +kernel
theorem dX10_suppers_37 : decode cX10_suppers 37 = .ok (.iand, 1) := by decide +kernel
theorem dX10_suppers_38 : decode cX10_suppers 38 = .ok (.ifCond .ne 97, 3) := by decide +kernel
theorem dX10_suppers_41 : decode cX10_suppers 41 = .ok (.aload_n 0, 1) := by decide +kernel
theorem dX10_suppers_42 : decode cX10_suppers 42 = .ok (.invokevirtual 190, 3) := by decide +kernel
theorem dX10_suppers_45 : decode cX10_suppers 45 = .ok (.aload_n 0, 1) := by decide +kernel
theorem dX10_suppers_46 : decode cX10_suppers 46 = .ok (.getfield 31, 3) := by decide +kernel
theorem dX10_suppers_49 : decode cX10_suppers 49 = .ok (.iconst 4, 1) := by decide +kernel
theorem dX10_suppers_50 : decode cX10_suppers 50 = .ok (.aload_n 0, 1) := by decide +kernel
theorem dX10_suppers_51 : decode cX10_suppers 51 = .ok (.getfield 31, 3) := by decide +kernel
theorem dX10_suppers_54 : decode cX10_suppers 54 = .ok (.iconst 4, 1) := by decide +kernel
theorem dX10_suppers_55 : decode cX10_suppers 55 = .ok (.iaload, 1) := by decide +kernel
theorem dX10_suppers_56 : decode cX10_suppers 56 = .ok (.iload 4, 2) := by decide +kernel
theorem dX10_suppers_58 : decode cX10_suppers 58 = .ok (.ior, 1) := by decide +kernel
theorem dX10_suppers_59 : decode cX10_suppers 59 = .ok (.iastore, 1) := by decide +kernel
theorem dX10_suppers_60 : decode cX10_suppers 60 = .ok (.aload_n 0, 1) := by decide +kernel
theorem dX10_suppers_61 : decode cX10_suppers 61 = .ok (.aload_n 0, 1) := by decide +kernel
theorem dX10_suppers_62 : decode cX10_suppers 62 = .ok (.getfield 31, 3) := by decide +kernel
theorem dX10_suppers_65 : decode cX10_suppers 65 = .ok (.bipush (-4), 2) := by decide +kernel
theorem dX10_suppers_67 : decode cX10_suppers 67 = .ok (.iconst 0, 1) := by decide +kernel
theorem dX10_suppers_68 : decode cX10_suppers 68 = .ok (.invokevirtual 170, 3) := by decide +kernel
theorem dX10_suppers_71 : decode cX10_suppers 71 = .ok (.aload_n 0, 1) := by decide +kernel
theorem dX10_suppers_72 : decode cX10_suppers 72 = .ok (.getfield 155, 3) := by decide +kernel
theorem dX10_suppers_75 : decode cX10_suppers 75 = .ok (.iload_n 3, 1) := by decide +kernel
theorem dX10_suppers_76 : decode cX10_suppers 76 = .ok (.if_icmp .gt 23, 3) := by decide +kernel
theorem dX10_suppers_79 : decode cX10_suppers 79 = .ok (.aload_n 0, 1) := by decide +kernel
theorem dX10_suppers_80 : decode cX10_suppers 80 = .ok (.getfield 155, 3) := by decide +kernel
theorem dX10_suppers_83 : decode cX10_suppers 83 = .ok (.iload_n 3, 1) := by decide +kernel
theorem dX10_suppers_84 : decode cX10_suppers 84 = .ok (.if_icmp .ne 19, 3) := by decide +kernel
theorem dX10_suppers_87 : decode cX10_suppers 87 = .ok (.iload 4, 2) := by decide +kernel
theorem dX10_suppers_89 : decode cX10_suppers 89 = .ok (.invokestatic 75, 3) := by decide +kernel
theorem dX10_suppers_92 : decode cX10_suppers 92 = .ok (.iload_n 2, 1) := by decide +kernel
theorem dX10_suppers_93 : decode cX10_suppers 93 = .ok (.invokestatic 75, 3) := by decide +kernel
theorem dX10_suppers_96 : decode cX10_suppers 96 = .ok (.if_icmp .ge 7, 3) := by decide +kernel
theorem dX10_suppers_99 : decode cX10_suppers 99 = .ok (.iconst 1, 1) := by decide +kernel
theorem dX10_suppers_100 : decode cX10_suppers 100 = .ok (.goto 4, 3) := by decide +kernel
theorem dX10_suppers_103 : decode cX10_suppers 103 = .ok (.iconst 0, 1) := by decide +kernel
theorem dX10_suppers_104 : decode cX10_suppers 104 = .ok (.istore 5, 2) := by decide +kernel
theorem dX10_suppers_106 : decode cX10_suppers 106 = .ok (.iload 5, 2) := by decide +kernel
theorem dX10_suppers_108 : decode cX10_suppers 108 = .ok (.ifCond .eq 8, 3) := by decide +kernel
theorem dX10_suppers_111 : decode cX10_suppers 111 = .ok (.iload 4, 2) := by decide +kernel
theorem dX10_suppers_113 : decode cX10_suppers 113 = .ok (.goto 4, 3) := by decide +kernel
theorem dX10_suppers_116 : decode cX10_suppers 116 = .ok (.iload_n 2, 1) := by decide +kernel
theorem dX10_suppers_117 : decode cX10_suppers 117 = .ok (.istore_n 2, 1) := by decide +kernel
theorem dX10_suppers_118 : decode cX10_suppers 118 = .ok (.aload_n 0, 1) := by decide +kernel
theorem dX10_suppers_119 : decode cX10_suppers 119 = .ok (.getfield 155, 3) := by decide +kernel
theorem dX10_suppers_122 : decode cX10_suppers 122 = .ok (.iload_n 3, 1) := by decide +kernel
theorem dX10_suppers_123 : decode cX10_suppers 123 = .ok (.if_icmp .le 10, 3) := by decide +kernel
theorem dX10_suppers_126 : decode cX10_suppers 126 = .ok (.aload_n 0, 1) := by decide +kernel
theorem dX10_suppers_127 : decode cX10_suppers 127 = .ok (.getfield 155, 3) := by decide +kernel
theorem dX10_suppers_130 : decode cX10_suppers 130 = .ok (.goto 4, 3) := by decide +kernel
theorem dX10_suppers_133 : decode cX10_suppers 133 = .ok (.iload_n 3, 1) := by decide +kernel
theorem dX10_suppers_134 : decode cX10_suppers 134 = .ok (.istore_n 3, 1) := by decide +kernel
theorem dX10_suppers_135 : decode cX10_suppers 135 = .ok (.iinc 4 1, 3) := by decide +kernel
theorem dX10_suppers_138 : decode cX10_suppers 138 = .ok (.goto (-120), 3) := by decide +kernel
theorem dX10_suppers_141 : decode cX10_suppers 141 = .ok (.iload_n 1, 1) := by decide +kernel
theorem dX10_suppers_142 : decode cX10_suppers 142 = .ok (.ifCond .ne 7, 3) := by decide +kernel
theorem dX10_suppers_145 : decode cX10_suppers 145 = .ok (.iload_n 2, 1) := by decide +kernel
theorem dX10_suppers_146 : decode cX10_suppers 146 = .ok (.goto 4, 3) := by decide +kernel
theorem dX10_suppers_149 : decode cX10_suppers 149 = .ok (.iload_n 3, 1) := by decide +kernel
theorem dX10_suppers_150 : decode cX10_suppers 150 = .ok (.ireturn, 1) := by decide +kernel
theorem dX10_makeUp_0 : decode cX10_makeUp 0 = .ok (.iconst 0, 1) := by decide +kernel
theorem dX10_makeUp_1 : decode cX10_makeUp 1 = .ok (.istore_n 2, 1) := by decide +kernel
theorem dX10_makeUp_2 : decode cX10_makeUp 2 = .ok (.iconst 0, 1) := by decide +kernel
theorem dX10_makeUp_3 : decode cX10_makeUp 3 = .ok (.istore_n 3, 1) := by decide +kernel
theorem dX10_makeUp_4 : decode cX10_makeUp 4 = .ok (.iload_n 3, 1) := by decide +kernel
theorem dX10_makeUp_5 : decode cX10_makeUp 5 = .ok (.bipush 6, 2) := by decide +kernel
theorem dX10_makeUp_7 : decode cX10_makeUp 7 = .ok (.if_icmp .ge 65, 3) := by decide +kernel
theorem dX10_makeUp_10 : decode cX10_makeUp 10 = .ok (.iload_n 3, 1) := by decide +kernel
theorem dX10_makeUp_11 : decode cX10_makeUp 11 = .ok (.iconst 1, 1) := by decide +kernel
theorem dX10_makeUp_12 : decode cX10_makeUp 12 = .ok (.iadd, 1) := by decide +kernel
theorem dX10_makeUp_13 : decode cX10_makeUp 13 = .ok (.istore 4, 2) := by decide +kernel
theorem dX10_makeUp_15 : decode cX10_makeUp 15 = .ok (.iload 4, 2) := by decide +kernel
theorem dX10_makeUp_17 : decode cX10_makeUp 17 = .ok (.bipush 6, 2) := by decide +kernel
theorem dX10_makeUp_19 : decode cX10_makeUp 19 = .ok (.if_icmp .ge 47, 3) := by decide +kernel
theorem dX10_makeUp_22 : decode cX10_makeUp 22 = .ok (.aload_n 0, 1) := by decide +kernel
theorem dX10_makeUp_23 : decode cX10_makeUp 23 = .ok (.getfield 28, 3) := by decide +kernel
theorem dX10_makeUp_26 : decode cX10_makeUp 26 = .ok (.iconst 5, 1) := by decide +kernel
theorem dX10_makeUp_27 : decode cX10_makeUp 27 = .ok (.iload_n 3, 1) := by decide +kernel
theorem dX10_makeUp_28 : decode cX10_makeUp 28 = .ok (.iadd, 1) := by decide +kernel
theorem dX10_makeUp_29 : decode cX10_makeUp 29 = .ok (.iaload, 1) := by decide +kernel
theorem dX10_makeUp_30 : decode cX10_makeUp 30 = .ok (.iload 4, 2) := by decide +kernel
theorem dX10_makeUp_32 : decode cX10_makeUp 32 = .ok (.invokestatic 107, 3) := by decide +kernel
theorem dX10_makeUp_35 : decode cX10_makeUp 35 = .ok (.ifCond .eq 25, 3) := by decide +kernel
theorem dX10_makeUp_38 : decode cX10_makeUp 38 = .ok (.iload_n 1, 1) := by decide +kernel
theorem dX10_makeUp_39 : decode cX10_makeUp 39 = .ok (.iload_n 2, 1) := by decide +kernel
theorem dX10_makeUp_40 : decode cX10_makeUp 40 = .ok (.invokestatic 107, 3) := by decide +kernel
theorem dX10_makeUp_43 : decode cX10_makeUp 43 = .ok (.ifCond .eq 14, 3) := by decide +kernel
theorem dX10_makeUp_46 : decode cX10_makeUp 46 = .ok (.aload_n 0, 1) := by decide +kernel
theorem dX10_makeUp_47 : decode cX10_makeUp 47 = .ok (.getfield 31, 3) := by decide +kernel
theorem dX10_makeUp_50 : decode cX10_makeUp 50 = .ok (.iconst 5, 1) := by decide +kernel
theorem dX10_makeUp_51 : decode cX10_makeUp 51 = .ok (.iload_n 3, 1) := by decide +kernel
theorem dX10_makeUp_52 : decode cX10_makeUp 52 = .ok (.iload 4, 2) := by decide +kernel
theorem dX10_makeUp_54 : decode cX10_makeUp 54 = .ok (.invokestatic 54, 3) := by decide +kernel
theorem dX10_makeUp_57 : decode cX10_makeUp 57 = .ok (.iinc 2 1, 3) := by decide +kernel
theorem dX10_makeUp_60 : decode cX10_makeUp 60 = .ok (.iinc 4 1, 3) := by decide +kernel
theorem dX10_makeUp_63 : decode cX10_makeUp 63 = .ok (.goto (-48), 3) := by decide +kernel
theorem dX10_makeUp_66 : decode cX10_makeUp 66 = .ok (.iinc 3 1, 3) := by decide +kernel
theorem dX10_makeUp_69 : decode cX10_makeUp 69 = .ok (.goto (-65), 3) := by decide +kernel
theorem dX10_makeUp_72 : decode cX10_makeUp 72 = .ok (.return_, 1) := by decide +kernel
theorem dX10_apart_0 : decode cX10_apart 0 = .ok (.iload_n 1, 1) := by decide +kernel
theorem dX10_apart_1 : decode cX10_apart 1 = .ok (.iconst 1, 1) := by decide +kernel
theorem dX10_apart_2 : decode cX10_apart 2 = .ok (.bipush 14, 2) := by decide +kernel
theorem dX10_apart_4 : decode cX10_apart 4 = .ok (.invokestatic 67, 3) := by decide +kernel
theorem dX10_apart_7 : decode cX10_apart 7 = .ok (.ifCond .eq 12, 3) := by decide +kernel
theorem dX10_apart_10 : decode cX10_apart 10 = .ok (.iload_n 2, 1) := by decide +kernel
theorem dX10_apart_11 : decode cX10_apart 11 = .ok (.iconst 0, 1) := by decide +kernel
theorem dX10_apart_12 : decode cX10_apart 12 = .ok (.iconst 1, 1) := by decide +kernel
theorem dX10_apart_13 : decode cX10_apart 13 = .ok (.invokestatic 67, 3) := by decide +kernel
theorem dX10_apart_16 : decode cX10_apart 16 = .ok (.ifCond .ne 5, 3) := by decide +kernel
theorem dX10_apart_19 : decode cX10_apart 19 = .ok (.iconst (-1), 1) := by decide +kernel
theorem dX10_apart_20 : decode cX10_apart 20 = .ok (.ireturn, 1) := by decide +kernel
theorem dX10_apart_21 : decode cX10_apart 21 = .ok (.iconst 0, 1) := by decide +kernel
theorem dX10_apart_22 : decode cX10_apart 22 = .ok (.istore_n 3, 1) := by decide +kernel
theorem dX10_apart_23 : decode cX10_apart 23 = .ok (.iconst (-1), 1) := by decide +kernel
theorem dX10_apart_24 : decode cX10_apart 24 = .ok (.istore 4, 2) := by decide +kernel
theorem dX10_apart_26 : decode cX10_apart 26 = .ok (.iconst 0, 1) := by decide +kernel
theorem dX10_apart_27 : decode cX10_apart 27 = .ok (.istore 5, 2) := by decide +kernel
theorem dX10_apart_29 : decode cX10_apart 29 = .ok (.iload 5, 2) := by decide +kernel
theorem dX10_apart_31 : decode cX10_apart 31 = .ok (.iconst 1, 1) := by decide +kernel
theorem dX10_apart_32 : decode cX10_apart 32 = .ok (.aload_n 0, 1) := by decide +kernel
theorem dX10_apart_33 : decode cX10_apart 33 = .ok (.getfield 28, 3) := by decide +kernel
theorem dX10_apart_36 : decode cX10_apart 36 = .ok (.iconst 5, 1) := by decide +kernel
theorem dX10_apart_37 : decode cX10_apart 37 = .ok (.invokestatic 111, 3) := by decide +kernel
theorem dX10_apart_40 : decode cX10_apart 40 = .ok (.ishl, 1) := by decide +kernel
theorem dX10_apart_41 : decode cX10_apart 41 = .ok (.if_icmp .ge 116, 3) := by decide +kernel
theorem dX10_apart_44 : decode cX10_apart 44 = .ok (.aload_n 0, 1) := by decide +kernel
theorem dX10_apart_45 : decode cX10_apart 45 = .ok (.invokevirtual 190, 3) := by decide +kernel
theorem dX10_apart_48 : decode cX10_apart 48 = .ok (.aload_n 0, 1) := by decide +kernel
theorem dX10_apart_49 : decode cX10_apart 49 = .ok (.iload 5, 2) := by decide +kernel
theorem dX10_apart_51 : decode cX10_apart 51 = .ok (.invokevirtual 193, 3) := by decide +kernel
theorem dX10_apart_54 : decode cX10_apart 54 = .ok (.iconst 0, 1) := by decide +kernel
theorem dX10_apart_55 : decode cX10_apart 55 = .ok (.istore 6, 2) := by decide +kernel
theorem dX10_apart_57 : decode cX10_apart 57 = .ok (.iconst 0, 1) := by decide +kernel
theorem dX10_apart_58 : decode cX10_apart 58 = .ok (.istore 7, 2) := by decide +kernel
theorem dX10_apart_60 : decode cX10_apart 60 = .ok (.iload 7, 2) := by decide +kernel
theorem dX10_apart_62 : decode cX10_apart 62 = .ok (.iload_n 1, 1) := by decide +kernel
theorem dX10_apart_63 : decode cX10_apart 63 = .ok (.if_icmp .ge 27, 3) := by decide +kernel
theorem dX10_apart_66 : decode cX10_apart 66 = .ok (.aload_n 0, 1) := by decide +kernel
theorem dX10_apart_67 : decode cX10_apart 67 = .ok (.aload_n 0, 1) := by decide +kernel
theorem dX10_apart_68 : decode cX10_apart 68 = .ok (.getfield 31, 3) := by decide +kernel
theorem dX10_apart_71 : decode cX10_apart 71 = .ok (.invokevirtual 186, 3) := by decide +kernel
theorem dX10_apart_74 : decode cX10_apart 74 = .ok (.pop, 1) := by decide +kernel
theorem dX10_apart_75 : decode cX10_apart 75 = .ok (.iload 6, 2) := by decide +kernel
theorem dX10_apart_77 : decode cX10_apart 77 = .ok (.aload_n 0, 1) := by decide +kernel
theorem dX10_apart_78 : decode cX10_apart 78 = .ok (.getfield 155, 3) := by decide +kernel
theorem dX10_apart_81 : decode cX10_apart 81 = .ok (.iadd, 1) := by decide +kernel
theorem dX10_apart_82 : decode cX10_apart 82 = .ok (.istore 6, 2) := by decide +kernel
theorem dX10_apart_84 : decode cX10_apart 84 = .ok (.iinc 7 1, 3) := by decide +kernel
theorem dX10_apart_87 : decode cX10_apart 87 = .ok (.goto (-27), 3) := by decide +kernel
theorem dX10_apart_90 : decode cX10_apart 90 = .ok (.iload 6, 2) := by decide +kernel
theorem dX10_apart_92 : decode cX10_apart 92 = .ok (.iload 4, 2) := by decide +kernel
theorem dX10_apart_94 : decode cX10_apart 94 = .ok (.if_icmp .gt 22, 3) := by decide +kernel
theorem dX10_apart_97 : decode cX10_apart 97 = .ok (.iload 6, 2) := by decide +kernel
theorem dX10_apart_99 : decode cX10_apart 99 = .ok (.iload 4, 2) := by decide +kernel
theorem dX10_apart_101 : decode cX10_apart 101 = .ok (.if_icmp .ne 19, 3) := by decide +kernel
theorem dX10_apart_104 : decode cX10_apart 104 = .ok (.iload 5, 2) := by decide +kernel
theorem dX10_apart_106 : decode cX10_apart 106 = .ok (.invokestatic 75, 3) := by decide +kernel
theorem dX10_apart_109 : decode cX10_apart 109 = .ok (.iload_n 3, 1) := by decide +kernel
theorem dX10_apart_110 : decode cX10_apart 110 = .ok (.invokestatic 75, 3) := by decide +kernel
theorem dX10_apart_113 : decode cX10_apart 113 = .ok (.if_icmp .ge 7, 3) := by decide +kernel
theorem dX10_apart_116 : decode cX10_apart 116 = .ok (.iconst 1, 1) := by decide +kernel
theorem dX10_apart_117 : decode cX10_apart 117 = .ok (.goto 4, 3) := by decide +kernel
theorem dX10_apart_120 : decode cX10_apart 120 = .ok (.iconst 0, 1) := by decide +kernel
theorem dX10_apart_121 : decode cX10_apart 121 = .ok (.istore 7, 2) := by decide +kernel
theorem dX10_apart_123 : decode cX10_apart 123 = .ok (.iload 7, 2) := by decide +kernel
theorem dX10_apart_125 : decode cX10_apart 125 = .ok (.ifCond .eq 8, 3) := by decide +kernel
theorem dX10_apart_128 : decode cX10_apart 128 = .ok (.iload 5, 2) := by decide +kernel
theorem dX10_apart_130 : decode cX10_apart 130 = .ok (.goto 4, 3) := by decide +kernel
theorem dX10_apart_133 : decode cX10_apart 133 = .ok (.iload_n 3, 1) := by decide +kernel
theorem dX10_apart_134 : decode cX10_apart 134 = .ok (.istore_n 3, 1) := by decide +kernel
theorem dX10_apart_135 : decode cX10_apart 135 = .ok (.iload 6, 2) := by decide +kernel
theorem dX10_apart_137 : decode cX10_apart 137 = .ok (.iload 4, 2) := by decide +kernel
theorem dX10_apart_139 : decode cX10_apart 139 = .ok (.if_icmp .le 8, 3) := by decide +kernel
theorem dX10_apart_142 : decode cX10_apart 142 = .ok (.iload 6, 2) := by decide +kernel
theorem dX10_apart_144 : decode cX10_apart 144 = .ok (.goto 5, 3) := by decide +kernel
theorem dX10_apart_147 : decode cX10_apart 147 = .ok (.iload 4, 2) := by decide +kernel
theorem dX10_apart_149 : decode cX10_apart 149 = .ok (.istore 4, 2) := by decide +kernel
theorem dX10_apart_151 : decode cX10_apart 151 = .ok (.iinc 5 1, 3) := by decide +kernel
theorem dX10_apart_154 : decode cX10_apart 154 = .ok (.goto (-125), 3) := by decide +kernel
theorem dX10_apart_157 : decode cX10_apart 157 = .ok (.iload_n 2, 1) := by decide +kernel
theorem dX10_apart_158 : decode cX10_apart 158 = .ok (.ifCond .ne 8, 3) := by decide +kernel
theorem dX10_apart_161 : decode cX10_apart 161 = .ok (.iload 4, 2) := by decide +kernel
theorem dX10_apart_163 : decode cX10_apart 163 = .ok (.goto 4, 3) := by decide +kernel
theorem dX10_apart_166 : decode cX10_apart 166 = .ok (.iload_n 3, 1) := by decide +kernel
theorem dX10_apart_167 : decode cX10_apart 167 = .ok (.ireturn, 1) := by decide +kernel
theorem dX10_ask_0 : decode cX10_ask 0 = .ok (.aload_n 0, 1) := by decide +kernel
theorem dX10_ask_1 : decode cX10_ask 1 = .ok (.iload_n 1, 1) := by decide +kernel
theorem dX10_ask_2 : decode cX10_ask 2 = .ok (.invokevirtual 177, 3) := by decide +kernel
theorem dX10_ask_5 : decode cX10_ask 5 = .ok (.ifCond .ne 5, 3) := by decide +kernel
theorem dX10_ask_8 : decode cX10_ask 8 = .ok (.iconst (-1), 1) := by decide +kernel
theorem dX10_ask_9 : decode cX10_ask 9 = .ok (.ireturn, 1) := by decide +kernel
theorem dX10_ask_10 : decode cX10_ask 10 = .ok (.aload_n 0, 1) := by decide +kernel
theorem dX10_ask_11 : decode cX10_ask 11 = .ok (.bipush (-4), 2) := by decide +kernel
theorem dX10_ask_13 : decode cX10_ask 13 = .ok (.putfield 139, 3) := by decide +kernel
theorem dX10_ask_16 : decode cX10_ask 16 = .ok (.iconst 0, 1) := by decide +kernel
theorem dX10_ask_17 : decode cX10_ask 17 = .ok (.istore_n 2, 1) := by decide +kernel
theorem dX10_ask_18 : decode cX10_ask 18 = .ok (.iload_n 2, 1) := by decide +kernel
theorem dX10_ask_19 : decode cX10_ask 19 = .ok (.iconst 4, 1) := by decide +kernel
theorem dX10_ask_20 : decode cX10_ask 20 = .ok (.if_icmp .ge 29, 3) := by decide +kernel
theorem dX10_ask_23 : decode cX10_ask 23 = .ok (.aload_n 0, 1) := by decide +kernel
theorem dX10_ask_24 : decode cX10_ask 24 = .ok (.aload_n 0, 1) := by decide +kernel
theorem dX10_ask_25 : decode cX10_ask 25 = .ok (.getfield 28, 3) := by decide +kernel
theorem dX10_ask_28 : decode cX10_ask 28 = .ok (.iload_n 1, 1) := by decide +kernel
theorem dX10_ask_29 : decode cX10_ask 29 = .ok (.iload_n 2, 1) := by decide +kernel
theorem dX10_ask_30 : decode cX10_ask 30 = .ok (.invokevirtual 170, 3) := by decide +kernel
theorem dX10_ask_33 : decode cX10_ask 33 = .ok (.aload_n 0, 1) := by decide +kernel
theorem dX10_ask_34 : decode cX10_ask 34 = .ok (.getfield 161, 3) := by decide +kernel
theorem dX10_ask_37 : decode cX10_ask 37 = .ok (.iconst 1, 1) := by decide +kernel
theorem dX10_ask_38 : decode cX10_ask 38 = .ok (.if_icmp .ne 5, 3) := by decide +kernel
theorem dX10_ask_41 : decode cX10_ask 41 = .ok (.iload_n 2, 1) := by decide +kernel
theorem dX10_ask_42 : decode cX10_ask 42 = .ok (.ireturn, 1) := by decide +kernel
theorem dX10_ask_43 : decode cX10_ask 43 = .ok (.iinc 2 1, 3) := by decide +kernel
theorem dX10_ask_46 : decode cX10_ask 46 = .ok (.goto (-28), 3) := by decide +kernel
theorem dX10_ask_49 : decode cX10_ask 49 = .ok (.bipush (-4), 2) := by decide +kernel
theorem dX10_ask_51 : decode cX10_ask 51 = .ok (.ireturn, 1) := by decide +kernel
theorem dX10_see_0 : decode cX10_see 0 = .ok (.aload_n 0, 1) := by decide +kernel
theorem dX10_see_1 : decode cX10_see 1 = .ok (.iload_n 1, 1) := by decide +kernel
theorem dX10_see_2 : decode cX10_see 2 = .ok (.invokevirtual 71, 3) := by decide +kernel
theorem dX10_see_5 : decode cX10_see 5 = .ok (.ifCond .eq 13, 3) := by decide +kernel
theorem dX10_see_8 : decode cX10_see 8 = .ok (.iload_n 2, 1) := by decide +kernel
theorem dX10_see_9 : decode cX10_see 9 = .ok (.iconst 0, 1) := by decide +kernel
theorem dX10_see_10 : decode cX10_see 10 = .ok (.bipush 99, 2) := by decide +kernel
theorem dX10_see_12 : decode cX10_see 12 = .ok (.invokestatic 67, 3) := by decide +kernel
theorem dX10_see_15 : decode cX10_see 15 = .ok (.ifCond .ne 5, 3) := by decide +kernel
theorem dX10_see_18 : decode cX10_see 18 = .ok (.iconst (-1), 1) := by decide +kernel
theorem dX10_see_19 : decode cX10_see 19 = .ok (.ireturn, 1) := by decide +kernel
theorem dX10_see_20 : decode cX10_see 20 = .ok (.aload_n 0, 1) := by decide +kernel
theorem dX10_see_21 : decode cX10_see 21 = .ok (.getfield 130, 3) := by decide +kernel
theorem dX10_see_24 : decode cX10_see 24 = .ok (.bipush 8, 2) := by decide +kernel
theorem dX10_see_26 : decode cX10_see 26 = .ok (.if_icmp .ne 6, 3) := by decide +kernel
theorem dX10_see_29 : decode cX10_see 29 = .ok (.bipush (-3), 2) := by decide +kernel
theorem dX10_see_31 : decode cX10_see 31 = .ok (.ireturn, 1) := by decide +kernel
theorem dX10_see_32 : decode cX10_see 32 = .ok (.aload_n 0, 1) := by decide +kernel
theorem dX10_see_33 : decode cX10_see 33 = .ok (.getfield 40, 3) := by decide +kernel
theorem dX10_see_36 : decode cX10_see 36 = .ok (.iconst 3, 1) := by decide +kernel
theorem dX10_see_37 : decode cX10_see 37 = .ok (.aload_n 0, 1) := by decide +kernel
theorem dX10_see_38 : decode cX10_see 38 = .ok (.getfield 130, 3) := by decide +kernel
theorem dX10_see_41 : decode cX10_see 41 = .ok (.imul, 1) := by decide +kernel
theorem dX10_see_42 : decode cX10_see 42 = .ok (.iload_n 1, 1) := by decide +kernel
theorem dX10_see_43 : decode cX10_see 43 = .ok (.iastore, 1) := by decide +kernel
theorem dX10_see_44 : decode cX10_see 44 = .ok (.aload_n 0, 1) := by decide +kernel
theorem dX10_see_45 : decode cX10_see 45 = .ok (.getfield 40, 3) := by decide +kernel
theorem dX10_see_48 : decode cX10_see 48 = .ok (.iconst 3, 1) := by decide +kernel
theorem dX10_see_49 : decode cX10_see 49 = .ok (.aload_n 0, 1) := by decide +kernel
theorem dX10_see_50 : decode cX10_see 50 = .ok (.getfield 130, 3) := by decide +kernel
theorem dX10_see_53 : decode cX10_see 53 = .ok (.imul, 1) := by decide +kernel
theorem dX10_see_54 : decode cX10_see 54 = .ok (.iconst 1, 1) := by decide +kernel
theorem dX10_see_55 : decode cX10_see 55 = .ok (.iadd, 1) := by decide +kernel
theorem dX10_see_56 : decode cX10_see 56 = .ok (.iload_n 2, 1) := by decide +kernel
theorem dX10_see_57 : decode cX10_see 57 = .ok (.iastore, 1) := by decide +kernel
theorem dX10_see_58 : decode cX10_see 58 = .ok (.aload_n 0, 1) := by decide +kernel
theorem dX10_see_59 : decode cX10_see 59 = .ok (.getfield 40, 3) := by decide +kernel
theorem dX10_see_62 : decode cX10_see 62 = .ok (.iconst 3, 1) := by decide +kernel
theorem dX10_see_63 : decode cX10_see 63 = .ok (.aload_n 0, 1) := by decide +kernel
theorem dX10_see_64 : decode cX10_see 64 = .ok (.getfield 130, 3) := by decide +kernel
theorem dX10_see_67 : decode cX10_see 67 = .ok (.imul, 1) := by decide +kernel
theorem dX10_see_68 : decode cX10_see 68 = .ok (.iconst 2, 1) := by decide +kernel
theorem dX10_see_69 : decode cX10_see 69 = .ok (.iadd, 1) := by decide +kernel
theorem dX10_see_70 : decode cX10_see 70 = .ok (.iload_n 3, 1) := by decide +kernel
theorem dX10_see_71 : decode cX10_see 71 = .ok (.ifCond .eq 7, 3) := by decide +kernel
theorem dX10_see_74 : decode cX10_see 74 = .ok (.iconst 1, 1) := by decide +kernel
theorem dX10_see_75 : decode cX10_see 75 = .ok (.goto 4, 3) := by decide +kernel
theorem dX10_see_78 : decode cX10_see 78 = .ok (.iconst 0, 1) := by decide +kernel
theorem dX10_see_79 : decode cX10_see 79 = .ok (.iastore, 1) := by decide +kernel
theorem dX10_see_80 : decode cX10_see 80 = .ok (.aload_n 0, 1) := by decide +kernel
theorem dX10_see_81 : decode cX10_see 81 = .ok (.dup, 1) := by decide +kernel
theorem dX10_see_82 : decode cX10_see 82 = .ok (.getfield 130, 3) := by decide +kernel
theorem dX10_see_85 : decode cX10_see 85 = .ok (.iconst 1, 1) := by decide +kernel
theorem dX10_see_86 : decode cX10_see 86 = .ok (.iadd, 1) := by decide +kernel
theorem dX10_see_87 : decode cX10_see 87 = .ok (.putfield 130, 3) := by decide +kernel
theorem dX10_see_90 : decode cX10_see 90 = .ok (.aload_n 0, 1) := by decide +kernel
theorem dX10_see_91 : decode cX10_see 91 = .ok (.getfield 130, 3) := by decide +kernel
theorem dX10_see_94 : decode cX10_see 94 = .ok (.ireturn, 1) := by decide +kernel
theorem dX10_forget_0 : decode cX10_forget 0 = .ok (.aload_n 0, 1) := by decide +kernel
theorem dX10_forget_1 : decode cX10_forget 1 = .ok (.getfield 130, 3) := by decide +kernel
theorem dX10_forget_4 : decode cX10_forget 4 = .ok (.istore_n 1, 1) := by decide +kernel
theorem dX10_forget_5 : decode cX10_forget 5 = .ok (.aload_n 0, 1) := by decide +kernel
theorem dX10_forget_6 : decode cX10_forget 6 = .ok (.iconst 0, 1) := by decide +kernel
theorem dX10_forget_7 : decode cX10_forget 7 = .ok (.putfield 130, 3) := by decide +kernel
theorem dX10_forget_10 : decode cX10_forget 10 = .ok (.iload_n 1, 1) := by decide +kernel
theorem dX10_forget_11 : decode cX10_forget 11 = .ok (.ireturn, 1) := by decide +kernel
theorem dX10_law_0 : decode cX10_law 0 = .ok (.aload_n 0, 1) := by decide +kernel
theorem dX10_law_1 : decode cX10_law 1 = .ok (.iload_n 1, 1) := by decide +kernel
theorem dX10_law_2 : decode cX10_law 2 = .ok (.invokevirtual 71, 3) := by decide +kernel
theorem dX10_law_5 : decode cX10_law 5 = .ok (.ifCond .eq 12, 3) := by decide +kernel
theorem dX10_law_8 : decode cX10_law 8 = .ok (.iload_n 2, 1) := by decide +kernel
theorem dX10_law_9 : decode cX10_law 9 = .ok (.iconst 0, 1) := by decide +kernel
theorem dX10_law_10 : decode cX10_law 10 = .ok (.iconst 1, 1) := by decide +kernel
theorem dX10_law_11 : decode cX10_law 11 = .ok (.invokestatic 67, 3) := by decide +kernel
theorem dX10_law_14 : decode cX10_law 14 = .ok (.ifCond .ne 5, 3) := by decide +kernel
theorem dX10_law_17 : decode cX10_law 17 = .ok (.iconst (-1), 1) := by decide +kernel
theorem dX10_law_18 : decode cX10_law 18 = .ok (.ireturn, 1) := by decide +kernel
theorem dX10_law_19 : decode cX10_law 19 = .ok (.iconst 0, 1) := by decide +kernel
theorem dX10_law_20 : decode cX10_law 20 = .ok (.istore_n 3, 1) := by decide +kernel
theorem dX10_law_21 : decode cX10_law 21 = .ok (.bipush (-4), 2) := by decide +kernel
theorem dX10_law_23 : decode cX10_law 23 = .ok (.istore 4, 2) := by decide +kernel
theorem dX10_law_25 : decode cX10_law 25 = .ok (.iconst 1, 1) := by decide +kernel
theorem dX10_law_26 : decode cX10_law 26 = .ok (.istore 5, 2) := by decide +kernel
theorem dX10_law_28 : decode cX10_law 28 = .ok (.iload 5, 2) := by decide +kernel
theorem dX10_law_30 : decode cX10_law 30 = .ok (.bipush 10, 2) := by decide +kernel
theorem dX10_law_32 : decode cX10_law 32 = .ok (.if_icmp .gt 155, 3) := by decide +kernel
theorem dX10_law_35 : decode cX10_law 35 = .ok (.iconst 0, 1) := by decide +kernel
theorem dX10_law_36 : decode cX10_law 36 = .ok (.istore 6, 2) := by decide +kernel
theorem dX10_law_38 : decode cX10_law 38 = .ok (.iload 6, 2) := by decide +kernel
theorem dX10_law_40 : decode cX10_law 40 = .ok (.iload 5, 2) := by decide +kernel
theorem dX10_law_42 : decode cX10_law 42 = .ok (.if_icmp .ge 139, 3) := by decide +kernel
theorem dX10_law_45 : decode cX10_law 45 = .ok (.iconst 1, 1) := by decide +kernel
theorem dX10_law_46 : decode cX10_law 46 = .ok (.istore 7, 2) := by decide +kernel
theorem dX10_law_48 : decode cX10_law 48 = .ok (.iconst 0, 1) := by decide +kernel
theorem dX10_law_49 : decode cX10_law 49 = .ok (.istore 8, 2) := by decide +kernel
theorem dX10_law_51 : decode cX10_law 51 = .ok (.iload 8, 2) := by decide +kernel
theorem dX10_law_53 : decode cX10_law 53 = .ok (.aload_n 0, 1) := by decide +kernel
theorem dX10_law_54 : decode cX10_law 54 = .ok (.getfield 130, 3) := by decide +kernel
theorem dX10_law_57 : decode cX10_law 57 = .ok (.if_icmp .ge 81, 3) := by decide +kernel
theorem dX10_law_60 : decode cX10_law 60 = .ok (.iload 7, 2) := by decide +kernel
theorem dX10_law_62 : decode cX10_law 62 = .ok (.ifCond .eq 67, 3) := by decide +kernel
theorem dX10_law_65 : decode cX10_law 65 = .ok (.aload_n 0, 1) := by decide +kernel
theorem dX10_law_66 : decode cX10_law 66 = .ok (.getfield 40, 3) := by decide +kernel
theorem dX10_law_69 : decode cX10_law 69 = .ok (.iconst 3, 1) := by decide +kernel
theorem dX10_law_70 : decode cX10_law 70 = .ok (.iload 8, 2) := by decide +kernel
theorem dX10_law_72 : decode cX10_law 72 = .ok (.imul, 1) := by decide +kernel
theorem dX10_law_73 : decode cX10_law 73 = .ok (.iaload, 1) := by decide +kernel
theorem dX10_law_74 : decode cX10_law 74 = .ok (.iload_n 1, 1) := by decide +kernel
theorem dX10_law_75 : decode cX10_law 75 = .ok (.if_icmp .ne 50, 3) := by decide +kernel
theorem dX10_law_78 : decode cX10_law 78 = .ok (.aload_n 0, 1) := by decide +kernel
theorem dX10_law_79 : decode cX10_law 79 = .ok (.getfield 40, 3) := by decide +kernel
theorem dX10_law_82 : decode cX10_law 82 = .ok (.iconst 3, 1) := by decide +kernel
theorem dX10_law_83 : decode cX10_law 83 = .ok (.iload 8, 2) := by decide +kernel
theorem dX10_law_85 : decode cX10_law 85 = .ok (.imul, 1) := by decide +kernel
theorem dX10_law_86 : decode cX10_law 86 = .ok (.iconst 1, 1) := by decide +kernel
theorem dX10_law_87 : decode cX10_law 87 = .ok (.iadd, 1) := by decide +kernel
theorem dX10_law_88 : decode cX10_law 88 = .ok (.iaload, 1) := by decide +kernel
theorem dX10_law_89 : decode cX10_law 89 = .ok (.iload 5, 2) := by decide +kernel
theorem dX10_law_91 : decode cX10_law 91 = .ok (.irem, 1) := by decide +kernel
theorem dX10_law_92 : decode cX10_law 92 = .ok (.iload 6, 2) := by decide +kernel
theorem dX10_law_94 : decode cX10_law 94 = .ok (.if_icmp .ne 7, 3) := by decide +kernel
theorem dX10_law_97 : decode cX10_law 97 = .ok (.iconst 1, 1) := by decide +kernel
theorem dX10_law_98 : decode cX10_law 98 = .ok (.goto 4, 3) := by decide +kernel
theorem dX10_law_101 : decode cX10_law 101 = .ok (.iconst 0, 1) := by decide +kernel
theorem dX10_law_102 : decode cX10_law 102 = .ok (.aload_n 0, 1) := by decide +kernel
theorem dX10_law_103 : decode cX10_law 103 = .ok (.getfield 40, 3) := by decide +kernel
theorem dX10_law_106 : decode cX10_law 106 = .ok (.iconst 3, 1) := by decide +kernel
theorem dX10_law_107 : decode cX10_law 107 = .ok (.iload 8, 2) := by decide +kernel
theorem dX10_law_109 : decode cX10_law 109 = .ok (.imul, 1) := by decide +kernel
theorem dX10_law_110 : decode cX10_law 110 = .ok (.iconst 2, 1) := by decide +kernel
theorem dX10_law_111 : decode cX10_law 111 = .ok (.iadd, 1) := by decide +kernel
theorem dX10_law_112 : decode cX10_law 112 = .ok (.iaload, 1) := by decide +kernel
theorem dX10_law_113 : decode cX10_law 113 = .ok (.iconst 1, 1) := by decide +kernel
theorem dX10_law_114 : decode cX10_law 114 = .ok (.if_icmp .ne 7, 3) := by decide +kernel
theorem dX10_law_117 : decode cX10_law 117 = .ok (.iconst 1, 1) := by decide +kernel
theorem dX10_law_118 : decode cX10_law 118 = .ok (.goto 4, 3) := by decide +kernel
theorem dX10_law_121 : decode cX10_law 121 = .ok (.iconst 0, 1) := by decide +kernel
theorem dX10_law_122 : decode cX10_law 122 = .ok (.if_icmp .ne 7, 3) := by decide +kernel
theorem dX10_law_125 : decode cX10_law 125 = .ok (.iconst 1, 1) := by decide +kernel
theorem dX10_law_126 : decode cX10_law 126 = .ok (.goto 4, 3) := by decide +kernel
theorem dX10_law_129 : decode cX10_law 129 = .ok (.iconst 0, 1) := by decide +kernel
theorem dX10_law_130 : decode cX10_law 130 = .ok (.istore 7, 2) := by decide +kernel
theorem dX10_law_132 : decode cX10_law 132 = .ok (.iinc 8 1, 3) := by decide +kernel
theorem dX10_law_135 : decode cX10_law 135 = .ok (.goto (-84), 3) := by decide +kernel
theorem dX10_law_138 : decode cX10_law 138 = .ok (.iload 7, 2) := by decide +kernel
theorem dX10_law_140 : decode cX10_law 140 = .ok (.ifCond .eq 18, 3) := by decide +kernel
theorem dX10_law_143 : decode cX10_law 143 = .ok (.iload_n 3, 1) := by decide +kernel
theorem dX10_law_144 : decode cX10_law 144 = .ok (.ifCond .ne 14, 3) := by decide +kernel
theorem dX10_law_147 : decode cX10_law 147 = .ok (.bipush 10, 2) := by decide +kernel
theorem dX10_law_149 : decode cX10_law 149 = .ok (.iload 5, 2) := by decide +kernel
theorem dX10_law_151 : decode cX10_law 151 = .ok (.imul, 1) := by decide +kernel
theorem dX10_law_152 : decode cX10_law 152 = .ok (.iload 6, 2) := by decide +kernel
theorem dX10_law_154 : decode cX10_law 154 = .ok (.iadd, 1) := by decide +kernel
theorem dX10_law_155 : decode cX10_law 155 = .ok (.goto 5, 3) := by decide +kernel
theorem dX10_law_158 : decode cX10_law 158 = .ok (.iload 4, 2) := by decide +kernel
theorem dX10_law_160 : decode cX10_law 160 = .ok (.istore 4, 2) := by decide +kernel
theorem dX10_law_162 : decode cX10_law 162 = .ok (.iload_n 3, 1) := by decide +kernel
theorem dX10_law_163 : decode cX10_law 163 = .ok (.iload 7, 2) := by decide +kernel
theorem dX10_law_165 : decode cX10_law 165 = .ok (.ifCond .eq 7, 3) := by decide +kernel
theorem dX10_law_168 : decode cX10_law 168 = .ok (.iconst 1, 1) := by decide +kernel
theorem dX10_law_169 : decode cX10_law 169 = .ok (.goto 4, 3) := by decide +kernel
theorem dX10_law_172 : decode cX10_law 172 = .ok (.iconst 0, 1) := by decide +kernel
theorem dX10_law_173 : decode cX10_law 173 = .ok (.iadd, 1) := by decide +kernel
theorem dX10_law_174 : decode cX10_law 174 = .ok (.istore_n 3, 1) := by decide +kernel
theorem dX10_law_175 : decode cX10_law 175 = .ok (.iinc 6 1, 3) := by decide +kernel
theorem dX10_law_178 : decode cX10_law 178 = .ok (.goto (-140), 3) := by decide +kernel
theorem dX10_law_181 : decode cX10_law 181 = .ok (.iinc 5 1, 3) := by decide +kernel
theorem dX10_law_184 : decode cX10_law 184 = .ok (.goto (-156), 3) := by decide +kernel
theorem dX10_law_187 : decode cX10_law 187 = .ok (.iload_n 2, 1) := by decide +kernel
theorem dX10_law_188 : decode cX10_law 188 = .ok (.ifCond .ne 7, 3) := by decide +kernel
theorem dX10_law_191 : decode cX10_law 191 = .ok (.iload_n 3, 1) := by decide +kernel
theorem dX10_law_192 : decode cX10_law 192 = .ok (.goto 5, 3) := by decide +kernel
theorem dX10_law_195 : decode cX10_law 195 = .ok (.iload 4, 2) := by decide +kernel
theorem dX10_law_197 : decode cX10_law 197 = .ok (.ireturn, 1) := by decide +kernel
theorem dX10_did_0 : decode cX10_did 0 = .ok (.aload_n 0, 1) := by decide +kernel
theorem dX10_did_1 : decode cX10_did 1 = .ok (.iload_n 1, 1) := by decide +kernel
theorem dX10_did_2 : decode cX10_did 2 = .ok (.invokevirtual 177, 3) := by decide +kernel
theorem dX10_did_5 : decode cX10_did 5 = .ok (.ifCond .ne 5, 3) := by decide +kernel
theorem dX10_did_8 : decode cX10_did 8 = .ok (.iconst (-1), 1) := by decide +kernel
theorem dX10_did_9 : decode cX10_did 9 = .ok (.ireturn, 1) := by decide +kernel
theorem dX10_did_10 : decode cX10_did 10 = .ok (.iconst 0, 1) := by decide +kernel
theorem dX10_did_11 : decode cX10_did 11 = .ok (.istore_n 2, 1) := by decide +kernel
theorem dX10_did_12 : decode cX10_did 12 = .ok (.iconst 0, 1) := by decide +kernel
theorem dX10_did_13 : decode cX10_did 13 = .ok (.istore_n 3, 1) := by decide +kernel
theorem dX10_did_14 : decode cX10_did 14 = .ok (.iload_n 3, 1) := by decide +kernel
theorem dX10_did_15 : decode cX10_did 15 = .ok (.aload_n 0, 1) := by decide +kernel
theorem dX10_did_16 : decode cX10_did 16 = .ok (.getfield 50, 3) := by decide +kernel
theorem dX10_did_19 : decode cX10_did 19 = .ok (.if_icmp .ge 77, 3) := by decide +kernel
theorem dX10_did_22 : decode cX10_did 22 = .ok (.aload_n 0, 1) := by decide +kernel
theorem dX10_did_23 : decode cX10_did 23 = .ok (.iload_n 3, 1) := by decide +kernel
theorem dX10_did_24 : decode cX10_did 24 = .ok (.aload_n 0, 1) := by decide +kernel
theorem dX10_did_25 : decode cX10_did 25 = .ok (.getfield 25, 3) := by decide +kernel
theorem dX10_did_28 : decode cX10_did 28 = .ok (.iconst 4, 1) := by decide +kernel
theorem dX10_did_29 : decode cX10_did 29 = .ok (.iload_n 1, 1) := by decide +kernel
theorem dX10_did_30 : decode cX10_did 30 = .ok (.imul, 1) := by decide +kernel
theorem dX10_did_31 : decode cX10_did 31 = .ok (.iconst 1, 1) := by decide +kernel
theorem dX10_did_32 : decode cX10_did 32 = .ok (.iadd, 1) := by decide +kernel
theorem dX10_did_33 : decode cX10_did 33 = .ok (.iaload, 1) := by decide +kernel
theorem dX10_did_34 : decode cX10_did 34 = .ok (.invokevirtual 164, 3) := by decide +kernel
theorem dX10_did_37 : decode cX10_did 37 = .ok (.ifCond .eq 35, 3) := by decide +kernel
theorem dX10_did_40 : decode cX10_did 40 = .ok (.aload_n 0, 1) := by decide +kernel
theorem dX10_did_41 : decode cX10_did 41 = .ok (.aload_n 0, 1) := by decide +kernel
theorem dX10_did_42 : decode cX10_did 42 = .ok (.getfield 25, 3) := by decide +kernel
theorem dX10_did_45 : decode cX10_did 45 = .ok (.iconst 4, 1) := by decide +kernel
theorem dX10_did_46 : decode cX10_did 46 = .ok (.iload_n 1, 1) := by decide +kernel
theorem dX10_did_47 : decode cX10_did 47 = .ok (.imul, 1) := by decide +kernel
theorem dX10_did_48 : decode cX10_did 48 = .ok (.iconst 2, 1) := by decide +kernel
theorem dX10_did_49 : decode cX10_did 49 = .ok (.iadd, 1) := by decide +kernel
theorem dX10_did_50 : decode cX10_did 50 = .ok (.iaload, 1) := by decide +kernel
theorem dX10_did_51 : decode cX10_did 51 = .ok (.aload_n 0, 1) := by decide +kernel
theorem dX10_did_52 : decode cX10_did 52 = .ok (.getfield 25, 3) := by decide +kernel
theorem dX10_did_55 : decode cX10_did 55 = .ok (.iconst 4, 1) := by decide +kernel
theorem dX10_did_56 : decode cX10_did 56 = .ok (.iload_n 1, 1) := by decide +kernel
theorem dX10_did_57 : decode cX10_did 57 = .ok (.imul, 1) := by decide +kernel
theorem dX10_did_58 : decode cX10_did 58 = .ok (.iconst 3, 1) := by decide +kernel
theorem dX10_did_59 : decode cX10_did 59 = .ok (.iadd, 1) := by decide +kernel
theorem dX10_did_60 : decode cX10_did 60 = .ok (.iaload, 1) := by decide +kernel
theorem dX10_did_61 : decode cX10_did 61 = .ok (.iload_n 3, 1) := by decide +kernel
theorem dX10_did_62 : decode cX10_did 62 = .ok (.invokevirtual 167, 3) := by decide +kernel
theorem dX10_did_65 : decode cX10_did 65 = .ok (.ifCond .ne 7, 3) := by decide +kernel
theorem dX10_did_68 : decode cX10_did 68 = .ok (.iconst 1, 1) := by decide +kernel
theorem dX10_did_69 : decode cX10_did 69 = .ok (.goto 4, 3) := by decide +kernel
theorem dX10_did_72 : decode cX10_did 72 = .ok (.iconst 0, 1) := by decide +kernel
theorem dX10_did_73 : decode cX10_did 73 = .ok (.istore 4, 2) := by decide +kernel
theorem dX10_did_75 : decode cX10_did 75 = .ok (.iload_n 2, 1) := by decide +kernel
theorem dX10_did_76 : decode cX10_did 76 = .ok (.iload 4, 2) := by decide +kernel
theorem dX10_did_78 : decode cX10_did 78 = .ok (.ifCond .eq 9, 3) := by decide +kernel
theorem dX10_did_81 : decode cX10_did 81 = .ok (.iconst 1, 1) := by decide +kernel
theorem dX10_did_82 : decode cX10_did 82 = .ok (.iload_n 3, 1) := by decide +kernel
theorem dX10_did_83 : decode cX10_did 83 = .ok (.ishl, 1) := by decide +kernel
theorem dX10_did_84 : decode cX10_did 84 = .ok (.goto 4, 3) := by decide +kernel
theorem dX10_did_87 : decode cX10_did 87 = .ok (.iconst 0, 1) := by decide +kernel
theorem dX10_did_88 : decode cX10_did 88 = .ok (.ior, 1) := by decide +kernel
theorem dX10_did_89 : decode cX10_did 89 = .ok (.istore_n 2, 1) := by decide +kernel
theorem dX10_did_90 : decode cX10_did 90 = .ok (.iinc 3 1, 3) := by decide +kernel
theorem dX10_did_93 : decode cX10_did 93 = .ok (.goto (-79), 3) := by decide +kernel
theorem dX10_did_96 : decode cX10_did 96 = .ok (.iload_n 2, 1) := by decide +kernel
theorem dX10_did_97 : decode cX10_did 97 = .ok (.ireturn, 1) := by decide +kernel
theorem dX10_dogs_0 : decode cX10_dogs 0 = .ok (.iload_n 1, 1) := by decide +kernel
theorem dX10_dogs_1 : decode cX10_dogs 1 = .ok (.iconst 0, 1) := by decide +kernel
theorem dX10_dogs_2 : decode cX10_dogs 2 = .ok (.bipush 6, 2) := by decide +kernel
theorem dX10_dogs_4 : decode cX10_dogs 4 = .ok (.invokestatic 67, 3) := by decide +kernel
theorem dX10_dogs_7 : decode cX10_dogs 7 = .ok (.ifCond .eq 22, 3) := by decide +kernel
theorem dX10_dogs_10 : decode cX10_dogs 10 = .ok (.iload_n 2, 1) := by decide +kernel
theorem dX10_dogs_11 : decode cX10_dogs 11 = .ok (.iconst 0, 1) := by decide +kernel
theorem dX10_dogs_12 : decode cX10_dogs 12 = .ok (.bipush 10, 2) := by decide +kernel
theorem dX10_dogs_14 : decode cX10_dogs 14 = .ok (.invokestatic 67, 3) := by decide +kernel
theorem dX10_dogs_17 : decode cX10_dogs 17 = .ok (.ifCond .eq 12, 3) := by decide +kernel
theorem dX10_dogs_20 : decode cX10_dogs 20 = .ok (.iload_n 3, 1) := by decide +kernel
theorem dX10_dogs_21 : decode cX10_dogs 21 = .ok (.iconst 0, 1) := by decide +kernel
theorem dX10_dogs_22 : decode cX10_dogs 22 = .ok (.iconst 1, 1) := by decide +kernel
theorem dX10_dogs_23 : decode cX10_dogs 23 = .ok (.invokestatic 67, 3) := by decide +kernel
theorem dX10_dogs_26 : decode cX10_dogs 26 = .ok (.ifCond .ne 5, 3) := by decide +kernel
theorem dX10_dogs_29 : decode cX10_dogs 29 = .ok (.iconst (-1), 1) := by decide +kernel
theorem dX10_dogs_30 : decode cX10_dogs 30 = .ok (.ireturn, 1) := by decide +kernel
theorem dX10_dogs_31 : decode cX10_dogs 31 = .ok (.iconst 0, 1) := by decide +kernel
theorem dX10_dogs_32 : decode cX10_dogs 32 = .ok (.istore 4, 2) := by decide +kernel
theorem dX10_dogs_34 : decode cX10_dogs 34 = .ok (.iconst 1, 1) := by decide +kernel
theorem dX10_dogs_35 : decode cX10_dogs 35 = .ok (.istore 5, 2) := by decide +kernel
theorem dX10_dogs_37 : decode cX10_dogs 37 = .ok (.iconst 0, 1) := by decide +kernel
theorem dX10_dogs_38 : decode cX10_dogs 38 = .ok (.istore 6, 2) := by decide +kernel
theorem dX10_dogs_40 : decode cX10_dogs 40 = .ok (.iload 6, 2) := by decide +kernel
theorem dX10_dogs_42 : decode cX10_dogs 42 = .ok (.iload_n 1, 1) := by decide +kernel
theorem dX10_dogs_43 : decode cX10_dogs 43 = .ok (.if_icmp .ge 16, 3) := by decide +kernel
theorem dX10_dogs_46 : decode cX10_dogs 46 = .ok (.iload 5, 2) := by decide +kernel
theorem dX10_dogs_48 : decode cX10_dogs 48 = .ok (.bipush 10, 2) := by decide +kernel
theorem dX10_dogs_50 : decode cX10_dogs 50 = .ok (.imul, 1) := by decide +kernel
theorem dX10_dogs_51 : decode cX10_dogs 51 = .ok (.istore 5, 2) := by decide +kernel
theorem dX10_dogs_53 : decode cX10_dogs 53 = .ok (.iinc 6 1, 3) := by decide +kernel
theorem dX10_dogs_56 : decode cX10_dogs 56 = .ok (.goto (-16), 3) := by decide +kernel
theorem dX10_dogs_59 : decode cX10_dogs 59 = .ok (.iconst 0, 1) := by decide +kernel
theorem dX10_dogs_60 : decode cX10_dogs 60 = .ok (.istore 6, 2) := by decide +kernel
theorem dX10_dogs_62 : decode cX10_dogs 62 = .ok (.iload 6, 2) := by decide +kernel
theorem dX10_dogs_64 : decode cX10_dogs 64 = .ok (.iconst 1, 1) := by decide +kernel
theorem dX10_dogs_65 : decode cX10_dogs 65 = .ok (.iload_n 1, 1) := by decide +kernel
theorem dX10_dogs_66 : decode cX10_dogs 66 = .ok (.ishl, 1) := by decide +kernel
theorem dX10_dogs_67 : decode cX10_dogs 67 = .ok (.if_icmp .ge 95, 3) := by decide +kernel
theorem dX10_dogs_70 : decode cX10_dogs 70 = .ok (.aload_n 0, 1) := by decide +kernel
theorem dX10_dogs_71 : decode cX10_dogs 71 = .ok (.invokevirtual 190, 3) := by decide +kernel
theorem dX10_dogs_74 : decode cX10_dogs 74 = .ok (.iconst 1, 1) := by decide +kernel
theorem dX10_dogs_75 : decode cX10_dogs 75 = .ok (.istore 7, 2) := by decide +kernel
theorem dX10_dogs_77 : decode cX10_dogs 77 = .ok (.iconst 0, 1) := by decide +kernel
theorem dX10_dogs_78 : decode cX10_dogs 78 = .ok (.istore 8, 2) := by decide +kernel
theorem dX10_dogs_80 : decode cX10_dogs 80 = .ok (.iconst 0, 1) := by decide +kernel
theorem dX10_dogs_81 : decode cX10_dogs 81 = .ok (.istore 9, 2) := by decide +kernel
theorem dX10_dogs_83 : decode cX10_dogs 83 = .ok (.iload 9, 2) := by decide +kernel
theorem dX10_dogs_85 : decode cX10_dogs 85 = .ok (.iload_n 1, 1) := by decide +kernel
theorem dX10_dogs_86 : decode cX10_dogs 86 = .ok (.if_icmp .ge 54, 3) := by decide +kernel
theorem dX10_dogs_89 : decode cX10_dogs 89 = .ok (.aload_n 0, 1) := by decide +kernel
theorem dX10_dogs_90 : decode cX10_dogs 90 = .ok (.iload 6, 2) := by decide +kernel
theorem dX10_dogs_92 : decode cX10_dogs 92 = .ok (.iload 9, 2) := by decide +kernel
theorem dX10_dogs_94 : decode cX10_dogs 94 = .ok (.ishr, 1) := by decide +kernel
theorem dX10_dogs_95 : decode cX10_dogs 95 = .ok (.iconst 1, 1) := by decide +kernel
theorem dX10_dogs_96 : decode cX10_dogs 96 = .ok (.iand, 1) := by decide +kernel
theorem dX10_dogs_97 : decode cX10_dogs 97 = .ok (.putfield 139, 3) := by decide +kernel
theorem dX10_dogs_100 : decode cX10_dogs 100 = .ok (.iload 7, 2) := by decide +kernel
theorem dX10_dogs_102 : decode cX10_dogs 102 = .ok (.aload_n 0, 1) := by decide +kernel
theorem dX10_dogs_103 : decode cX10_dogs 103 = .ok (.getfield 139, 3) := by decide +kernel
theorem dX10_dogs_106 : decode cX10_dogs 106 = .ok (.iconst 1, 1) := by decide +kernel
theorem dX10_dogs_107 : decode cX10_dogs 107 = .ok (.if_icmp .ne 7, 3) := by decide +kernel
theorem dX10_dogs_110 : decode cX10_dogs 110 = .ok (.iload_n 2, 1) := by decide +kernel
theorem dX10_dogs_111 : decode cX10_dogs 111 = .ok (.goto 7, 3) := by decide +kernel
theorem dX10_dogs_114 : decode cX10_dogs 114 = .ok (.bipush 10, 2) := by decide +kernel
theorem dX10_dogs_116 : decode cX10_dogs 116 = .ok (.iload_n 2, 1) := by decide +kernel
theorem dX10_dogs_117 : decode cX10_dogs 117 = .ok (.isub, 1) := by decide +kernel
theorem dX10_dogs_118 : decode cX10_dogs 118 = .ok (.imul, 1) := by decide +kernel
theorem dX10_dogs_119 : decode cX10_dogs 119 = .ok (.istore 7, 2) := by decide +kernel
theorem dX10_dogs_121 : decode cX10_dogs 121 = .ok (.iload 8, 2) := by decide +kernel
theorem dX10_dogs_123 : decode cX10_dogs 123 = .ok (.aload_n 0, 1) := by decide +kernel
theorem dX10_dogs_124 : decode cX10_dogs 124 = .ok (.aload_n 0, 1) := by decide +kernel
theorem dX10_dogs_125 : decode cX10_dogs 125 = .ok (.getfield 31, 3) := by decide +kernel
theorem dX10_dogs_128 : decode cX10_dogs 128 = .ok (.invokevirtual 186, 3) := by decide +kernel
theorem dX10_dogs_131 : decode cX10_dogs 131 = .ok (.iadd, 1) := by decide +kernel
theorem dX10_dogs_132 : decode cX10_dogs 132 = .ok (.istore 8, 2) := by decide +kernel
theorem dX10_dogs_134 : decode cX10_dogs 134 = .ok (.iinc 9 1, 3) := by decide +kernel
theorem dX10_dogs_137 : decode cX10_dogs 137 = .ok (.goto (-54), 3) := by decide +kernel
theorem dX10_dogs_140 : decode cX10_dogs 140 = .ok (.iload 4, 2) := by decide +kernel
theorem dX10_dogs_142 : decode cX10_dogs 142 = .ok (.iload 8, 2) := by decide +kernel
theorem dX10_dogs_144 : decode cX10_dogs 144 = .ok (.ifCond .ne 8, 3) := by decide +kernel
theorem dX10_dogs_147 : decode cX10_dogs 147 = .ok (.iload 7, 2) := by decide +kernel
theorem dX10_dogs_149 : decode cX10_dogs 149 = .ok (.goto 4, 3) := by decide +kernel
theorem dX10_dogs_152 : decode cX10_dogs 152 = .ok (.iconst 0, 1) := by decide +kernel
theorem dX10_dogs_153 : decode cX10_dogs 153 = .ok (.iadd, 1) := by decide +kernel
theorem dX10_dogs_154 : decode cX10_dogs 154 = .ok (.istore 4, 2) := by decide +kernel
theorem dX10_dogs_156 : decode cX10_dogs 156 = .ok (.iinc 6 1, 3) := by decide +kernel
theorem dX10_dogs_159 : decode cX10_dogs 159 = .ok (.goto (-97), 3) := by decide +kernel
theorem dX10_dogs_162 : decode cX10_dogs 162 = .ok (.iload 4, 2) := by decide +kernel
theorem dX10_dogs_164 : decode cX10_dogs 164 = .ok (.istore 6, 2) := by decide +kernel
theorem dX10_dogs_166 : decode cX10_dogs 166 = .ok (.iload 5, 2) := by decide +kernel
theorem dX10_dogs_168 : decode cX10_dogs 168 = .ok (.istore 7, 2) := by decide +kernel
theorem dX10_dogs_170 : decode cX10_dogs 170 = .ok (.iload 7, 2) := by decide +kernel
theorem dX10_dogs_172 : decode cX10_dogs 172 = .ok (.ifCond .le 21, 3) := by decide +kernel
theorem dX10_dogs_175 : decode cX10_dogs 175 = .ok (.iload 6, 2) := by decide +kernel
theorem dX10_dogs_177 : decode cX10_dogs 177 = .ok (.iload 7, 2) := by decide +kernel
theorem dX10_dogs_179 : decode cX10_dogs 179 = .ok (.irem, 1) := by decide +kernel
theorem dX10_dogs_180 : decode cX10_dogs 180 = .ok (.istore 8, 2) := by decide +kernel
theorem dX10_dogs_182 : decode cX10_dogs 182 = .ok (.iload 7, 2) := by decide +kernel
theorem dX10_dogs_184 : decode cX10_dogs 184 = .ok (.istore 6, 2) := by decide +kernel
theorem dX10_dogs_186 : decode cX10_dogs 186 = .ok (.iload 8, 2) := by decide +kernel
theorem dX10_dogs_188 : decode cX10_dogs 188 = .ok (.istore 7, 2) := by decide +kernel
theorem dX10_dogs_190 : decode cX10_dogs 190 = .ok (.goto (-20), 3) := by decide +kernel
theorem dX10_dogs_193 : decode cX10_dogs 193 = .ok (.iload_n 3, 1) := by decide +kernel
theorem dX10_dogs_194 : decode cX10_dogs 194 = .ok (.ifCond .ne 8, 3) := by decide +kernel
theorem dX10_dogs_197 : decode cX10_dogs 197 = .ok (.iload 4, 2) := by decide +kernel
theorem dX10_dogs_199 : decode cX10_dogs 199 = .ok (.goto 5, 3) := by decide +kernel
theorem dX10_dogs_202 : decode cX10_dogs 202 = .ok (.iload 5, 2) := by decide +kernel
theorem dX10_dogs_204 : decode cX10_dogs 204 = .ok (.iload 6, 2) := by decide +kernel
theorem dX10_dogs_206 : decode cX10_dogs 206 = .ok (.idiv, 1) := by decide +kernel
theorem dX10_dogs_207 : decode cX10_dogs 207 = .ok (.ireturn, 1) := by decide +kernel
theorem dX10_year_0 : decode cX10_year 0 = .ok (.iload_n 1, 1) := by decide +kernel
theorem dX10_year_1 : decode cX10_year 1 = .ok (.iconst 0, 1) := by decide +kernel
theorem dX10_year_2 : decode cX10_year 2 = .ok (.sipush 9999, 3) := by decide +kernel
theorem dX10_year_5 : decode cX10_year 5 = .ok (.invokestatic 67, 3) := by decide +kernel
theorem dX10_year_8 : decode cX10_year 8 = .ok (.ifCond .eq 22, 3) := by decide +kernel
theorem dX10_year_11 : decode cX10_year 11 = .ok (.iload_n 2, 1) := by decide +kernel
theorem dX10_year_12 : decode cX10_year 12 = .ok (.iconst 1, 1) := by decide +kernel
theorem dX10_year_13 : decode cX10_year 13 = .ok (.bipush 40, 2) := by decide +kernel
theorem dX10_year_15 : decode cX10_year 15 = .ok (.invokestatic 67, 3) := by decide +kernel
theorem dX10_year_18 : decode cX10_year 18 = .ok (.ifCond .eq 12, 3) := by decide +kernel
theorem dX10_year_21 : decode cX10_year 21 = .ok (.iload_n 3, 1) := by decide +kernel
theorem dX10_year_22 : decode cX10_year 22 = .ok (.iconst 0, 1) := by decide +kernel
theorem dX10_year_23 : decode cX10_year 23 = .ok (.iconst 1, 1) := by decide +kernel
theorem dX10_year_24 : decode cX10_year 24 = .ok (.invokestatic 67, 3) := by decide +kernel
theorem dX10_year_27 : decode cX10_year 27 = .ok (.ifCond .ne 5, 3) := by decide +kernel
theorem dX10_year_30 : decode cX10_year 30 = .ok (.iconst (-1), 1) := by decide +kernel
theorem dX10_year_31 : decode cX10_year 31 = .ok (.ireturn, 1) := by decide +kernel
theorem dX10_year_32 : decode cX10_year 32 = .ok (.aload_n 0, 1) := by decide +kernel
theorem dX10_year_33 : decode cX10_year 33 = .ok (.invokevirtual 190, 3) := by decide +kernel
theorem dX10_year_36 : decode cX10_year 36 = .ok (.iconst 0, 1) := by decide +kernel
theorem dX10_year_37 : decode cX10_year 37 = .ok (.istore 4, 2) := by decide +kernel
theorem dX10_year_39 : decode cX10_year 39 = .ok (.iload 4, 2) := by decide +kernel
theorem dX10_year_41 : decode cX10_year 41 = .ok (.iload_n 2, 1) := by decide +kernel
theorem dX10_year_42 : decode cX10_year 42 = .ok (.if_icmp .ge 84, 3) := by decide +kernel
theorem dX10_year_45 : decode cX10_year 45 = .ok (.ldc2_w 197, 3) := by decide +kernel
theorem dX10_year_48 : decode cX10_year 48 = .ok (.iload_n 1, 1) := by decide +kernel
theorem dX10_year_49 : decode cX10_year 49 = .ok (.i2l, 1) := by decide +kernel
theorem dX10_year_50 : decode cX10_year 50 = .ok (.lmul, 1) := by decide +kernel
theorem dX10_year_51 : decode cX10_year 51 = .ok (.ldc2_w 199, 3) := by decide +kernel
theorem dX10_year_54 : decode cX10_year 54 = .ok (.iload 4, 2) := by decide +kernel
theorem dX10_year_56 : decode cX10_year 56 = .ok (.i2l, 1) := by decide +kernel
theorem dX10_year_57 : decode cX10_year 57 = .ok (.lmul, 1) := by decide +kernel
theorem dX10_year_58 : decode cX10_year 58 = .ok (.ladd, 1) := by decide +kernel
theorem dX10_year_59 : decode cX10_year 59 = .ok (.lconst 1, 1) := by decide +kernel
theorem dX10_year_60 : decode cX10_year 60 = .ok (.ladd, 1) := by decide +kernel
theorem dX10_year_61 : decode cX10_year 61 = .ok (.lstore 5, 2) := by decide +kernel
theorem dX10_year_63 : decode cX10_year 63 = .ok (.lload 5, 2) := by decide +kernel
theorem dX10_year_65 : decode cX10_year 65 = .ok (.lload 5, 2) := by decide +kernel
theorem dX10_year_67 : decode cX10_year 67 = .ok (.lmul, 1) := by decide +kernel
theorem dX10_year_68 : decode cX10_year 68 = .ok (.ldc2_w 201, 3) := by decide +kernel
theorem dX10_year_71 : decode cX10_year 71 = .ok (.lrem, 1) := by decide +kernel
theorem dX10_year_72 : decode cX10_year 72 = .ok (.ldc2_w 203, 3) := by decide +kernel
theorem dX10_year_75 : decode cX10_year 75 = .ok (.ldiv, 1) := by decide +kernel
theorem dX10_year_76 : decode cX10_year 76 = .ok (.l2i, 1) := by decide +kernel
theorem dX10_year_77 : decode cX10_year 77 = .ok (.istore 7, 2) := by decide +kernel
theorem dX10_year_79 : decode cX10_year 79 = .ok (.iload 7, 2) := by decide +kernel
theorem dX10_year_81 : decode cX10_year 81 = .ok (.bipush 8, 2) := by decide +kernel
theorem dX10_year_83 : decode cX10_year 83 = .ok (.idiv, 1) := by decide +kernel
theorem dX10_year_84 : decode cX10_year 84 = .ok (.iconst 3, 1) := by decide +kernel
theorem dX10_year_85 : decode cX10_year 85 = .ok (.irem, 1) := by decide +kernel
theorem dX10_year_86 : decode cX10_year 86 = .ok (.ifCond .ne 25, 3) := by decide +kernel
theorem dX10_year_89 : decode cX10_year 89 = .ok (.aload_n 0, 1) := by decide +kernel
theorem dX10_year_90 : decode cX10_year 90 = .ok (.getfield 31, 3) := by decide +kernel
theorem dX10_year_93 : decode cX10_year 93 = .ok (.iconst 4, 1) := by decide +kernel
theorem dX10_year_94 : decode cX10_year 94 = .ok (.aload_n 0, 1) := by decide +kernel
theorem dX10_year_95 : decode cX10_year 95 = .ok (.getfield 31, 3) := by decide +kernel
theorem dX10_year_98 : decode cX10_year 98 = .ok (.iconst 4, 1) := by decide +kernel
theorem dX10_year_99 : decode cX10_year 99 = .ok (.iaload, 1) := by decide +kernel
theorem dX10_year_100 : decode cX10_year 100 = .ok (.iconst 1, 1) := by decide +kernel
theorem dX10_year_101 : decode cX10_year 101 = .ok (.iload 7, 2) := by decide +kernel
theorem dX10_year_103 : decode cX10_year 103 = .ok (.aload_n 0, 1) := by decide +kernel
theorem dX10_year_104 : decode cX10_year 104 = .ok (.getfield 50, 3) := by decide +kernel
theorem dX10_year_107 : decode cX10_year 107 = .ok (.irem, 1) := by decide +kernel
theorem dX10_year_108 : decode cX10_year 108 = .ok (.ishl, 1) := by decide +kernel
theorem dX10_year_109 : decode cX10_year 109 = .ok (.ior, 1) := by decide +kernel
theorem dX10_year_110 : decode cX10_year 110 = .ok (.iastore, 1) := by decide +kernel
theorem dX10_year_111 : decode cX10_year 111 = .ok (.aload_n 0, 1) := by decide +kernel
theorem dX10_year_112 : decode cX10_year 112 = .ok (.aload_n 0, 1) := by decide +kernel
theorem dX10_year_113 : decode cX10_year 113 = .ok (.getfield 31, 3) := by decide +kernel
theorem dX10_year_116 : decode cX10_year 116 = .ok (.invokevirtual 186, 3) := by decide +kernel
theorem dX10_year_119 : decode cX10_year 119 = .ok (.pop, 1) := by decide +kernel
theorem dX10_year_120 : decode cX10_year 120 = .ok (.iinc 4 1, 3) := by decide +kernel
theorem dX10_year_123 : decode cX10_year 123 = .ok (.goto (-84), 3) := by decide +kernel
theorem dX10_year_126 : decode cX10_year 126 = .ok (.iload_n 3, 1) := by decide +kernel
theorem dX10_year_127 : decode cX10_year 127 = .ok (.ifCond .ne 12, 3) := by decide +kernel
theorem dX10_year_130 : decode cX10_year 130 = .ok (.aload_n 0, 1) := by decide +kernel
theorem dX10_year_131 : decode cX10_year 131 = .ok (.getfield 31, 3) := by decide +kernel
theorem dX10_year_134 : decode cX10_year 134 = .ok (.iconst 1, 1) := by decide +kernel
theorem dX10_year_135 : decode cX10_year 135 = .ok (.iaload, 1) := by decide +kernel
theorem dX10_year_136 : decode cX10_year 136 = .ok (.goto 16, 3) := by decide +kernel
theorem dX10_year_139 : decode cX10_year 139 = .ok (.aload_n 0, 1) := by decide +kernel
theorem dX10_year_140 : decode cX10_year 140 = .ok (.getfield 31, 3) := by decide +kernel
theorem dX10_year_143 : decode cX10_year 143 = .ok (.iconst 3, 1) := by decide +kernel
theorem dX10_year_144 : decode cX10_year 144 = .ok (.iaload, 1) := by decide +kernel
theorem dX10_year_145 : decode cX10_year 145 = .ok (.aload_n 0, 1) := by decide +kernel
theorem dX10_year_146 : decode cX10_year 146 = .ok (.getfield 28, 3) := by decide +kernel
theorem dX10_year_149 : decode cX10_year 149 = .ok (.iconst 3, 1) := by decide +kernel
theorem dX10_year_150 : decode cX10_year 150 = .ok (.iaload, 1) := by decide +kernel
theorem dX10_year_151 : decode cX10_year 151 = .ok (.isub, 1) := by decide +kernel
theorem dX10_year_152 : decode cX10_year 152 = .ok (.ireturn, 1) := by decide +kernel
theorem dX10_keep_0 : decode cX10_keep 0 = .ok (.aload_n 0, 1) := by decide +kernel
theorem dX10_keep_1 : decode cX10_keep 1 = .ok (.getfield 136, 3) := by decide +kernel
theorem dX10_keep_4 : decode cX10_keep 4 = .ok (.iconst 2, 1) := by decide +kernel
theorem dX10_keep_5 : decode cX10_keep 5 = .ok (.if_icmp .ne 6, 3) := by decide +kernel
theorem dX10_keep_8 : decode cX10_keep 8 = .ok (.bipush (-3), 2) := by decide +kernel
theorem dX10_keep_10 : decode cX10_keep 10 = .ok (.ireturn, 1) := by decide +kernel
theorem dX10_keep_11 : decode cX10_keep 11 = .ok (.aload_n 0, 1) := by decide +kernel
theorem dX10_keep_12 : decode cX10_keep 12 = .ok (.getfield 28, 3) := by decide +kernel
theorem dX10_keep_15 : decode cX10_keep 15 = .ok (.iconst 0, 1) := by decide +kernel
theorem dX10_keep_16 : decode cX10_keep 16 = .ok (.aload_n 0, 1) := by decide +kernel
theorem dX10_keep_17 : decode cX10_keep 17 = .ok (.getfield 37, 3) := by decide +kernel
theorem dX10_keep_20 : decode cX10_keep 20 = .ok (.bipush 17, 2) := by decide +kernel
theorem dX10_keep_22 : decode cX10_keep 22 = .ok (.aload_n 0, 1) := by decide +kernel
theorem dX10_keep_23 : decode cX10_keep 23 = .ok (.getfield 136, 3) := by decide +kernel
theorem dX10_keep_26 : decode cX10_keep 26 = .ok (.imul, 1) := by decide +kernel
theorem dX10_keep_27 : decode cX10_keep 27 = .ok (.bipush 17, 2) := by decide +kernel
theorem dX10_keep_29 : decode cX10_keep 29 = .ok (.invokestatic 126, 3) := by decide +kernel
theorem dX10_keep_32 : decode cX10_keep 32 = .ok (.aload_n 0, 1) := by decide +kernel
theorem dX10_keep_33 : decode cX10_keep 33 = .ok (.dup, 1) := by decide +kernel
theorem dX10_keep_34 : decode cX10_keep 34 = .ok (.getfield 136, 3) := by decide +kernel
theorem dX10_keep_37 : decode cX10_keep 37 = .ok (.iconst 1, 1) := by decide +kernel
theorem dX10_keep_38 : decode cX10_keep 38 = .ok (.iadd, 1) := by decide +kernel
theorem dX10_keep_39 : decode cX10_keep 39 = .ok (.putfield 136, 3) := by decide +kernel
theorem dX10_keep_42 : decode cX10_keep 42 = .ok (.aload_n 0, 1) := by decide +kernel
theorem dX10_keep_43 : decode cX10_keep 43 = .ok (.getfield 136, 3) := by decide +kernel
theorem dX10_keep_46 : decode cX10_keep 46 = .ok (.ireturn, 1) := by decide +kernel
theorem dX10_back_0 : decode cX10_back 0 = .ok (.aload_n 0, 1) := by decide +kernel
theorem dX10_back_1 : decode cX10_back 1 = .ok (.getfield 136, 3) := by decide +kernel
theorem dX10_back_4 : decode cX10_back 4 = .ok (.ifCond .ne 6, 3) := by decide +kernel
theorem dX10_back_7 : decode cX10_back 7 = .ok (.bipush (-2), 2) := by decide +kernel
theorem dX10_back_9 : decode cX10_back 9 = .ok (.ireturn, 1) := by decide +kernel
theorem dX10_back_10 : decode cX10_back 10 = .ok (.aload_n 0, 1) := by decide +kernel
theorem dX10_back_11 : decode cX10_back 11 = .ok (.dup, 1) := by decide +kernel
theorem dX10_back_12 : decode cX10_back 12 = .ok (.getfield 136, 3) := by decide +kernel
theorem dX10_back_15 : decode cX10_back 15 = .ok (.iconst 1, 1) := by decide +kernel
theorem dX10_back_16 : decode cX10_back 16 = .ok (.isub, 1) := by decide +kernel
theorem dX10_back_17 : decode cX10_back 17 = .ok (.putfield 136, 3) := by decide +kernel
theorem dX10_back_20 : decode cX10_back 20 = .ok (.aload_n 0, 1) := by decide +kernel
theorem dX10_back_21 : decode cX10_back 21 = .ok (.getfield 37, 3) := by decide +kernel
theorem dX10_back_24 : decode cX10_back 24 = .ok (.bipush 17, 2) := by decide +kernel
theorem dX10_back_26 : decode cX10_back 26 = .ok (.aload_n 0, 1) := by decide +kernel
theorem dX10_back_27 : decode cX10_back 27 = .ok (.getfield 136, 3) := by decide +kernel
theorem dX10_back_30 : decode cX10_back 30 = .ok (.imul, 1) := by decide +kernel
theorem dX10_back_31 : decode cX10_back 31 = .ok (.aload_n 0, 1) := by decide +kernel
theorem dX10_back_32 : decode cX10_back 32 = .ok (.getfield 28, 3) := by decide +kernel
theorem dX10_back_35 : decode cX10_back 35 = .ok (.iconst 0, 1) := by decide +kernel
theorem dX10_back_36 : decode cX10_back 36 = .ok (.bipush 17, 2) := by decide +kernel
theorem dX10_back_38 : decode cX10_back 38 = .ok (.invokestatic 126, 3) := by decide +kernel
theorem dX10_back_41 : decode cX10_back 41 = .ok (.aload_n 0, 1) := by decide +kernel
theorem dX10_back_42 : decode cX10_back 42 = .ok (.iconst 0, 1) := by decide +kernel
theorem dX10_back_43 : decode cX10_back 43 = .ok (.putfield 133, 3) := by decide +kernel
theorem dX10_back_46 : decode cX10_back 46 = .ok (.aload_n 0, 1) := by decide +kernel
theorem dX10_back_47 : decode cX10_back 47 = .ok (.getfield 136, 3) := by decide +kernel
theorem dX10_back_50 : decode cX10_back 50 = .ok (.ireturn, 1) := by decide +kernel
theorem dX10_count_0 : decode cX10_count 0 = .ok (.iload_n 1, 1) := by decide +kernel
theorem dX10_count_1 : decode cX10_count 1 = .ok (.tableswitch 142 0 11 #[63, 68, 73, 82, 89, 101, 108, 115, 122, 127, 132, 137], 63) := by decide +kernel
theorem dX10_count_64 : decode cX10_count 64 = .ok (.aload_n 0, 1) := by decide +kernel
theorem dX10_count_65 : decode cX10_count 65 = .ok (.getfield 50, 3) := by decide +kernel
theorem dX10_count_68 : decode cX10_count 68 = .ok (.ireturn, 1) := by decide +kernel
theorem dX10_count_69 : decode cX10_count 69 = .ok (.aload_n 0, 1) := by decide +kernel
theorem dX10_count_70 : decode cX10_count 70 = .ok (.getfield 61, 3) := by decide +kernel
theorem dX10_count_73 : decode cX10_count 73 = .ok (.ireturn, 1) := by decide +kernel
theorem dX10_count_74 : decode cX10_count 74 = .ok (.aload_n 0, 1) := by decide +kernel
theorem dX10_count_75 : decode cX10_count 75 = .ok (.getfield 28, 3) := by decide +kernel
theorem dX10_count_78 : decode cX10_count 78 = .ok (.iconst 5, 1) := by decide +kernel
theorem dX10_count_79 : decode cX10_count 79 = .ok (.invokestatic 111, 3) := by decide +kernel
theorem dX10_count_82 : decode cX10_count 82 = .ok (.ireturn, 1) := by decide +kernel
theorem dX10_count_83 : decode cX10_count 83 = .ok (.aload_n 0, 1) := by decide +kernel
theorem dX10_count_84 : decode cX10_count 84 = .ok (.getfield 28, 3) := by decide +kernel
theorem dX10_count_87 : decode cX10_count 87 = .ok (.iconst 0, 1) := by decide +kernel
theorem dX10_count_88 : decode cX10_count 88 = .ok (.iaload, 1) := by decide +kernel
theorem dX10_count_89 : decode cX10_count 89 = .ok (.ireturn, 1) := by decide +kernel
theorem dX10_count_90 : decode cX10_count 90 = .ok (.aload_n 0, 1) := by decide +kernel
theorem dX10_count_91 : decode cX10_count 91 = .ok (.invokevirtual 174, 3) := by decide +kernel
theorem dX10_count_94 : decode cX10_count 94 = .ok (.aload_n 0, 1) := by decide +kernel
theorem dX10_count_95 : decode cX10_count 95 = .ok (.getfield 142, 3) := by decide +kernel
theorem dX10_count_98 : decode cX10_count 98 = .ok (.invokestatic 75, 3) := by decide +kernel
theorem dX10_count_101 : decode cX10_count 101 = .ok (.ireturn, 1) := by decide +kernel
theorem dX10_count_102 : decode cX10_count 102 = .ok (.aload_n 0, 1) := by decide +kernel
theorem dX10_count_103 : decode cX10_count 103 = .ok (.getfield 28, 3) := by decide +kernel
theorem dX10_count_106 : decode cX10_count 106 = .ok (.iconst 1, 1) := by decide +kernel
theorem dX10_count_107 : decode cX10_count 107 = .ok (.iaload, 1) := by decide +kernel
theorem dX10_count_108 : decode cX10_count 108 = .ok (.ireturn, 1) := by decide +kernel
theorem dX10_count_109 : decode cX10_count 109 = .ok (.aload_n 0, 1) := by decide +kernel
theorem dX10_count_110 : decode cX10_count 110 = .ok (.getfield 28, 3) := by decide +kernel
theorem dX10_count_113 : decode cX10_count 113 = .ok (.iconst 2, 1) := by decide +kernel
theorem dX10_count_114 : decode cX10_count 114 = .ok (.iaload, 1) := by decide +kernel
theorem dX10_count_115 : decode cX10_count 115 = .ok (.ireturn, 1) := by decide +kernel
theorem dX10_count_116 : decode cX10_count 116 = .ok (.aload_n 0, 1) := by decide +kernel
theorem dX10_count_117 : decode cX10_count 117 = .ok (.getfield 28, 3) := by decide +kernel
theorem dX10_count_120 : decode cX10_count 120 = .ok (.iconst 3, 1) := by decide +kernel
theorem dX10_count_121 : decode cX10_count 121 = .ok (.iaload, 1) := by decide +kernel
theorem dX10_count_122 : decode cX10_count 122 = .ok (.ireturn, 1) := by decide +kernel
theorem dX10_count_123 : decode cX10_count 123 = .ok (.aload_n 0, 1) := by decide +kernel
theorem dX10_count_124 : decode cX10_count 124 = .ok (.getfield 130, 3) := by decide +kernel
theorem dX10_count_127 : decode cX10_count 127 = .ok (.ireturn, 1) := by decide +kernel
theorem dX10_count_128 : decode cX10_count 128 = .ok (.aload_n 0, 1) := by decide +kernel
theorem dX10_count_129 : decode cX10_count 129 = .ok (.getfield 133, 3) := by decide +kernel
theorem dX10_count_132 : decode cX10_count 132 = .ok (.ireturn, 1) := by decide +kernel
theorem dX10_count_133 : decode cX10_count 133 = .ok (.aload_n 0, 1) := by decide +kernel
theorem dX10_count_134 : decode cX10_count 134 = .ok (.getfield 136, 3) := by decide +kernel
theorem dX10_count_137 : decode cX10_count 137 = .ok (.ireturn, 1) := by decide +kernel
theorem dX10_count_138 : decode cX10_count 138 = .ok (.aload_n 0, 1) := by decide +kernel
theorem dX10_count_139 : decode cX10_count 139 = .ok (.getfield 79, 3) := by decide +kernel
theorem dX10_count_142 : decode cX10_count 142 = .ok (.ireturn, 1) := by decide +kernel
theorem dX10_count_143 : decode cX10_count 143 = .ok (.iconst (-1), 1) := by decide +kernel
theorem dX10_count_144 : decode cX10_count 144 = .ok (.ireturn, 1) := by decide +kernel
end
section
/-! decode rows, by program -/
theorem dL_law_0 : decode cL_law 0 = .ok (.new 7, 3) := by decide +kernel
theorem dL_law_3 : decode cL_law 3 = .ok (.dup, 1) := by decide +kernel
theorem dL_law_4 : decode cL_law 4 = .ok (.invokespecial 9, 3) := by decide +kernel
theorem dL_law_7 : decode cL_law 7 = .ok (.astore_n 1, 1) := by decide +kernel
theorem dL_law_8 : decode cL_law 8 = .ok (.new 10, 3) := by decide +kernel
theorem dL_law_11 : decode cL_law 11 = .ok (.dup, 1) := by decide +kernel
theorem dL_law_12 : decode cL_law 12 = .ok (.invokespecial 12, 3) := by decide +kernel
theorem dL_law_15 : decode cL_law 15 = .ok (.astore_n 2, 1) := by decide +kernel
theorem dL_law_16 : decode cL_law 16 = .ok (.iconst 0, 1) := by decide +kernel
theorem dL_law_17 : decode cL_law 17 = .ok (.istore_n 3, 1) := by decide +kernel
theorem dL_law_18 : decode cL_law 18 = .ok (.iload_n 3, 1) := by decide +kernel
theorem dL_law_19 : decode cL_law 19 = .ok (.aload_n 0, 1) := by decide +kernel
theorem dL_law_20 : decode cL_law 20 = .ok (.arraylength, 1) := by decide +kernel
theorem dL_law_21 : decode cL_law 21 = .ok (.iconst 4, 1) := by decide +kernel
theorem dL_law_22 : decode cL_law 22 = .ok (.isub, 1) := by decide +kernel
theorem dL_law_23 : decode cL_law 23 = .ok (.if_icmp .gt 826, 3) := by decide +kernel
theorem dL_law_26 : decode cL_law 26 = .ok (.aload_n 0, 1) := by decide +kernel
theorem dL_law_27 : decode cL_law 27 = .ok (.iload_n 3, 1) := by decide +kernel
theorem dL_law_28 : decode cL_law 28 = .ok (.iaload, 1) := by decide +kernel
theorem dL_law_29 : decode cL_law 29 = .ok (.bipush 31, 2) := by decide +kernel
theorem dL_law_31 : decode cL_law 31 = .ok (.iand, 1) := by decide +kernel
theorem dL_law_32 : decode cL_law 32 = .ok (.tableswitch 811 0 26 #[124, 147, 160, 173, 186, 219, 252, 285, 298, 321, 344, 377, 400, 413, 446, 469, 492, 525, 548, 607, 620, 653, 676, 719, 762, 775, 788], 124) := by decide +kernel
theorem dL_law_156 : decode cL_law 156 = .ok (.aload_n 1, 1) := by decide +kernel
theorem dL_law_157 : decode cL_law 157 = .ok (.aload_n 0, 1) := by decide +kernel
theorem dL_law_158 : decode cL_law 158 = .ok (.iload_n 3, 1) := by decide +kernel
theorem dL_law_159 : decode cL_law 159 = .ok (.iconst 1, 1) := by decide +kernel
theorem dL_law_160 : decode cL_law 160 = .ok (.iadd, 1) := by decide +kernel
theorem dL_law_161 : decode cL_law 161 = .ok (.iaload, 1) := by decide +kernel
theorem dL_law_162 : decode cL_law 162 = .ok (.invokevirtual 13, 3) := by decide +kernel
theorem dL_law_165 : decode cL_law 165 = .ok (.aload_n 2, 1) := by decide +kernel
theorem dL_law_166 : decode cL_law 166 = .ok (.aload_n 0, 1) := by decide +kernel
theorem dL_law_167 : decode cL_law 167 = .ok (.iload_n 3, 1) := by decide +kernel
theorem dL_law_168 : decode cL_law 168 = .ok (.iconst 1, 1) := by decide +kernel
theorem dL_law_169 : decode cL_law 169 = .ok (.iadd, 1) := by decide +kernel
theorem dL_law_170 : decode cL_law 170 = .ok (.iaload, 1) := by decide +kernel
theorem dL_law_171 : decode cL_law 171 = .ok (.invokevirtual 17, 3) := by decide +kernel
theorem dL_law_174 : decode cL_law 174 = .ok (.if_icmp .eq 669, 3) := by decide +kernel
theorem dL_law_177 : decode cL_law 177 = .ok (.iconst 0, 1) := by decide +kernel
theorem dL_law_178 : decode cL_law 178 = .ok (.ireturn, 1) := by decide +kernel
theorem dL_law_179 : decode cL_law 179 = .ok (.aload_n 1, 1) := by decide +kernel
theorem dL_law_180 : decode cL_law 180 = .ok (.invokevirtual 18, 3) := by decide +kernel
theorem dL_law_183 : decode cL_law 183 = .ok (.aload_n 2, 1) := by decide +kernel
theorem dL_law_184 : decode cL_law 184 = .ok (.invokevirtual 22, 3) := by decide +kernel
theorem dL_law_187 : decode cL_law 187 = .ok (.if_icmp .eq 656, 3) := by decide +kernel
theorem dL_law_190 : decode cL_law 190 = .ok (.iconst 0, 1) := by decide +kernel
theorem dL_law_191 : decode cL_law 191 = .ok (.ireturn, 1) := by decide +kernel
theorem dL_law_192 : decode cL_law 192 = .ok (.aload_n 1, 1) := by decide +kernel
theorem dL_law_193 : decode cL_law 193 = .ok (.invokevirtual 23, 3) := by decide +kernel
theorem dL_law_196 : decode cL_law 196 = .ok (.aload_n 2, 1) := by decide +kernel
theorem dL_law_197 : decode cL_law 197 = .ok (.invokevirtual 26, 3) := by decide +kernel
theorem dL_law_200 : decode cL_law 200 = .ok (.if_icmp .eq 643, 3) := by decide +kernel
theorem dL_law_203 : decode cL_law 203 = .ok (.iconst 0, 1) := by decide +kernel
theorem dL_law_204 : decode cL_law 204 = .ok (.ireturn, 1) := by decide +kernel
theorem dL_law_205 : decode cL_law 205 = .ok (.aload_n 1, 1) := by decide +kernel
theorem dL_law_206 : decode cL_law 206 = .ok (.invokevirtual 27, 3) := by decide +kernel
theorem dL_law_209 : decode cL_law 209 = .ok (.aload_n 2, 1) := by decide +kernel
theorem dL_law_210 : decode cL_law 210 = .ok (.invokevirtual 30, 3) := by decide +kernel
theorem dL_law_213 : decode cL_law 213 = .ok (.if_icmp .eq 630, 3) := by decide +kernel
theorem dL_law_216 : decode cL_law 216 = .ok (.iconst 0, 1) := by decide +kernel
theorem dL_law_217 : decode cL_law 217 = .ok (.ireturn, 1) := by decide +kernel
theorem dL_law_218 : decode cL_law 218 = .ok (.aload_n 1, 1) := by decide +kernel
theorem dL_law_219 : decode cL_law 219 = .ok (.aload_n 0, 1) := by decide +kernel
theorem dL_law_220 : decode cL_law 220 = .ok (.iload_n 3, 1) := by decide +kernel
theorem dL_law_221 : decode cL_law 221 = .ok (.iconst 1, 1) := by decide +kernel
theorem dL_law_222 : decode cL_law 222 = .ok (.iadd, 1) := by decide +kernel
theorem dL_law_223 : decode cL_law 223 = .ok (.iaload, 1) := by decide +kernel
theorem dL_law_224 : decode cL_law 224 = .ok (.aload_n 0, 1) := by decide +kernel
theorem dL_law_225 : decode cL_law 225 = .ok (.iload_n 3, 1) := by decide +kernel
theorem dL_law_226 : decode cL_law 226 = .ok (.iconst 2, 1) := by decide +kernel
theorem dL_law_227 : decode cL_law 227 = .ok (.iadd, 1) := by decide +kernel
theorem dL_law_228 : decode cL_law 228 = .ok (.iaload, 1) := by decide +kernel
theorem dL_law_229 : decode cL_law 229 = .ok (.invokevirtual 31, 3) := by decide +kernel
theorem dL_law_232 : decode cL_law 232 = .ok (.aload_n 2, 1) := by decide +kernel
theorem dL_law_233 : decode cL_law 233 = .ok (.aload_n 0, 1) := by decide +kernel
theorem dL_law_234 : decode cL_law 234 = .ok (.iload_n 3, 1) := by decide +kernel
theorem dL_law_235 : decode cL_law 235 = .ok (.iconst 1, 1) := by decide +kernel
theorem dL_law_236 : decode cL_law 236 = .ok (.iadd, 1) := by decide +kernel
theorem dL_law_237 : decode cL_law 237 = .ok (.iaload, 1) := by decide +kernel
theorem dL_law_238 : decode cL_law 238 = .ok (.aload_n 0, 1) := by decide +kernel
theorem dL_law_239 : decode cL_law 239 = .ok (.iload_n 3, 1) := by decide +kernel
theorem dL_law_240 : decode cL_law 240 = .ok (.iconst 2, 1) := by decide +kernel
theorem dL_law_241 : decode cL_law 241 = .ok (.iadd, 1) := by decide +kernel
theorem dL_law_242 : decode cL_law 242 = .ok (.iaload, 1) := by decide +kernel
theorem dL_law_243 : decode cL_law 243 = .ok (.invokevirtual 35, 3) := by decide +kernel
theorem dL_law_246 : decode cL_law 246 = .ok (.if_icmp .eq 597, 3) := by decide +kernel
theorem dL_law_249 : decode cL_law 249 = .ok (.iconst 0, 1) := by decide +kernel
theorem dL_law_250 : decode cL_law 250 = .ok (.ireturn, 1) := by decide +kernel
theorem dL_law_251 : decode cL_law 251 = .ok (.aload_n 1, 1) := by decide +kernel
theorem dL_law_252 : decode cL_law 252 = .ok (.aload_n 0, 1) := by decide +kernel
theorem dL_law_253 : decode cL_law 253 = .ok (.iload_n 3, 1) := by decide +kernel
theorem dL_law_254 : decode cL_law 254 = .ok (.iconst 1, 1) := by decide +kernel
theorem dL_law_255 : decode cL_law 255 = .ok (.iadd, 1) := by decide +kernel
theorem dL_law_256 : decode cL_law 256 = .ok (.iaload, 1) := by decide +kernel
theorem dL_law_257 : decode cL_law 257 = .ok (.aload_n 0, 1) := by decide +kernel
theorem dL_law_258 : decode cL_law 258 = .ok (.iload_n 3, 1) := by decide +kernel
theorem dL_law_259 : decode cL_law 259 = .ok (.iconst 2, 1) := by decide +kernel
theorem dL_law_260 : decode cL_law 260 = .ok (.iadd, 1) := by decide +kernel
theorem dL_law_261 : decode cL_law 261 = .ok (.iaload, 1) := by decide +kernel
theorem dL_law_262 : decode cL_law 262 = .ok (.invokevirtual 36, 3) := by decide +kernel
theorem dL_law_265 : decode cL_law 265 = .ok (.aload_n 2, 1) := by decide +kernel
theorem dL_law_266 : decode cL_law 266 = .ok (.aload_n 0, 1) := by decide +kernel
theorem dL_law_267 : decode cL_law 267 = .ok (.iload_n 3, 1) := by decide +kernel
theorem dL_law_268 : decode cL_law 268 = .ok (.iconst 1, 1) := by decide +kernel
theorem dL_law_269 : decode cL_law 269 = .ok (.iadd, 1) := by decide +kernel
theorem dL_law_270 : decode cL_law 270 = .ok (.iaload, 1) := by decide +kernel
theorem dL_law_271 : decode cL_law 271 = .ok (.aload_n 0, 1) := by decide +kernel
theorem dL_law_272 : decode cL_law 272 = .ok (.iload_n 3, 1) := by decide +kernel
theorem dL_law_273 : decode cL_law 273 = .ok (.iconst 2, 1) := by decide +kernel
theorem dL_law_274 : decode cL_law 274 = .ok (.iadd, 1) := by decide +kernel
theorem dL_law_275 : decode cL_law 275 = .ok (.iaload, 1) := by decide +kernel
theorem dL_law_276 : decode cL_law 276 = .ok (.invokevirtual 39, 3) := by decide +kernel
theorem dL_law_279 : decode cL_law 279 = .ok (.if_icmp .eq 564, 3) := by decide +kernel
theorem dL_law_282 : decode cL_law 282 = .ok (.iconst 0, 1) := by decide +kernel
theorem dL_law_283 : decode cL_law 283 = .ok (.ireturn, 1) := by decide +kernel
theorem dL_law_284 : decode cL_law 284 = .ok (.aload_n 1, 1) := by decide +kernel
theorem dL_law_285 : decode cL_law 285 = .ok (.aload_n 0, 1) := by decide +kernel
theorem dL_law_286 : decode cL_law 286 = .ok (.iload_n 3, 1) := by decide +kernel
theorem dL_law_287 : decode cL_law 287 = .ok (.iconst 1, 1) := by decide +kernel
theorem dL_law_288 : decode cL_law 288 = .ok (.iadd, 1) := by decide +kernel
theorem dL_law_289 : decode cL_law 289 = .ok (.iaload, 1) := by decide +kernel
theorem dL_law_290 : decode cL_law 290 = .ok (.aload_n 0, 1) := by decide +kernel
theorem dL_law_291 : decode cL_law 291 = .ok (.iload_n 3, 1) := by decide +kernel
theorem dL_law_292 : decode cL_law 292 = .ok (.iconst 2, 1) := by decide +kernel
theorem dL_law_293 : decode cL_law 293 = .ok (.iadd, 1) := by decide +kernel
theorem dL_law_294 : decode cL_law 294 = .ok (.iaload, 1) := by decide +kernel
theorem dL_law_295 : decode cL_law 295 = .ok (.invokevirtual 40, 3) := by decide +kernel
theorem dL_law_298 : decode cL_law 298 = .ok (.aload_n 2, 1) := by decide +kernel
theorem dL_law_299 : decode cL_law 299 = .ok (.aload_n 0, 1) := by decide +kernel
theorem dL_law_300 : decode cL_law 300 = .ok (.iload_n 3, 1) := by decide +kernel
theorem dL_law_301 : decode cL_law 301 = .ok (.iconst 1, 1) := by decide +kernel
theorem dL_law_302 : decode cL_law 302 = .ok (.iadd, 1) := by decide +kernel
theorem dL_law_303 : decode cL_law 303 = .ok (.iaload, 1) := by decide +kernel
theorem dL_law_304 : decode cL_law 304 = .ok (.aload_n 0, 1) := by decide +kernel
theorem dL_law_305 : decode cL_law 305 = .ok (.iload_n 3, 1) := by decide +kernel
theorem dL_law_306 : decode cL_law 306 = .ok (.iconst 2, 1) := by decide +kernel
theorem dL_law_307 : decode cL_law 307 = .ok (.iadd, 1) := by decide +kernel
theorem dL_law_308 : decode cL_law 308 = .ok (.iaload, 1) := by decide +kernel
theorem dL_law_309 : decode cL_law 309 = .ok (.invokevirtual 43, 3) := by decide +kernel
theorem dL_law_312 : decode cL_law 312 = .ok (.if_icmp .eq 531, 3) := by decide +kernel
theorem dL_law_315 : decode cL_law 315 = .ok (.iconst 0, 1) := by decide +kernel
theorem dL_law_316 : decode cL_law 316 = .ok (.ireturn, 1) := by decide +kernel
theorem dL_law_317 : decode cL_law 317 = .ok (.aload_n 1, 1) := by decide +kernel
theorem dL_law_318 : decode cL_law 318 = .ok (.invokevirtual 44, 3) := by decide +kernel
theorem dL_law_321 : decode cL_law 321 = .ok (.aload_n 2, 1) := by decide +kernel
theorem dL_law_322 : decode cL_law 322 = .ok (.invokevirtual 47, 3) := by decide +kernel
theorem dL_law_325 : decode cL_law 325 = .ok (.if_icmp .eq 518, 3) := by decide +kernel
theorem dL_law_328 : decode cL_law 328 = .ok (.iconst 0, 1) := by decide +kernel
theorem dL_law_329 : decode cL_law 329 = .ok (.ireturn, 1) := by decide +kernel
theorem dL_law_330 : decode cL_law 330 = .ok (.aload_n 1, 1) := by decide +kernel
theorem dL_law_331 : decode cL_law 331 = .ok (.aload_n 0, 1) := by decide +kernel
theorem dL_law_332 : decode cL_law 332 = .ok (.iload_n 3, 1) := by decide +kernel
theorem dL_law_333 : decode cL_law 333 = .ok (.iconst 1, 1) := by decide +kernel
theorem dL_law_334 : decode cL_law 334 = .ok (.iadd, 1) := by decide +kernel
theorem dL_law_335 : decode cL_law 335 = .ok (.iaload, 1) := by decide +kernel
theorem dL_law_336 : decode cL_law 336 = .ok (.invokevirtual 48, 3) := by decide +kernel
theorem dL_law_339 : decode cL_law 339 = .ok (.aload_n 2, 1) := by decide +kernel
theorem dL_law_340 : decode cL_law 340 = .ok (.aload_n 0, 1) := by decide +kernel
theorem dL_law_341 : decode cL_law 341 = .ok (.iload_n 3, 1) := by decide +kernel
theorem dL_law_342 : decode cL_law 342 = .ok (.iconst 1, 1) := by decide +kernel
theorem dL_law_343 : decode cL_law 343 = .ok (.iadd, 1) := by decide +kernel
theorem dL_law_344 : decode cL_law 344 = .ok (.iaload, 1) := by decide +kernel
theorem dL_law_345 : decode cL_law 345 = .ok (.invokevirtual 51, 3) := by decide +kernel
theorem dL_law_348 : decode cL_law 348 = .ok (.if_icmp .eq 495, 3) := by decide +kernel
theorem dL_law_351 : decode cL_law 351 = .ok (.iconst 0, 1) := by decide +kernel
theorem dL_law_352 : decode cL_law 352 = .ok (.ireturn, 1) := by decide +kernel
theorem dL_law_353 : decode cL_law 353 = .ok (.aload_n 1, 1) := by decide +kernel
theorem dL_law_354 : decode cL_law 354 = .ok (.aload_n 0, 1) := by decide +kernel
theorem dL_law_355 : decode cL_law 355 = .ok (.iload_n 3, 1) := by decide +kernel
theorem dL_law_356 : decode cL_law 356 = .ok (.iconst 1, 1) := by decide +kernel
theorem dL_law_357 : decode cL_law 357 = .ok (.iadd, 1) := by decide +kernel
theorem dL_law_358 : decode cL_law 358 = .ok (.iaload, 1) := by decide +kernel
theorem dL_law_359 : decode cL_law 359 = .ok (.invokevirtual 52, 3) := by decide +kernel
theorem dL_law_362 : decode cL_law 362 = .ok (.aload_n 2, 1) := by decide +kernel
theorem dL_law_363 : decode cL_law 363 = .ok (.aload_n 0, 1) := by decide +kernel
theorem dL_law_364 : decode cL_law 364 = .ok (.iload_n 3, 1) := by decide +kernel
theorem dL_law_365 : decode cL_law 365 = .ok (.iconst 1, 1) := by decide +kernel
theorem dL_law_366 : decode cL_law 366 = .ok (.iadd, 1) := by decide +kernel
theorem dL_law_367 : decode cL_law 367 = .ok (.iaload, 1) := by decide +kernel
theorem dL_law_368 : decode cL_law 368 = .ok (.invokevirtual 55, 3) := by decide +kernel
theorem dL_law_371 : decode cL_law 371 = .ok (.if_icmp .eq 472, 3) := by decide +kernel
theorem dL_law_374 : decode cL_law 374 = .ok (.iconst 0, 1) := by decide +kernel
theorem dL_law_375 : decode cL_law 375 = .ok (.ireturn, 1) := by decide +kernel
theorem dL_law_376 : decode cL_law 376 = .ok (.aload_n 1, 1) := by decide +kernel
theorem dL_law_377 : decode cL_law 377 = .ok (.aload_n 0, 1) := by decide +kernel
theorem dL_law_378 : decode cL_law 378 = .ok (.iload_n 3, 1) := by decide +kernel
theorem dL_law_379 : decode cL_law 379 = .ok (.iconst 1, 1) := by decide +kernel
theorem dL_law_380 : decode cL_law 380 = .ok (.iadd, 1) := by decide +kernel
theorem dL_law_381 : decode cL_law 381 = .ok (.iaload, 1) := by decide +kernel
theorem dL_law_382 : decode cL_law 382 = .ok (.aload_n 0, 1) := by decide +kernel
theorem dL_law_383 : decode cL_law 383 = .ok (.iload_n 3, 1) := by decide +kernel
theorem dL_law_384 : decode cL_law 384 = .ok (.iconst 2, 1) := by decide +kernel
theorem dL_law_385 : decode cL_law 385 = .ok (.iadd, 1) := by decide +kernel
theorem dL_law_386 : decode cL_law 386 = .ok (.iaload, 1) := by decide +kernel
theorem dL_law_387 : decode cL_law 387 = .ok (.invokevirtual 56, 3) := by decide +kernel
theorem dL_law_390 : decode cL_law 390 = .ok (.aload_n 2, 1) := by decide +kernel
theorem dL_law_391 : decode cL_law 391 = .ok (.aload_n 0, 1) := by decide +kernel
theorem dL_law_392 : decode cL_law 392 = .ok (.iload_n 3, 1) := by decide +kernel
theorem dL_law_393 : decode cL_law 393 = .ok (.iconst 1, 1) := by decide +kernel
theorem dL_law_394 : decode cL_law 394 = .ok (.iadd, 1) := by decide +kernel
theorem dL_law_395 : decode cL_law 395 = .ok (.iaload, 1) := by decide +kernel
theorem dL_law_396 : decode cL_law 396 = .ok (.aload_n 0, 1) := by decide +kernel
theorem dL_law_397 : decode cL_law 397 = .ok (.iload_n 3, 1) := by decide +kernel
theorem dL_law_398 : decode cL_law 398 = .ok (.iconst 2, 1) := by decide +kernel
theorem dL_law_399 : decode cL_law 399 = .ok (.iadd, 1) := by decide +kernel
theorem dL_law_400 : decode cL_law 400 = .ok (.iaload, 1) := by decide +kernel
theorem dL_law_401 : decode cL_law 401 = .ok (.invokevirtual 59, 3) := by decide +kernel
theorem dL_law_404 : decode cL_law 404 = .ok (.if_icmp .eq 439, 3) := by decide +kernel
theorem dL_law_407 : decode cL_law 407 = .ok (.iconst 0, 1) := by decide +kernel
theorem dL_law_408 : decode cL_law 408 = .ok (.ireturn, 1) := by decide +kernel
theorem dL_law_409 : decode cL_law 409 = .ok (.aload_n 1, 1) := by decide +kernel
theorem dL_law_410 : decode cL_law 410 = .ok (.aload_n 0, 1) := by decide +kernel
theorem dL_law_411 : decode cL_law 411 = .ok (.iload_n 3, 1) := by decide +kernel
theorem dL_law_412 : decode cL_law 412 = .ok (.iconst 1, 1) := by decide +kernel
theorem dL_law_413 : decode cL_law 413 = .ok (.iadd, 1) := by decide +kernel
theorem dL_law_414 : decode cL_law 414 = .ok (.iaload, 1) := by decide +kernel
theorem dL_law_415 : decode cL_law 415 = .ok (.invokevirtual 60, 3) := by decide +kernel
theorem dL_law_418 : decode cL_law 418 = .ok (.aload_n 2, 1) := by decide +kernel
theorem dL_law_419 : decode cL_law 419 = .ok (.aload_n 0, 1) := by decide +kernel
theorem dL_law_420 : decode cL_law 420 = .ok (.iload_n 3, 1) := by decide +kernel
theorem dL_law_421 : decode cL_law 421 = .ok (.iconst 1, 1) := by decide +kernel
theorem dL_law_422 : decode cL_law 422 = .ok (.iadd, 1) := by decide +kernel
theorem dL_law_423 : decode cL_law 423 = .ok (.iaload, 1) := by decide +kernel
theorem dL_law_424 : decode cL_law 424 = .ok (.invokevirtual 63, 3) := by decide +kernel
theorem dL_law_427 : decode cL_law 427 = .ok (.if_icmp .eq 416, 3) := by decide +kernel
theorem dL_law_430 : decode cL_law 430 = .ok (.iconst 0, 1) := by decide +kernel
theorem dL_law_431 : decode cL_law 431 = .ok (.ireturn, 1) := by decide +kernel
theorem dL_law_432 : decode cL_law 432 = .ok (.aload_n 1, 1) := by decide +kernel
theorem dL_law_433 : decode cL_law 433 = .ok (.invokevirtual 64, 3) := by decide +kernel
theorem dL_law_436 : decode cL_law 436 = .ok (.aload_n 2, 1) := by decide +kernel
theorem dL_law_437 : decode cL_law 437 = .ok (.invokevirtual 67, 3) := by decide +kernel
theorem dL_law_440 : decode cL_law 440 = .ok (.if_icmp .eq 403, 3) := by decide +kernel
theorem dL_law_443 : decode cL_law 443 = .ok (.iconst 0, 1) := by decide +kernel
theorem dL_law_444 : decode cL_law 444 = .ok (.ireturn, 1) := by decide +kernel
theorem dL_law_445 : decode cL_law 445 = .ok (.aload_n 1, 1) := by decide +kernel
theorem dL_law_446 : decode cL_law 446 = .ok (.aload_n 0, 1) := by decide +kernel
theorem dL_law_447 : decode cL_law 447 = .ok (.iload_n 3, 1) := by decide +kernel
theorem dL_law_448 : decode cL_law 448 = .ok (.iconst 1, 1) := by decide +kernel
theorem dL_law_449 : decode cL_law 449 = .ok (.iadd, 1) := by decide +kernel
theorem dL_law_450 : decode cL_law 450 = .ok (.iaload, 1) := by decide +kernel
theorem dL_law_451 : decode cL_law 451 = .ok (.aload_n 0, 1) := by decide +kernel
theorem dL_law_452 : decode cL_law 452 = .ok (.iload_n 3, 1) := by decide +kernel
theorem dL_law_453 : decode cL_law 453 = .ok (.iconst 2, 1) := by decide +kernel
theorem dL_law_454 : decode cL_law 454 = .ok (.iadd, 1) := by decide +kernel
theorem dL_law_455 : decode cL_law 455 = .ok (.iaload, 1) := by decide +kernel
theorem dL_law_456 : decode cL_law 456 = .ok (.invokevirtual 68, 3) := by decide +kernel
theorem dL_law_459 : decode cL_law 459 = .ok (.aload_n 2, 1) := by decide +kernel
theorem dL_law_460 : decode cL_law 460 = .ok (.aload_n 0, 1) := by decide +kernel
theorem dL_law_461 : decode cL_law 461 = .ok (.iload_n 3, 1) := by decide +kernel
theorem dL_law_462 : decode cL_law 462 = .ok (.iconst 1, 1) := by decide +kernel
theorem dL_law_463 : decode cL_law 463 = .ok (.iadd, 1) := by decide +kernel
theorem dL_law_464 : decode cL_law 464 = .ok (.iaload, 1) := by decide +kernel
theorem dL_law_465 : decode cL_law 465 = .ok (.aload_n 0, 1) := by decide +kernel
theorem dL_law_466 : decode cL_law 466 = .ok (.iload_n 3, 1) := by decide +kernel
theorem dL_law_467 : decode cL_law 467 = .ok (.iconst 2, 1) := by decide +kernel
theorem dL_law_468 : decode cL_law 468 = .ok (.iadd, 1) := by decide +kernel
theorem dL_law_469 : decode cL_law 469 = .ok (.iaload, 1) := by decide +kernel
theorem dL_law_470 : decode cL_law 470 = .ok (.invokevirtual 71, 3) := by decide +kernel
theorem dL_law_473 : decode cL_law 473 = .ok (.if_icmp .eq 370, 3) := by decide +kernel
theorem dL_law_476 : decode cL_law 476 = .ok (.iconst 0, 1) := by decide +kernel
theorem dL_law_477 : decode cL_law 477 = .ok (.ireturn, 1) := by decide +kernel
theorem dL_law_478 : decode cL_law 478 = .ok (.aload_n 1, 1) := by decide +kernel
theorem dL_law_479 : decode cL_law 479 = .ok (.aload_n 0, 1) := by decide +kernel
theorem dL_law_480 : decode cL_law 480 = .ok (.iload_n 3, 1) := by decide +kernel
theorem dL_law_481 : decode cL_law 481 = .ok (.iconst 1, 1) := by decide +kernel
theorem dL_law_482 : decode cL_law 482 = .ok (.iadd, 1) := by decide +kernel
theorem dL_law_483 : decode cL_law 483 = .ok (.iaload, 1) := by decide +kernel
theorem dL_law_484 : decode cL_law 484 = .ok (.invokevirtual 72, 3) := by decide +kernel
theorem dL_law_487 : decode cL_law 487 = .ok (.aload_n 2, 1) := by decide +kernel
theorem dL_law_488 : decode cL_law 488 = .ok (.aload_n 0, 1) := by decide +kernel
theorem dL_law_489 : decode cL_law 489 = .ok (.iload_n 3, 1) := by decide +kernel
theorem dL_law_490 : decode cL_law 490 = .ok (.iconst 1, 1) := by decide +kernel
theorem dL_law_491 : decode cL_law 491 = .ok (.iadd, 1) := by decide +kernel
theorem dL_law_492 : decode cL_law 492 = .ok (.iaload, 1) := by decide +kernel
theorem dL_law_493 : decode cL_law 493 = .ok (.invokevirtual 75, 3) := by decide +kernel
theorem dL_law_496 : decode cL_law 496 = .ok (.if_icmp .eq 347, 3) := by decide +kernel
theorem dL_law_499 : decode cL_law 499 = .ok (.iconst 0, 1) := by decide +kernel
theorem dL_law_500 : decode cL_law 500 = .ok (.ireturn, 1) := by decide +kernel
theorem dL_law_501 : decode cL_law 501 = .ok (.aload_n 1, 1) := by decide +kernel
theorem dL_law_502 : decode cL_law 502 = .ok (.aload_n 0, 1) := by decide +kernel
theorem dL_law_503 : decode cL_law 503 = .ok (.iload_n 3, 1) := by decide +kernel
theorem dL_law_504 : decode cL_law 504 = .ok (.iconst 1, 1) := by decide +kernel
theorem dL_law_505 : decode cL_law 505 = .ok (.iadd, 1) := by decide +kernel
theorem dL_law_506 : decode cL_law 506 = .ok (.iaload, 1) := by decide +kernel
theorem dL_law_507 : decode cL_law 507 = .ok (.invokevirtual 76, 3) := by decide +kernel
theorem dL_law_510 : decode cL_law 510 = .ok (.aload_n 2, 1) := by decide +kernel
theorem dL_law_511 : decode cL_law 511 = .ok (.aload_n 0, 1) := by decide +kernel
theorem dL_law_512 : decode cL_law 512 = .ok (.iload_n 3, 1) := by decide +kernel
theorem dL_law_513 : decode cL_law 513 = .ok (.iconst 1, 1) := by decide +kernel
theorem dL_law_514 : decode cL_law 514 = .ok (.iadd, 1) := by decide +kernel
theorem dL_law_515 : decode cL_law 515 = .ok (.iaload, 1) := by decide +kernel
theorem dL_law_516 : decode cL_law 516 = .ok (.invokevirtual 79, 3) := by decide +kernel
theorem dL_law_519 : decode cL_law 519 = .ok (.if_icmp .eq 324, 3) := by decide +kernel
theorem dL_law_522 : decode cL_law 522 = .ok (.iconst 0, 1) := by decide +kernel
theorem dL_law_523 : decode cL_law 523 = .ok (.ireturn, 1) := by decide +kernel
theorem dL_law_524 : decode cL_law 524 = .ok (.aload_n 1, 1) := by decide +kernel
theorem dL_law_525 : decode cL_law 525 = .ok (.aload_n 0, 1) := by decide +kernel
theorem dL_law_526 : decode cL_law 526 = .ok (.iload_n 3, 1) := by decide +kernel
theorem dL_law_527 : decode cL_law 527 = .ok (.iconst 1, 1) := by decide +kernel
theorem dL_law_528 : decode cL_law 528 = .ok (.iadd, 1) := by decide +kernel
theorem dL_law_529 : decode cL_law 529 = .ok (.iaload, 1) := by decide +kernel
theorem dL_law_530 : decode cL_law 530 = .ok (.aload_n 0, 1) := by decide +kernel
theorem dL_law_531 : decode cL_law 531 = .ok (.iload_n 3, 1) := by decide +kernel
theorem dL_law_532 : decode cL_law 532 = .ok (.iconst 2, 1) := by decide +kernel
theorem dL_law_533 : decode cL_law 533 = .ok (.iadd, 1) := by decide +kernel
theorem dL_law_534 : decode cL_law 534 = .ok (.iaload, 1) := by decide +kernel
theorem dL_law_535 : decode cL_law 535 = .ok (.invokevirtual 80, 3) := by decide +kernel
theorem dL_law_538 : decode cL_law 538 = .ok (.aload_n 2, 1) := by decide +kernel
theorem dL_law_539 : decode cL_law 539 = .ok (.aload_n 0, 1) := by decide +kernel
theorem dL_law_540 : decode cL_law 540 = .ok (.iload_n 3, 1) := by decide +kernel
theorem dL_law_541 : decode cL_law 541 = .ok (.iconst 1, 1) := by decide +kernel
theorem dL_law_542 : decode cL_law 542 = .ok (.iadd, 1) := by decide +kernel
theorem dL_law_543 : decode cL_law 543 = .ok (.iaload, 1) := by decide +kernel
theorem dL_law_544 : decode cL_law 544 = .ok (.aload_n 0, 1) := by decide +kernel
theorem dL_law_545 : decode cL_law 545 = .ok (.iload_n 3, 1) := by decide +kernel
theorem dL_law_546 : decode cL_law 546 = .ok (.iconst 2, 1) := by decide +kernel
theorem dL_law_547 : decode cL_law 547 = .ok (.iadd, 1) := by decide +kernel
theorem dL_law_548 : decode cL_law 548 = .ok (.iaload, 1) := by decide +kernel
theorem dL_law_549 : decode cL_law 549 = .ok (.invokevirtual 83, 3) := by decide +kernel
theorem dL_law_552 : decode cL_law 552 = .ok (.if_icmp .eq 291, 3) := by decide +kernel
theorem dL_law_555 : decode cL_law 555 = .ok (.iconst 0, 1) := by decide +kernel
theorem dL_law_556 : decode cL_law 556 = .ok (.ireturn, 1) := by decide +kernel
theorem dL_law_557 : decode cL_law 557 = .ok (.aload_n 1, 1) := by decide +kernel
theorem dL_law_558 : decode cL_law 558 = .ok (.aload_n 0, 1) := by decide +kernel
theorem dL_law_559 : decode cL_law 559 = .ok (.iload_n 3, 1) := by decide +kernel
theorem dL_law_560 : decode cL_law 560 = .ok (.iconst 1, 1) := by decide +kernel
theorem dL_law_561 : decode cL_law 561 = .ok (.iadd, 1) := by decide +kernel
theorem dL_law_562 : decode cL_law 562 = .ok (.iaload, 1) := by decide +kernel
theorem dL_law_563 : decode cL_law 563 = .ok (.invokevirtual 84, 3) := by decide +kernel
theorem dL_law_566 : decode cL_law 566 = .ok (.aload_n 2, 1) := by decide +kernel
theorem dL_law_567 : decode cL_law 567 = .ok (.aload_n 0, 1) := by decide +kernel
theorem dL_law_568 : decode cL_law 568 = .ok (.iload_n 3, 1) := by decide +kernel
theorem dL_law_569 : decode cL_law 569 = .ok (.iconst 1, 1) := by decide +kernel
theorem dL_law_570 : decode cL_law 570 = .ok (.iadd, 1) := by decide +kernel
theorem dL_law_571 : decode cL_law 571 = .ok (.iaload, 1) := by decide +kernel
theorem dL_law_572 : decode cL_law 572 = .ok (.invokevirtual 87, 3) := by decide +kernel
theorem dL_law_575 : decode cL_law 575 = .ok (.if_icmp .eq 268, 3) := by decide +kernel
theorem dL_law_578 : decode cL_law 578 = .ok (.iconst 0, 1) := by decide +kernel
theorem dL_law_579 : decode cL_law 579 = .ok (.ireturn, 1) := by decide +kernel
theorem dL_law_580 : decode cL_law 580 = .ok (.aload_n 1, 1) := by decide +kernel
theorem dL_law_581 : decode cL_law 581 = .ok (.aload_n 0, 1) := by decide +kernel
theorem dL_law_582 : decode cL_law 582 = .ok (.iload_n 3, 1) := by decide +kernel
theorem dL_law_583 : decode cL_law 583 = .ok (.iconst 1, 1) := by decide +kernel
theorem dL_law_584 : decode cL_law 584 = .ok (.iadd, 1) := by decide +kernel
theorem dL_law_585 : decode cL_law 585 = .ok (.iaload, 1) := by decide +kernel
theorem dL_law_586 : decode cL_law 586 = .ok (.aload_n 0, 1) := by decide +kernel
theorem dL_law_587 : decode cL_law 587 = .ok (.iload_n 3, 1) := by decide +kernel
theorem dL_law_588 : decode cL_law 588 = .ok (.iconst 2, 1) := by decide +kernel
theorem dL_law_589 : decode cL_law 589 = .ok (.iadd, 1) := by decide +kernel
theorem dL_law_590 : decode cL_law 590 = .ok (.iaload, 1) := by decide +kernel
theorem dL_law_591 : decode cL_law 591 = .ok (.aload_n 0, 1) := by decide +kernel
theorem dL_law_592 : decode cL_law 592 = .ok (.iload_n 3, 1) := by decide +kernel
theorem dL_law_593 : decode cL_law 593 = .ok (.iconst 3, 1) := by decide +kernel
theorem dL_law_594 : decode cL_law 594 = .ok (.iadd, 1) := by decide +kernel
theorem dL_law_595 : decode cL_law 595 = .ok (.iaload, 1) := by decide +kernel
theorem dL_law_596 : decode cL_law 596 = .ok (.ifCond .eq 7, 3) := by decide +kernel
theorem dL_law_599 : decode cL_law 599 = .ok (.iconst 1, 1) := by decide +kernel
theorem dL_law_600 : decode cL_law 600 = .ok (.goto 4, 3) := by decide +kernel
theorem dL_law_603 : decode cL_law 603 = .ok (.iconst 0, 1) := by decide +kernel
theorem dL_law_604 : decode cL_law 604 = .ok (.invokevirtual 88, 3) := by decide +kernel
theorem dL_law_607 : decode cL_law 607 = .ok (.aload_n 2, 1) := by decide +kernel
theorem dL_law_608 : decode cL_law 608 = .ok (.aload_n 0, 1) := by decide +kernel
theorem dL_law_609 : decode cL_law 609 = .ok (.iload_n 3, 1) := by decide +kernel
theorem dL_law_610 : decode cL_law 610 = .ok (.iconst 1, 1) := by decide +kernel
theorem dL_law_611 : decode cL_law 611 = .ok (.iadd, 1) := by decide +kernel
theorem dL_law_612 : decode cL_law 612 = .ok (.iaload, 1) := by decide +kernel
theorem dL_law_613 : decode cL_law 613 = .ok (.aload_n 0, 1) := by decide +kernel
theorem dL_law_614 : decode cL_law 614 = .ok (.iload_n 3, 1) := by decide +kernel
theorem dL_law_615 : decode cL_law 615 = .ok (.iconst 2, 1) := by decide +kernel
theorem dL_law_616 : decode cL_law 616 = .ok (.iadd, 1) := by decide +kernel
theorem dL_law_617 : decode cL_law 617 = .ok (.iaload, 1) := by decide +kernel
theorem dL_law_618 : decode cL_law 618 = .ok (.aload_n 0, 1) := by decide +kernel
theorem dL_law_619 : decode cL_law 619 = .ok (.iload_n 3, 1) := by decide +kernel
theorem dL_law_620 : decode cL_law 620 = .ok (.iconst 3, 1) := by decide +kernel
theorem dL_law_621 : decode cL_law 621 = .ok (.iadd, 1) := by decide +kernel
theorem dL_law_622 : decode cL_law 622 = .ok (.iaload, 1) := by decide +kernel
theorem dL_law_623 : decode cL_law 623 = .ok (.ifCond .eq 7, 3) := by decide +kernel
theorem dL_law_626 : decode cL_law 626 = .ok (.iconst 1, 1) := by decide +kernel
theorem dL_law_627 : decode cL_law 627 = .ok (.goto 4, 3) := by decide +kernel
theorem dL_law_630 : decode cL_law 630 = .ok (.iconst 0, 1) := by decide +kernel
theorem dL_law_631 : decode cL_law 631 = .ok (.invokevirtual 92, 3) := by decide +kernel
theorem dL_law_634 : decode cL_law 634 = .ok (.if_icmp .eq 209, 3) := by decide +kernel
theorem dL_law_637 : decode cL_law 637 = .ok (.iconst 0, 1) := by decide +kernel
theorem dL_law_638 : decode cL_law 638 = .ok (.ireturn, 1) := by decide +kernel
theorem dL_law_639 : decode cL_law 639 = .ok (.aload_n 1, 1) := by decide +kernel
theorem dL_law_640 : decode cL_law 640 = .ok (.invokevirtual 93, 3) := by decide +kernel
theorem dL_law_643 : decode cL_law 643 = .ok (.aload_n 2, 1) := by decide +kernel
theorem dL_law_644 : decode cL_law 644 = .ok (.invokevirtual 96, 3) := by decide +kernel
theorem dL_law_647 : decode cL_law 647 = .ok (.if_icmp .eq 196, 3) := by decide +kernel
theorem dL_law_650 : decode cL_law 650 = .ok (.iconst 0, 1) := by decide +kernel
theorem dL_law_651 : decode cL_law 651 = .ok (.ireturn, 1) := by decide +kernel
theorem dL_law_652 : decode cL_law 652 = .ok (.aload_n 1, 1) := by decide +kernel
theorem dL_law_653 : decode cL_law 653 = .ok (.aload_n 0, 1) := by decide +kernel
theorem dL_law_654 : decode cL_law 654 = .ok (.iload_n 3, 1) := by decide +kernel
theorem dL_law_655 : decode cL_law 655 = .ok (.iconst 1, 1) := by decide +kernel
theorem dL_law_656 : decode cL_law 656 = .ok (.iadd, 1) := by decide +kernel
theorem dL_law_657 : decode cL_law 657 = .ok (.iaload, 1) := by decide +kernel
theorem dL_law_658 : decode cL_law 658 = .ok (.aload_n 0, 1) := by decide +kernel
theorem dL_law_659 : decode cL_law 659 = .ok (.iload_n 3, 1) := by decide +kernel
theorem dL_law_660 : decode cL_law 660 = .ok (.iconst 2, 1) := by decide +kernel
theorem dL_law_661 : decode cL_law 661 = .ok (.iadd, 1) := by decide +kernel
theorem dL_law_662 : decode cL_law 662 = .ok (.iaload, 1) := by decide +kernel
theorem dL_law_663 : decode cL_law 663 = .ok (.invokevirtual 97, 3) := by decide +kernel
theorem dL_law_666 : decode cL_law 666 = .ok (.aload_n 2, 1) := by decide +kernel
theorem dL_law_667 : decode cL_law 667 = .ok (.aload_n 0, 1) := by decide +kernel
theorem dL_law_668 : decode cL_law 668 = .ok (.iload_n 3, 1) := by decide +kernel
theorem dL_law_669 : decode cL_law 669 = .ok (.iconst 1, 1) := by decide +kernel
theorem dL_law_670 : decode cL_law 670 = .ok (.iadd, 1) := by decide +kernel
theorem dL_law_671 : decode cL_law 671 = .ok (.iaload, 1) := by decide +kernel
theorem dL_law_672 : decode cL_law 672 = .ok (.aload_n 0, 1) := by decide +kernel
theorem dL_law_673 : decode cL_law 673 = .ok (.iload_n 3, 1) := by decide +kernel
theorem dL_law_674 : decode cL_law 674 = .ok (.iconst 2, 1) := by decide +kernel
theorem dL_law_675 : decode cL_law 675 = .ok (.iadd, 1) := by decide +kernel
theorem dL_law_676 : decode cL_law 676 = .ok (.iaload, 1) := by decide +kernel
theorem dL_law_677 : decode cL_law 677 = .ok (.invokevirtual 100, 3) := by decide +kernel
theorem dL_law_680 : decode cL_law 680 = .ok (.if_icmp .eq 163, 3) := by decide +kernel
theorem dL_law_683 : decode cL_law 683 = .ok (.iconst 0, 1) := by decide +kernel
theorem dL_law_684 : decode cL_law 684 = .ok (.ireturn, 1) := by decide +kernel
theorem dL_law_685 : decode cL_law 685 = .ok (.aload_n 1, 1) := by decide +kernel
theorem dL_law_686 : decode cL_law 686 = .ok (.aload_n 0, 1) := by decide +kernel
theorem dL_law_687 : decode cL_law 687 = .ok (.iload_n 3, 1) := by decide +kernel
theorem dL_law_688 : decode cL_law 688 = .ok (.iconst 1, 1) := by decide +kernel
theorem dL_law_689 : decode cL_law 689 = .ok (.iadd, 1) := by decide +kernel
theorem dL_law_690 : decode cL_law 690 = .ok (.iaload, 1) := by decide +kernel
theorem dL_law_691 : decode cL_law 691 = .ok (.invokevirtual 101, 3) := by decide +kernel
theorem dL_law_694 : decode cL_law 694 = .ok (.aload_n 2, 1) := by decide +kernel
theorem dL_law_695 : decode cL_law 695 = .ok (.aload_n 0, 1) := by decide +kernel
theorem dL_law_696 : decode cL_law 696 = .ok (.iload_n 3, 1) := by decide +kernel
theorem dL_law_697 : decode cL_law 697 = .ok (.iconst 1, 1) := by decide +kernel
theorem dL_law_698 : decode cL_law 698 = .ok (.iadd, 1) := by decide +kernel
theorem dL_law_699 : decode cL_law 699 = .ok (.iaload, 1) := by decide +kernel
theorem dL_law_700 : decode cL_law 700 = .ok (.invokevirtual 104, 3) := by decide +kernel
theorem dL_law_703 : decode cL_law 703 = .ok (.if_icmp .eq 140, 3) := by decide +kernel
theorem dL_law_706 : decode cL_law 706 = .ok (.iconst 0, 1) := by decide +kernel
theorem dL_law_707 : decode cL_law 707 = .ok (.ireturn, 1) := by decide +kernel
theorem dL_law_708 : decode cL_law 708 = .ok (.aload_n 1, 1) := by decide +kernel
theorem dL_law_709 : decode cL_law 709 = .ok (.aload_n 0, 1) := by decide +kernel
theorem dL_law_710 : decode cL_law 710 = .ok (.iload_n 3, 1) := by decide +kernel
theorem dL_law_711 : decode cL_law 711 = .ok (.iconst 1, 1) := by decide +kernel
theorem dL_law_712 : decode cL_law 712 = .ok (.iadd, 1) := by decide +kernel
theorem dL_law_713 : decode cL_law 713 = .ok (.iaload, 1) := by decide +kernel
theorem dL_law_714 : decode cL_law 714 = .ok (.aload_n 0, 1) := by decide +kernel
theorem dL_law_715 : decode cL_law 715 = .ok (.iload_n 3, 1) := by decide +kernel
theorem dL_law_716 : decode cL_law 716 = .ok (.iconst 2, 1) := by decide +kernel
theorem dL_law_717 : decode cL_law 717 = .ok (.iadd, 1) := by decide +kernel
theorem dL_law_718 : decode cL_law 718 = .ok (.iaload, 1) := by decide +kernel
theorem dL_law_719 : decode cL_law 719 = .ok (.aload_n 0, 1) := by decide +kernel
theorem dL_law_720 : decode cL_law 720 = .ok (.iload_n 3, 1) := by decide +kernel
theorem dL_law_721 : decode cL_law 721 = .ok (.iconst 3, 1) := by decide +kernel
theorem dL_law_722 : decode cL_law 722 = .ok (.iadd, 1) := by decide +kernel
theorem dL_law_723 : decode cL_law 723 = .ok (.iaload, 1) := by decide +kernel
theorem dL_law_724 : decode cL_law 724 = .ok (.invokevirtual 105, 3) := by decide +kernel
theorem dL_law_727 : decode cL_law 727 = .ok (.aload_n 2, 1) := by decide +kernel
theorem dL_law_728 : decode cL_law 728 = .ok (.aload_n 0, 1) := by decide +kernel
theorem dL_law_729 : decode cL_law 729 = .ok (.iload_n 3, 1) := by decide +kernel
theorem dL_law_730 : decode cL_law 730 = .ok (.iconst 1, 1) := by decide +kernel
theorem dL_law_731 : decode cL_law 731 = .ok (.iadd, 1) := by decide +kernel
theorem dL_law_732 : decode cL_law 732 = .ok (.iaload, 1) := by decide +kernel
theorem dL_law_733 : decode cL_law 733 = .ok (.aload_n 0, 1) := by decide +kernel
theorem dL_law_734 : decode cL_law 734 = .ok (.iload_n 3, 1) := by decide +kernel
theorem dL_law_735 : decode cL_law 735 = .ok (.iconst 2, 1) := by decide +kernel
theorem dL_law_736 : decode cL_law 736 = .ok (.iadd, 1) := by decide +kernel
theorem dL_law_737 : decode cL_law 737 = .ok (.iaload, 1) := by decide +kernel
theorem dL_law_738 : decode cL_law 738 = .ok (.aload_n 0, 1) := by decide +kernel
theorem dL_law_739 : decode cL_law 739 = .ok (.iload_n 3, 1) := by decide +kernel
theorem dL_law_740 : decode cL_law 740 = .ok (.iconst 3, 1) := by decide +kernel
theorem dL_law_741 : decode cL_law 741 = .ok (.iadd, 1) := by decide +kernel
theorem dL_law_742 : decode cL_law 742 = .ok (.iaload, 1) := by decide +kernel
theorem dL_law_743 : decode cL_law 743 = .ok (.invokevirtual 109, 3) := by decide +kernel
theorem dL_law_746 : decode cL_law 746 = .ok (.if_icmp .eq 97, 3) := by decide +kernel
theorem dL_law_749 : decode cL_law 749 = .ok (.iconst 0, 1) := by decide +kernel
theorem dL_law_750 : decode cL_law 750 = .ok (.ireturn, 1) := by decide +kernel
theorem dL_law_751 : decode cL_law 751 = .ok (.aload_n 1, 1) := by decide +kernel
theorem dL_law_752 : decode cL_law 752 = .ok (.aload_n 0, 1) := by decide +kernel
theorem dL_law_753 : decode cL_law 753 = .ok (.iload_n 3, 1) := by decide +kernel
theorem dL_law_754 : decode cL_law 754 = .ok (.iconst 1, 1) := by decide +kernel
theorem dL_law_755 : decode cL_law 755 = .ok (.iadd, 1) := by decide +kernel
theorem dL_law_756 : decode cL_law 756 = .ok (.iaload, 1) := by decide +kernel
theorem dL_law_757 : decode cL_law 757 = .ok (.aload_n 0, 1) := by decide +kernel
theorem dL_law_758 : decode cL_law 758 = .ok (.iload_n 3, 1) := by decide +kernel
theorem dL_law_759 : decode cL_law 759 = .ok (.iconst 2, 1) := by decide +kernel
theorem dL_law_760 : decode cL_law 760 = .ok (.iadd, 1) := by decide +kernel
theorem dL_law_761 : decode cL_law 761 = .ok (.iaload, 1) := by decide +kernel
theorem dL_law_762 : decode cL_law 762 = .ok (.aload_n 0, 1) := by decide +kernel
theorem dL_law_763 : decode cL_law 763 = .ok (.iload_n 3, 1) := by decide +kernel
theorem dL_law_764 : decode cL_law 764 = .ok (.iconst 3, 1) := by decide +kernel
theorem dL_law_765 : decode cL_law 765 = .ok (.iadd, 1) := by decide +kernel
theorem dL_law_766 : decode cL_law 766 = .ok (.iaload, 1) := by decide +kernel
theorem dL_law_767 : decode cL_law 767 = .ok (.invokevirtual 110, 3) := by decide +kernel
theorem dL_law_770 : decode cL_law 770 = .ok (.aload_n 2, 1) := by decide +kernel
theorem dL_law_771 : decode cL_law 771 = .ok (.aload_n 0, 1) := by decide +kernel
theorem dL_law_772 : decode cL_law 772 = .ok (.iload_n 3, 1) := by decide +kernel
theorem dL_law_773 : decode cL_law 773 = .ok (.iconst 1, 1) := by decide +kernel
theorem dL_law_774 : decode cL_law 774 = .ok (.iadd, 1) := by decide +kernel
theorem dL_law_775 : decode cL_law 775 = .ok (.iaload, 1) := by decide +kernel
theorem dL_law_776 : decode cL_law 776 = .ok (.aload_n 0, 1) := by decide +kernel
theorem dL_law_777 : decode cL_law 777 = .ok (.iload_n 3, 1) := by decide +kernel
theorem dL_law_778 : decode cL_law 778 = .ok (.iconst 2, 1) := by decide +kernel
theorem dL_law_779 : decode cL_law 779 = .ok (.iadd, 1) := by decide +kernel
theorem dL_law_780 : decode cL_law 780 = .ok (.iaload, 1) := by decide +kernel
theorem dL_law_781 : decode cL_law 781 = .ok (.aload_n 0, 1) := by decide +kernel
theorem dL_law_782 : decode cL_law 782 = .ok (.iload_n 3, 1) := by decide +kernel
theorem dL_law_783 : decode cL_law 783 = .ok (.iconst 3, 1) := by decide +kernel
theorem dL_law_784 : decode cL_law 784 = .ok (.iadd, 1) := by decide +kernel
theorem dL_law_785 : decode cL_law 785 = .ok (.iaload, 1) := by decide +kernel
theorem dL_law_786 : decode cL_law 786 = .ok (.invokevirtual 113, 3) := by decide +kernel
theorem dL_law_789 : decode cL_law 789 = .ok (.if_icmp .eq 54, 3) := by decide +kernel
theorem dL_law_792 : decode cL_law 792 = .ok (.iconst 0, 1) := by decide +kernel
theorem dL_law_793 : decode cL_law 793 = .ok (.ireturn, 1) := by decide +kernel
theorem dL_law_794 : decode cL_law 794 = .ok (.aload_n 1, 1) := by decide +kernel
theorem dL_law_795 : decode cL_law 795 = .ok (.invokevirtual 114, 3) := by decide +kernel
theorem dL_law_798 : decode cL_law 798 = .ok (.aload_n 2, 1) := by decide +kernel
theorem dL_law_799 : decode cL_law 799 = .ok (.invokevirtual 117, 3) := by decide +kernel
theorem dL_law_802 : decode cL_law 802 = .ok (.if_icmp .eq 41, 3) := by decide +kernel
theorem dL_law_805 : decode cL_law 805 = .ok (.iconst 0, 1) := by decide +kernel
theorem dL_law_806 : decode cL_law 806 = .ok (.ireturn, 1) := by decide +kernel
theorem dL_law_807 : decode cL_law 807 = .ok (.aload_n 1, 1) := by decide +kernel
theorem dL_law_808 : decode cL_law 808 = .ok (.invokevirtual 118, 3) := by decide +kernel
theorem dL_law_811 : decode cL_law 811 = .ok (.aload_n 2, 1) := by decide +kernel
theorem dL_law_812 : decode cL_law 812 = .ok (.invokevirtual 121, 3) := by decide +kernel
theorem dL_law_815 : decode cL_law 815 = .ok (.if_icmp .eq 28, 3) := by decide +kernel
theorem dL_law_818 : decode cL_law 818 = .ok (.iconst 0, 1) := by decide +kernel
theorem dL_law_819 : decode cL_law 819 = .ok (.ireturn, 1) := by decide +kernel
theorem dL_law_820 : decode cL_law 820 = .ok (.aload_n 1, 1) := by decide +kernel
theorem dL_law_821 : decode cL_law 821 = .ok (.aload_n 0, 1) := by decide +kernel
theorem dL_law_822 : decode cL_law 822 = .ok (.iload_n 3, 1) := by decide +kernel
theorem dL_law_823 : decode cL_law 823 = .ok (.iconst 1, 1) := by decide +kernel
theorem dL_law_824 : decode cL_law 824 = .ok (.iadd, 1) := by decide +kernel
theorem dL_law_825 : decode cL_law 825 = .ok (.iaload, 1) := by decide +kernel
theorem dL_law_826 : decode cL_law 826 = .ok (.invokevirtual 122, 3) := by decide +kernel
theorem dL_law_829 : decode cL_law 829 = .ok (.aload_n 2, 1) := by decide +kernel
theorem dL_law_830 : decode cL_law 830 = .ok (.aload_n 0, 1) := by decide +kernel
theorem dL_law_831 : decode cL_law 831 = .ok (.iload_n 3, 1) := by decide +kernel
theorem dL_law_832 : decode cL_law 832 = .ok (.iconst 1, 1) := by decide +kernel
theorem dL_law_833 : decode cL_law 833 = .ok (.iadd, 1) := by decide +kernel
theorem dL_law_834 : decode cL_law 834 = .ok (.iaload, 1) := by decide +kernel
theorem dL_law_835 : decode cL_law 835 = .ok (.invokevirtual 125, 3) := by decide +kernel
theorem dL_law_838 : decode cL_law 838 = .ok (.if_icmp .eq 5, 3) := by decide +kernel
theorem dL_law_841 : decode cL_law 841 = .ok (.iconst 0, 1) := by decide +kernel
theorem dL_law_842 : decode cL_law 842 = .ok (.ireturn, 1) := by decide +kernel
theorem dL_law_843 : decode cL_law 843 = .ok (.iinc 3 4, 3) := by decide +kernel
theorem dL_law_846 : decode cL_law 846 = .ok (.goto (-828), 3) := by decide +kernel
theorem dL_law_849 : decode cL_law 849 = .ok (.iconst 1, 1) := by decide +kernel
theorem dL_law_850 : decode cL_law 850 = .ok (.ireturn, 1) := by decide +kernel
end
section
/-! what links say -/
def z_cl : List vw_C := [(RX0, TX0, 2), (RX1, TX1, 9), (RX2, TX2, 4), (RX3, TX3, 1), (RX4, TX4, 2), (RX5, TX5, 13), (RX6, TX6, 4), (RX7, TX7, 7), (RX8, TX8, 2), (RX9, TX9, 11), (RX10, TX10, 30)]
def z_isNest : Cond → Bool
  | .fieldLinkNest .. => true
  | .methodLinkNest .. => true
  | _ => false
def z_tbl : List Cond := lw_tbl.filter goodWord
def z_nst : List Cond := lw_tbl.filter z_isNest
theorem z_tblI {w : Cond} (i : Nat) (h : lw_tbl[i]? = some w) (hg : goodWord w = true) : w ∈ z_tbl := List.mem_filter.mpr ⟨List.mem_of_getElem? h, hg⟩
theorem z_nstI {w : Cond} (i : Nat) (h : lw_tbl[i]? = some w) (hg : z_isNest w = true) : w ∈ z_nst := List.mem_filter.mpr ⟨List.mem_of_getElem? h, hg⟩
theorem z_tb1 {w : Cond} (i : Nat) (h : tables_1_1[i]? = some w) (hg : goodWord w = true) : w ∈ z_tbl := List.mem_filter.mpr ⟨List.mem_append_right _ (List.mem_append_left _ (List.mem_of_getElem? h)), hg⟩
theorem z_ns1 {w : Cond} (i : Nat) (h : tables_1_1[i]? = some w) (hg : z_isNest w = true) : w ∈ z_nst := List.mem_filter.mpr ⟨List.mem_append_right _ (List.mem_append_left _ (List.mem_of_getElem? h)), hg⟩
theorem z_tb2 {w : Cond} (i : Nat) (h : tables_1_2[i]? = some w) (hg : goodWord w = true) : w ∈ z_tbl := List.mem_filter.mpr ⟨List.mem_append_right _ (List.mem_append_right _ (List.mem_append_left _ (List.mem_of_getElem? h))), hg⟩
theorem z_ns2 {w : Cond} (i : Nat) (h : tables_1_2[i]? = some w) (hg : z_isNest w = true) : w ∈ z_nst := List.mem_filter.mpr ⟨List.mem_append_right _ (List.mem_append_right _ (List.mem_append_left _ (List.mem_of_getElem? h))), hg⟩
theorem z_tb3 {w : Cond} (i : Nat) (h : tables_1_3[i]? = some w) (hg : goodWord w = true) : w ∈ z_tbl := List.mem_filter.mpr ⟨List.mem_append_right _ (List.mem_append_right _ (List.mem_append_right _ (List.mem_append_left _ (List.mem_of_getElem? h)))), hg⟩
theorem z_ns3 {w : Cond} (i : Nat) (h : tables_1_3[i]? = some w) (hg : z_isNest w = true) : w ∈ z_nst := List.mem_filter.mpr ⟨List.mem_append_right _ (List.mem_append_right _ (List.mem_append_right _ (List.mem_append_left _ (List.mem_of_getElem? h)))), hg⟩
theorem z_tb4 {w : Cond} (i : Nat) (h : tables_1_4[i]? = some w) (hg : goodWord w = true) : w ∈ z_tbl := List.mem_filter.mpr ⟨List.mem_append_right _ (List.mem_append_right _ (List.mem_append_right _ (List.mem_append_right _ (List.mem_append_left _ (List.mem_of_getElem? h))))), hg⟩
theorem z_ns4 {w : Cond} (i : Nat) (h : tables_1_4[i]? = some w) (hg : z_isNest w = true) : w ∈ z_nst := List.mem_filter.mpr ⟨List.mem_append_right _ (List.mem_append_right _ (List.mem_append_right _ (List.mem_append_right _ (List.mem_append_left _ (List.mem_of_getElem? h))))), hg⟩
theorem z_tb5 {w : Cond} (i : Nat) (h : tables_1_5[i]? = some w) (hg : goodWord w = true) : w ∈ z_tbl := List.mem_filter.mpr ⟨List.mem_append_right _ (List.mem_append_right _ (List.mem_append_right _ (List.mem_append_right _ (List.mem_append_right _ (List.mem_of_getElem? h))))), hg⟩
theorem z_ns5 {w : Cond} (i : Nat) (h : tables_1_5[i]? = some w) (hg : z_isNest w = true) : w ∈ z_nst := List.mem_filter.mpr ⟨List.mem_append_right _ (List.mem_append_right _ (List.mem_append_right _ (List.mem_append_right _ (List.mem_append_right _ (List.mem_of_getElem? h))))), hg⟩
def z_FL (own : String) (idx ci k : Nat) : Prop := ∃ q : vw_C, z_cl[ci]? = some q ∧ k < q.2.2 ∧ (q.2.1 k).1 = q.1 ∧ (Cond.fieldLink own idx q.1 (q.2.1 k).2.1 (q.2.1 k).2.2.1 ∈ z_tbl ∨ ∃ host, Cond.fieldLinkNest own idx q.1 (q.2.1 k).2.1 (q.2.1 k).2.2.1 host ∈ z_nst)
def z_ML (own : String) (idx : Nat) (M : z_M) (np : Nat) : Prop :=
  (Cond.methodLink own idx M.1 ∈ z_tbl ∨ ∃ host, Cond.methodLinkNest own idx M.1 host ∈ z_nst) ∧ Cond.code M.1 M.2.1 M.2.2.1 M.2.2.2 ∈ z_tbl ∧ Cond.initialized M.1.cls ∈ z_tbl ∧ (M.1.cls ≠ "java/lang/invoke/MethodHandle" ∧ M.1.cls ≠ "java/lang/invoke/VarHandle" ∧ (parseMethodDescriptor M.1.desc).map (fun d => d.parameters.length) = some np) ∧ M.2.2.1 ≤ 15
def z_MS (own : String) (idx : Nat) (M : z_M) (np : Nat) : Prop := z_ML own idx M np ∧ Cond.static M.1 ∈ z_tbl
def z_MV (own : String) (idx : Nat) (M : z_M) (np : Nat) : Prop := z_ML own idx M np ∧ Cond.instanceMethod M.1 ∈ z_tbl ∧ Cond.selects M.1.cls M.1 M.1 ∈ z_tbl
def z_MI (own : String) (idx : Nat) (M : z_M) (np : Nat) : Prop := z_ML own idx M np ∧ Cond.instanceMethod M.1 ∈ z_tbl ∧ M.1.name = "<init>" ∧ M.2.2.2 = none
def z_CL (own : String) (idx ci : Nat) : Prop := ∃ q : vw_C, z_cl[ci]? = some q ∧ Cond.classLink own idx q.1 ∈ z_tbl ∧ Cond.instantiable q.1 q.2.2 ∈ z_tbl ∧ Cond.initialized q.1 ∈ z_tbl
end
section
/-! links, by program -/
theorem lL_7 : z_CL RL 7 9 := ⟨_, rfl, (z_tb1 18 (by first | exact rfl | decide +kernel) rfl), (z_tb1 19 (by first | exact rfl | decide +kernel) rfl), (z_tb1 1 (by first | exact rfl | decide +kernel) rfl)⟩
theorem kL_9 : z_MI RL 9 mX9_init 0 := ⟨⟨Or.inl (z_tb1 20 (by first | exact rfl | decide +kernel) rfl), (z_tb1 22 (by first | exact rfl | decide +kernel) rfl), (z_tb1 1 (by first | exact rfl | decide +kernel) rfl), ⟨by decide +kernel, by decide +kernel, by decide +kernel⟩, by decide⟩, (z_tb1 21 (by first | exact rfl | decide +kernel) rfl), rfl, rfl⟩
theorem kX9_3 : Cond.methodLink RX9 3 Lib.objectInit ∈ z_tbl := (z_tb1 23 (by first | exact rfl | decide +kernel) rfl)
theorem lX9_9 : z_CL RX9 9 8 := ⟨_, rfl, (z_tb1 26 (by first | exact rfl | decide +kernel) rfl), (z_tb1 27 (by first | exact rfl | decide +kernel) rfl), (z_tb1 2 (by first | exact rfl | decide +kernel) rfl)⟩
theorem kX9_11 : z_MI RX9 11 mX8_init 0 := ⟨⟨Or.inr ⟨"SleepersShop", z_ns1 28 (by first | exact rfl | decide +kernel) rfl⟩, (z_tb1 30 (by first | exact rfl | decide +kernel) rfl), (z_tb1 2 (by first | exact rfl | decide +kernel) rfl), ⟨by decide +kernel, by decide +kernel, by decide +kernel⟩, by decide⟩, (z_tb1 29 (by first | exact rfl | decide +kernel) rfl), rfl, rfl⟩
theorem kX8_3 : Cond.methodLink RX8 3 Lib.objectInit ∈ z_tbl := (z_tb1 31 (by first | exact rfl | decide +kernel) rfl)
theorem fX8_9 : z_FL RX8 9 8 0 := ⟨_, rfl, by decide, rfl, Or.inl (z_tb1 32 (by first | exact rfl | decide +kernel) rfl)⟩
theorem fX8_15 : z_FL RX8 15 8 1 := ⟨_, rfl, by decide, rfl, Or.inl (z_tb1 33 (by first | exact rfl | decide +kernel) rfl)⟩
theorem fX9_104 : z_FL RX9 104 8 1 := ⟨_, rfl, by decide, rfl, Or.inr ⟨"SleepersShop", z_ns1 34 (by first | exact rfl | decide +kernel) rfl⟩⟩
theorem fX2_37 : z_FL RX2 37 8 1 := ⟨_, rfl, by decide, rfl, Or.inr ⟨"SleepersShop", z_ns1 35 (by first | exact rfl | decide +kernel) rfl⟩⟩
theorem a_int : Cond.arrayClass .int ∈ z_tbl := (z_tb1 41 (by first | exact rfl | decide +kernel) rfl)
theorem lX9_16 : z_CL RX9 16 5 := ⟨_, rfl, (z_tb1 42 (by first | exact rfl | decide +kernel) rfl), (z_tb1 43 (by first | exact rfl | decide +kernel) rfl), (z_tb1 3 (by first | exact rfl | decide +kernel) rfl)⟩
theorem kX9_18 : z_MI RX9 18 mX5_init 0 := ⟨⟨Or.inr ⟨"SleepersShop", z_ns1 44 (by first | exact rfl | decide +kernel) rfl⟩, (z_tb1 46 (by first | exact rfl | decide +kernel) rfl), (z_tb1 3 (by first | exact rfl | decide +kernel) rfl), ⟨by decide +kernel, by decide +kernel, by decide +kernel⟩, by decide⟩, (z_tb1 45 (by first | exact rfl | decide +kernel) rfl), rfl, rfl⟩
theorem kX5_3 : Cond.methodLink RX5 3 Lib.objectInit ∈ z_tbl := (z_tb1 47 (by first | exact rfl | decide +kernel) rfl)
theorem lX5_9 : z_CL RX5 9 3 := ⟨_, rfl, (z_tb1 48 (by first | exact rfl | decide +kernel) rfl), (z_tb1 49 (by first | exact rfl | decide +kernel) rfl), (z_tb1 4 (by first | exact rfl | decide +kernel) rfl)⟩
theorem kX5_11 : z_MI RX5 11 mX3_init 1 := ⟨⟨Or.inl (z_tb1 50 (by first | exact rfl | decide +kernel) rfl), (z_tb1 52 (by first | exact rfl | decide +kernel) rfl), (z_tb1 4 (by first | exact rfl | decide +kernel) rfl), ⟨by decide +kernel, by decide +kernel, by decide +kernel⟩, by decide⟩, (z_tb1 51 (by first | exact rfl | decide +kernel) rfl), rfl, rfl⟩
theorem kX3_1 : Cond.methodLink RX3 1 Lib.objectInit ∈ z_tbl := (z_tb1 53 (by first | exact rfl | decide +kernel) rfl)
theorem fX3_7 : z_FL RX3 7 3 0 := ⟨_, rfl, by decide, rfl, Or.inl (z_tb1 54 (by first | exact rfl | decide +kernel) rfl)⟩
theorem fX5_14 : z_FL RX5 14 5 0 := ⟨_, rfl, by decide, rfl, Or.inl (z_tb1 58 (by first | exact rfl | decide +kernel) rfl)⟩
theorem fX9_114 : z_FL RX9 114 5 0 := ⟨_, rfl, by decide, rfl, Or.inr ⟨"SleepersShop", z_ns1 59 (by first | exact rfl | decide +kernel) rfl⟩⟩
theorem fX2_87 : z_FL RX2 87 5 0 := ⟨_, rfl, by decide, rfl, Or.inr ⟨"SleepersShop", z_ns1 60 (by first | exact rfl | decide +kernel) rfl⟩⟩
theorem fX5_20 : z_FL RX5 20 5 1 := ⟨_, rfl, by decide, rfl, Or.inl (z_tb1 61 (by first | exact rfl | decide +kernel) rfl)⟩
theorem fX9_124 : z_FL RX9 124 5 1 := ⟨_, rfl, by decide, rfl, Or.inr ⟨"SleepersShop", z_ns1 62 (by first | exact rfl | decide +kernel) rfl⟩⟩
theorem fX2_90 : z_FL RX2 90 5 1 := ⟨_, rfl, by decide, rfl, Or.inr ⟨"SleepersShop", z_ns1 63 (by first | exact rfl | decide +kernel) rfl⟩⟩
theorem fX5_23 : z_FL RX5 23 5 2 := ⟨_, rfl, by decide, rfl, Or.inl (z_tb1 64 (by first | exact rfl | decide +kernel) rfl)⟩
theorem fX9_127 : z_FL RX9 127 5 2 := ⟨_, rfl, by decide, rfl, Or.inr ⟨"SleepersShop", z_ns1 65 (by first | exact rfl | decide +kernel) rfl⟩⟩
theorem fX2_93 : z_FL RX2 93 5 2 := ⟨_, rfl, by decide, rfl, Or.inr ⟨"SleepersShop", z_ns1 66 (by first | exact rfl | decide +kernel) rfl⟩⟩
theorem fX5_26 : z_FL RX5 26 5 3 := ⟨_, rfl, by decide, rfl, Or.inl (z_tb1 67 (by first | exact rfl | decide +kernel) rfl)⟩
theorem fX9_130 : z_FL RX9 130 5 3 := ⟨_, rfl, by decide, rfl, Or.inr ⟨"SleepersShop", z_ns1 68 (by first | exact rfl | decide +kernel) rfl⟩⟩
theorem fX2_96 : z_FL RX2 96 5 3 := ⟨_, rfl, by decide, rfl, Or.inr ⟨"SleepersShop", z_ns1 69 (by first | exact rfl | decide +kernel) rfl⟩⟩
theorem fX5_29 : z_FL RX5 29 5 4 := ⟨_, rfl, by decide, rfl, Or.inl (z_tb1 70 (by first | exact rfl | decide +kernel) rfl)⟩
theorem fX9_149 : z_FL RX9 149 5 4 := ⟨_, rfl, by decide, rfl, Or.inr ⟨"SleepersShop", z_ns1 71 (by first | exact rfl | decide +kernel) rfl⟩⟩
theorem fX2_125 : z_FL RX2 125 5 4 := ⟨_, rfl, by decide, rfl, Or.inr ⟨"SleepersShop", z_ns1 72 (by first | exact rfl | decide +kernel) rfl⟩⟩
theorem fX5_32 : z_FL RX5 32 5 5 := ⟨_, rfl, by decide, rfl, Or.inl (z_tb1 73 (by first | exact rfl | decide +kernel) rfl)⟩
theorem fX1_96 : z_FL RX1 96 5 5 := ⟨_, rfl, by decide, rfl, Or.inr ⟨"SleepersShop", z_ns1 74 (by first | exact rfl | decide +kernel) rfl⟩⟩
theorem fX9_152 : z_FL RX9 152 5 5 := ⟨_, rfl, by decide, rfl, Or.inr ⟨"SleepersShop", z_ns1 75 (by first | exact rfl | decide +kernel) rfl⟩⟩
theorem fX2_128 : z_FL RX2 128 5 5 := ⟨_, rfl, by decide, rfl, Or.inr ⟨"SleepersShop", z_ns1 76 (by first | exact rfl | decide +kernel) rfl⟩⟩
theorem fX5_35 : z_FL RX5 35 5 6 := ⟨_, rfl, by decide, rfl, Or.inl (z_tb1 77 (by first | exact rfl | decide +kernel) rfl)⟩
theorem fX9_155 : z_FL RX9 155 5 6 := ⟨_, rfl, by decide, rfl, Or.inr ⟨"SleepersShop", z_ns1 78 (by first | exact rfl | decide +kernel) rfl⟩⟩
theorem fX1_112 : z_FL RX1 112 5 6 := ⟨_, rfl, by decide, rfl, Or.inr ⟨"SleepersShop", z_ns1 79 (by first | exact rfl | decide +kernel) rfl⟩⟩
theorem fX2_131 : z_FL RX2 131 5 6 := ⟨_, rfl, by decide, rfl, Or.inr ⟨"SleepersShop", z_ns1 80 (by first | exact rfl | decide +kernel) rfl⟩⟩
theorem fX5_38 : z_FL RX5 38 5 7 := ⟨_, rfl, by decide, rfl, Or.inl (z_tb1 81 (by first | exact rfl | decide +kernel) rfl)⟩
theorem fX9_158 : z_FL RX9 158 5 7 := ⟨_, rfl, by decide, rfl, Or.inr ⟨"SleepersShop", z_ns1 82 (by first | exact rfl | decide +kernel) rfl⟩⟩
theorem fX1_115 : z_FL RX1 115 5 7 := ⟨_, rfl, by decide, rfl, Or.inr ⟨"SleepersShop", z_ns1 83 (by first | exact rfl | decide +kernel) rfl⟩⟩
theorem fX2_134 : z_FL RX2 134 5 7 := ⟨_, rfl, by decide, rfl, Or.inr ⟨"SleepersShop", z_ns1 84 (by first | exact rfl | decide +kernel) rfl⟩⟩
theorem fX5_41 : z_FL RX5 41 5 8 := ⟨_, rfl, by decide, rfl, Or.inl (z_tb1 85 (by first | exact rfl | decide +kernel) rfl)⟩
theorem fX1_109 : z_FL RX1 109 5 8 := ⟨_, rfl, by decide, rfl, Or.inr ⟨"SleepersShop", z_ns1 86 (by first | exact rfl | decide +kernel) rfl⟩⟩
theorem fX9_264 : z_FL RX9 264 5 8 := ⟨_, rfl, by decide, rfl, Or.inr ⟨"SleepersShop", z_ns1 87 (by first | exact rfl | decide +kernel) rfl⟩⟩
theorem fX5_47 : z_FL RX5 47 5 9 := ⟨_, rfl, by decide, rfl, Or.inl (z_tb1 88 (by first | exact rfl | decide +kernel) rfl)⟩
theorem fX1_67 : z_FL RX1 67 5 9 := ⟨_, rfl, by decide, rfl, Or.inr ⟨"SleepersShop", z_ns1 89 (by first | exact rfl | decide +kernel) rfl⟩⟩
theorem fX9_107 : z_FL RX9 107 5 9 := ⟨_, rfl, by decide, rfl, Or.inr ⟨"SleepersShop", z_ns1 90 (by first | exact rfl | decide +kernel) rfl⟩⟩
theorem fX2_81 : z_FL RX2 81 5 9 := ⟨_, rfl, by decide, rfl, Or.inr ⟨"SleepersShop", z_ns1 91 (by first | exact rfl | decide +kernel) rfl⟩⟩
theorem fX5_51 : z_FL RX5 51 5 10 := ⟨_, rfl, by decide, rfl, Or.inl (z_tb1 92 (by first | exact rfl | decide +kernel) rfl)⟩
theorem fX2_122 : z_FL RX2 122 5 10 := ⟨_, rfl, by decide, rfl, Or.inr ⟨"SleepersShop", z_ns1 93 (by first | exact rfl | decide +kernel) rfl⟩⟩
theorem fX9_290 : z_FL RX9 290 5 10 := ⟨_, rfl, by decide, rfl, Or.inr ⟨"SleepersShop", z_ns1 94 (by first | exact rfl | decide +kernel) rfl⟩⟩
theorem fX5_54 : z_FL RX5 54 5 11 := ⟨_, rfl, by decide, rfl, Or.inl (z_tb1 95 (by first | exact rfl | decide +kernel) rfl)⟩
theorem fX2_111 : z_FL RX2 111 5 11 := ⟨_, rfl, by decide, rfl, Or.inr ⟨"SleepersShop", z_ns1 96 (by first | exact rfl | decide +kernel) rfl⟩⟩
theorem fX9_295 : z_FL RX9 295 5 11 := ⟨_, rfl, by decide, rfl, Or.inr ⟨"SleepersShop", z_ns1 97 (by first | exact rfl | decide +kernel) rfl⟩⟩
theorem fX5_57 : z_FL RX5 57 5 12 := ⟨_, rfl, by decide, rfl, Or.inl (z_tb1 98 (by first | exact rfl | decide +kernel) rfl)⟩
theorem fX2_137 : z_FL RX2 137 5 12 := ⟨_, rfl, by decide, rfl, Or.inr ⟨"SleepersShop", z_ns1 99 (by first | exact rfl | decide +kernel) rfl⟩⟩
theorem lX9_26 : z_CL RX9 26 2 := ⟨_, rfl, (z_tb1 127 (by first | exact rfl | decide +kernel) rfl), (z_tb1 128 (by first | exact rfl | decide +kernel) rfl), (z_tb1 5 (by first | exact rfl | decide +kernel) rfl)⟩
theorem kX9_28 : z_MI RX9 28 mX2_init 2 := ⟨⟨Or.inl (z_tb1 129 (by first | exact rfl | decide +kernel) rfl), (z_tb1 131 (by first | exact rfl | decide +kernel) rfl), (z_tb1 5 (by first | exact rfl | decide +kernel) rfl), ⟨by decide +kernel, by decide +kernel, by decide +kernel⟩, by decide⟩, (z_tb1 130 (by first | exact rfl | decide +kernel) rfl), rfl, rfl⟩
theorem kX2_3 : Cond.methodLink RX2 3 Lib.objectInit ∈ z_tbl := (z_tb1 132 (by first | exact rfl | decide +kernel) rfl)
theorem lX2_9 : z_CL RX2 9 3 := ⟨_, rfl, (z_tb1 133 (by first | exact rfl | decide +kernel) rfl), (z_tb1 49 (by first | exact rfl | decide +kernel) rfl), (z_tb1 4 (by first | exact rfl | decide +kernel) rfl)⟩
theorem kX2_11 : z_MI RX2 11 mX3_init 1 := ⟨⟨Or.inl (z_tb1 134 (by first | exact rfl | decide +kernel) rfl), (z_tb1 52 (by first | exact rfl | decide +kernel) rfl), (z_tb1 4 (by first | exact rfl | decide +kernel) rfl), ⟨by decide +kernel, by decide +kernel, by decide +kernel⟩, by decide⟩, (z_tb1 51 (by first | exact rfl | decide +kernel) rfl), rfl, rfl⟩
theorem fX2_20 : z_FL RX2 20 2 0 := ⟨_, rfl, by decide, rfl, Or.inl (z_tb1 135 (by first | exact rfl | decide +kernel) rfl)⟩
theorem fX2_24 : z_FL RX2 24 2 1 := ⟨_, rfl, by decide, rfl, Or.inl (z_tb1 136 (by first | exact rfl | decide +kernel) rfl)⟩
theorem fX2_14 : z_FL RX2 14 2 2 := ⟨_, rfl, by decide, rfl, Or.inl (z_tb1 137 (by first | exact rfl | decide +kernel) rfl)⟩
theorem fX2_33 : z_FL RX2 33 2 3 := ⟨_, rfl, by decide, rfl, Or.inl (z_tb1 138 (by first | exact rfl | decide +kernel) rfl)⟩
theorem lX9_35 : z_CL RX9 35 1 := ⟨_, rfl, (z_tb1 148 (by first | exact rfl | decide +kernel) rfl), (z_tb1 149 (by first | exact rfl | decide +kernel) rfl), (z_tb1 6 (by first | exact rfl | decide +kernel) rfl)⟩
theorem kX9_37 : z_MI RX9 37 mX1_init 1 := ⟨⟨Or.inl (z_tb1 150 (by first | exact rfl | decide +kernel) rfl), (z_tb1 152 (by first | exact rfl | decide +kernel) rfl), (z_tb1 6 (by first | exact rfl | decide +kernel) rfl), ⟨by decide +kernel, by decide +kernel, by decide +kernel⟩, by decide⟩, (z_tb1 151 (by first | exact rfl | decide +kernel) rfl), rfl, rfl⟩
theorem kX1_3 : Cond.methodLink RX1 3 Lib.objectInit ∈ z_tbl := (z_tb1 153 (by first | exact rfl | decide +kernel) rfl)
theorem lX1_9 : z_CL RX1 9 3 := ⟨_, rfl, (z_tb1 154 (by first | exact rfl | decide +kernel) rfl), (z_tb1 49 (by first | exact rfl | decide +kernel) rfl), (z_tb1 4 (by first | exact rfl | decide +kernel) rfl)⟩
theorem kX1_11 : z_MI RX1 11 mX3_init 1 := ⟨⟨Or.inl (z_tb1 155 (by first | exact rfl | decide +kernel) rfl), (z_tb1 52 (by first | exact rfl | decide +kernel) rfl), (z_tb1 4 (by first | exact rfl | decide +kernel) rfl), ⟨by decide +kernel, by decide +kernel, by decide +kernel⟩, by decide⟩, (z_tb1 51 (by first | exact rfl | decide +kernel) rfl), rfl, rfl⟩
theorem fX1_20 : z_FL RX1 20 1 0 := ⟨_, rfl, by decide, rfl, Or.inl (z_tb1 156 (by first | exact rfl | decide +kernel) rfl)⟩
theorem fX1_14 : z_FL RX1 14 1 1 := ⟨_, rfl, by decide, rfl, Or.inl (z_tb1 157 (by first | exact rfl | decide +kernel) rfl)⟩
theorem fX9_309 : z_FL RX9 309 1 1 := ⟨_, rfl, by decide, rfl, Or.inr ⟨"SleepersShop", z_ns1 158 (by first | exact rfl | decide +kernel) rfl⟩⟩
theorem fX1_43 : z_FL RX1 43 1 2 := ⟨_, rfl, by decide, rfl, Or.inl (z_tb1 159 (by first | exact rfl | decide +kernel) rfl)⟩
theorem fX9_306 : z_FL RX9 306 1 2 := ⟨_, rfl, by decide, rfl, Or.inr ⟨"SleepersShop", z_ns1 160 (by first | exact rfl | decide +kernel) rfl⟩⟩
theorem fX1_46 : z_FL RX1 46 1 3 := ⟨_, rfl, by decide, rfl, Or.inl (z_tb1 161 (by first | exact rfl | decide +kernel) rfl)⟩
theorem fX9_182 : z_FL RX9 182 1 3 := ⟨_, rfl, by decide, rfl, Or.inr ⟨"SleepersShop", z_ns1 162 (by first | exact rfl | decide +kernel) rfl⟩⟩
theorem fX1_49 : z_FL RX1 49 1 4 := ⟨_, rfl, by decide, rfl, Or.inl (z_tb1 163 (by first | exact rfl | decide +kernel) rfl)⟩
theorem fX9_312 : z_FL RX9 312 1 4 := ⟨_, rfl, by decide, rfl, Or.inr ⟨"SleepersShop", z_ns1 164 (by first | exact rfl | decide +kernel) rfl⟩⟩
theorem fX1_52 : z_FL RX1 52 1 5 := ⟨_, rfl, by decide, rfl, Or.inl (z_tb1 165 (by first | exact rfl | decide +kernel) rfl)⟩
theorem fX9_222 : z_FL RX9 222 1 5 := ⟨_, rfl, by decide, rfl, Or.inr ⟨"SleepersShop", z_ns1 166 (by first | exact rfl | decide +kernel) rfl⟩⟩
theorem fX1_55 : z_FL RX1 55 1 6 := ⟨_, rfl, by decide, rfl, Or.inl (z_tb1 167 (by first | exact rfl | decide +kernel) rfl)⟩
theorem fX9_223 : z_FL RX9 223 1 6 := ⟨_, rfl, by decide, rfl, Or.inr ⟨"SleepersShop", z_ns1 168 (by first | exact rfl | decide +kernel) rfl⟩⟩
theorem fX1_58 : z_FL RX1 58 1 7 := ⟨_, rfl, by decide, rfl, Or.inl (z_tb1 169 (by first | exact rfl | decide +kernel) rfl)⟩
theorem fX1_61 : z_FL RX1 61 1 8 := ⟨_, rfl, by decide, rfl, Or.inl (z_tb1 170 (by first | exact rfl | decide +kernel) rfl)⟩
theorem lX9_44 : z_CL RX9 44 7 := ⟨_, rfl, (z_tb1 190 (by first | exact rfl | decide +kernel) rfl), (z_tb1 191 (by first | exact rfl | decide +kernel) rfl), (z_tb1 7 (by first | exact rfl | decide +kernel) rfl)⟩
theorem lX9_44q : Cond.classLink RX9 44 RX7 ∈ z_tbl := (z_tb1 190 (by first | exact rfl | decide +kernel) rfl)
theorem kX9_46 : z_MI RX9 46 mX7_init 0 := ⟨⟨Or.inr ⟨"SleepersShop", z_ns1 192 (by first | exact rfl | decide +kernel) rfl⟩, (z_tb1 194 (by first | exact rfl | decide +kernel) rfl), (z_tb1 7 (by first | exact rfl | decide +kernel) rfl), ⟨by decide +kernel, by decide +kernel, by decide +kernel⟩, by decide⟩, (z_tb1 193 (by first | exact rfl | decide +kernel) rfl), rfl, rfl⟩
theorem kX7_3 : Cond.methodLink RX7 3 Lib.objectInit ∈ z_tbl := (z_tb1 195 (by first | exact rfl | decide +kernel) rfl)
theorem lX7_9 : z_CL RX7 9 3 := ⟨_, rfl, (z_tb1 196 (by first | exact rfl | decide +kernel) rfl), (z_tb1 49 (by first | exact rfl | decide +kernel) rfl), (z_tb1 4 (by first | exact rfl | decide +kernel) rfl)⟩
theorem kX7_11 : z_MI RX7 11 mX3_init 1 := ⟨⟨Or.inl (z_tb1 197 (by first | exact rfl | decide +kernel) rfl), (z_tb1 52 (by first | exact rfl | decide +kernel) rfl), (z_tb1 4 (by first | exact rfl | decide +kernel) rfl), ⟨by decide +kernel, by decide +kernel, by decide +kernel⟩, by decide⟩, (z_tb1 51 (by first | exact rfl | decide +kernel) rfl), rfl, rfl⟩
theorem fX7_20 : z_FL RX7 20 7 0 := ⟨_, rfl, by decide, rfl, Or.inl (z_tb1 198 (by first | exact rfl | decide +kernel) rfl)⟩
theorem fX1_28 : z_FL RX1 28 7 0 := ⟨_, rfl, by decide, rfl, Or.inr ⟨"SleepersShop", z_ns1 199 (by first | exact rfl | decide +kernel) rfl⟩⟩
theorem fX9_161 : z_FL RX9 161 7 0 := ⟨_, rfl, by decide, rfl, Or.inr ⟨"SleepersShop", z_ns1 200 (by first | exact rfl | decide +kernel) rfl⟩⟩
theorem fX7_24 : z_FL RX7 24 7 1 := ⟨_, rfl, by decide, rfl, Or.inl (z_tb1 201 (by first | exact rfl | decide +kernel) rfl)⟩
theorem fX1_126 : z_FL RX1 126 7 1 := ⟨_, rfl, by decide, rfl, Or.inr ⟨"SleepersShop", z_ns1 202 (by first | exact rfl | decide +kernel) rfl⟩⟩
theorem fX9_213 : z_FL RX9 213 7 1 := ⟨_, rfl, by decide, rfl, Or.inr ⟨"SleepersShop", z_ns1 203 (by first | exact rfl | decide +kernel) rfl⟩⟩
theorem fX7_27 : z_FL RX7 27 7 2 := ⟨_, rfl, by decide, rfl, Or.inl (z_tb1 204 (by first | exact rfl | decide +kernel) rfl)⟩
theorem fX1_127 : z_FL RX1 127 7 2 := ⟨_, rfl, by decide, rfl, Or.inr ⟨"SleepersShop", z_ns1 205 (by first | exact rfl | decide +kernel) rfl⟩⟩
theorem fX9_216 : z_FL RX9 216 7 2 := ⟨_, rfl, by decide, rfl, Or.inr ⟨"SleepersShop", z_ns1 206 (by first | exact rfl | decide +kernel) rfl⟩⟩
theorem fX7_30 : z_FL RX7 30 7 3 := ⟨_, rfl, by decide, rfl, Or.inl (z_tb1 207 (by first | exact rfl | decide +kernel) rfl)⟩
theorem fX1_128 : z_FL RX1 128 7 3 := ⟨_, rfl, by decide, rfl, Or.inr ⟨"SleepersShop", z_ns1 208 (by first | exact rfl | decide +kernel) rfl⟩⟩
theorem fX9_219 : z_FL RX9 219 7 3 := ⟨_, rfl, by decide, rfl, Or.inr ⟨"SleepersShop", z_ns1 209 (by first | exact rfl | decide +kernel) rfl⟩⟩
theorem fX7_33 : z_FL RX7 33 7 4 := ⟨_, rfl, by decide, rfl, Or.inl (z_tb1 210 (by first | exact rfl | decide +kernel) rfl)⟩
theorem fX1_86 : z_FL RX1 86 7 4 := ⟨_, rfl, by decide, rfl, Or.inr ⟨"SleepersShop", z_ns1 211 (by first | exact rfl | decide +kernel) rfl⟩⟩
theorem fX9_173 : z_FL RX9 173 7 4 := ⟨_, rfl, by decide, rfl, Or.inr ⟨"SleepersShop", z_ns1 212 (by first | exact rfl | decide +kernel) rfl⟩⟩
theorem fX7_36 : z_FL RX7 36 7 5 := ⟨_, rfl, by decide, rfl, Or.inl (z_tb1 213 (by first | exact rfl | decide +kernel) rfl)⟩
theorem fX1_80 : z_FL RX1 80 7 5 := ⟨_, rfl, by decide, rfl, Or.inr ⟨"SleepersShop", z_ns1 214 (by first | exact rfl | decide +kernel) rfl⟩⟩
theorem fX9_143 : z_FL RX9 143 7 5 := ⟨_, rfl, by decide, rfl, Or.inr ⟨"SleepersShop", z_ns1 215 (by first | exact rfl | decide +kernel) rfl⟩⟩
theorem fX7_14 : z_FL RX7 14 7 6 := ⟨_, rfl, by decide, rfl, Or.inl (z_tb1 216 (by first | exact rfl | decide +kernel) rfl)⟩
theorem fX1_73 : z_FL RX1 73 7 6 := ⟨_, rfl, by decide, rfl, Or.inr ⟨"SleepersShop", z_ns1 217 (by first | exact rfl | decide +kernel) rfl⟩⟩
theorem fX9_140 : z_FL RX9 140 7 6 := ⟨_, rfl, by decide, rfl, Or.inr ⟨"SleepersShop", z_ns1 218 (by first | exact rfl | decide +kernel) rfl⟩⟩
theorem lX9_54 : z_CL RX9 54 4 := ⟨_, rfl, (z_tb1 234 (by first | exact rfl | decide +kernel) rfl), (z_tb1 235 (by first | exact rfl | decide +kernel) rfl), (z_tb1 8 (by first | exact rfl | decide +kernel) rfl)⟩
theorem kX9_56 : z_MI RX9 56 mX4_init 1 := ⟨⟨Or.inl (z_tb1 236 (by first | exact rfl | decide +kernel) rfl), (z_tb1 238 (by first | exact rfl | decide +kernel) rfl), (z_tb1 8 (by first | exact rfl | decide +kernel) rfl), ⟨by decide +kernel, by decide +kernel, by decide +kernel⟩, by decide⟩, (z_tb1 237 (by first | exact rfl | decide +kernel) rfl), rfl, rfl⟩
theorem kX4_1 : Cond.methodLink RX4 1 Lib.objectInit ∈ z_tbl := (z_tb1 239 (by first | exact rfl | decide +kernel) rfl)
theorem lX4_7 : z_CL RX4 7 7 := ⟨_, rfl, (z_tb2 0 (by first | exact rfl | decide +kernel) rfl), (z_tb1 191 (by first | exact rfl | decide +kernel) rfl), (z_tb1 7 (by first | exact rfl | decide +kernel) rfl)⟩
theorem lX4_7q : Cond.classLink RX4 7 RX7 ∈ z_tbl := (z_tb2 0 (by first | exact rfl | decide +kernel) rfl)
theorem kX4_15 : z_MI RX4 15 mX7_init 0 := ⟨⟨Or.inr ⟨"SleepersShop", z_ns2 2 (by first | exact rfl | decide +kernel) rfl⟩, (z_tb1 194 (by first | exact rfl | decide +kernel) rfl), (z_tb1 7 (by first | exact rfl | decide +kernel) rfl), ⟨by decide +kernel, by decide +kernel, by decide +kernel⟩, by decide⟩, (z_tb1 193 (by first | exact rfl | decide +kernel) rfl), rfl, rfl⟩
theorem fX4_9 : z_FL RX4 9 4 0 := ⟨_, rfl, by decide, rfl, Or.inl (z_tb2 3 (by first | exact rfl | decide +kernel) rfl)⟩
theorem fX4_16 : z_FL RX4 16 4 1 := ⟨_, rfl, by decide, rfl, Or.inl (z_tb2 4 (by first | exact rfl | decide +kernel) rfl)⟩
theorem fX9_204 : z_FL RX9 204 4 1 := ⟨_, rfl, by decide, rfl, Or.inr ⟨"SleepersShop", z_ns2 5 (by first | exact rfl | decide +kernel) rfl⟩⟩
theorem lX9_66 : z_CL RX9 66 6 := ⟨_, rfl, (z_tb2 11 (by first | exact rfl | decide +kernel) rfl), (z_tb2 12 (by first | exact rfl | decide +kernel) rfl), (z_tb1 9 (by first | exact rfl | decide +kernel) rfl)⟩
theorem kX9_68 : z_MI RX9 68 mX6_init 0 := ⟨⟨Or.inr ⟨"SleepersShop", z_ns2 13 (by first | exact rfl | decide +kernel) rfl⟩, (z_tb2 15 (by first | exact rfl | decide +kernel) rfl), (z_tb1 9 (by first | exact rfl | decide +kernel) rfl), ⟨by decide +kernel, by decide +kernel, by decide +kernel⟩, by decide⟩, (z_tb2 14 (by first | exact rfl | decide +kernel) rfl), rfl, rfl⟩
theorem kX6_3 : Cond.methodLink RX6 3 Lib.objectInit ∈ z_tbl := (z_tb2 16 (by first | exact rfl | decide +kernel) rfl)
theorem lX6_9 : z_CL RX6 9 3 := ⟨_, rfl, (z_tb2 17 (by first | exact rfl | decide +kernel) rfl), (z_tb1 49 (by first | exact rfl | decide +kernel) rfl), (z_tb1 4 (by first | exact rfl | decide +kernel) rfl)⟩
theorem kX6_11 : z_MI RX6 11 mX3_init 1 := ⟨⟨Or.inl (z_tb2 18 (by first | exact rfl | decide +kernel) rfl), (z_tb1 52 (by first | exact rfl | decide +kernel) rfl), (z_tb1 4 (by first | exact rfl | decide +kernel) rfl), ⟨by decide +kernel, by decide +kernel, by decide +kernel⟩, by decide⟩, (z_tb1 51 (by first | exact rfl | decide +kernel) rfl), rfl, rfl⟩
theorem fX6_14 : z_FL RX6 14 6 0 := ⟨_, rfl, by decide, rfl, Or.inl (z_tb2 19 (by first | exact rfl | decide +kernel) rfl)⟩
theorem fX6_20 : z_FL RX6 20 6 1 := ⟨_, rfl, by decide, rfl, Or.inl (z_tb2 20 (by first | exact rfl | decide +kernel) rfl)⟩
theorem fX6_23 : z_FL RX6 23 6 2 := ⟨_, rfl, by decide, rfl, Or.inl (z_tb2 21 (by first | exact rfl | decide +kernel) rfl)⟩
theorem fX6_26 : z_FL RX6 26 6 3 := ⟨_, rfl, by decide, rfl, Or.inl (z_tb2 22 (by first | exact rfl | decide +kernel) rfl)⟩
theorem fX9_256 : z_FL RX9 256 6 3 := ⟨_, rfl, by decide, rfl, Or.inr ⟨"SleepersShop", z_ns2 23 (by first | exact rfl | decide +kernel) rfl⟩⟩
theorem lX9_73 : z_CL RX9 73 0 := ⟨_, rfl, (z_tb2 33 (by first | exact rfl | decide +kernel) rfl), (z_tb2 34 (by first | exact rfl | decide +kernel) rfl), (z_tb1 10 (by first | exact rfl | decide +kernel) rfl)⟩
theorem kX9_75 : z_MI RX9 75 mX0_init 0 := ⟨⟨Or.inr ⟨"SleepersShop", z_ns2 35 (by first | exact rfl | decide +kernel) rfl⟩, (z_tb2 37 (by first | exact rfl | decide +kernel) rfl), (z_tb1 10 (by first | exact rfl | decide +kernel) rfl), ⟨by decide +kernel, by decide +kernel, by decide +kernel⟩, by decide⟩, (z_tb2 36 (by first | exact rfl | decide +kernel) rfl), rfl, rfl⟩
theorem kX0_3 : Cond.methodLink RX0 3 Lib.objectInit ∈ z_tbl := (z_tb2 38 (by first | exact rfl | decide +kernel) rfl)
theorem fX0_9 : z_FL RX0 9 0 0 := ⟨_, rfl, by decide, rfl, Or.inl (z_tb2 39 (by first | exact rfl | decide +kernel) rfl)⟩
theorem fX9_233 : z_FL RX9 233 0 0 := ⟨_, rfl, by decide, rfl, Or.inr ⟨"SleepersShop", z_ns2 40 (by first | exact rfl | decide +kernel) rfl⟩⟩
theorem fX0_15 : z_FL RX0 15 0 1 := ⟨_, rfl, by decide, rfl, Or.inl (z_tb2 41 (by first | exact rfl | decide +kernel) rfl)⟩
theorem fX9_236 : z_FL RX9 236 0 1 := ⟨_, rfl, by decide, rfl, Or.inr ⟨"SleepersShop", z_ns2 42 (by first | exact rfl | decide +kernel) rfl⟩⟩
theorem kX9_82 : z_MV RX9 82 mJ0_length_8abf5 0 := ⟨⟨Or.inl (z_tb2 49 (by first | exact rfl | decide +kernel) rfl), (z_tb2 52 (by first | exact rfl | decide +kernel) rfl), (z_tb1 11 (by first | exact rfl | decide +kernel) rfl), ⟨by decide +kernel, by decide +kernel, by decide +kernel⟩, by decide⟩, (z_tb2 50 (by first | exact rfl | decide +kernel) rfl), (z_tb2 51 (by first | exact rfl | decide +kernel) rfl)⟩
theorem kJ0_335 : z_MV RJ0 335 mJ0_coder_7d493 0 := ⟨⟨Or.inl (z_tb2 53 (by first | exact rfl | decide +kernel) rfl), (z_tb2 56 (by first | exact rfl | decide +kernel) rfl), (z_tb1 11 (by first | exact rfl | decide +kernel) rfl), ⟨by decide +kernel, by decide +kernel, by decide +kernel⟩, by decide⟩, (z_tb2 54 (by first | exact rfl | decide +kernel) rfl), (z_tb2 55 (by first | exact rfl | decide +kernel) rfl)⟩
theorem kX9_88 : z_MV RX9 88 mJ0_charAt_5068e 1 := ⟨⟨Or.inl (z_tb2 59 (by first | exact rfl | decide +kernel) rfl), (z_tb2 62 (by first | exact rfl | decide +kernel) rfl), (z_tb1 11 (by first | exact rfl | decide +kernel) rfl), ⟨by decide +kernel, by decide +kernel, by decide +kernel⟩, by decide⟩, (z_tb2 60 (by first | exact rfl | decide +kernel) rfl), (z_tb2 61 (by first | exact rfl | decide +kernel) rfl)⟩
theorem kJ0_492 : z_MV RJ0 492 mJ0_isLatin1_aae02 0 := ⟨⟨Or.inl (z_tb2 63 (by first | exact rfl | decide +kernel) rfl), (z_tb2 66 (by first | exact rfl | decide +kernel) rfl), (z_tb1 11 (by first | exact rfl | decide +kernel) rfl), ⟨by decide +kernel, by decide +kernel, by decide +kernel⟩, by decide⟩, (z_tb2 64 (by first | exact rfl | decide +kernel) rfl), (z_tb2 65 (by first | exact rfl | decide +kernel) rfl)⟩
theorem kJ0_495 : z_MS RJ0 495 mJ1_charAt_3b067 2 := ⟨⟨Or.inl (z_tb2 67 (by first | exact rfl | decide +kernel) rfl), (z_tb2 69 (by first | exact rfl | decide +kernel) rfl), (z_tb1 12 (by first | exact rfl | decide +kernel) rfl), ⟨by decide +kernel, by decide +kernel, by decide +kernel⟩, by decide⟩, (z_tb2 68 (by first | exact rfl | decide +kernel) rfl)⟩
theorem kJ1_9 : z_MS RJ1 9 mJ0_checkIndex_df160 2 := ⟨⟨Or.inl (z_tb2 70 (by first | exact rfl | decide +kernel) rfl), (z_tb2 72 (by first | exact rfl | decide +kernel) rfl), (z_tb1 11 (by first | exact rfl | decide +kernel) rfl), ⟨by decide +kernel, by decide +kernel, by decide +kernel⟩, by decide⟩, (z_tb2 71 (by first | exact rfl | decide +kernel) rfl)⟩
theorem kJ0_1059 : z_MS RJ0 1059 mJ3_checkIndex_8e157 3 := ⟨⟨Or.inl (z_tb2 75 (by first | exact rfl | decide +kernel) rfl), (z_tb2 77 (by first | exact rfl | decide +kernel) rfl), (z_tb1 13 (by first | exact rfl | decide +kernel) rfl), ⟨by decide +kernel, by decide +kernel, by decide +kernel⟩, by decide⟩, (z_tb2 76 (by first | exact rfl | decide +kernel) rfl)⟩
theorem kJ0_498 : z_MS RJ0 498 mJ2_charAt_3b067 2 := ⟨⟨Or.inl (z_tb2 78 (by first | exact rfl | decide +kernel) rfl), (z_tb2 80 (by first | exact rfl | decide +kernel) rfl), (z_tb1 14 (by first | exact rfl | decide +kernel) rfl), ⟨by decide +kernel, by decide +kernel, by decide +kernel⟩, by decide⟩, (z_tb2 79 (by first | exact rfl | decide +kernel) rfl)⟩
theorem kJ2_67 : z_MS RJ2 67 mJ2_checkIndex_2214a 2 := ⟨⟨Or.inl (z_tb2 81 (by first | exact rfl | decide +kernel) rfl), (z_tb2 83 (by first | exact rfl | decide +kernel) rfl), (z_tb1 14 (by first | exact rfl | decide +kernel) rfl), ⟨by decide +kernel, by decide +kernel, by decide +kernel⟩, by decide⟩, (z_tb2 82 (by first | exact rfl | decide +kernel) rfl)⟩
theorem kJ2_48 : z_MS RJ2 48 mJ2_length_9d52b 1 := ⟨⟨Or.inl (z_tb2 84 (by first | exact rfl | decide +kernel) rfl), (z_tb2 86 (by first | exact rfl | decide +kernel) rfl), (z_tb1 14 (by first | exact rfl | decide +kernel) rfl), ⟨by decide +kernel, by decide +kernel, by decide +kernel⟩, by decide⟩, (z_tb2 85 (by first | exact rfl | decide +kernel) rfl)⟩
theorem kJ2_414 : z_MS RJ2 414 mJ0_checkIndex_df160 2 := ⟨⟨Or.inl (z_tb2 87 (by first | exact rfl | decide +kernel) rfl), (z_tb2 72 (by first | exact rfl | decide +kernel) rfl), (z_tb1 11 (by first | exact rfl | decide +kernel) rfl), ⟨by decide +kernel, by decide +kernel, by decide +kernel⟩, by decide⟩, (z_tb2 71 (by first | exact rfl | decide +kernel) rfl)⟩
theorem kJ2_71 : z_MS RJ2 71 mJ2_getChar_3b067 2 := ⟨⟨Or.inl (z_tb2 88 (by first | exact rfl | decide +kernel) rfl), (z_tb2 90 (by first | exact rfl | decide +kernel) rfl), (z_tb1 14 (by first | exact rfl | decide +kernel) rfl), ⟨by decide +kernel, by decide +kernel, by decide +kernel⟩, by decide⟩, (z_tb2 89 (by first | exact rfl | decide +kernel) rfl)⟩
theorem kX9_92 : z_MV RX9 92 mX8_add 1 := ⟨⟨Or.inl (z_tb2 97 (by first | exact rfl | decide +kernel) rfl), (z_tb2 100 (by first | exact rfl | decide +kernel) rfl), (z_tb1 2 (by first | exact rfl | decide +kernel) rfl), ⟨by decide +kernel, by decide +kernel, by decide +kernel⟩, by decide⟩, (z_tb2 98 (by first | exact rfl | decide +kernel) rfl), (z_tb2 99 (by first | exact rfl | decide +kernel) rfl)⟩
theorem kX9_95 : z_MV RX9 95 mX2_read 0 := ⟨⟨Or.inl (z_tb2 101 (by first | exact rfl | decide +kernel) rfl), (z_tb2 104 (by first | exact rfl | decide +kernel) rfl), (z_tb1 5 (by first | exact rfl | decide +kernel) rfl), ⟨by decide +kernel, by decide +kernel, by decide +kernel⟩, by decide⟩, (z_tb2 102 (by first | exact rfl | decide +kernel) rfl), (z_tb2 103 (by first | exact rfl | decide +kernel) rfl)⟩
theorem kX2_28 : z_MV RX2 28 mX5_clear 0 := ⟨⟨Or.inl (z_tb2 105 (by first | exact rfl | decide +kernel) rfl), (z_tb2 108 (by first | exact rfl | decide +kernel) rfl), (z_tb1 3 (by first | exact rfl | decide +kernel) rfl), ⟨by decide +kernel, by decide +kernel, by decide +kernel⟩, by decide⟩, (z_tb2 106 (by first | exact rfl | decide +kernel) rfl), (z_tb2 107 (by first | exact rfl | decide +kernel) rfl)⟩
theorem kX5_44 : z_MV RX5 44 mX3_fill 1 := ⟨⟨Or.inl (z_tb2 109 (by first | exact rfl | decide +kernel) rfl), (z_tb2 112 (by first | exact rfl | decide +kernel) rfl), (z_tb1 4 (by first | exact rfl | decide +kernel) rfl), ⟨by decide +kernel, by decide +kernel, by decide +kernel⟩, by decide⟩, (z_tb2 110 (by first | exact rfl | decide +kernel) rfl), (z_tb2 111 (by first | exact rfl | decide +kernel) rfl)⟩
theorem kX2_42 : z_MV RX2 42 mX2_readItem 0 := ⟨⟨Or.inl (z_tb2 113 (by first | exact rfl | decide +kernel) rfl), (z_tb2 116 (by first | exact rfl | decide +kernel) rfl), (z_tb1 5 (by first | exact rfl | decide +kernel) rfl), ⟨by decide +kernel, by decide +kernel, by decide +kernel⟩, by decide⟩, (z_tb2 115 (by first | exact rfl | decide +kernel) rfl), (z_tblI 0 (by decide +kernel) rfl)⟩
theorem kX2_46 : z_MV RX2 46 mX8_letter 1 := ⟨⟨Or.inl (z_tb2 117 (by first | exact rfl | decide +kernel) rfl), (z_tb2 120 (by first | exact rfl | decide +kernel) rfl), (z_tb1 2 (by first | exact rfl | decide +kernel) rfl), ⟨by decide +kernel, by decide +kernel, by decide +kernel⟩, by decide⟩, (z_tb2 118 (by first | exact rfl | decide +kernel) rfl), (z_tb2 119 (by first | exact rfl | decide +kernel) rfl)⟩
theorem kX2_50 : z_MV RX2 50 mX2_readNumbers 1 := ⟨⟨Or.inl (z_tb2 121 (by first | exact rfl | decide +kernel) rfl), (z_tb2 124 (by first | exact rfl | decide +kernel) rfl), (z_tb1 5 (by first | exact rfl | decide +kernel) rfl), ⟨by decide +kernel, by decide +kernel, by decide +kernel⟩, by decide⟩, (z_tb2 123 (by first | exact rfl | decide +kernel) rfl), (z_tblI 1 (by decide +kernel) rfl)⟩
theorem kX2_66 : z_MV RX2 66 mX2_readNumber 0 := ⟨⟨Or.inl (z_tb2 125 (by first | exact rfl | decide +kernel) rfl), (z_tb2 128 (by first | exact rfl | decide +kernel) rfl), (z_tb1 5 (by first | exact rfl | decide +kernel) rfl), ⟨by decide +kernel, by decide +kernel, by decide +kernel⟩, by decide⟩, (z_tb2 127 (by first | exact rfl | decide +kernel) rfl), (z_tblI 2 (by decide +kernel) rfl)⟩
theorem kX2_74 : z_MV RX2 74 mX2_figure 0 := ⟨⟨Or.inl (z_tb2 129 (by first | exact rfl | decide +kernel) rfl), (z_tb2 132 (by first | exact rfl | decide +kernel) rfl), (z_tb1 5 (by first | exact rfl | decide +kernel) rfl), ⟨by decide +kernel, by decide +kernel, by decide +kernel⟩, by decide⟩, (z_tb2 131 (by first | exact rfl | decide +kernel) rfl), (z_tblI 3 (by decide +kernel) rfl)⟩
theorem kX2_77 : z_MS RX2 77 mX9_isWithin 3 := ⟨⟨Or.inr ⟨"SleepersShop", z_ns2 133 (by first | exact rfl | decide +kernel) rfl⟩, (z_tb2 135 (by first | exact rfl | decide +kernel) rfl), (z_tb1 1 (by first | exact rfl | decide +kernel) rfl), ⟨by decide +kernel, by decide +kernel, by decide +kernel⟩, by decide⟩, (z_tb2 134 (by first | exact rfl | decide +kernel) rfl)⟩
theorem kX2_70 : z_MV RX2 70 mX3_put 2 := ⟨⟨Or.inl (z_tb2 136 (by first | exact rfl | decide +kernel) rfl), (z_tb2 139 (by first | exact rfl | decide +kernel) rfl), (z_tb1 4 (by first | exact rfl | decide +kernel) rfl), ⟨by decide +kernel, by decide +kernel, by decide +kernel⟩, by decide⟩, (z_tb2 137 (by first | exact rfl | decide +kernel) rfl), (z_tb2 138 (by first | exact rfl | decide +kernel) rfl)⟩
theorem kX2_54 : z_MV RX2 54 mX2_takeStaff 0 := ⟨⟨Or.inl (z_tb2 140 (by first | exact rfl | decide +kernel) rfl), (z_tb2 143 (by first | exact rfl | decide +kernel) rfl), (z_tb1 5 (by first | exact rfl | decide +kernel) rfl), ⟨by decide +kernel, by decide +kernel, by decide +kernel⟩, by decide⟩, (z_tb2 142 (by first | exact rfl | decide +kernel) rfl), (z_tblI 4 (by decide +kernel) rfl)⟩
theorem kX2_84 : z_MV RX2 84 mX3_at 1 := ⟨⟨Or.inl (z_tb2 144 (by first | exact rfl | decide +kernel) rfl), (z_tb2 147 (by first | exact rfl | decide +kernel) rfl), (z_tb1 4 (by first | exact rfl | decide +kernel) rfl), ⟨by decide +kernel, by decide +kernel, by decide +kernel⟩, by decide⟩, (z_tb2 145 (by first | exact rfl | decide +kernel) rfl), (z_tb2 146 (by first | exact rfl | decide +kernel) rfl)⟩
theorem kX2_99 : z_MV RX2 99 mX5_addServer 2 := ⟨⟨Or.inl (z_tb2 148 (by first | exact rfl | decide +kernel) rfl), (z_tb2 151 (by first | exact rfl | decide +kernel) rfl), (z_tb1 3 (by first | exact rfl | decide +kernel) rfl), ⟨by decide +kernel, by decide +kernel, by decide +kernel⟩, by decide⟩, (z_tb2 149 (by first | exact rfl | decide +kernel) rfl), (z_tb2 150 (by first | exact rfl | decide +kernel) rfl)⟩
theorem kX5_68 : z_MV RX5 68 mX3_at 1 := ⟨⟨Or.inl (z_tb2 152 (by first | exact rfl | decide +kernel) rfl), (z_tb2 147 (by first | exact rfl | decide +kernel) rfl), (z_tb1 4 (by first | exact rfl | decide +kernel) rfl), ⟨by decide +kernel, by decide +kernel, by decide +kernel⟩, by decide⟩, (z_tb2 145 (by first | exact rfl | decide +kernel) rfl), (z_tb2 146 (by first | exact rfl | decide +kernel) rfl)⟩
theorem kX5_72 : z_MV RX5 72 mX3_put 2 := ⟨⟨Or.inl (z_tb2 153 (by first | exact rfl | decide +kernel) rfl), (z_tb2 139 (by first | exact rfl | decide +kernel) rfl), (z_tb1 4 (by first | exact rfl | decide +kernel) rfl), ⟨by decide +kernel, by decide +kernel, by decide +kernel⟩, by decide⟩, (z_tb2 137 (by first | exact rfl | decide +kernel) rfl), (z_tb2 138 (by first | exact rfl | decide +kernel) rfl)⟩
theorem kX2_102 : z_MS RX2 102 mX9_mod 2 := ⟨⟨Or.inr ⟨"SleepersShop", z_ns2 154 (by first | exact rfl | decide +kernel) rfl⟩, (z_tb2 156 (by first | exact rfl | decide +kernel) rfl), (z_tb1 1 (by first | exact rfl | decide +kernel) rfl), ⟨by decide +kernel, by decide +kernel, by decide +kernel⟩, by decide⟩, (z_tb2 155 (by first | exact rfl | decide +kernel) rfl)⟩
theorem kX2_57 : z_MV RX2 57 mX2_takeQuarrel 0 := ⟨⟨Or.inl (z_tb2 157 (by first | exact rfl | decide +kernel) rfl), (z_tb2 160 (by first | exact rfl | decide +kernel) rfl), (z_tb1 5 (by first | exact rfl | decide +kernel) rfl), ⟨by decide +kernel, by decide +kernel, by decide +kernel⟩, by decide⟩, (z_tb2 159 (by first | exact rfl | decide +kernel) rfl), (z_tblI 5 (by decide +kernel) rfl)⟩
theorem kX2_106 : Cond.methodLink RX2 106 Lib.Math.max.name ∈ z_tbl := (z_tb2 161 (by first | exact rfl | decide +kernel) rfl)
theorem kX2_114 : z_MS RX2 114 mX9_pair 2 := ⟨⟨Or.inr ⟨"SleepersShop", z_ns2 164 (by first | exact rfl | decide +kernel) rfl⟩, (z_tb2 166 (by first | exact rfl | decide +kernel) rfl), (z_tb1 1 (by first | exact rfl | decide +kernel) rfl), ⟨by decide +kernel, by decide +kernel, by decide +kernel⟩, by decide⟩, (z_tb2 165 (by first | exact rfl | decide +kernel) rfl)⟩
theorem kX2_117 : z_MS RX2 117 mJ6_bitCount_0f7a4 1 := ⟨⟨Or.inl (z_tb2 167 (by first | exact rfl | decide +kernel) rfl), (z_tb2 169 (by first | exact rfl | decide +kernel) rfl), (z_tb1 16 (by first | exact rfl | decide +kernel) rfl), ⟨by decide +kernel, by decide +kernel, by decide +kernel⟩, by decide⟩, (z_tb2 168 (by first | exact rfl | decide +kernel) rfl)⟩
theorem vJ6_265 : Cond.constant RJ6 265 (1431655765) ∈ z_tbl := (z_tb2 170 (by first | exact rfl | decide +kernel) rfl)
theorem vJ6_266 : Cond.constant RJ6 266 (858993459) ∈ z_tbl := (z_tb2 171 (by first | exact rfl | decide +kernel) rfl)
theorem vJ6_267 : Cond.constant RJ6 267 (252645135) ∈ z_tbl := (z_tb2 172 (by first | exact rfl | decide +kernel) rfl)
theorem kX2_60 : z_MV RX2 60 mX2_takeCustomer 0 := ⟨⟨Or.inl (z_tb2 173 (by first | exact rfl | decide +kernel) rfl), (z_tb2 176 (by first | exact rfl | decide +kernel) rfl), (z_tb1 5 (by first | exact rfl | decide +kernel) rfl), ⟨by decide +kernel, by decide +kernel, by decide +kernel⟩, by decide⟩, (z_tb2 175 (by first | exact rfl | decide +kernel) rfl), (z_tblI 6 (by decide +kernel) rfl)⟩
theorem kX2_63 : z_MV RX2 63 mX2_takeDog 0 := ⟨⟨Or.inl (z_tb2 177 (by first | exact rfl | decide +kernel) rfl), (z_tb2 180 (by first | exact rfl | decide +kernel) rfl), (z_tb1 5 (by first | exact rfl | decide +kernel) rfl), ⟨by decide +kernel, by decide +kernel, by decide +kernel⟩, by decide⟩, (z_tb2 179 (by first | exact rfl | decide +kernel) rfl), (z_tblI 7 (by decide +kernel) rfl)⟩
theorem kX9_98 : z_MV RX9 98 mX9_openDraft 0 := ⟨⟨Or.inl (z_tb2 181 (by first | exact rfl | decide +kernel) rfl), (z_tb2 184 (by first | exact rfl | decide +kernel) rfl), (z_tb1 1 (by first | exact rfl | decide +kernel) rfl), ⟨by decide +kernel, by decide +kernel, by decide +kernel⟩, by decide⟩, (z_tb2 183 (by first | exact rfl | decide +kernel) rfl), (z_tblI 8 (by decide +kernel) rfl)⟩
theorem kX9_293 : z_MV RX9 293 mX5_copy 1 := ⟨⟨Or.inl (z_tb2 185 (by first | exact rfl | decide +kernel) rfl), (z_tb2 188 (by first | exact rfl | decide +kernel) rfl), (z_tb1 3 (by first | exact rfl | decide +kernel) rfl), ⟨by decide +kernel, by decide +kernel, by decide +kernel⟩, by decide⟩, (z_tb2 186 (by first | exact rfl | decide +kernel) rfl), (z_tb2 187 (by first | exact rfl | decide +kernel) rfl)⟩
theorem kX5_60 : z_MV RX5 60 mX3_copy 1 := ⟨⟨Or.inl (z_tb2 189 (by first | exact rfl | decide +kernel) rfl), (z_tb2 192 (by first | exact rfl | decide +kernel) rfl), (z_tb1 4 (by first | exact rfl | decide +kernel) rfl), ⟨by decide +kernel, by decide +kernel, by decide +kernel⟩, by decide⟩, (z_tb2 190 (by first | exact rfl | decide +kernel) rfl), (z_tb2 191 (by first | exact rfl | decide +kernel) rfl)⟩
theorem kX3_13 : z_MV RX3 13 mX3_at 1 := ⟨⟨Or.inl (z_tb2 193 (by first | exact rfl | decide +kernel) rfl), (z_tb2 147 (by first | exact rfl | decide +kernel) rfl), (z_tb1 4 (by first | exact rfl | decide +kernel) rfl), ⟨by decide +kernel, by decide +kernel, by decide +kernel⟩, by decide⟩, (z_tb2 145 (by first | exact rfl | decide +kernel) rfl), (z_tb2 146 (by first | exact rfl | decide +kernel) rfl)⟩
theorem kX9_296 : z_MV RX9 296 mX7_begin 1 := ⟨⟨Or.inl (z_tb2 194 (by first | exact rfl | decide +kernel) rfl), (z_tb2 197 (by first | exact rfl | decide +kernel) rfl), (z_tb1 7 (by first | exact rfl | decide +kernel) rfl), ⟨by decide +kernel, by decide +kernel, by decide +kernel⟩, by decide⟩, (z_tb2 195 (by first | exact rfl | decide +kernel) rfl), (z_tb2 196 (by first | exact rfl | decide +kernel) rfl)⟩
theorem kX7_39 : z_MV RX7 39 mX3_fill 1 := ⟨⟨Or.inl (z_tb2 198 (by first | exact rfl | decide +kernel) rfl), (z_tb2 112 (by first | exact rfl | decide +kernel) rfl), (z_tb1 4 (by first | exact rfl | decide +kernel) rfl), ⟨by decide +kernel, by decide +kernel, by decide +kernel⟩, by decide⟩, (z_tb2 110 (by first | exact rfl | decide +kernel) rfl), (z_tb2 111 (by first | exact rfl | decide +kernel) rfl)⟩
theorem kX9_289 : z_MV RX9 289 mX4_clear 0 := ⟨⟨Or.inl (z_tb2 199 (by first | exact rfl | decide +kernel) rfl), (z_tb2 202 (by first | exact rfl | decide +kernel) rfl), (z_tb1 8 (by first | exact rfl | decide +kernel) rfl), ⟨by decide +kernel, by decide +kernel, by decide +kernel⟩, by decide⟩, (z_tb2 200 (by first | exact rfl | decide +kernel) rfl), (z_tb2 201 (by first | exact rfl | decide +kernel) rfl)⟩
theorem kX9_260 : z_MV RX9 260 mX6_clear 0 := ⟨⟨Or.inl (z_tb2 203 (by first | exact rfl | decide +kernel) rfl), (z_tb2 206 (by first | exact rfl | decide +kernel) rfl), (z_tb1 9 (by first | exact rfl | decide +kernel) rfl), ⟨by decide +kernel, by decide +kernel, by decide +kernel⟩, by decide⟩, (z_tb2 204 (by first | exact rfl | decide +kernel) rfl), (z_tb2 205 (by first | exact rfl | decide +kernel) rfl)⟩
theorem kX9_101 : z_MV RX9 101 mX8_clear 0 := ⟨⟨Or.inl (z_tb2 207 (by first | exact rfl | decide +kernel) rfl), (z_tb2 210 (by first | exact rfl | decide +kernel) rfl), (z_tb1 2 (by first | exact rfl | decide +kernel) rfl), ⟨by decide +kernel, by decide +kernel, by decide +kernel⟩, by decide⟩, (z_tb2 208 (by first | exact rfl | decide +kernel) rfl), (z_tb2 209 (by first | exact rfl | decide +kernel) rfl)⟩
theorem fX9_12 : z_FL RX9 12 9 0 := ⟨_, rfl, by decide, rfl, Or.inl (z_tb2 211 (by first | exact rfl | decide +kernel) rfl)⟩
theorem fX9_19 : z_FL RX9 19 9 1 := ⟨_, rfl, by decide, rfl, Or.inl (z_tb2 212 (by first | exact rfl | decide +kernel) rfl)⟩
theorem fX9_23 : z_FL RX9 23 9 2 := ⟨_, rfl, by decide, rfl, Or.inl (z_tb2 213 (by first | exact rfl | decide +kernel) rfl)⟩
theorem fX9_31 : z_FL RX9 31 9 3 := ⟨_, rfl, by decide, rfl, Or.inl (z_tb2 214 (by first | exact rfl | decide +kernel) rfl)⟩
theorem fX9_40 : z_FL RX9 40 9 4 := ⟨_, rfl, by decide, rfl, Or.inl (z_tb2 215 (by first | exact rfl | decide +kernel) rfl)⟩
theorem fX9_47 : z_FL RX9 47 9 5 := ⟨_, rfl, by decide, rfl, Or.inl (z_tb2 216 (by first | exact rfl | decide +kernel) rfl)⟩
theorem fX9_51 : z_FL RX9 51 9 6 := ⟨_, rfl, by decide, rfl, Or.inl (z_tb2 217 (by first | exact rfl | decide +kernel) rfl)⟩
theorem fX9_59 : z_FL RX9 59 9 7 := ⟨_, rfl, by decide, rfl, Or.inl (z_tb2 218 (by first | exact rfl | decide +kernel) rfl)⟩
theorem fX9_63 : z_FL RX9 63 9 8 := ⟨_, rfl, by decide, rfl, Or.inl (z_tb2 219 (by first | exact rfl | decide +kernel) rfl)⟩
theorem fX9_69 : z_FL RX9 69 9 9 := ⟨_, rfl, by decide, rfl, Or.inl (z_tb2 220 (by first | exact rfl | decide +kernel) rfl)⟩
theorem fX9_76 : z_FL RX9 76 9 10 := ⟨_, rfl, by decide, rfl, Or.inl (z_tb2 221 (by first | exact rfl | decide +kernel) rfl)⟩
theorem kL_13 : z_MV RL 13 mX9_write 1 := ⟨⟨Or.inl (z_tb3 6 (by first | exact rfl | decide +kernel) rfl), (z_tb3 9 (by first | exact rfl | decide +kernel) rfl), (z_tb1 1 (by first | exact rfl | decide +kernel) rfl), ⟨by decide +kernel, by decide +kernel, by decide +kernel⟩, by decide⟩, (z_tb3 7 (by first | exact rfl | decide +kernel) rfl), (z_tb3 8 (by first | exact rfl | decide +kernel) rfl)⟩
theorem kL_18 : z_MV RL 18 mX9_wipe 0 := ⟨⟨Or.inl (z_tb3 10 (by first | exact rfl | decide +kernel) rfl), (z_tb3 13 (by first | exact rfl | decide +kernel) rfl), (z_tb1 1 (by first | exact rfl | decide +kernel) rfl), ⟨by decide +kernel, by decide +kernel, by decide +kernel⟩, by decide⟩, (z_tb3 11 (by first | exact rfl | decide +kernel) rfl), (z_tb3 12 (by first | exact rfl | decide +kernel) rfl)⟩
theorem kL_23 : z_MV RL 23 mX9_fault 0 := ⟨⟨Or.inl (z_tb3 14 (by first | exact rfl | decide +kernel) rfl), (z_tb3 17 (by first | exact rfl | decide +kernel) rfl), (z_tb1 1 (by first | exact rfl | decide +kernel) rfl), ⟨by decide +kernel, by decide +kernel, by decide +kernel⟩, by decide⟩, (z_tb3 15 (by first | exact rfl | decide +kernel) rfl), (z_tb3 16 (by first | exact rfl | decide +kernel) rfl)⟩
theorem kL_27 : z_MV RL 27 mX9_lay 0 := ⟨⟨Or.inl (z_tb3 18 (by first | exact rfl | decide +kernel) rfl), (z_tb3 21 (by first | exact rfl | decide +kernel) rfl), (z_tb1 1 (by first | exact rfl | decide +kernel) rfl), ⟨by decide +kernel, by decide +kernel, by decide +kernel⟩, by decide⟩, (z_tb3 19 (by first | exact rfl | decide +kernel) rfl), (z_tb3 20 (by first | exact rfl | decide +kernel) rfl)⟩
theorem kL_31 : z_MV RL 31 mX9_staff 2 := ⟨⟨Or.inl (z_tb3 22 (by first | exact rfl | decide +kernel) rfl), (z_tb3 25 (by first | exact rfl | decide +kernel) rfl), (z_tb1 1 (by first | exact rfl | decide +kernel) rfl), ⟨by decide +kernel, by decide +kernel, by decide +kernel⟩, by decide⟩, (z_tb3 23 (by first | exact rfl | decide +kernel) rfl), (z_tb3 24 (by first | exact rfl | decide +kernel) rfl)⟩
theorem kX9_110 : z_MV RX9 110 mX9_isStaff 1 := ⟨⟨Or.inl (z_tb3 26 (by first | exact rfl | decide +kernel) rfl), (z_tb3 29 (by first | exact rfl | decide +kernel) rfl), (z_tb1 1 (by first | exact rfl | decide +kernel) rfl), ⟨by decide +kernel, by decide +kernel, by decide +kernel⟩, by decide⟩, (z_tb3 28 (by first | exact rfl | decide +kernel) rfl), (z_tblI 9 (by decide +kernel) rfl)⟩
theorem kX9_118 : z_MV RX9 118 mX3_at 1 := ⟨⟨Or.inl (z_tb3 30 (by first | exact rfl | decide +kernel) rfl), (z_tb2 147 (by first | exact rfl | decide +kernel) rfl), (z_tb1 4 (by first | exact rfl | decide +kernel) rfl), ⟨by decide +kernel, by decide +kernel, by decide +kernel⟩, by decide⟩, (z_tb2 145 (by first | exact rfl | decide +kernel) rfl), (z_tb2 146 (by first | exact rfl | decide +kernel) rfl)⟩
theorem kX9_133 : z_MV RX9 133 mX9_walkersTonight 0 := ⟨⟨Or.inl (z_tb3 31 (by first | exact rfl | decide +kernel) rfl), (z_tb3 34 (by first | exact rfl | decide +kernel) rfl), (z_tb1 1 (by first | exact rfl | decide +kernel) rfl), ⟨by decide +kernel, by decide +kernel, by decide +kernel⟩, by decide⟩, (z_tb3 33 (by first | exact rfl | decide +kernel) rfl), (z_tblI 10 (by decide +kernel) rfl)⟩
theorem kX9_242 : z_MV RX9 242 mX5_hasDog 1 := ⟨⟨Or.inl (z_tb3 35 (by first | exact rfl | decide +kernel) rfl), (z_tb3 38 (by first | exact rfl | decide +kernel) rfl), (z_tb1 3 (by first | exact rfl | decide +kernel) rfl), ⟨by decide +kernel, by decide +kernel, by decide +kernel⟩, by decide⟩, (z_tb3 36 (by first | exact rfl | decide +kernel) rfl), (z_tb3 37 (by first | exact rfl | decide +kernel) rfl)⟩
theorem kX5_64 : z_MS RX5 64 mX9_mod 2 := ⟨⟨Or.inr ⟨"SleepersShop", z_ns3 39 (by first | exact rfl | decide +kernel) rfl⟩, (z_tb2 156 (by first | exact rfl | decide +kernel) rfl), (z_tb1 1 (by first | exact rfl | decide +kernel) rfl), ⟨by decide +kernel, by decide +kernel, by decide +kernel⟩, by decide⟩, (z_tb2 155 (by first | exact rfl | decide +kernel) rfl)⟩
theorem kX9_302 : z_MV RX9 302 mX1_open 2 := ⟨⟨Or.inl (z_tb3 40 (by first | exact rfl | decide +kernel) rfl), (z_tb3 43 (by first | exact rfl | decide +kernel) rfl), (z_tb1 6 (by first | exact rfl | decide +kernel) rfl), ⟨by decide +kernel, by decide +kernel, by decide +kernel⟩, by decide⟩, (z_tb3 41 (by first | exact rfl | decide +kernel) rfl), (z_tb3 42 (by first | exact rfl | decide +kernel) rfl)⟩
theorem kX1_64 : z_MV RX1 64 mX3_fill 1 := ⟨⟨Or.inl (z_tb3 44 (by first | exact rfl | decide +kernel) rfl), (z_tb2 112 (by first | exact rfl | decide +kernel) rfl), (z_tb1 4 (by first | exact rfl | decide +kernel) rfl), ⟨by decide +kernel, by decide +kernel, by decide +kernel⟩, by decide⟩, (z_tb2 110 (by first | exact rfl | decide +kernel) rfl), (z_tb2 111 (by first | exact rfl | decide +kernel) rfl)⟩
theorem kX1_70 : z_MV RX1 70 mX5_isDue 2 := ⟨⟨Or.inl (z_tb3 45 (by first | exact rfl | decide +kernel) rfl), (z_tb3 48 (by first | exact rfl | decide +kernel) rfl), (z_tb1 3 (by first | exact rfl | decide +kernel) rfl), ⟨by decide +kernel, by decide +kernel, by decide +kernel⟩, by decide⟩, (z_tb3 46 (by first | exact rfl | decide +kernel) rfl), (z_tb3 47 (by first | exact rfl | decide +kernel) rfl)⟩
theorem kX1_76 : z_MV RX1 76 mX3_at 1 := ⟨⟨Or.inl (z_tb3 49 (by first | exact rfl | decide +kernel) rfl), (z_tb2 147 (by first | exact rfl | decide +kernel) rfl), (z_tb1 4 (by first | exact rfl | decide +kernel) rfl), ⟨by decide +kernel, by decide +kernel, by decide +kernel⟩, by decide⟩, (z_tb2 145 (by first | exact rfl | decide +kernel) rfl), (z_tb2 146 (by first | exact rfl | decide +kernel) rfl)⟩
theorem kX1_83 : z_MS RX1 83 mX9_has 2 := ⟨⟨Or.inr ⟨"SleepersShop", z_ns3 50 (by first | exact rfl | decide +kernel) rfl⟩, (z_tb3 52 (by first | exact rfl | decide +kernel) rfl), (z_tb1 1 (by first | exact rfl | decide +kernel) rfl), ⟨by decide +kernel, by decide +kernel, by decide +kernel⟩, by decide⟩, (z_tb3 51 (by first | exact rfl | decide +kernel) rfl)⟩
theorem kX1_89 : z_MV RX1 89 mX1_isBarred 2 := ⟨⟨Or.inl (z_tb3 53 (by first | exact rfl | decide +kernel) rfl), (z_tb3 56 (by first | exact rfl | decide +kernel) rfl), (z_tb1 6 (by first | exact rfl | decide +kernel) rfl), ⟨by decide +kernel, by decide +kernel, by decide +kernel⟩, by decide⟩, (z_tb3 55 (by first | exact rfl | decide +kernel) rfl), (z_tblI 11 (by decide +kernel) rfl)⟩
theorem kX1_92 : z_MS RX1 92 mX9_pair 2 := ⟨⟨Or.inr ⟨"SleepersShop", z_ns3 57 (by first | exact rfl | decide +kernel) rfl⟩, (z_tb2 166 (by first | exact rfl | decide +kernel) rfl), (z_tb1 1 (by first | exact rfl | decide +kernel) rfl), ⟨by decide +kernel, by decide +kernel, by decide +kernel⟩, by decide⟩, (z_tb2 165 (by first | exact rfl | decide +kernel) rfl)⟩
theorem kX9_136 : z_MS RX9 136 mX9_bit 2 := ⟨⟨Or.inl (z_tb3 58 (by first | exact rfl | decide +kernel) rfl), (z_tb3 60 (by first | exact rfl | decide +kernel) rfl), (z_tb1 1 (by first | exact rfl | decide +kernel) rfl), ⟨by decide +kernel, by decide +kernel, by decide +kernel⟩, by decide⟩, (z_tb3 59 (by first | exact rfl | decide +kernel) rfl)⟩
theorem kL_36 : z_MV RL 36 mX9_customer 2 := ⟨⟨Or.inl (z_tb3 61 (by first | exact rfl | decide +kernel) rfl), (z_tb3 64 (by first | exact rfl | decide +kernel) rfl), (z_tb1 1 (by first | exact rfl | decide +kernel) rfl), ⟨by decide +kernel, by decide +kernel, by decide +kernel⟩, by decide⟩, (z_tb3 62 (by first | exact rfl | decide +kernel) rfl), (z_tb3 63 (by first | exact rfl | decide +kernel) rfl)⟩
theorem kX9_146 : z_MV RX9 146 mX9_isCustomer 1 := ⟨⟨Or.inl (z_tb3 65 (by first | exact rfl | decide +kernel) rfl), (z_tb3 68 (by first | exact rfl | decide +kernel) rfl), (z_tb1 1 (by first | exact rfl | decide +kernel) rfl), ⟨by decide +kernel, by decide +kernel, by decide +kernel⟩, by decide⟩, (z_tb3 67 (by first | exact rfl | decide +kernel) rfl), (z_tblI 12 (by decide +kernel) rfl)⟩
theorem kX9_163 : z_MV RX9 163 mX5_comes 2 := ⟨⟨Or.inl (z_tb3 69 (by first | exact rfl | decide +kernel) rfl), (z_tb3 72 (by first | exact rfl | decide +kernel) rfl), (z_tb1 3 (by first | exact rfl | decide +kernel) rfl), ⟨by decide +kernel, by decide +kernel, by decide +kernel⟩, by decide⟩, (z_tb3 70 (by first | exact rfl | decide +kernel) rfl), (z_tb3 71 (by first | exact rfl | decide +kernel) rfl)⟩
theorem kX9_167 : z_MV RX9 167 mX9_serverTonight 1 := ⟨⟨Or.inl (z_tb3 73 (by first | exact rfl | decide +kernel) rfl), (z_tb3 76 (by first | exact rfl | decide +kernel) rfl), (z_tb1 1 (by first | exact rfl | decide +kernel) rfl), ⟨by decide +kernel, by decide +kernel, by decide +kernel⟩, by decide⟩, (z_tb3 75 (by first | exact rfl | decide +kernel) rfl), (z_tblI 13 (by decide +kernel) rfl)⟩
theorem kX9_179 : z_MV RX9 179 mX9_playTonight 0 := ⟨⟨Or.inl (z_tb3 77 (by first | exact rfl | decide +kernel) rfl), (z_tb3 80 (by first | exact rfl | decide +kernel) rfl), (z_tb1 1 (by first | exact rfl | decide +kernel) rfl), ⟨by decide +kernel, by decide +kernel, by decide +kernel⟩, by decide⟩, (z_tb3 79 (by first | exact rfl | decide +kernel) rfl), (z_tblI 14 (by decide +kernel) rfl)⟩
theorem kX9_245 : z_MV RX9 245 mX1_play 3 := ⟨⟨Or.inl (z_tb3 81 (by first | exact rfl | decide +kernel) rfl), (z_tb3 84 (by first | exact rfl | decide +kernel) rfl), (z_tb1 6 (by first | exact rfl | decide +kernel) rfl), ⟨by decide +kernel, by decide +kernel, by decide +kernel⟩, by decide⟩, (z_tb3 82 (by first | exact rfl | decide +kernel) rfl), (z_tb3 83 (by first | exact rfl | decide +kernel) rfl)⟩
theorem kX1_24 : z_MV RX1 24 mX1_open 2 := ⟨⟨Or.inl (z_tb3 85 (by first | exact rfl | decide +kernel) rfl), (z_tb3 43 (by first | exact rfl | decide +kernel) rfl), (z_tb1 6 (by first | exact rfl | decide +kernel) rfl), ⟨by decide +kernel, by decide +kernel, by decide +kernel⟩, by decide⟩, (z_tb3 41 (by first | exact rfl | decide +kernel) rfl), (z_tb3 42 (by first | exact rfl | decide +kernel) rfl)⟩
theorem kX1_34 : z_MV RX1 34 mX5_comes 2 := ⟨⟨Or.inl (z_tb3 86 (by first | exact rfl | decide +kernel) rfl), (z_tb3 72 (by first | exact rfl | decide +kernel) rfl), (z_tb1 3 (by first | exact rfl | decide +kernel) rfl), ⟨by decide +kernel, by decide +kernel, by decide +kernel⟩, by decide⟩, (z_tb3 70 (by first | exact rfl | decide +kernel) rfl), (z_tb3 71 (by first | exact rfl | decide +kernel) rfl)⟩
theorem kX1_40 : z_MV RX1 40 mX1_attend 1 := ⟨⟨Or.inl (z_tb3 87 (by first | exact rfl | decide +kernel) rfl), (z_tb3 90 (by first | exact rfl | decide +kernel) rfl), (z_tb1 6 (by first | exact rfl | decide +kernel) rfl), ⟨by decide +kernel, by decide +kernel, by decide +kernel⟩, by decide⟩, (z_tb3 89 (by first | exact rfl | decide +kernel) rfl), (z_tblI 15 (by decide +kernel) rfl)⟩
theorem kX1_99 : z_MV RX1 99 mX1_isReadyFor 2 := ⟨⟨Or.inl (z_tb3 91 (by first | exact rfl | decide +kernel) rfl), (z_tb3 94 (by first | exact rfl | decide +kernel) rfl), (z_tb1 6 (by first | exact rfl | decide +kernel) rfl), ⟨by decide +kernel, by decide +kernel, by decide +kernel⟩, by decide⟩, (z_tb3 93 (by first | exact rfl | decide +kernel) rfl), (z_tblI 16 (by decide +kernel) rfl)⟩
theorem kX1_102 : z_MV RX1 102 mX5_rouses 2 := ⟨⟨Or.inl (z_tb3 95 (by first | exact rfl | decide +kernel) rfl), (z_tb3 98 (by first | exact rfl | decide +kernel) rfl), (z_tb1 3 (by first | exact rfl | decide +kernel) rfl), ⟨by decide +kernel, by decide +kernel, by decide +kernel⟩, by decide⟩, (z_tb3 96 (by first | exact rfl | decide +kernel) rfl), (z_tb3 97 (by first | exact rfl | decide +kernel) rfl)⟩
theorem kX5_76 : z_MS RX5 76 mX9_wakes 3 := ⟨⟨Or.inr ⟨"SleepersShop", z_ns3 99 (by first | exact rfl | decide +kernel) rfl⟩, (z_tb3 101 (by first | exact rfl | decide +kernel) rfl), (z_tb1 1 (by first | exact rfl | decide +kernel) rfl), ⟨by decide +kernel, by decide +kernel, by decide +kernel⟩, by decide⟩, (z_tb3 100 (by first | exact rfl | decide +kernel) rfl)⟩
theorem kX1_105 : z_MV RX1 105 mX1_sell 2 := ⟨⟨Or.inl (z_tb3 102 (by first | exact rfl | decide +kernel) rfl), (z_tb3 105 (by first | exact rfl | decide +kernel) rfl), (z_tb1 6 (by first | exact rfl | decide +kernel) rfl), ⟨by decide +kernel, by decide +kernel, by decide +kernel⟩, by decide⟩, (z_tb3 104 (by first | exact rfl | decide +kernel) rfl), (z_tblI 17 (by decide +kernel) rfl)⟩
theorem kX1_118 : z_MV RX1 118 mX3_put 2 := ⟨⟨Or.inl (z_tb3 106 (by first | exact rfl | decide +kernel) rfl), (z_tb2 139 (by first | exact rfl | decide +kernel) rfl), (z_tb1 4 (by first | exact rfl | decide +kernel) rfl), ⟨by decide +kernel, by decide +kernel, by decide +kernel⟩, by decide⟩, (z_tb2 137 (by first | exact rfl | decide +kernel) rfl), (z_tb2 138 (by first | exact rfl | decide +kernel) rfl)⟩
theorem kL_40 : z_MV RL 40 mX9_quarrel 2 := ⟨⟨Or.inl (z_tb3 107 (by first | exact rfl | decide +kernel) rfl), (z_tb3 110 (by first | exact rfl | decide +kernel) rfl), (z_tb1 1 (by first | exact rfl | decide +kernel) rfl), ⟨by decide +kernel, by decide +kernel, by decide +kernel⟩, by decide⟩, (z_tb3 108 (by first | exact rfl | decide +kernel) rfl), (z_tb3 109 (by first | exact rfl | decide +kernel) rfl)⟩
theorem kX9_170 : z_MV RX9 170 mX9_areTwoStaff 2 := ⟨⟨Or.inl (z_tb3 111 (by first | exact rfl | decide +kernel) rfl), (z_tb3 114 (by first | exact rfl | decide +kernel) rfl), (z_tb1 1 (by first | exact rfl | decide +kernel) rfl), ⟨by decide +kernel, by decide +kernel, by decide +kernel⟩, by decide⟩, (z_tb3 113 (by first | exact rfl | decide +kernel) rfl), (z_tblI 18 (by decide +kernel) rfl)⟩
theorem kX9_176 : z_MS RX9 176 mX9_pair 2 := ⟨⟨Or.inl (z_tb3 115 (by first | exact rfl | decide +kernel) rfl), (z_tb2 166 (by first | exact rfl | decide +kernel) rfl), (z_tb1 1 (by first | exact rfl | decide +kernel) rfl), ⟨by decide +kernel, by decide +kernel, by decide +kernel⟩, by decide⟩, (z_tb2 165 (by first | exact rfl | decide +kernel) rfl)⟩
theorem kL_44 : z_MV RL 44 mX9_woken 0 := ⟨⟨Or.inl (z_tb3 116 (by first | exact rfl | decide +kernel) rfl), (z_tb3 119 (by first | exact rfl | decide +kernel) rfl), (z_tb1 1 (by first | exact rfl | decide +kernel) rfl), ⟨by decide +kernel, by decide +kernel, by decide +kernel⟩, by decide⟩, (z_tb3 117 (by first | exact rfl | decide +kernel) rfl), (z_tb3 118 (by first | exact rfl | decide +kernel) rfl)⟩
theorem kL_48 : z_MV RL 48 mX9_pass 1 := ⟨⟨Or.inl (z_tb3 120 (by first | exact rfl | decide +kernel) rfl), (z_tb3 123 (by first | exact rfl | decide +kernel) rfl), (z_tb1 1 (by first | exact rfl | decide +kernel) rfl), ⟨by decide +kernel, by decide +kernel, by decide +kernel⟩, by decide⟩, (z_tb3 121 (by first | exact rfl | decide +kernel) rfl), (z_tb3 122 (by first | exact rfl | decide +kernel) rfl)⟩
theorem kX9_185 : z_MV RX9 185 mX4_put 1 := ⟨⟨Or.inl (z_tb3 124 (by first | exact rfl | decide +kernel) rfl), (z_tb3 127 (by first | exact rfl | decide +kernel) rfl), (z_tb1 8 (by first | exact rfl | decide +kernel) rfl), ⟨by decide +kernel, by decide +kernel, by decide +kernel⟩, by decide⟩, (z_tb3 125 (by first | exact rfl | decide +kernel) rfl), (z_tb3 126 (by first | exact rfl | decide +kernel) rfl)⟩
theorem kX4_20 : z_MV RX4 20 mX4_dropOldest 0 := ⟨⟨Or.inl (z_tb3 128 (by first | exact rfl | decide +kernel) rfl), (z_tb3 131 (by first | exact rfl | decide +kernel) rfl), (z_tb1 8 (by first | exact rfl | decide +kernel) rfl), ⟨by decide +kernel, by decide +kernel, by decide +kernel⟩, by decide⟩, (z_tb3 130 (by first | exact rfl | decide +kernel) rfl), (z_tblI 19 (by decide +kernel) rfl)⟩
theorem kX4_23 : z_MV RX4 23 mX7_copy 1 := ⟨⟨Or.inl (z_tb3 132 (by first | exact rfl | decide +kernel) rfl), (z_tb3 135 (by first | exact rfl | decide +kernel) rfl), (z_tb1 7 (by first | exact rfl | decide +kernel) rfl), ⟨by decide +kernel, by decide +kernel, by decide +kernel⟩, by decide⟩, (z_tb3 133 (by first | exact rfl | decide +kernel) rfl), (z_tb3 134 (by first | exact rfl | decide +kernel) rfl)⟩
theorem kX7_42 : z_MV RX7 42 mX3_copy 1 := ⟨⟨Or.inl (z_tb3 136 (by first | exact rfl | decide +kernel) rfl), (z_tb2 192 (by first | exact rfl | decide +kernel) rfl), (z_tb1 4 (by first | exact rfl | decide +kernel) rfl), ⟨by decide +kernel, by decide +kernel, by decide +kernel⟩, by decide⟩, (z_tb2 190 (by first | exact rfl | decide +kernel) rfl), (z_tb2 191 (by first | exact rfl | decide +kernel) rfl)⟩
theorem kX9_189 : z_MV RX9 189 mX9_goBy 2 := ⟨⟨Or.inl (z_tb3 137 (by first | exact rfl | decide +kernel) rfl), (z_tb3 140 (by first | exact rfl | decide +kernel) rfl), (z_tb1 1 (by first | exact rfl | decide +kernel) rfl), ⟨by decide +kernel, by decide +kernel, by decide +kernel⟩, by decide⟩, (z_tb3 139 (by first | exact rfl | decide +kernel) rfl), (z_tblI 20 (by decide +kernel) rfl)⟩
theorem kX9_299 : z_MV RX9 299 mX1_close 1 := ⟨⟨Or.inl (z_tb3 141 (by first | exact rfl | decide +kernel) rfl), (z_tb3 144 (by first | exact rfl | decide +kernel) rfl), (z_tb1 6 (by first | exact rfl | decide +kernel) rfl), ⟨by decide +kernel, by decide +kernel, by decide +kernel⟩, by decide⟩, (z_tb3 142 (by first | exact rfl | decide +kernel) rfl), (z_tb3 143 (by first | exact rfl | decide +kernel) rfl)⟩
theorem kX1_121 : Cond.methodLink RX1 121 Lib.Math.max.name ∈ z_tbl := (z_tb3 145 (by first | exact rfl | decide +kernel) rfl)
theorem kL_52 : z_MV RL 52 mX9_supper 1 := ⟨⟨Or.inl (z_tb3 146 (by first | exact rfl | decide +kernel) rfl), (z_tb3 149 (by first | exact rfl | decide +kernel) rfl), (z_tb1 1 (by first | exact rfl | decide +kernel) rfl), ⟨by decide +kernel, by decide +kernel, by decide +kernel⟩, by decide⟩, (z_tb3 147 (by first | exact rfl | decide +kernel) rfl), (z_tb3 148 (by first | exact rfl | decide +kernel) rfl)⟩
theorem kX9_193 : z_MS RX9 193 mX9_has 2 := ⟨⟨Or.inl (z_tb3 150 (by first | exact rfl | decide +kernel) rfl), (z_tb3 52 (by first | exact rfl | decide +kernel) rfl), (z_tb1 1 (by first | exact rfl | decide +kernel) rfl), ⟨by decide +kernel, by decide +kernel, by decide +kernel⟩, by decide⟩, (z_tb3 51 (by first | exact rfl | decide +kernel) rfl)⟩
theorem kX9_196 : z_MS RX9 196 mJ6_bitCount_0f7a4 1 := ⟨⟨Or.inl (z_tb3 151 (by first | exact rfl | decide +kernel) rfl), (z_tb2 169 (by first | exact rfl | decide +kernel) rfl), (z_tb1 16 (by first | exact rfl | decide +kernel) rfl), ⟨by decide +kernel, by decide +kernel, by decide +kernel⟩, by decide⟩, (z_tb2 168 (by first | exact rfl | decide +kernel) rfl)⟩
theorem kL_56 : z_MV RL 56 mX9_settle 2 := ⟨⟨Or.inl (z_tb3 152 (by first | exact rfl | decide +kernel) rfl), (z_tb3 155 (by first | exact rfl | decide +kernel) rfl), (z_tb1 1 (by first | exact rfl | decide +kernel) rfl), ⟨by decide +kernel, by decide +kernel, by decide +kernel⟩, by decide⟩, (z_tb3 153 (by first | exact rfl | decide +kernel) rfl), (z_tb3 154 (by first | exact rfl | decide +kernel) rfl)⟩
theorem kL_60 : z_MV RL 60 mX9_lull 1 := ⟨⟨Or.inl (z_tb3 156 (by first | exact rfl | decide +kernel) rfl), (z_tb3 159 (by first | exact rfl | decide +kernel) rfl), (z_tb1 1 (by first | exact rfl | decide +kernel) rfl), ⟨by decide +kernel, by decide +kernel, by decide +kernel⟩, by decide⟩, (z_tb3 157 (by first | exact rfl | decide +kernel) rfl), (z_tb3 158 (by first | exact rfl | decide +kernel) rfl)⟩
theorem kX9_201 : z_MV RX9 201 mX3_put 2 := ⟨⟨Or.inl (z_tb3 160 (by first | exact rfl | decide +kernel) rfl), (z_tb2 139 (by first | exact rfl | decide +kernel) rfl), (z_tb1 4 (by first | exact rfl | decide +kernel) rfl), ⟨by decide +kernel, by decide +kernel, by decide +kernel⟩, by decide⟩, (z_tb2 137 (by first | exact rfl | decide +kernel) rfl), (z_tb2 138 (by first | exact rfl | decide +kernel) rfl)⟩
theorem kL_64 : z_MV RL 64 mX9_undo 0 := ⟨⟨Or.inl (z_tb3 161 (by first | exact rfl | decide +kernel) rfl), (z_tb3 164 (by first | exact rfl | decide +kernel) rfl), (z_tb1 1 (by first | exact rfl | decide +kernel) rfl), ⟨by decide +kernel, by decide +kernel, by decide +kernel⟩, by decide⟩, (z_tb3 162 (by first | exact rfl | decide +kernel) rfl), (z_tb3 163 (by first | exact rfl | decide +kernel) rfl)⟩
theorem kX9_207 : z_MV RX9 207 mX4_takeInto 1 := ⟨⟨Or.inl (z_tb3 165 (by first | exact rfl | decide +kernel) rfl), (z_tb3 168 (by first | exact rfl | decide +kernel) rfl), (z_tb1 8 (by first | exact rfl | decide +kernel) rfl), ⟨by decide +kernel, by decide +kernel, by decide +kernel⟩, by decide⟩, (z_tb3 166 (by first | exact rfl | decide +kernel) rfl), (z_tb3 167 (by first | exact rfl | decide +kernel) rfl)⟩
theorem kL_68 : z_MV RL 68 mX9_behind 2 := ⟨⟨Or.inl (z_tb3 169 (by first | exact rfl | decide +kernel) rfl), (z_tb3 172 (by first | exact rfl | decide +kernel) rfl), (z_tb1 1 (by first | exact rfl | decide +kernel) rfl), ⟨by decide +kernel, by decide +kernel, by decide +kernel⟩, by decide⟩, (z_tb3 170 (by first | exact rfl | decide +kernel) rfl), (z_tb3 171 (by first | exact rfl | decide +kernel) rfl)⟩
theorem kX9_210 : z_MV RX9 210 mX7_copy 1 := ⟨⟨Or.inl (z_tb3 173 (by first | exact rfl | decide +kernel) rfl), (z_tb3 135 (by first | exact rfl | decide +kernel) rfl), (z_tb1 7 (by first | exact rfl | decide +kernel) rfl), ⟨by decide +kernel, by decide +kernel, by decide +kernel⟩, by decide⟩, (z_tb3 133 (by first | exact rfl | decide +kernel) rfl), (z_tb3 134 (by first | exact rfl | decide +kernel) rfl)⟩
theorem kL_72 : z_MV RL 72 mX9_ham 1 := ⟨⟨Or.inl (z_tb3 174 (by first | exact rfl | decide +kernel) rfl), (z_tb3 177 (by first | exact rfl | decide +kernel) rfl), (z_tb1 1 (by first | exact rfl | decide +kernel) rfl), ⟨by decide +kernel, by decide +kernel, by decide +kernel⟩, by decide⟩, (z_tb3 175 (by first | exact rfl | decide +kernel) rfl), (z_tb3 176 (by first | exact rfl | decide +kernel) rfl)⟩
theorem kL_76 : z_MV RL 76 mX9_suppers 1 := ⟨⟨Or.inl (z_tb3 178 (by first | exact rfl | decide +kernel) rfl), (z_tb3 181 (by first | exact rfl | decide +kernel) rfl), (z_tb1 1 (by first | exact rfl | decide +kernel) rfl), ⟨by decide +kernel, by decide +kernel, by decide +kernel⟩, by decide⟩, (z_tb3 179 (by first | exact rfl | decide +kernel) rfl), (z_tb3 180 (by first | exact rfl | decide +kernel) rfl)⟩
theorem kX9_226 : z_MV RX9 226 mX0_clear 0 := ⟨⟨Or.inl (z_tb3 182 (by first | exact rfl | decide +kernel) rfl), (z_tb3 185 (by first | exact rfl | decide +kernel) rfl), (z_tb1 10 (by first | exact rfl | decide +kernel) rfl), ⟨by decide +kernel, by decide +kernel, by decide +kernel⟩, by decide⟩, (z_tb3 183 (by first | exact rfl | decide +kernel) rfl), (z_tb3 184 (by first | exact rfl | decide +kernel) rfl)⟩
theorem kX9_227 : z_MV RX9 227 mX9_servedIfFed 1 := ⟨⟨Or.inl (z_tb3 186 (by first | exact rfl | decide +kernel) rfl), (z_tb3 189 (by first | exact rfl | decide +kernel) rfl), (z_tb1 1 (by first | exact rfl | decide +kernel) rfl), ⟨by decide +kernel, by decide +kernel, by decide +kernel⟩, by decide⟩, (z_tb3 188 (by first | exact rfl | decide +kernel) rfl), (z_tblI 21 (by decide +kernel) rfl)⟩
theorem kX9_230 : z_MV RX9 230 mX0_offer 2 := ⟨⟨Or.inl (z_tb3 190 (by first | exact rfl | decide +kernel) rfl), (z_tb3 193 (by first | exact rfl | decide +kernel) rfl), (z_tb1 10 (by first | exact rfl | decide +kernel) rfl), ⟨by decide +kernel, by decide +kernel, by decide +kernel⟩, by decide⟩, (z_tb3 191 (by first | exact rfl | decide +kernel) rfl), (z_tb3 192 (by first | exact rfl | decide +kernel) rfl)⟩
theorem kX0_18 : z_MS RX0 18 mJ6_bitCount_0f7a4 1 := ⟨⟨Or.inl (z_tb3 194 (by first | exact rfl | decide +kernel) rfl), (z_tb2 169 (by first | exact rfl | decide +kernel) rfl), (z_tb1 16 (by first | exact rfl | decide +kernel) rfl), ⟨by decide +kernel, by decide +kernel, by decide +kernel⟩, by decide⟩, (z_tb2 168 (by first | exact rfl | decide +kernel) rfl)⟩
theorem kL_80 : z_MV RL 80 mX9_apart 2 := ⟨⟨Or.inl (z_tb3 195 (by first | exact rfl | decide +kernel) rfl), (z_tb3 198 (by first | exact rfl | decide +kernel) rfl), (z_tb1 1 (by first | exact rfl | decide +kernel) rfl), ⟨by decide +kernel, by decide +kernel, by decide +kernel⟩, by decide⟩, (z_tb3 196 (by first | exact rfl | decide +kernel) rfl), (z_tb3 197 (by first | exact rfl | decide +kernel) rfl)⟩
theorem kX9_239 : z_MV RX9 239 mX9_servedIfMadeUp 2 := ⟨⟨Or.inl (z_tb3 199 (by first | exact rfl | decide +kernel) rfl), (z_tb3 202 (by first | exact rfl | decide +kernel) rfl), (z_tb1 1 (by first | exact rfl | decide +kernel) rfl), ⟨by decide +kernel, by decide +kernel, by decide +kernel⟩, by decide⟩, (z_tb3 201 (by first | exact rfl | decide +kernel) rfl), (z_tblI 22 (by decide +kernel) rfl)⟩
theorem kX9_313 : z_MS RX9 313 mX9_without 2 := ⟨⟨Or.inl (z_tb3 203 (by first | exact rfl | decide +kernel) rfl), (z_tb3 205 (by first | exact rfl | decide +kernel) rfl), (z_tb1 1 (by first | exact rfl | decide +kernel) rfl), ⟨by decide +kernel, by decide +kernel, by decide +kernel⟩, by decide⟩, (z_tb3 204 (by first | exact rfl | decide +kernel) rfl)⟩
theorem kL_84 : z_MV RL 84 mX9_ask 1 := ⟨⟨Or.inl (z_tb3 206 (by first | exact rfl | decide +kernel) rfl), (z_tb3 209 (by first | exact rfl | decide +kernel) rfl), (z_tb1 1 (by first | exact rfl | decide +kernel) rfl), ⟨by decide +kernel, by decide +kernel, by decide +kernel⟩, by decide⟩, (z_tb3 207 (by first | exact rfl | decide +kernel) rfl), (z_tb3 208 (by first | exact rfl | decide +kernel) rfl)⟩
theorem kX9_249 : z_MV RX9 249 mX1_firstFor 1 := ⟨⟨Or.inl (z_tb3 210 (by first | exact rfl | decide +kernel) rfl), (z_tb3 213 (by first | exact rfl | decide +kernel) rfl), (z_tb1 6 (by first | exact rfl | decide +kernel) rfl), ⟨by decide +kernel, by decide +kernel, by decide +kernel⟩, by decide⟩, (z_tb3 211 (by first | exact rfl | decide +kernel) rfl), (z_tb3 212 (by first | exact rfl | decide +kernel) rfl)⟩
theorem kX9_252 : z_MS RX9 252 mX9_wakes 3 := ⟨⟨Or.inl (z_tb3 214 (by first | exact rfl | decide +kernel) rfl), (z_tb3 101 (by first | exact rfl | decide +kernel) rfl), (z_tb1 1 (by first | exact rfl | decide +kernel) rfl), ⟨by decide +kernel, by decide +kernel, by decide +kernel⟩, by decide⟩, (z_tb3 100 (by first | exact rfl | decide +kernel) rfl)⟩
theorem kL_88 : z_MV RL 88 mX9_see 3 := ⟨⟨Or.inl (z_tb3 215 (by first | exact rfl | decide +kernel) rfl), (z_tb3 218 (by first | exact rfl | decide +kernel) rfl), (z_tb1 1 (by first | exact rfl | decide +kernel) rfl), ⟨by decide +kernel, by decide +kernel, by decide +kernel⟩, by decide⟩, (z_tb3 216 (by first | exact rfl | decide +kernel) rfl), (z_tb3 217 (by first | exact rfl | decide +kernel) rfl)⟩
theorem kX9_257 : z_MV RX9 257 mX6_add 3 := ⟨⟨Or.inl (z_tb3 219 (by first | exact rfl | decide +kernel) rfl), (z_tb3 222 (by first | exact rfl | decide +kernel) rfl), (z_tb1 9 (by first | exact rfl | decide +kernel) rfl), ⟨by decide +kernel, by decide +kernel, by decide +kernel⟩, by decide⟩, (z_tb3 220 (by first | exact rfl | decide +kernel) rfl), (z_tb3 221 (by first | exact rfl | decide +kernel) rfl)⟩
theorem kX6_30 : z_MV RX6 30 mX3_put 2 := ⟨⟨Or.inl (z_tb3 223 (by first | exact rfl | decide +kernel) rfl), (z_tb2 139 (by first | exact rfl | decide +kernel) rfl), (z_tb1 4 (by first | exact rfl | decide +kernel) rfl), ⟨by decide +kernel, by decide +kernel, by decide +kernel⟩, by decide⟩, (z_tb2 137 (by first | exact rfl | decide +kernel) rfl), (z_tb2 138 (by first | exact rfl | decide +kernel) rfl)⟩
theorem kL_93 : z_MV RL 93 mX9_forget 0 := ⟨⟨Or.inl (z_tb3 224 (by first | exact rfl | decide +kernel) rfl), (z_tb3 227 (by first | exact rfl | decide +kernel) rfl), (z_tb1 1 (by first | exact rfl | decide +kernel) rfl), ⟨by decide +kernel, by decide +kernel, by decide +kernel⟩, by decide⟩, (z_tb3 225 (by first | exact rfl | decide +kernel) rfl), (z_tb3 226 (by first | exact rfl | decide +kernel) rfl)⟩
theorem kL_97 : z_MV RL 97 mX9_law 2 := ⟨⟨Or.inl (z_tb3 228 (by first | exact rfl | decide +kernel) rfl), (z_tb3 231 (by first | exact rfl | decide +kernel) rfl), (z_tb1 1 (by first | exact rfl | decide +kernel) rfl), ⟨by decide +kernel, by decide +kernel, by decide +kernel⟩, by decide⟩, (z_tb3 229 (by first | exact rfl | decide +kernel) rfl), (z_tb3 230 (by first | exact rfl | decide +kernel) rfl)⟩
theorem kX9_261 : z_MV RX9 261 mX6_allow 3 := ⟨⟨Or.inl (z_tb3 232 (by first | exact rfl | decide +kernel) rfl), (z_tb3 235 (by first | exact rfl | decide +kernel) rfl), (z_tb1 9 (by first | exact rfl | decide +kernel) rfl), ⟨by decide +kernel, by decide +kernel, by decide +kernel⟩, by decide⟩, (z_tb3 233 (by first | exact rfl | decide +kernel) rfl), (z_tb3 234 (by first | exact rfl | decide +kernel) rfl)⟩
theorem kX6_34 : z_MV RX6 34 mX3_at 1 := ⟨⟨Or.inl (z_tb3 236 (by first | exact rfl | decide +kernel) rfl), (z_tb2 147 (by first | exact rfl | decide +kernel) rfl), (z_tb1 4 (by first | exact rfl | decide +kernel) rfl), ⟨by decide +kernel, by decide +kernel, by decide +kernel⟩, by decide⟩, (z_tb2 145 (by first | exact rfl | decide +kernel) rfl), (z_tb2 146 (by first | exact rfl | decide +kernel) rfl)⟩
theorem kX6_38 : z_MS RX6 38 mX9_mod 2 := ⟨⟨Or.inr ⟨"SleepersShop", z_ns3 237 (by first | exact rfl | decide +kernel) rfl⟩, (z_tb2 156 (by first | exact rfl | decide +kernel) rfl), (z_tb1 1 (by first | exact rfl | decide +kernel) rfl), ⟨by decide +kernel, by decide +kernel, by decide +kernel⟩, by decide⟩, (z_tb2 155 (by first | exact rfl | decide +kernel) rfl)⟩
theorem kL_101 : z_MV RL 101 mX9_did 1 := ⟨⟨Or.inl (z_tb3 238 (by first | exact rfl | decide +kernel) rfl), (z_tb4 1 (by first | exact rfl | decide +kernel) rfl), (z_tb1 1 (by first | exact rfl | decide +kernel) rfl), ⟨by decide +kernel, by decide +kernel, by decide +kernel⟩, by decide⟩, (z_tb3 239 (by first | exact rfl | decide +kernel) rfl), (z_tb4 0 (by first | exact rfl | decide +kernel) rfl)⟩
theorem kX9_267 : z_MV RX9 267 mX5_rouses 2 := ⟨⟨Or.inl (z_tb4 2 (by first | exact rfl | decide +kernel) rfl), (z_tb3 98 (by first | exact rfl | decide +kernel) rfl), (z_tb1 3 (by first | exact rfl | decide +kernel) rfl), ⟨by decide +kernel, by decide +kernel, by decide +kernel⟩, by decide⟩, (z_tb3 96 (by first | exact rfl | decide +kernel) rfl), (z_tb3 97 (by first | exact rfl | decide +kernel) rfl)⟩
theorem kL_105 : z_MV RL 105 mX9_dogs 3 := ⟨⟨Or.inl (z_tb4 3 (by first | exact rfl | decide +kernel) rfl), (z_tb4 6 (by first | exact rfl | decide +kernel) rfl), (z_tb1 1 (by first | exact rfl | decide +kernel) rfl), ⟨by decide +kernel, by decide +kernel, by decide +kernel⟩, by decide⟩, (z_tb4 4 (by first | exact rfl | decide +kernel) rfl), (z_tb4 5 (by first | exact rfl | decide +kernel) rfl)⟩
theorem kX9_270 : z_MV RX9 270 mX9_isWithoutHam 2 := ⟨⟨Or.inl (z_tb4 7 (by first | exact rfl | decide +kernel) rfl), (z_tb4 10 (by first | exact rfl | decide +kernel) rfl), (z_tb1 1 (by first | exact rfl | decide +kernel) rfl), ⟨by decide +kernel, by decide +kernel, by decide +kernel⟩, by decide⟩, (z_tb4 9 (by first | exact rfl | decide +kernel) rfl), (z_tblI 23 (by decide +kernel) rfl)⟩
theorem kX9_273 : z_MS RX9 273 mX9_weight 3 := ⟨⟨Or.inl (z_tb4 11 (by first | exact rfl | decide +kernel) rfl), (z_tb4 13 (by first | exact rfl | decide +kernel) rfl), (z_tb1 1 (by first | exact rfl | decide +kernel) rfl), ⟨by decide +kernel, by decide +kernel, by decide +kernel⟩, by decide⟩, (z_tb4 12 (by first | exact rfl | decide +kernel) rfl)⟩
theorem kX9_277 : z_MS RX9 277 mX9_sharedDivisor 3 := ⟨⟨Or.inl (z_tb4 14 (by first | exact rfl | decide +kernel) rfl), (z_tb4 16 (by first | exact rfl | decide +kernel) rfl), (z_tb1 1 (by first | exact rfl | decide +kernel) rfl), ⟨by decide +kernel, by decide +kernel, by decide +kernel⟩, by decide⟩, (z_tb4 15 (by first | exact rfl | decide +kernel) rfl)⟩
theorem kX9_316 : z_MS RX9 316 mX9_dividesBoth 3 := ⟨⟨Or.inl (z_tb4 17 (by first | exact rfl | decide +kernel) rfl), (z_tb4 19 (by first | exact rfl | decide +kernel) rfl), (z_tb1 1 (by first | exact rfl | decide +kernel) rfl), ⟨by decide +kernel, by decide +kernel, by decide +kernel⟩, by decide⟩, (z_tb4 18 (by first | exact rfl | decide +kernel) rfl)⟩
theorem kX9_280 : z_MS RX9 280 mX9_quotient 2 := ⟨⟨Or.inl (z_tb4 20 (by first | exact rfl | decide +kernel) rfl), (z_tb4 22 (by first | exact rfl | decide +kernel) rfl), (z_tb1 1 (by first | exact rfl | decide +kernel) rfl), ⟨by decide +kernel, by decide +kernel, by decide +kernel⟩, by decide⟩, (z_tb4 21 (by first | exact rfl | decide +kernel) rfl)⟩
theorem kL_110 : z_MV RL 110 mX9_year 3 := ⟨⟨Or.inl (z_tb4 23 (by first | exact rfl | decide +kernel) rfl), (z_tb4 26 (by first | exact rfl | decide +kernel) rfl), (z_tb1 1 (by first | exact rfl | decide +kernel) rfl), ⟨by decide +kernel, by decide +kernel, by decide +kernel⟩, by decide⟩, (z_tb4 24 (by first | exact rfl | decide +kernel) rfl), (z_tb4 25 (by first | exact rfl | decide +kernel) rfl)⟩
theorem kX9_283 : z_MS RX9 283 mX9_draw 2 := ⟨⟨Or.inl (z_tb4 27 (by first | exact rfl | decide +kernel) rfl), (z_tb4 29 (by first | exact rfl | decide +kernel) rfl), (z_tb1 1 (by first | exact rfl | decide +kernel) rfl), ⟨by decide +kernel, by decide +kernel, by decide +kernel⟩, by decide⟩, (z_tb4 28 (by first | exact rfl | decide +kernel) rfl)⟩
theorem vX9_319 : Cond.constantLong RX9 319 (7919) ∈ z_tbl := (z_tb4 30 (by first | exact rfl | decide +kernel) rfl)
theorem vX9_321 : Cond.constantLong RX9 321 (6151) ∈ z_tbl := (z_tb4 31 (by first | exact rfl | decide +kernel) rfl)
theorem vX9_323 : Cond.constantLong RX9 323 (65521) ∈ z_tbl := (z_tb4 32 (by first | exact rfl | decide +kernel) rfl)
theorem vX9_325 : Cond.constantLong RX9 325 (2) ∈ z_tbl := (z_tb4 33 (by first | exact rfl | decide +kernel) rfl)
theorem kX9_286 : z_MS RX9 286 mX9_mod 2 := ⟨⟨Or.inl (z_tb4 34 (by first | exact rfl | decide +kernel) rfl), (z_tb2 156 (by first | exact rfl | decide +kernel) rfl), (z_tb1 1 (by first | exact rfl | decide +kernel) rfl), ⟨by decide +kernel, by decide +kernel, by decide +kernel⟩, by decide⟩, (z_tb2 155 (by first | exact rfl | decide +kernel) rfl)⟩
theorem kL_114 : z_MV RL 114 mX9_keep 0 := ⟨⟨Or.inl (z_tb4 35 (by first | exact rfl | decide +kernel) rfl), (z_tb4 38 (by first | exact rfl | decide +kernel) rfl), (z_tb1 1 (by first | exact rfl | decide +kernel) rfl), ⟨by decide +kernel, by decide +kernel, by decide +kernel⟩, by decide⟩, (z_tb4 36 (by first | exact rfl | decide +kernel) rfl), (z_tb4 37 (by first | exact rfl | decide +kernel) rfl)⟩
theorem kL_118 : z_MV RL 118 mX9_back 0 := ⟨⟨Or.inl (z_tb4 39 (by first | exact rfl | decide +kernel) rfl), (z_tb4 42 (by first | exact rfl | decide +kernel) rfl), (z_tb1 1 (by first | exact rfl | decide +kernel) rfl), ⟨by decide +kernel, by decide +kernel, by decide +kernel⟩, by decide⟩, (z_tb4 40 (by first | exact rfl | decide +kernel) rfl), (z_tb4 41 (by first | exact rfl | decide +kernel) rfl)⟩
theorem kL_122 : z_MV RL 122 mX9_count 1 := ⟨⟨Or.inl (z_tb4 43 (by first | exact rfl | decide +kernel) rfl), (z_tb4 46 (by first | exact rfl | decide +kernel) rfl), (z_tb1 1 (by first | exact rfl | decide +kernel) rfl), ⟨by decide +kernel, by decide +kernel, by decide +kernel⟩, by decide⟩, (z_tb4 44 (by first | exact rfl | decide +kernel) rfl), (z_tb4 45 (by first | exact rfl | decide +kernel) rfl)⟩
theorem lL_10 : z_CL RL 10 10 := ⟨_, rfl, (z_tb4 47 (by first | exact rfl | decide +kernel) rfl), (z_tb4 48 (by first | exact rfl | decide +kernel) rfl), (z_tb1 17 (by first | exact rfl | decide +kernel) rfl)⟩
theorem kL_12 : z_MI RL 12 mX10_init 0 := ⟨⟨Or.inl (z_tb4 49 (by first | exact rfl | decide +kernel) rfl), (z_tb4 51 (by first | exact rfl | decide +kernel) rfl), (z_tb1 17 (by first | exact rfl | decide +kernel) rfl), ⟨by decide +kernel, by decide +kernel, by decide +kernel⟩, by decide⟩, (z_tb4 50 (by first | exact rfl | decide +kernel) rfl), rfl, rfl⟩
theorem kX10_1 : Cond.methodLink RX10 1 Lib.objectInit ∈ z_tbl := (z_tb4 52 (by first | exact rfl | decide +kernel) rfl)
theorem kX10_46 : z_MV RX10 46 mX10_addOne 5 := ⟨⟨Or.inl (z_tb4 53 (by first | exact rfl | decide +kernel) rfl), (z_tb4 56 (by first | exact rfl | decide +kernel) rfl), (z_tb1 17 (by first | exact rfl | decide +kernel) rfl), ⟨by decide +kernel, by decide +kernel, by decide +kernel⟩, by decide⟩, (z_tb4 55 (by first | exact rfl | decide +kernel) rfl), (z_tblI 24 (by decide +kernel) rfl)⟩
theorem kX10_54 : z_MS RX10 54 mX10_turn 4 := ⟨⟨Or.inl (z_tb4 57 (by first | exact rfl | decide +kernel) rfl), (z_tb4 59 (by first | exact rfl | decide +kernel) rfl), (z_tb1 17 (by first | exact rfl | decide +kernel) rfl), ⟨by decide +kernel, by decide +kernel, by decide +kernel⟩, by decide⟩, (z_tb4 58 (by first | exact rfl | decide +kernel) rfl)⟩
theorem kX10_58 : z_MV RX10 58 mX10_addGuest 5 := ⟨⟨Or.inl (z_tb4 60 (by first | exact rfl | decide +kernel) rfl), (z_tb4 63 (by first | exact rfl | decide +kernel) rfl), (z_tb1 17 (by first | exact rfl | decide +kernel) rfl), ⟨by decide +kernel, by decide +kernel, by decide +kernel⟩, by decide⟩, (z_tb4 62 (by first | exact rfl | decide +kernel) rfl), (z_tblI 25 (by decide +kernel) rfl)⟩
theorem fX10_79 : z_FL RX10 79 10 0 := ⟨_, rfl, by decide, rfl, Or.inl (z_tb4 64 (by first | exact rfl | decide +kernel) rfl)⟩
theorem fX10_7 : z_FL RX10 7 10 1 := ⟨_, rfl, by decide, rfl, Or.inl (z_tb4 65 (by first | exact rfl | decide +kernel) rfl)⟩
theorem fX10_85 : z_FL RX10 85 10 2 := ⟨_, rfl, by decide, rfl, Or.inl (z_tb4 66 (by first | exact rfl | decide +kernel) rfl)⟩
theorem fX10_82 : z_FL RX10 82 10 3 := ⟨_, rfl, by decide, rfl, Or.inl (z_tb4 67 (by first | exact rfl | decide +kernel) rfl)⟩
theorem fX10_91 : z_FL RX10 91 10 4 := ⟨_, rfl, by decide, rfl, Or.inl (z_tb4 68 (by first | exact rfl | decide +kernel) rfl)⟩
theorem fX10_94 : z_FL RX10 94 10 5 := ⟨_, rfl, by decide, rfl, Or.inl (z_tb4 69 (by first | exact rfl | decide +kernel) rfl)⟩
theorem fX10_115 : z_FL RX10 115 10 6 := ⟨_, rfl, by decide, rfl, Or.inl (z_tb4 70 (by first | exact rfl | decide +kernel) rfl)⟩
theorem fX10_13 : z_FL RX10 13 10 7 := ⟨_, rfl, by decide, rfl, Or.inl (z_tb4 71 (by first | exact rfl | decide +kernel) rfl)⟩
theorem fX10_16 : z_FL RX10 16 10 8 := ⟨_, rfl, by decide, rfl, Or.inl (z_tb4 72 (by first | exact rfl | decide +kernel) rfl)⟩
theorem fX10_19 : z_FL RX10 19 10 9 := ⟨_, rfl, by decide, rfl, Or.inl (z_tb4 73 (by first | exact rfl | decide +kernel) rfl)⟩
theorem fX10_50 : z_FL RX10 50 10 10 := ⟨_, rfl, by decide, rfl, Or.inl (z_tb4 74 (by first | exact rfl | decide +kernel) rfl)⟩
theorem fX10_61 : z_FL RX10 61 10 11 := ⟨_, rfl, by decide, rfl, Or.inl (z_tb4 75 (by first | exact rfl | decide +kernel) rfl)⟩
theorem fX10_64 : z_FL RX10 64 10 12 := ⟨_, rfl, by decide, rfl, Or.inl (z_tb4 76 (by first | exact rfl | decide +kernel) rfl)⟩
theorem fX10_22 : z_FL RX10 22 10 13 := ⟨_, rfl, by decide, rfl, Or.inl (z_tb4 77 (by first | exact rfl | decide +kernel) rfl)⟩
theorem fX10_25 : z_FL RX10 25 10 14 := ⟨_, rfl, by decide, rfl, Or.inl (z_tb4 78 (by first | exact rfl | decide +kernel) rfl)⟩
theorem fX10_28 : z_FL RX10 28 10 15 := ⟨_, rfl, by decide, rfl, Or.inl (z_tb4 79 (by first | exact rfl | decide +kernel) rfl)⟩
theorem fX10_31 : z_FL RX10 31 10 16 := ⟨_, rfl, by decide, rfl, Or.inl (z_tb4 80 (by first | exact rfl | decide +kernel) rfl)⟩
theorem fX10_34 : z_FL RX10 34 10 17 := ⟨_, rfl, by decide, rfl, Or.inl (z_tb4 81 (by first | exact rfl | decide +kernel) rfl)⟩
theorem fX10_133 : z_FL RX10 133 10 18 := ⟨_, rfl, by decide, rfl, Or.inl (z_tb4 82 (by first | exact rfl | decide +kernel) rfl)⟩
theorem fX10_37 : z_FL RX10 37 10 19 := ⟨_, rfl, by decide, rfl, Or.inl (z_tb4 83 (by first | exact rfl | decide +kernel) rfl)⟩
theorem fX10_136 : z_FL RX10 136 10 20 := ⟨_, rfl, by decide, rfl, Or.inl (z_tb4 84 (by first | exact rfl | decide +kernel) rfl)⟩
theorem fX10_130 : z_FL RX10 130 10 21 := ⟨_, rfl, by decide, rfl, Or.inl (z_tb4 85 (by first | exact rfl | decide +kernel) rfl)⟩
theorem fX10_40 : z_FL RX10 40 10 22 := ⟨_, rfl, by decide, rfl, Or.inl (z_tb4 86 (by first | exact rfl | decide +kernel) rfl)⟩
theorem fX10_142 : z_FL RX10 142 10 23 := ⟨_, rfl, by decide, rfl, Or.inl (z_tb4 87 (by first | exact rfl | decide +kernel) rfl)⟩
theorem fX10_152 : z_FL RX10 152 10 24 := ⟨_, rfl, by decide, rfl, Or.inl (z_tb4 88 (by first | exact rfl | decide +kernel) rfl)⟩
theorem fX10_139 : z_FL RX10 139 10 25 := ⟨_, rfl, by decide, rfl, Or.inl (z_tb4 89 (by first | exact rfl | decide +kernel) rfl)⟩
theorem fX10_158 : z_FL RX10 158 10 26 := ⟨_, rfl, by decide, rfl, Or.inl (z_tb4 90 (by first | exact rfl | decide +kernel) rfl)⟩
theorem fX10_155 : z_FL RX10 155 10 27 := ⟨_, rfl, by decide, rfl, Or.inl (z_tb4 91 (by first | exact rfl | decide +kernel) rfl)⟩
theorem fX10_161 : z_FL RX10 161 10 28 := ⟨_, rfl, by decide, rfl, Or.inl (z_tb4 92 (by first | exact rfl | decide +kernel) rfl)⟩
theorem fX10_43 : z_FL RX10 43 10 29 := ⟨_, rfl, by decide, rfl, Or.inl (z_tb4 93 (by first | exact rfl | decide +kernel) rfl)⟩
theorem kL_17 : z_MV RL 17 mX10_write 1 := ⟨⟨Or.inl (z_tb4 155 (by first | exact rfl | decide +kernel) rfl), (z_tb4 158 (by first | exact rfl | decide +kernel) rfl), (z_tb1 17 (by first | exact rfl | decide +kernel) rfl), ⟨by decide +kernel, by decide +kernel, by decide +kernel⟩, by decide⟩, (z_tb4 156 (by first | exact rfl | decide +kernel) rfl), (z_tb4 157 (by first | exact rfl | decide +kernel) rfl)⟩
theorem kX10_67 : z_MS RX10 67 mX10_in 3 := ⟨⟨Or.inl (z_tb4 159 (by first | exact rfl | decide +kernel) rfl), (z_tb4 161 (by first | exact rfl | decide +kernel) rfl), (z_tb1 17 (by first | exact rfl | decide +kernel) rfl), ⟨by decide +kernel, by decide +kernel, by decide +kernel⟩, by decide⟩, (z_tb4 160 (by first | exact rfl | decide +kernel) rfl)⟩
theorem kL_22 : z_MV RL 22 mX10_wipe 0 := ⟨⟨Or.inl (z_tb4 162 (by first | exact rfl | decide +kernel) rfl), (z_tb4 165 (by first | exact rfl | decide +kernel) rfl), (z_tb1 17 (by first | exact rfl | decide +kernel) rfl), ⟨by decide +kernel, by decide +kernel, by decide +kernel⟩, by decide⟩, (z_tb4 163 (by first | exact rfl | decide +kernel) rfl), (z_tb4 164 (by first | exact rfl | decide +kernel) rfl)⟩
theorem kL_26 : z_MV RL 26 mX10_fault 0 := ⟨⟨Or.inl (z_tb4 166 (by first | exact rfl | decide +kernel) rfl), (z_tb4 169 (by first | exact rfl | decide +kernel) rfl), (z_tb1 17 (by first | exact rfl | decide +kernel) rfl), ⟨by decide +kernel, by decide +kernel, by decide +kernel⟩, by decide⟩, (z_tb4 167 (by first | exact rfl | decide +kernel) rfl), (z_tb4 168 (by first | exact rfl | decide +kernel) rfl)⟩
theorem kX10_118 : z_MV RX10 118 mX10_isItem 0 := ⟨⟨Or.inl (z_tb4 170 (by first | exact rfl | decide +kernel) rfl), (z_tb4 173 (by first | exact rfl | decide +kernel) rfl), (z_tb1 17 (by first | exact rfl | decide +kernel) rfl), ⟨by decide +kernel, by decide +kernel, by decide +kernel⟩, by decide⟩, (z_tb4 172 (by first | exact rfl | decide +kernel) rfl), (z_tblI 26 (by decide +kernel) rfl)⟩
theorem kX10_88 : z_MV RX10 88 mX10_letterAt 1 := ⟨⟨Or.inl (z_tb4 174 (by first | exact rfl | decide +kernel) rfl), (z_tb4 177 (by first | exact rfl | decide +kernel) rfl), (z_tb1 17 (by first | exact rfl | decide +kernel) rfl), ⟨by decide +kernel, by decide +kernel, by decide +kernel⟩, by decide⟩, (z_tb4 176 (by first | exact rfl | decide +kernel) rfl), (z_tblI 27 (by decide +kernel) rfl)⟩
theorem kX10_97 : z_MV RX10 97 mX10_least 2 := ⟨⟨Or.inl (z_tb4 178 (by first | exact rfl | decide +kernel) rfl), (z_tb4 181 (by first | exact rfl | decide +kernel) rfl), (z_tb1 17 (by first | exact rfl | decide +kernel) rfl), ⟨by decide +kernel, by decide +kernel, by decide +kernel⟩, by decide⟩, (z_tb4 180 (by first | exact rfl | decide +kernel) rfl), (z_tblI 28 (by decide +kernel) rfl)⟩
theorem kX10_101 : z_MV RX10 101 mX10_most 2 := ⟨⟨Or.inl (z_tb4 182 (by first | exact rfl | decide +kernel) rfl), (z_tb4 185 (by first | exact rfl | decide +kernel) rfl), (z_tb1 17 (by first | exact rfl | decide +kernel) rfl), ⟨by decide +kernel, by decide +kernel, by decide +kernel⟩, by decide⟩, (z_tb4 184 (by first | exact rfl | decide +kernel) rfl), (z_tblI 29 (by decide +kernel) rfl)⟩
theorem kX10_104 : z_MV RX10 104 mX10_isNumber 3 := ⟨⟨Or.inl (z_tb4 186 (by first | exact rfl | decide +kernel) rfl), (z_tb4 189 (by first | exact rfl | decide +kernel) rfl), (z_tb1 17 (by first | exact rfl | decide +kernel) rfl), ⟨by decide +kernel, by decide +kernel, by decide +kernel⟩, by decide⟩, (z_tb4 188 (by first | exact rfl | decide +kernel) rfl), (z_tblI 30 (by decide +kernel) rfl)⟩
theorem kX10_107 : z_MS RX10 107 mX10_has 2 := ⟨⟨Or.inl (z_tb4 190 (by first | exact rfl | decide +kernel) rfl), (z_tb4 192 (by first | exact rfl | decide +kernel) rfl), (z_tb1 17 (by first | exact rfl | decide +kernel) rfl), ⟨by decide +kernel, by decide +kernel, by decide +kernel⟩, by decide⟩, (z_tb4 191 (by first | exact rfl | decide +kernel) rfl)⟩
theorem kX10_111 : z_MS RX10 111 mX10_quarrelsIn 2 := ⟨⟨Or.inl (z_tb4 193 (by first | exact rfl | decide +kernel) rfl), (z_tb4 195 (by first | exact rfl | decide +kernel) rfl), (z_tb1 17 (by first | exact rfl | decide +kernel) rfl), ⟨by decide +kernel, by decide +kernel, by decide +kernel⟩, by decide⟩, (z_tb4 194 (by first | exact rfl | decide +kernel) rfl)⟩
theorem kX10_75 : z_MS RX10 75 mX10_bits 1 := ⟨⟨Or.inl (z_tb4 196 (by first | exact rfl | decide +kernel) rfl), (z_tb4 198 (by first | exact rfl | decide +kernel) rfl), (z_tb1 17 (by first | exact rfl | decide +kernel) rfl), ⟨by decide +kernel, by decide +kernel, by decide +kernel⟩, by decide⟩, (z_tb4 197 (by first | exact rfl | decide +kernel) rfl)⟩
theorem kL_30 : z_MV RL 30 mX10_lay 0 := ⟨⟨Or.inl (z_tb4 199 (by first | exact rfl | decide +kernel) rfl), (z_tb4 202 (by first | exact rfl | decide +kernel) rfl), (z_tb1 17 (by first | exact rfl | decide +kernel) rfl), ⟨by decide +kernel, by decide +kernel, by decide +kernel⟩, by decide⟩, (z_tb4 200 (by first | exact rfl | decide +kernel) rfl), (z_tb4 201 (by first | exact rfl | decide +kernel) rfl)⟩
theorem kX10_122 : z_MV RX10 122 mX10_fault 0 := ⟨⟨Or.inl (z_tb4 203 (by first | exact rfl | decide +kernel) rfl), (z_tb4 169 (by first | exact rfl | decide +kernel) rfl), (z_tb1 17 (by first | exact rfl | decide +kernel) rfl), ⟨by decide +kernel, by decide +kernel, by decide +kernel⟩, by decide⟩, (z_tb4 167 (by first | exact rfl | decide +kernel) rfl), (z_tb4 168 (by first | exact rfl | decide +kernel) rfl)⟩
theorem kX10_126 : z_MS RX10 126 mX10_bring 5 := ⟨⟨Or.inl (z_tb4 204 (by first | exact rfl | decide +kernel) rfl), (z_tb4 206 (by first | exact rfl | decide +kernel) rfl), (z_tb1 17 (by first | exact rfl | decide +kernel) rfl), ⟨by decide +kernel, by decide +kernel, by decide +kernel⟩, by decide⟩, (z_tb4 205 (by first | exact rfl | decide +kernel) rfl)⟩
theorem kL_35 : z_MV RL 35 mX10_staff 2 := ⟨⟨Or.inl (z_tb4 207 (by first | exact rfl | decide +kernel) rfl), (z_tb4 210 (by first | exact rfl | decide +kernel) rfl), (z_tb1 17 (by first | exact rfl | decide +kernel) rfl), ⟨by decide +kernel, by decide +kernel, by decide +kernel⟩, by decide⟩, (z_tb4 208 (by first | exact rfl | decide +kernel) rfl), (z_tb4 209 (by first | exact rfl | decide +kernel) rfl)⟩
theorem kX10_71 : z_MV RX10 71 mX10_isOne 1 := ⟨⟨Or.inl (z_tb4 211 (by first | exact rfl | decide +kernel) rfl), (z_tb4 214 (by first | exact rfl | decide +kernel) rfl), (z_tb1 17 (by first | exact rfl | decide +kernel) rfl), ⟨by decide +kernel, by decide +kernel, by decide +kernel⟩, by decide⟩, (z_tb4 213 (by first | exact rfl | decide +kernel) rfl), (z_tblI 31 (by decide +kernel) rfl)⟩
theorem kX10_174 : z_MV RX10 174 mX10_layNow 0 := ⟨⟨Or.inl (z_tb4 215 (by first | exact rfl | decide +kernel) rfl), (z_tb4 218 (by first | exact rfl | decide +kernel) rfl), (z_tb1 17 (by first | exact rfl | decide +kernel) rfl), ⟨by decide +kernel, by decide +kernel, by decide +kernel⟩, by decide⟩, (z_tb4 217 (by first | exact rfl | decide +kernel) rfl), (z_tblI 32 (by decide +kernel) rfl)⟩
theorem kX10_170 : z_MV RX10 170 mX10_layNight 3 := ⟨⟨Or.inl (z_tb4 219 (by first | exact rfl | decide +kernel) rfl), (z_tb4 222 (by first | exact rfl | decide +kernel) rfl), (z_tb1 17 (by first | exact rfl | decide +kernel) rfl), ⟨by decide +kernel, by decide +kernel, by decide +kernel⟩, by decide⟩, (z_tb4 221 (by first | exact rfl | decide +kernel) rfl), (z_tblI 33 (by decide +kernel) rfl)⟩
theorem kX10_148 : z_MV RX10 148 mX10_layWalks 1 := ⟨⟨Or.inl (z_tb4 223 (by first | exact rfl | decide +kernel) rfl), (z_tb4 226 (by first | exact rfl | decide +kernel) rfl), (z_tb1 17 (by first | exact rfl | decide +kernel) rfl), ⟨by decide +kernel, by decide +kernel, by decide +kernel⟩, by decide⟩, (z_tb4 225 (by first | exact rfl | decide +kernel) rfl), (z_tblI 34 (by decide +kernel) rfl)⟩
theorem kX10_145 : z_MV RX10 145 mX10_isDogNight 1 := ⟨⟨Or.inl (z_tb4 227 (by first | exact rfl | decide +kernel) rfl), (z_tb4 230 (by first | exact rfl | decide +kernel) rfl), (z_tb1 17 (by first | exact rfl | decide +kernel) rfl), ⟨by decide +kernel, by decide +kernel, by decide +kernel⟩, by decide⟩, (z_tb4 229 (by first | exact rfl | decide +kernel) rfl), (z_tblI 35 (by decide +kernel) rfl)⟩
theorem kX10_164 : z_MV RX10 164 mX10_serves 2 := ⟨⟨Or.inl (z_tb4 231 (by first | exact rfl | decide +kernel) rfl), (z_tb4 234 (by first | exact rfl | decide +kernel) rfl), (z_tb1 17 (by first | exact rfl | decide +kernel) rfl), ⟨by decide +kernel, by decide +kernel, by decide +kernel⟩, by decide⟩, (z_tb4 233 (by first | exact rfl | decide +kernel) rfl), (z_tblI 36 (by decide +kernel) rfl)⟩
theorem kX10_167 : z_MV RX10 167 mX10_wakes 3 := ⟨⟨Or.inl (z_tb4 235 (by first | exact rfl | decide +kernel) rfl), (z_tb4 238 (by first | exact rfl | decide +kernel) rfl), (z_tb1 17 (by first | exact rfl | decide +kernel) rfl), ⟨by decide +kernel, by decide +kernel, by decide +kernel⟩, by decide⟩, (z_tb4 237 (by first | exact rfl | decide +kernel) rfl), (z_tblI 37 (by decide +kernel) rfl)⟩
theorem kL_39 : z_MV RL 39 mX10_customer 2 := ⟨⟨Or.inl (z_tb4 239 (by first | exact rfl | decide +kernel) rfl), (z_tb5 2 (by first | exact rfl | decide +kernel) rfl), (z_tb1 17 (by first | exact rfl | decide +kernel) rfl), ⟨by decide +kernel, by decide +kernel, by decide +kernel⟩, by decide⟩, (z_tb5 0 (by first | exact rfl | decide +kernel) rfl), (z_tb5 1 (by first | exact rfl | decide +kernel) rfl)⟩
theorem kX10_177 : z_MV RX10 177 mX10_isGuest 1 := ⟨⟨Or.inl (z_tb5 3 (by first | exact rfl | decide +kernel) rfl), (z_tb5 6 (by first | exact rfl | decide +kernel) rfl), (z_tb1 17 (by first | exact rfl | decide +kernel) rfl), ⟨by decide +kernel, by decide +kernel, by decide +kernel⟩, by decide⟩, (z_tb5 5 (by first | exact rfl | decide +kernel) rfl), (z_tblI 38 (by decide +kernel) rfl)⟩
theorem kL_43 : z_MV RL 43 mX10_quarrel 2 := ⟨⟨Or.inl (z_tb5 7 (by first | exact rfl | decide +kernel) rfl), (z_tb5 10 (by first | exact rfl | decide +kernel) rfl), (z_tb1 17 (by first | exact rfl | decide +kernel) rfl), ⟨by decide +kernel, by decide +kernel, by decide +kernel⟩, by decide⟩, (z_tb5 8 (by first | exact rfl | decide +kernel) rfl), (z_tb5 9 (by first | exact rfl | decide +kernel) rfl)⟩
theorem kX10_180 : z_MV RX10 180 mX10_areTwo 2 := ⟨⟨Or.inl (z_tb5 11 (by first | exact rfl | decide +kernel) rfl), (z_tb5 14 (by first | exact rfl | decide +kernel) rfl), (z_tb1 17 (by first | exact rfl | decide +kernel) rfl), ⟨by decide +kernel, by decide +kernel, by decide +kernel⟩, by decide⟩, (z_tb5 13 (by first | exact rfl | decide +kernel) rfl), (z_tblI 39 (by decide +kernel) rfl)⟩
theorem kL_47 : z_MV RL 47 mX10_woken 0 := ⟨⟨Or.inl (z_tb5 15 (by first | exact rfl | decide +kernel) rfl), (z_tb5 18 (by first | exact rfl | decide +kernel) rfl), (z_tb1 17 (by first | exact rfl | decide +kernel) rfl), ⟨by decide +kernel, by decide +kernel, by decide +kernel⟩, by decide⟩, (z_tb5 16 (by first | exact rfl | decide +kernel) rfl), (z_tb5 17 (by first | exact rfl | decide +kernel) rfl)⟩
theorem kL_51 : z_MV RL 51 mX10_pass 1 := ⟨⟨Or.inl (z_tb5 19 (by first | exact rfl | decide +kernel) rfl), (z_tb5 22 (by first | exact rfl | decide +kernel) rfl), (z_tb1 17 (by first | exact rfl | decide +kernel) rfl), ⟨by decide +kernel, by decide +kernel, by decide +kernel⟩, by decide⟩, (z_tb5 20 (by first | exact rfl | decide +kernel) rfl), (z_tb5 21 (by first | exact rfl | decide +kernel) rfl)⟩
theorem kX10_183 : z_MV RX10 183 mX10_note 0 := ⟨⟨Or.inl (z_tb5 23 (by first | exact rfl | decide +kernel) rfl), (z_tb5 26 (by first | exact rfl | decide +kernel) rfl), (z_tb1 17 (by first | exact rfl | decide +kernel) rfl), ⟨by decide +kernel, by decide +kernel, by decide +kernel⟩, by decide⟩, (z_tb5 25 (by first | exact rfl | decide +kernel) rfl), (z_tblI 40 (by decide +kernel) rfl)⟩
theorem kX10_186 : z_MV RX10 186 mX10_goBy 1 := ⟨⟨Or.inl (z_tb5 27 (by first | exact rfl | decide +kernel) rfl), (z_tb5 30 (by first | exact rfl | decide +kernel) rfl), (z_tb1 17 (by first | exact rfl | decide +kernel) rfl), ⟨by decide +kernel, by decide +kernel, by decide +kernel⟩, by decide⟩, (z_tb5 29 (by first | exact rfl | decide +kernel) rfl), (z_tblI 41 (by decide +kernel) rfl)⟩
theorem kL_55 : z_MV RL 55 mX10_supper 1 := ⟨⟨Or.inl (z_tb5 31 (by first | exact rfl | decide +kernel) rfl), (z_tb5 34 (by first | exact rfl | decide +kernel) rfl), (z_tb1 17 (by first | exact rfl | decide +kernel) rfl), ⟨by decide +kernel, by decide +kernel, by decide +kernel⟩, by decide⟩, (z_tb5 32 (by first | exact rfl | decide +kernel) rfl), (z_tb5 33 (by first | exact rfl | decide +kernel) rfl)⟩
theorem kL_59 : z_MV RL 59 mX10_settle 2 := ⟨⟨Or.inl (z_tb5 35 (by first | exact rfl | decide +kernel) rfl), (z_tb5 38 (by first | exact rfl | decide +kernel) rfl), (z_tb1 17 (by first | exact rfl | decide +kernel) rfl), ⟨by decide +kernel, by decide +kernel, by decide +kernel⟩, by decide⟩, (z_tb5 36 (by first | exact rfl | decide +kernel) rfl), (z_tb5 37 (by first | exact rfl | decide +kernel) rfl)⟩
theorem kL_63 : z_MV RL 63 mX10_lull 1 := ⟨⟨Or.inl (z_tb5 39 (by first | exact rfl | decide +kernel) rfl), (z_tb5 42 (by first | exact rfl | decide +kernel) rfl), (z_tb1 17 (by first | exact rfl | decide +kernel) rfl), ⟨by decide +kernel, by decide +kernel, by decide +kernel⟩, by decide⟩, (z_tb5 40 (by first | exact rfl | decide +kernel) rfl), (z_tb5 41 (by first | exact rfl | decide +kernel) rfl)⟩
theorem kL_67 : z_MV RL 67 mX10_undo 0 := ⟨⟨Or.inl (z_tb5 43 (by first | exact rfl | decide +kernel) rfl), (z_tb5 46 (by first | exact rfl | decide +kernel) rfl), (z_tb1 17 (by first | exact rfl | decide +kernel) rfl), ⟨by decide +kernel, by decide +kernel, by decide +kernel⟩, by decide⟩, (z_tb5 44 (by first | exact rfl | decide +kernel) rfl), (z_tb5 45 (by first | exact rfl | decide +kernel) rfl)⟩
theorem kL_71 : z_MV RL 71 mX10_behind 2 := ⟨⟨Or.inl (z_tb5 47 (by first | exact rfl | decide +kernel) rfl), (z_tb5 50 (by first | exact rfl | decide +kernel) rfl), (z_tb1 17 (by first | exact rfl | decide +kernel) rfl), ⟨by decide +kernel, by decide +kernel, by decide +kernel⟩, by decide⟩, (z_tb5 48 (by first | exact rfl | decide +kernel) rfl), (z_tb5 49 (by first | exact rfl | decide +kernel) rfl)⟩
theorem kX10_190 : z_MV RX10 190 mX10_begin 0 := ⟨⟨Or.inl (z_tb5 51 (by first | exact rfl | decide +kernel) rfl), (z_tb5 54 (by first | exact rfl | decide +kernel) rfl), (z_tb1 17 (by first | exact rfl | decide +kernel) rfl), ⟨by decide +kernel, by decide +kernel, by decide +kernel⟩, by decide⟩, (z_tb5 53 (by first | exact rfl | decide +kernel) rfl), (z_tblI 42 (by decide +kernel) rfl)⟩
theorem kL_75 : z_MV RL 75 mX10_ham 1 := ⟨⟨Or.inl (z_tb5 55 (by first | exact rfl | decide +kernel) rfl), (z_tb5 58 (by first | exact rfl | decide +kernel) rfl), (z_tb1 17 (by first | exact rfl | decide +kernel) rfl), ⟨by decide +kernel, by decide +kernel, by decide +kernel⟩, by decide⟩, (z_tb5 56 (by first | exact rfl | decide +kernel) rfl), (z_tb5 57 (by first | exact rfl | decide +kernel) rfl)⟩
theorem kL_79 : z_MV RL 79 mX10_suppers 1 := ⟨⟨Or.inl (z_tb5 59 (by first | exact rfl | decide +kernel) rfl), (z_tb5 62 (by first | exact rfl | decide +kernel) rfl), (z_tb1 17 (by first | exact rfl | decide +kernel) rfl), ⟨by decide +kernel, by decide +kernel, by decide +kernel⟩, by decide⟩, (z_tb5 60 (by first | exact rfl | decide +kernel) rfl), (z_tb5 61 (by first | exact rfl | decide +kernel) rfl)⟩
theorem kL_83 : z_MV RL 83 mX10_apart 2 := ⟨⟨Or.inl (z_tb5 63 (by first | exact rfl | decide +kernel) rfl), (z_tb5 66 (by first | exact rfl | decide +kernel) rfl), (z_tb1 17 (by first | exact rfl | decide +kernel) rfl), ⟨by decide +kernel, by decide +kernel, by decide +kernel⟩, by decide⟩, (z_tb5 64 (by first | exact rfl | decide +kernel) rfl), (z_tb5 65 (by first | exact rfl | decide +kernel) rfl)⟩
theorem kX10_193 : z_MV RX10 193 mX10_makeUp 1 := ⟨⟨Or.inl (z_tb5 67 (by first | exact rfl | decide +kernel) rfl), (z_tb5 70 (by first | exact rfl | decide +kernel) rfl), (z_tb1 17 (by first | exact rfl | decide +kernel) rfl), ⟨by decide +kernel, by decide +kernel, by decide +kernel⟩, by decide⟩, (z_tb5 69 (by first | exact rfl | decide +kernel) rfl), (z_tblI 43 (by decide +kernel) rfl)⟩
theorem kL_87 : z_MV RL 87 mX10_ask 1 := ⟨⟨Or.inl (z_tb5 71 (by first | exact rfl | decide +kernel) rfl), (z_tb5 74 (by first | exact rfl | decide +kernel) rfl), (z_tb1 17 (by first | exact rfl | decide +kernel) rfl), ⟨by decide +kernel, by decide +kernel, by decide +kernel⟩, by decide⟩, (z_tb5 72 (by first | exact rfl | decide +kernel) rfl), (z_tb5 73 (by first | exact rfl | decide +kernel) rfl)⟩
theorem kL_92 : z_MV RL 92 mX10_see 3 := ⟨⟨Or.inl (z_tb5 75 (by first | exact rfl | decide +kernel) rfl), (z_tb5 78 (by first | exact rfl | decide +kernel) rfl), (z_tb1 17 (by first | exact rfl | decide +kernel) rfl), ⟨by decide +kernel, by decide +kernel, by decide +kernel⟩, by decide⟩, (z_tb5 76 (by first | exact rfl | decide +kernel) rfl), (z_tb5 77 (by first | exact rfl | decide +kernel) rfl)⟩
theorem kL_96 : z_MV RL 96 mX10_forget 0 := ⟨⟨Or.inl (z_tb5 79 (by first | exact rfl | decide +kernel) rfl), (z_tb5 82 (by first | exact rfl | decide +kernel) rfl), (z_tb1 17 (by first | exact rfl | decide +kernel) rfl), ⟨by decide +kernel, by decide +kernel, by decide +kernel⟩, by decide⟩, (z_tb5 80 (by first | exact rfl | decide +kernel) rfl), (z_tb5 81 (by first | exact rfl | decide +kernel) rfl)⟩
theorem kL_100 : z_MV RL 100 mX10_law 2 := ⟨⟨Or.inl (z_tb5 83 (by first | exact rfl | decide +kernel) rfl), (z_tb5 86 (by first | exact rfl | decide +kernel) rfl), (z_tb1 17 (by first | exact rfl | decide +kernel) rfl), ⟨by decide +kernel, by decide +kernel, by decide +kernel⟩, by decide⟩, (z_tb5 84 (by first | exact rfl | decide +kernel) rfl), (z_tb5 85 (by first | exact rfl | decide +kernel) rfl)⟩
theorem kL_104 : z_MV RL 104 mX10_did 1 := ⟨⟨Or.inl (z_tb5 87 (by first | exact rfl | decide +kernel) rfl), (z_tb5 90 (by first | exact rfl | decide +kernel) rfl), (z_tb1 17 (by first | exact rfl | decide +kernel) rfl), ⟨by decide +kernel, by decide +kernel, by decide +kernel⟩, by decide⟩, (z_tb5 88 (by first | exact rfl | decide +kernel) rfl), (z_tb5 89 (by first | exact rfl | decide +kernel) rfl)⟩
theorem kL_109 : z_MV RL 109 mX10_dogs 3 := ⟨⟨Or.inl (z_tb5 91 (by first | exact rfl | decide +kernel) rfl), (z_tb5 94 (by first | exact rfl | decide +kernel) rfl), (z_tb1 17 (by first | exact rfl | decide +kernel) rfl), ⟨by decide +kernel, by decide +kernel, by decide +kernel⟩, by decide⟩, (z_tb5 92 (by first | exact rfl | decide +kernel) rfl), (z_tb5 93 (by first | exact rfl | decide +kernel) rfl)⟩
theorem kL_113 : z_MV RL 113 mX10_year 3 := ⟨⟨Or.inl (z_tb5 95 (by first | exact rfl | decide +kernel) rfl), (z_tb5 98 (by first | exact rfl | decide +kernel) rfl), (z_tb1 17 (by first | exact rfl | decide +kernel) rfl), ⟨by decide +kernel, by decide +kernel, by decide +kernel⟩, by decide⟩, (z_tb5 96 (by first | exact rfl | decide +kernel) rfl), (z_tb5 97 (by first | exact rfl | decide +kernel) rfl)⟩
theorem vX10_197 : Cond.constantLong RX10 197 (7919) ∈ z_tbl := (z_tb5 99 (by first | exact rfl | decide +kernel) rfl)
theorem vX10_199 : Cond.constantLong RX10 199 (6151) ∈ z_tbl := (z_tb5 100 (by first | exact rfl | decide +kernel) rfl)
theorem vX10_201 : Cond.constantLong RX10 201 (65521) ∈ z_tbl := (z_tb5 101 (by first | exact rfl | decide +kernel) rfl)
theorem vX10_203 : Cond.constantLong RX10 203 (2) ∈ z_tbl := (z_tb5 102 (by first | exact rfl | decide +kernel) rfl)
theorem kL_117 : z_MV RL 117 mX10_keep 0 := ⟨⟨Or.inl (z_tb5 103 (by first | exact rfl | decide +kernel) rfl), (z_tb5 106 (by first | exact rfl | decide +kernel) rfl), (z_tb1 17 (by first | exact rfl | decide +kernel) rfl), ⟨by decide +kernel, by decide +kernel, by decide +kernel⟩, by decide⟩, (z_tb5 104 (by first | exact rfl | decide +kernel) rfl), (z_tb5 105 (by first | exact rfl | decide +kernel) rfl)⟩
theorem kL_121 : z_MV RL 121 mX10_back 0 := ⟨⟨Or.inl (z_tb5 107 (by first | exact rfl | decide +kernel) rfl), (z_tb5 110 (by first | exact rfl | decide +kernel) rfl), (z_tb1 17 (by first | exact rfl | decide +kernel) rfl), ⟨by decide +kernel, by decide +kernel, by decide +kernel⟩, by decide⟩, (z_tb5 108 (by first | exact rfl | decide +kernel) rfl), (z_tb5 109 (by first | exact rfl | decide +kernel) rfl)⟩
theorem kL_125 : z_MV RL 125 mX10_count 1 := ⟨⟨Or.inl (z_tb5 111 (by first | exact rfl | decide +kernel) rfl), (z_tb5 114 (by first | exact rfl | decide +kernel) rfl), (z_tb1 17 (by first | exact rfl | decide +kernel) rfl), ⟨by decide +kernel, by decide +kernel, by decide +kernel⟩, by decide⟩, (z_tb5 112 (by first | exact rfl | decide +kernel) rfl), (z_tb5 113 (by first | exact rfl | decide +kernel) rfl)⟩
theorem o_inst : Cond.instanceMethod Lib.objectInit ∈ z_tbl := (z_tb1 24 (by first | exact rfl | decide +kernel) rfl)
theorem o_code : Cond.code Lib.objectInit ⟨#[0xb1]⟩ 1 none ∈ z_tbl := (z_tb1 25 (by first | exact rfl | decide +kernel) rfl)
theorem x_stat : Cond.static Lib.Math.max.name ∈ z_tbl := (z_tb2 162 (by first | exact rfl | decide +kernel) rfl)
theorem x_code : Cond.code Lib.Math.max.name Lib.Math.max.code 2 (some .int) ∈ z_tbl := (z_tb2 163 (by first | exact rfl | decide +kernel) rfl)
theorem x_init : Cond.initialized "java/lang/Math" ∈ z_tbl := (z_tb1 15 (by first | exact rfl | decide +kernel) rfl)
end
section
/-! THE LAYER: a world of numbered cells (id 0: the script; ids 1, 2, ..: the cells in the order of their making, at base, base + 1, ..), and the kit's walk over it with all that it carries put away. -/
/-- kinds (0: object of a class; 1: int row of a length; 2: row of States), numbers, references, how many -/
abbrev z_S : Type := (Nat → Nat × Nat) × (Nat → Nat → Int32) × (Nat → Nat → Option Nat) × Nat
def z_kd (S : z_S) : Nat → Nat × Nat := S.1
def z_I (S : z_S) : Nat → Nat → Int32 := S.2.1
def z_R (S : z_S) : Nat → Nat → Option Nat := S.2.2.1
def z_nx (S : z_S) : Nat := S.2.2.2
def z_u2 {α : Type} (f : Nat → Nat → α) (o k : Nat) (v : α) : Nat → Nat → α := fun o' k' => if o' = o ∧ k' = k then v else f o' k'
def z_pI (S : z_S) (o k : Nat) (v : Int32) : z_S := (S.1, z_u2 S.2.1 o k v, S.2.2)
def z_pR (S : z_S) (o k : Nat) (v : Option Nat) : z_S := (S.1, S.2.1, z_u2 S.2.2.1 o k v, S.2.2.2)
/-- a new cell: its numbers 0, its references null -/
def z_new (S : z_S) (q : Nat × Nat) : z_S := (fun o => if o = S.2.2.2 + 4 then q else S.1 o, fun o k => if o = S.2.2.2 + 4 then 0 else S.2.1 o k, fun o k => if o = S.2.2.2 + 4 then none else S.2.2.1 o k, S.2.2.2 + 1)
/-- launch, the tables' numbers, the int rows' class, the State rows' class, base; the four old cells that are spoken of (script, text, its bytes, a formatter); the heap at the law's entry -/
abbrev z_U : Type := Launch × va_G × ClassId × ClassId × Nat × (Nat → Nat) × Heap
def z_base (g : z_U) : Nat := g.2.2.2.2.1
def z_old (g : z_U) : Nat → Nat := g.2.2.2.2.2.1
def z_H0 (g : z_U) : Heap := g.2.2.2.2.2.2
def z_ad (g : z_U) (o : Nat) : Nat := match o with
  | 0 => z_old g 0
  | 1 => z_old g 1
  | 2 => z_old g 2
  | 3 => z_old g 3
  | k + 4 => z_base g + k
def z_val (g : z_U) (v : Value) : Value := match v with
  | .ref o => .ref (z_ad g o)
  | w => w
def z_n (ci : Nat) : Nat := match z_cl[ci]? with
  | some q => q.2.2
  | none => 0
def z_isI (ci k : Nat) : Bool := match z_cl[ci]? with
  | some q => (q.2.1 k).2.2.1 == "I"
  | none => false
def z_fld (g : z_U) (S : z_S) (ci o k : Nat) : Value := if z_isI ci k = true then .int (z_I S o k) else va_rf ((z_R S o k).map (z_ad g))
def z_ent (g : z_U) (S : z_S) (o : Nat) : va_E := match z_kd S o with
  | (0, ci) => .inr (ci, (List.range (z_n ci)).map (z_fld g S ci o))
  | (1, n) => .inl (g.2.2.1, n, .inl (z_I S o))
  | (_, n) => .inl (g.2.2.2.1, n, .inr (.inr (.inr (.inr (fun j => (z_R S o j).map (z_ad g))))))
def z_ws (g : z_U) (S : z_S) : va_W := (List.range (z_nx S)).map (fun k => (z_ad g (k + 4), z_ent g S (k + 4)))
def z_A (g : z_U) : Nat → Prop := fun q => z_base g ≤ q
def z_Wd (g : z_U) (S : z_S) (H : Heap) : Prop := H.size = z_base g + z_nx S ∧ va_P g.2.1 z_cl (z_ws g S) H ∧ ∀ q : Nat, q < z_base g → H[q]? = (z_H0 g)[q]?
abbrev z_tys (g : z_U) : List (ClassId × FieldType) := [(g.2.2.1, .int), (g.2.2.2.1, .object RX7)]
/-- what is known of the one text, and of three statics -/
def z_tx : String := "s0,1,2,0;s1,2,3,1;s2,1,1,0;s3,4,2,1;s0,2,4,2;q0,2;q1,3;c0,1,0,12;c0,2,1,5;c1,4,2,30;c1,1,1,8;c2,2,0,9;c3,4,3,20;c4,1,2,15;h5;"
def z_by : List Int32 := (z_tx.toUTF8.toList).map (fun c => c.toUInt32.toInt32)
def z_KS (g : z_U) (U : State) : Prop := vk_R RX9 80 z_tx (z_old g 1) U ∧ vk_S 1 [125] [z_by] (fun _ => z_old g 1) (fun _ => z_old g 2) (z_A g) U (z_H0 g) ∧ va_Z RJ0 "COMPACT_STRINGS" "Z" (.int 1) (z_A g) U (z_H0 g) ∧ (va_Z RJ3 "SIOOBE_FORMATTER" "Ljava/util/function/BiFunction;" .null (z_A g) U (z_H0 g) ∨ va_Z RJ3 "SIOOBE_FORMATTER" "Ljava/util/function/BiFunction;" (.ref (z_old g 3)) (z_A g) U (z_H0 g))
def z_Kn (g : z_U) (U : State) : Prop := va_K g.2.1 z_cl (z_tys g) U ∧ (∀ w ∈ z_nst, va_Nw w U) ∧ va_AO RX7 U ∧ z_KS g U
theorem z_KS.moved {g : z_U} {s U : State} (hA : s.vm.Alike U.vm) (hR : vk_R RX9 80 z_tx (z_old g 1) U) (h : z_KS g s) : z_KS g U :=
  ⟨hR, vk_S.moved hA h.2.1, va_Z.moved hA h.2.2.1, h.2.2.2.imp (fun q => va_Z.moved hA q) (fun q => va_Z.moved hA q)⟩
theorem z_Kn.warm {g : z_U} {s U : State} (hW : s.WarmedH U.vm) (h : z_Kn g s) : z_Kn g U := by
  refine ⟨va_K.moved hW.alike h.1, fun w hw => ?_, va_AO.moved hW.alike h.2.2.1, z_KS.moved hW.alike (vk_R.warm hW h.2.2.2.1) h.2.2.2⟩
  have hn := (List.mem_filter.mp hw).2
  have hk := h.2.1 w hw
  cases w with
  | fieldLinkNest a i b n d q => exact va_Nw.warmF hW hk
  | methodLinkNest a i x q => exact va_Nw.warmM hW hk
  | _ => simp [z_isNest] at hn
theorem z_Kn.same {g : z_U} {s U : State} (hv : s.vm = U.vm) (h : z_Kn g s) : z_Kn g U := by
  have hA : s.vm.Alike U.vm := by rw [hv]; exact Vm.Alike.refl _
  refine ⟨va_K.moved hA h.1, fun w hw => ?_, va_AO.moved hA h.2.2.1, z_KS.moved hA (vk_R.same hv.symm h.2.2.2.1) h.2.2.2⟩
  have hn := (List.mem_filter.mp hw).2
  have hk := h.2.1 w hw
  cases w with
  | fieldLinkNest a i b n d q => exact va_Nw.same rfl hv hk
  | methodLinkNest a i x q => exact va_Nw.same rfl hv hk
  | _ => simp [z_isNest] at hn
/-- a cell of a kind -/
def z_is (S : z_S) (o : Nat) (q : Nat × Nat) : Prop := z_kd S o = q ∧ 4 ≤ o ∧ o < z_nx S + 4
theorem z_ws_len (g : z_U) (S : z_S) : (z_ws g S).length = z_nx S := by simp [z_ws]
theorem z_ws_at {g : z_U} {S : z_S} {k : Nat} (h : k < z_nx S) : (z_ws g S)[k]? = some (z_ad g (k + 4), z_ent g S (k + 4)) := by
  simp [z_ws, List.getElem?_map, List.getElem?_range h]
theorem z_ws_of {g : z_U} {S : z_S} {k : Nat} {q : Nat × va_E} (h : (z_ws g S)[k]? = some q) : k < z_nx S ∧ q = (z_ad g (k + 4), z_ent g S (k + 4)) := by
  have hl : k < z_nx S := by rw [← z_ws_len g S]; exact (List.getElem?_eq_some_iff.mp h).1
  exact ⟨hl, (Option.some.inj ((z_ws_at hl).symm.trans h)).symm⟩
theorem z_ws_o {g : z_U} {S : z_S} {o : Nat} {q : Nat × Nat} (h : z_is S o q) : (z_ws g S)[o - 4]? = some (z_ad g o, z_ent g S o) := by
  obtain ⟨-, h1, h2⟩ := h
  have := z_ws_at (g := g) (S := S) (k := o - 4) (by omega)
  rwa [show o - 4 + 4 = o by omega] at this
theorem z_D (g : z_U) (S : z_S) : va_D (z_A g) (z_ws g S) := by
  refine ⟨fun i j p q hi hj he => ?_, fun k q hk => ?_⟩
  · obtain ⟨-, rfl⟩ := z_ws_of hi
    obtain ⟨-, rfl⟩ := z_ws_of hj
    simp only [z_ad] at he
    omega
  · obtain ⟨-, rfl⟩ := z_ws_of hk
    show z_base g ≤ z_base g + k
    omega
/-- one cell set: the world of the new store -/
theorem z_ws_set {g : z_U} {S S' : z_S} {o : Nat} (h1 : 4 ≤ o) (h2 : o < z_nx S + 4) (hn : z_nx S' = z_nx S) (hoff : ∀ q, q ≠ o → z_ent g S' q = z_ent g S q) : (z_ws g S).set (o - 4) (z_ad g o, z_ent g S' o) = z_ws g S' := by
  apply List.ext_getElem?
  intro k
  by_cases hk : k = o - 4
  · subst hk
    rw [List.getElem?_set_self (by rw [z_ws_len]; omega), z_ws_at (by omega), show o - 4 + 4 = o by omega]
  · rw [List.getElem?_set_ne (Ne.symm hk)]
    by_cases hl : k < z_nx S
    · rw [z_ws_at hl, z_ws_at (by omega), hoff (k + 4) (by omega)]
    · rw [List.getElem?_eq_none (by rw [z_ws_len]; omega), List.getElem?_eq_none (by rw [z_ws_len]; omega)]
theorem z_ent_obj {g : z_U} {S : z_S} {o ci : Nat} (h : z_kd S o = (0, ci)) : z_ent g S o = .inr (ci, (List.range (z_n ci)).map (z_fld g S ci o)) := by
  unfold z_ent; rw [h]; rfl
theorem z_ent_row {g : z_U} {S : z_S} {o n : Nat} (h : z_kd S o = (1, n)) : z_ent g S o = .inl (g.2.2.1, n, .inl (z_I S o)) := by
  unfold z_ent; rw [h]; rfl
theorem z_ent_refs {g : z_U} {S : z_S} {o n : Nat} (h : z_kd S o = (2, n)) : z_ent g S o = .inl (g.2.2.2.1, n, .inr (.inr (.inr (.inr (fun j => (z_R S o j).map (z_ad g)))))) := by
  unfold z_ent; rw [h]; rfl
/-- the other cells don't see a put -/
theorem z_ent_pI {g : z_U} {S : z_S} {o k q : Nat} {v : Int32} (h : q ≠ o) : z_ent g (z_pI S o k v) q = z_ent g S q := by
  have hI : z_I (z_pI S o k v) q = z_I S q := by
    funext j
    simp [z_I, z_pI, z_u2, h]
  unfold z_ent
  have e1 : z_kd (z_pI S o k v) q = z_kd S q := rfl
  rw [e1, hI]
  have e2 : z_fld g (z_pI S o k v) = fun ci q' k' => if z_isI ci k' = true then .int (z_I (z_pI S o k v) q' k') else va_rf ((z_R S q' k').map (z_ad g)) := rfl
  have e3 : ∀ ci, z_fld g (z_pI S o k v) ci q = z_fld g S ci q := by
    intro ci
    funext j
    simp only [z_fld]
    rw [hI]
    rfl
  have e4 : z_R (z_pI S o k v) q = z_R S q := rfl
  simp only [e3, e4]
theorem z_ent_pR {g : z_U} {S : z_S} {o k q : Nat} {v : Option Nat} (h : q ≠ o) : z_ent g (z_pR S o k v) q = z_ent g S q := by
  have hI : z_R (z_pR S o k v) q = z_R S q := by
    funext j
    simp [z_R, z_pR, z_u2, h]
  unfold z_ent
  have e1 : z_kd (z_pR S o k v) q = z_kd S q := rfl
  have e3 : ∀ ci, z_fld g (z_pR S o k v) ci q = z_fld g S ci q := by
    intro ci
    funext j
    simp only [z_fld]
    rw [hI]
    rfl
  have e4 : z_I (z_pR S o k v) q = z_I S q := rfl
  rw [e1, hI, e4]
  simp only [e3]
theorem z_fs_setI {g : z_U} {S : z_S} {ci o k : Nat} {v : Int32} (hk : k < z_n ci) (hi : z_isI ci k = true) : ((List.range (z_n ci)).map (z_fld g S ci o)).set k (.int v) = (List.range (z_n ci)).map (z_fld g (z_pI S o k v) ci o) := by
  apply List.ext_getElem?
  intro j
  by_cases hj : j = k
  · subst hj
    rw [List.getElem?_set_self (by simpa using hk)]
    simp [List.getElem?_map, List.getElem?_range hk, z_fld, hi, z_I, z_pI, z_u2]
  · rw [List.getElem?_set_ne (Ne.symm hj)]
    by_cases hl : j < z_n ci
    · simp [List.getElem?_map, List.getElem?_range hl, z_fld, z_I, z_pI, z_u2, hj, z_R]
    · simp [List.getElem?_map, List.getElem?_eq_none, hl]
theorem z_fs_setR {g : z_U} {S : z_S} {ci o k : Nat} {v : Option Nat} (hk : k < z_n ci) (hi : z_isI ci k = false) : ((List.range (z_n ci)).map (z_fld g S ci o)).set k (va_rf (v.map (z_ad g))) = (List.range (z_n ci)).map (z_fld g (z_pR S o k v) ci o) := by
  apply List.ext_getElem?
  intro j
  by_cases hj : j = k
  · subst hj
    rw [List.getElem?_set_self (by simpa using hk)]
    simp [List.getElem?_map, List.getElem?_range hk, z_fld, hi, z_R, z_pR, z_u2]
  · rw [List.getElem?_set_ne (Ne.symm hj)]
    by_cases hl : j < z_n ci
    · simp [List.getElem?_map, List.getElem?_range hl, z_fld, z_I, z_pR, z_u2, hj, z_R]
    · simp [List.getElem?_map, List.getElem?_eq_none, hl]
theorem z_setI {g : z_U} {S : z_S} {ci o k : Nat} {v : Int32} (h : z_is S o (0, ci)) (hk : k < z_n ci) (hi : z_isI ci k = true) : (z_ws g S).set (o - 4) (z_ad g o, .inr (ci, ((List.range (z_n ci)).map (z_fld g S ci o)).set k (.int v))) = z_ws g (z_pI S o k v) := by
  rw [z_fs_setI hk hi, ← z_ent_obj (g := g) (S := z_pI S o k v) (o := o) h.1]
  exact z_ws_set h.2.1 h.2.2 rfl (fun q hq => z_ent_pI hq)
theorem z_setR {g : z_U} {S : z_S} {ci o k : Nat} {v : Option Nat} (h : z_is S o (0, ci)) (hk : k < z_n ci) (hi : z_isI ci k = false) : (z_ws g S).set (o - 4) (z_ad g o, .inr (ci, ((List.range (z_n ci)).map (z_fld g S ci o)).set k (va_rf (v.map (z_ad g))))) = z_ws g (z_pR S o k v) := by
  rw [z_fs_setR hk hi, ← z_ent_obj (g := g) (S := z_pR S o k v) (o := o) h.1]
  exact z_ws_set h.2.1 h.2.2 rfl (fun q hq => z_ent_pR hq)
theorem z_setA {g : z_U} {S : z_S} {n o k : Nat} {v : Int32} (h : z_is S o (1, n)) : (z_ws g S).set (o - 4) (z_ad g o, .inl (g.2.2.1, n, .inl (upd (z_I S o) k v))) = z_ws g (z_pI S o k v) := by
  have e : upd (z_I S o) k v = z_I (z_pI S o k v) o := by
    funext j
    simp [upd, z_I, z_pI, z_u2]
  rw [e, ← z_ent_row (g := g) (S := z_pI S o k v) (o := o) h.1]
  exact z_ws_set h.2.1 h.2.2 rfl (fun q hq => z_ent_pI hq)
theorem z_setQ {g : z_U} {S : z_S} {n o k : Nat} {v : Option Nat} (h : z_is S o (2, n)) : (z_ws g S).set (o - 4) (z_ad g o, .inl (g.2.2.2.1, n, .inr (.inr (.inr (.inr (va_up (fun j => (z_R S o j).map (z_ad g)) k (v.map (z_ad g)))))))) = z_ws g (z_pR S o k v) := by
  have e : va_up (fun j => (z_R S o j).map (z_ad g)) k (v.map (z_ad g)) = fun j => (z_R (z_pR S o k v) o j).map (z_ad g) := by
    funext j
    by_cases hj : j = k <;> simp [va_up, z_R, z_pR, z_u2, hj]
  rw [e, ← z_ent_refs (g := g) (S := z_pR S o k v) (o := o) h.1]
  exact z_ws_set h.2.1 h.2.2 rfl (fun q hq => z_ent_pR hq)
/-- locals by their places -/
def z_as (g : z_U) (ls : List (Option Value)) : List (Nat × Value) := (List.range ls.length).filterMap (fun k => match ls[k]? with
  | some (some v) => some (k, z_val g v)
  | _ => none)
theorem z_as_mem {g : z_U} {ls : List (Option Value)} {q : Nat × Value} : q ∈ z_as g ls ↔ ∃ v, ls[q.1]? = some (some v) ∧ q.2 = z_val g v := by
  unfold z_as
  rw [List.mem_filterMap]
  constructor
  · rintro ⟨k, hk, h⟩
    split at h
    next v hv => cases h; exact ⟨v, hv, rfl⟩
    next => cases h
  · rintro ⟨v, h1, h2⟩
    refine ⟨q.1, List.mem_range.mpr (List.getElem?_eq_some_iff.mp h1).1, ?_⟩
    rw [h1]
    show some (q.1, z_val g v) = some q
    rw [← h2]
theorem z_cat {g : z_U} {v : Value} : (z_val g v).category = v.category := by cases v <;> rfl
def z_has (g : z_U) (ls : List (Option Value)) (Ls : Array Slot) (nL : Nat) : Prop := ls.length = nL ∧ lv_has Ls nL (z_as g ls)
theorem z_has.at {g : z_U} {ls : List (Option Value)} {Ls : Array Slot} {nL i : Nat} {v : Value} (h : z_has g ls Ls nL) (hi : ls[i]? = some (some v)) : Ls[i]? = some (.val (z_val g v)) := h.2.2.2 (i, z_val g v) (z_as_mem.mpr ⟨v, hi, rfl⟩)
/-- the local ahead isn't a long -/
def z_ok1 (ls : List (Option Value)) (i : Nat) : Bool := match i with
  | 0 => true
  | j + 1 => match ls[j]? with
    | some (some (.long _)) => false
    | some (some (.double _)) => false
    | _ => true
theorem z_ok1_cat {ls : List (Option Value)} {j i : Nat} {v : Value} (h : z_ok1 ls i = true) (hj : j + 1 = i) (hv : ls[j]? = some (some v)) : ¬ v.category = 2 := by
  subst hj
  simp only [z_ok1, hv] at h
  cases v <;> simp_all [Value.category]
theorem z_has.set1 {g : z_U} {ls : List (Option Value)} {Ls : Array Slot} {nL i : Nat} {v : Value} (hlen : ls.length = nL) (hok : z_ok1 ls i = true) (hc : v.category = 1)
    (h : lv_has Ls nL ((i, z_val g v) :: (z_as g ls).filter (fun q => !(q.1 == i) && !(q.1 + 1 == i && q.2.category == 2)))) : z_has g (ls.set i (some v)) Ls nL := by
  refine ⟨by simpa using hlen, h.1, h.2.1, fun q hq => h.2.2 q ?_⟩
  obtain ⟨w, h1, h2⟩ := z_as_mem.mp hq
  by_cases hqi : q.1 = i
  · rw [hqi, List.getElem?_set] at h1
    split at h1
    · split at h1
      · cases h1
        rw [show q = (i, z_val g v) from Prod.ext hqi h2]
        exact List.mem_cons_self
      · cases h1
    · next hne => exact absurd rfl hne
  · rw [List.getElem?_set_ne (Ne.symm hqi)] at h1
    refine List.mem_cons_of_mem _ (List.mem_filter.mpr ⟨z_as_mem.mpr ⟨w, h1, h2⟩, ?_⟩)
    have h3 : ¬ (q.1 + 1 = i ∧ q.2.category = 2) := by
      rintro ⟨e1, e2⟩
      rw [h2, z_cat] at e2
      exact z_ok1_cat hok e1 h1 e2
    simp only [Bool.and_eq_true, Bool.not_eq_true', beq_eq_false_iff_ne, ne_eq, Bool.and_eq_false_iff]
    refine ⟨hqi, ?_⟩
    by_cases e : q.1 + 1 = i
    · exact Or.inr (fun z => h3 ⟨e, z⟩)
    · exact Or.inl e
theorem z_has.set2 {g : z_U} {ls : List (Option Value)} {Ls : Array Slot} {nL i : Nat} {v : Value} (hlen : ls.length = nL) (hok : z_ok1 ls i = true) (hc : v.category = 2)
    (h : lv_has Ls nL ((i, z_val g v) :: (z_as g ls).filter (fun q => !(q.1 == i) && (!(q.1 == i + 1) && !(q.1 + 1 == i && q.2.category == 2))))) : z_has g ((ls.set i (some v)).set (i + 1) none) Ls nL := by
  refine ⟨by simpa using hlen, h.1, h.2.1, fun q hq => h.2.2 q ?_⟩
  obtain ⟨w, h1, h2⟩ := z_as_mem.mp hq
  by_cases hq1 : q.1 = i + 1
  · rw [hq1, List.getElem?_set] at h1
    split at h1
    · split at h1 <;> simp at h1
    · next hne => exact absurd rfl hne
  rw [List.getElem?_set_ne (Ne.symm hq1)] at h1
  by_cases hqi : q.1 = i
  · rw [hqi, List.getElem?_set] at h1
    split at h1
    · split at h1
      · cases h1
        rw [show q = (i, z_val g v) from Prod.ext hqi h2]
        exact List.mem_cons_self
      · cases h1
    · next hne => exact absurd rfl hne
  · rw [List.getElem?_set_ne (Ne.symm hqi)] at h1
    refine List.mem_cons_of_mem _ (List.mem_filter.mpr ⟨z_as_mem.mpr ⟨w, h1, h2⟩, ?_⟩)
    have h3 : ¬ (q.1 + 1 = i ∧ q.2.category = 2) := by
      rintro ⟨e1, e2⟩
      rw [h2, z_cat] at e2
      exact z_ok1_cat hok e1 h1 e2
    simp only [Bool.and_eq_true, Bool.not_eq_true', beq_eq_false_iff_ne, ne_eq, Bool.and_eq_false_iff]
    refine ⟨hqi, hq1, ?_⟩
    by_cases e : q.1 + 1 = i
    · exact Or.inr (fun z => h3 ⟨e, z⟩)
    · exact Or.inl e
end
section
/-! THE WALK over numbered cells: what stays for a method's whole body is put into one bundle. -/
abbrev z_X : Type := Program × Env × Room × State × MethodId × Array Value × List Frame × Method × Code × (State → Prop) × Nat
def z_Xp (X : z_X) : Program := X.1
def z_Xe (X : z_X) : Env := X.2.1
def z_XR (X : z_X) : Room := X.2.2.1
def z_Xs (X : z_X) : State := X.2.2.2.1
def z_Xm (X : z_X) : MethodId := X.2.2.2.2.1
def z_Xa (X : z_X) : Array Value := X.2.2.2.2.2.1
def z_Xb (X : z_X) : List Frame := X.2.2.2.2.2.2.1
def z_Xh (X : z_X) : Method := X.2.2.2.2.2.2.2.1
def z_Xc (X : z_X) : Code := X.2.2.2.2.2.2.2.2.1
def z_XQ (X : z_X) : State → Prop := X.2.2.2.2.2.2.2.2.2.1
def z_XL (X : z_X) : Nat := X.2.2.2.2.2.2.2.2.2.2
def z_W (g : z_U) (X : z_X) (pc : Nat) (ls : List (Option Value)) (st : List Value) (cl sl : Nat) (S : z_S) : Prop :=
  ∀ (H : Heap) (locs : List Loc) (Ls : Array Slot), z_Wd g S H → va_S (z_A g) (z_Xs X).heap H locs → z_has g ls Ls (z_XL X) →
    W (z_Xp X) g.1 (z_Xe X) (z_XR X) (z_Xs X) (z_Xm X) (z_Xa X) (z_Xb X) (z_Xh X) (z_Xc X) H locs cl sl (z_XQ X) (F0 (z_Xm X) pc Ls (st.map (z_val g)))
def z_B (g : z_U) (X : z_X) (own : String) (cc : ByteArray) (nL : Nat) : Prop :=
  (z_Xp X).tables.exec = Jvm.exec ∧ (z_Xc X).code = cc ∧ (z_Xc X).maxLocals = nL ∧ (z_Xs X).vm.findClass own = some (z_Xm X).cls ∧ (∀ w ∈ z_tbl, w.before (z_Xa X) (z_Xs X) = true) ∧ z_Kn g (z_Xs X) ∧ z_base g ≤ (z_Xs X).heap.size ∧ z_XL X = nL
/-- written numbers, as numerals -/
def z_k1 {α : Type} (n : Int) (f : Int32 → α) (h : Int32) : α := match n with
  | .ofNat m => match m with
    | 0 => f 0
    | 1 => f 1
    | 2 => f 2
    | 3 => f 3
    | 4 => f 4
    | 5 => f 5
    | _ => f h
  | .negSucc m => match m with
    | 0 => f (-1)
    | _ => f h
def z_k2 {α : Type} (n : Int) (f : Int32 → α) (h : Int32) : α := match n with
  | .ofNat m => match m with
    | 6 => f 6
    | 7 => f 7
    | 8 => f 8
    | 9 => f 9
    | 10 => f 10
    | 11 => f 11
    | 12 => f 12
    | 13 => f 13
    | 14 => f 14
    | 15 => f 15
    | 16 => f 16
    | 17 => f 17
    | 20 => f 20
    | 24 => f 24
    | 28 => f 28
    | 30 => f 30
    | 31 => f 31
    | 32 => f 32
    | 34 => f 34
    | 40 => f 40
    | 44 => f 44
    | 48 => f 48
    | 57 => f 57
    | 59 => f 59
    | 60 => f 60
    | 63 => f 63
    | 99 => f 99
    | 100 => f 100
    | 104 => f 104
    | 113 => f 113
    | 115 => f 115
    | 119 => f 119
    | 126 => f 126
    | _ => f h
  | .negSucc m => match m with
    | 3 => f (-4)
    | 2 => f (-3)
    | 1 => f (-2)
    | _ => f h
def z_k3 {α : Type} (n : Int) (f : Int32 → α) (h : Int32) : α := match n with
  | .ofNat m => match m with
    | 136 => f 136
    | 200 => f 200
    | 255 => f 255
    | 9999 => f 9999
    | _ => f h
  | .negSucc _ => f h
theorem z_k1_eq {α : Type} (n : Int) (f : Int32 → α) : z_k1 n f (Int32.ofInt n) = f (Int32.ofInt n) := by
  unfold z_k1
  split
  · split <;> rfl
  · split <;> rfl
theorem z_k2_eq {α : Type} (n : Int) (f : Int32 → α) : z_k2 n f (Int8.ofInt n).toInt32 = f (Int8.ofInt n).toInt32 := by
  unfold z_k2
  split
  · split <;> rfl
  · first | (split <;> rfl) | rfl
theorem z_k3_eq {α : Type} (n : Int) (f : Int32 → α) : z_k3 n f (Int16.ofInt n).toInt32 = f (Int16.ofInt n).toInt32 := by
  unfold z_k3
  split
  · split <;> rfl
  · first | (split <;> rfl) | rfl
/-- one instruction on stack and locals -/
def z_sx (ins : Instr) (ls : List (Option Value)) (st : List Value) : Option (List (Option Value) × List Value) :=
  match ins with
  | .iconst n => z_k1 n (fun v => some (ls, .int v :: st)) (Int32.ofInt n)
  | .bipush n => z_k2 n (fun v => some (ls, .int v :: st)) (Int8.ofInt n).toInt32
  | .sipush n => z_k3 n (fun v => some (ls, .int v :: st)) (Int16.ofInt n).toInt32
  | .lconst n => some (ls, .long (Int64.ofNat (n : Nat)) :: st)
  | .iload_n k => match ls[(k : Nat)]? with
    | some (some (.int x)) => some (ls, .int x :: st)
    | _ => none
  | .iload k => match ls[k]? with
    | some (some (.int x)) => some (ls, .int x :: st)
    | _ => none
  | .aload_n k => match ls[(k : Nat)]? with
    | some (some (.ref x)) => some (ls, .ref x :: st)
    | _ => none
  | .aload k => match ls[k]? with
    | some (some (.ref x)) => some (ls, .ref x :: st)
    | _ => none
  | .lload_n k => match ls[(k : Nat)]? with
    | some (some (.long x)) => some (ls, .long x :: st)
    | _ => none
  | .lload k => match ls[k]? with
    | some (some (.long x)) => some (ls, .long x :: st)
    | _ => none
  | .istore_n k => match st with
    | .int x :: r => if (z_ok1 ls k && decide ((k : Nat) < ls.length)) = true then some (ls.set k (some (.int x)), r) else none
    | _ => none
  | .istore k => match st with
    | .int x :: r => if (z_ok1 ls k && decide ((k : Nat) < ls.length)) = true then some (ls.set k (some (.int x)), r) else none
    | _ => none
  | .astore_n k => match st with
    | .ref x :: r => if (z_ok1 ls k && decide ((k : Nat) < ls.length)) = true then some (ls.set k (some (.ref x)), r) else none
    | _ => none
  | .astore k => match st with
    | .ref x :: r => if (z_ok1 ls k && decide ((k : Nat) < ls.length)) = true then some (ls.set k (some (.ref x)), r) else none
    | _ => none
  | .lstore_n k => match st with
    | .long x :: r => if (z_ok1 ls k && decide (k + 1 < ls.length)) = true then some ((ls.set k (some (.long x))).set (k + 1) none, r) else none
    | _ => none
  | .lstore k => match st with
    | .long x :: r => if (z_ok1 ls k && decide (k + 1 < ls.length)) = true then some ((ls.set k (some (.long x))).set (k + 1) none, r) else none
    | _ => none
  | .iinc k n => match ls[k]? with
    | some (some (.int x)) => if (z_ok1 ls k && decide ((k : Nat) < ls.length)) = true then z_k1 n (fun v => some (ls.set k (some (.int (x + v))), st)) (Int32.ofInt n) else none
    | _ => none
  | .iadd => match st with
    | .int y :: .int x :: r => some (ls, .int (x + y) :: r)
    | _ => none
  | .isub => match st with
    | .int y :: .int x :: r => some (ls, .int (x - y) :: r)
    | _ => none
  | .imul => match st with
    | .int y :: .int x :: r => some (ls, .int (x * y) :: r)
    | _ => none
  | .iand => match st with
    | .int y :: .int x :: r => some (ls, .int (x &&& y) :: r)
    | _ => none
  | .ior => match st with
    | .int y :: .int x :: r => some (ls, .int (x ||| y) :: r)
    | _ => none
  | .ixor => match st with
    | .int y :: .int x :: r => some (ls, .int (x ^^^ y) :: r)
    | _ => none
  | .ishl => match st with
    | .int y :: .int x :: r => some (ls, .int (x <<< (y &&& 31)) :: r)
    | _ => none
  | .ishr => match st with
    | .int y :: .int x :: r => some (ls, .int (x >>> (y &&& 31)) :: r)
    | _ => none
  | .iushr => match st with
    | .int y :: .int x :: r => some (ls, .int (x.toUInt32 >>> (y.toUInt32 &&& Int32.toUInt32 31)).toInt32 :: r)
    | _ => none
  | .ladd => match st with
    | .long y :: .long x :: r => some (ls, .long (x + y) :: r)
    | _ => none
  | .lmul => match st with
    | .long y :: .long x :: r => some (ls, .long (x * y) :: r)
    | _ => none
  | .i2l => match st with
    | .int x :: r => some (ls, .long x.toInt64 :: r)
    | _ => none
  | .l2i => match st with
    | .long x :: r => some (ls, .int x.toInt32 :: r)
    | _ => none
  | .dup => match st with
    | .int x :: r => some (ls, .int x :: .int x :: r)
    | .ref x :: r => some (ls, .ref x :: .ref x :: r)
    | _ => none
  | .pop => match st with
    | .int x :: r => some (ls, r)
    | .ref x :: r => some (ls, r)
    | _ => none
  | .dup2 => match st with
    | .int y :: .ref x :: r => some (ls, .int y :: .ref x :: .int y :: .ref x :: r)
    | .long x :: r => some (ls, .long x :: .long x :: r)
    | _ => none
  | _ => none
def z_len (ins : Instr) : Nat := match ins with
  | .iload _ | .istore _ | .aload _ | .astore _ | .lload _ | .lstore _ | .bipush _ => 2
  | .sipush _ | .iinc _ _ => 3
  | _ => 1
section ZW
variable {g : z_U} {X : z_X} {own : String} {cc : ByteArray} {nL pc : Nat} {ls ls' : List (Option Value)} {st st' : List Value} {cl sl : Nat} {S : z_S}
set_option maxHeartbeats 4000000 in
theorem z_s (n : Nat) {ins : Instr} (hB : z_B g X own cc nL) (hd : decode cc pc = .ok (ins, z_len ins)) (hs : z_sx ins ls st = some (ls', st')) (hn : pc + z_len ins = n)
    (k : z_W g X n ls' st' cl sl S) : z_W g X pc ls st cl sl S := by
  obtain ⟨hx, hb, hml, -⟩ := hB
  subst hn
  intro H locs Ls hW hS hh
  have hlen := hh.1
  cases ins with
  | iconst n =>
    simp only [z_sx, z_k1_eq] at hs
    cases hs
    exact lv_iconst hx hb hd rfl (k H locs Ls hW hS hh)
  | bipush n =>
    simp only [z_sx, z_k2_eq] at hs
    cases hs
    exact lv_bipush hx hb hd rfl (k H locs Ls hW hS hh)
  | sipush n =>
    simp only [z_sx, z_k3_eq] at hs
    cases hs
    exact lv_sipush hx hb hd rfl (k H locs Ls hW hS hh)
  | lconst n =>
    simp only [z_sx] at hs
    cases hs
    exact lv_lconst hx hb hd rfl (k H locs Ls hW hS hh)
  | iload_n q =>
    simp only [z_sx] at hs
    split at hs
    next x hx' => cases hs; exact lv_iload_n hx hb hd rfl (hh.at hx') (k H locs Ls hW hS hh)
    next => cases hs
  | iload q =>
    simp only [z_sx] at hs
    split at hs
    next x hx' => cases hs; exact lv_iload hx hb hd (hh.at hx') (k H locs Ls hW hS hh)
    next => cases hs
  | aload_n q =>
    simp only [z_sx] at hs
    split at hs
    next x hx' => cases hs; exact lv_aload_n hx hb hd rfl (hh.at hx') (k H locs Ls hW hS hh)
    next => cases hs
  | aload q =>
    simp only [z_sx] at hs
    split at hs
    next x hx' => cases hs; exact lv_aload hx hb hd (hh.at hx') (k H locs Ls hW hS hh)
    next => cases hs
  | lload_n q =>
    simp only [z_sx] at hs
    split at hs
    next x hx' => cases hs; exact lv_lload_n hx hb hd rfl (hh.at hx') (k H locs Ls hW hS hh)
    next => cases hs
  | lload q =>
    simp only [z_sx] at hs
    split at hs
    next x hx' => cases hs; exact lv_lload hx hb hd (hh.at hx') (k H locs Ls hW hS hh)
    next => cases hs
  | istore_n q =>
    simp only [z_sx] at hs
    split at hs
    next x r =>
      split at hs
      next hok =>
        cases hs
        simp only [Bool.and_eq_true, decide_eq_true_eq] at hok
        exact lv_istore_n hx hb hd rfl hh.2 (by omega) rfl (fun Ls' h' => k H locs Ls' hW hS (z_has.set1 (v := .int x) hlen hok.1 rfl h'))
      next => cases hs
    next => cases hs
  | istore q =>
    simp only [z_sx] at hs
    split at hs
    next x r =>
      split at hs
      next hok =>
        cases hs
        simp only [Bool.and_eq_true, decide_eq_true_eq] at hok
        exact lv_istore hx hb hd hh.2 (by omega) rfl (fun Ls' h' => k H locs Ls' hW hS (z_has.set1 (v := .int x) hlen hok.1 rfl h'))
      next => cases hs
    next => cases hs
  | astore_n q =>
    simp only [z_sx] at hs
    split at hs
    next x r =>
      split at hs
      next hok =>
        cases hs
        simp only [Bool.and_eq_true, decide_eq_true_eq] at hok
        exact lv_astore_n hx hb hd rfl hh.2 (by omega) rfl (fun Ls' h' => k H locs Ls' hW hS (z_has.set1 (v := .ref x) hlen hok.1 rfl h'))
      next => cases hs
    next => cases hs
  | astore q =>
    simp only [z_sx] at hs
    split at hs
    next x r =>
      split at hs
      next hok =>
        cases hs
        simp only [Bool.and_eq_true, decide_eq_true_eq] at hok
        exact lv_astore hx hb hd hh.2 (by omega) rfl (fun Ls' h' => k H locs Ls' hW hS (z_has.set1 (v := .ref x) hlen hok.1 rfl h'))
      next => cases hs
    next => cases hs
  | lstore_n q =>
    simp only [z_sx] at hs
    split at hs
    next x r =>
      split at hs
      next hok =>
        cases hs
        simp only [Bool.and_eq_true, decide_eq_true_eq] at hok
        exact lv_lstore_n hx hb hd rfl hh.2 (by omega) rfl (fun Ls' h' => k H locs Ls' hW hS (z_has.set2 (v := .long x) hlen hok.1 rfl h'))
      next => cases hs
    next => cases hs
  | lstore q =>
    simp only [z_sx] at hs
    split at hs
    next x r =>
      split at hs
      next hok =>
        cases hs
        simp only [Bool.and_eq_true, decide_eq_true_eq] at hok
        exact lv_lstore hx hb hd hh.2 (by omega) rfl (fun Ls' h' => k H locs Ls' hW hS (z_has.set2 (v := .long x) hlen hok.1 rfl h'))
      next => cases hs
    next => cases hs
  | iinc q n =>
    simp only [z_sx, z_k1_eq] at hs
    split at hs
    next x hx' =>
      split at hs
      next hok =>
        cases hs
        simp only [Bool.and_eq_true, decide_eq_true_eq] at hok
        obtain ⟨j, hj⟩ := List.getElem?_of_mem (z_as_mem (g := g) (q := (q, .int x)).mpr ⟨.int x, hx', rfl⟩)
        exact lv_iinc hx hb hd hh.2 hj rfl (by omega) rfl (fun Ls' h' => k H locs Ls' hW hS (z_has.set1 (v := .int (x + Int32.ofInt n)) hlen hok.1 rfl h'))
      next => cases hs
    next => cases hs
  | iadd =>
    simp only [z_sx] at hs
    split at hs
    next => cases hs; exact lv_iadd hx hb hd (k H locs Ls hW hS hh)
    next => cases hs
  | isub =>
    simp only [z_sx] at hs
    split at hs
    next => cases hs; exact lv_isub hx hb hd (k H locs Ls hW hS hh)
    next => cases hs
  | imul =>
    simp only [z_sx] at hs
    split at hs
    next => cases hs; exact lv_imul hx hb hd (k H locs Ls hW hS hh)
    next => cases hs
  | iand =>
    simp only [z_sx] at hs
    split at hs
    next => cases hs; exact lv_iand hx hb hd (k H locs Ls hW hS hh)
    next => cases hs
  | ior =>
    simp only [z_sx] at hs
    split at hs
    next => cases hs; exact lv_ior hx hb hd (k H locs Ls hW hS hh)
    next => cases hs
  | ixor =>
    simp only [z_sx] at hs
    split at hs
    next => cases hs; exact lv_ixor hx hb hd (k H locs Ls hW hS hh)
    next => cases hs
  | ishl =>
    simp only [z_sx] at hs
    split at hs
    next => cases hs; exact lv_ishl hx hb hd (k H locs Ls hW hS hh)
    next => cases hs
  | ishr =>
    simp only [z_sx] at hs
    split at hs
    next => cases hs; exact lv_ishr hx hb hd (k H locs Ls hW hS hh)
    next => cases hs
  | ladd =>
    simp only [z_sx] at hs
    split at hs
    next => cases hs; exact lv_ladd hx hb hd (k H locs Ls hW hS hh)
    next => cases hs
  | lmul =>
    simp only [z_sx] at hs
    split at hs
    next => cases hs; exact lv_lmul hx hb hd (k H locs Ls hW hS hh)
    next => cases hs
  | iushr =>
    simp only [z_sx] at hs
    split at hs
    next => cases hs; exact lv_iushr hx hb hd rfl (k H locs Ls hW hS hh)
    next => cases hs
  | i2l =>
    simp only [z_sx] at hs
    split at hs
    next => cases hs; exact lv_i2l hx hb hd rfl (k H locs Ls hW hS hh)
    next => cases hs
  | l2i =>
    simp only [z_sx] at hs
    split at hs
    next => cases hs; exact lv_l2i hx hb hd rfl (k H locs Ls hW hS hh)
    next => cases hs
  | dup =>
    simp only [z_sx] at hs
    split at hs
    next => cases hs; exact lv_dup hx hb hd rfl (k H locs Ls hW hS hh)
    next => cases hs; exact lv_dup hx hb hd rfl (k H locs Ls hW hS hh)
    next => cases hs
  | pop =>
    simp only [z_sx] at hs
    split at hs
    next => cases hs; exact lv_pop hx hb hd rfl (k H locs Ls hW hS hh)
    next => cases hs; exact lv_pop hx hb hd rfl (k H locs Ls hW hS hh)
    next => cases hs
  | dup2 =>
    simp only [z_sx] at hs
    split at hs
    next => cases hs; exact lv_dup2_11 hx hb hd rfl rfl (k H locs Ls hW hS hh)
    next => cases hs; exact lv_dup2_2 hx hb hd rfl (k H locs Ls hW hS hh)
    next => cases hs
  | _ => simp [z_sx] at hs
theorem z_lt1 {x y : Int32} (h : ¬ x ≤ y) : y < x := Int32.not_le.mp h
theorem z_le1 {x y : Int32} (h : ¬ x < y) : y ≤ x := Int32.not_lt.mp h
/-- branches: what holds where it is taken, and where it isn't; the offset; what stays -/
def z_bx (ins : Instr) (st : List Value) : Option (Prop × Prop × Int × List Value) :=
  match ins with
  | .ifCond .eq o => match st with
    | .int x :: r => some (x = 0, ¬ x = 0, o, r)
    | _ => none
  | .ifCond .ne o => match st with
    | .int x :: r => some (¬ x = 0, x = 0, o, r)
    | _ => none
  | .ifCond .lt o => match st with
    | .int x :: r => some (x < 0, 0 ≤ x, o, r)
    | _ => none
  | .ifCond .ge o => match st with
    | .int x :: r => some (0 ≤ x, x < 0, o, r)
    | _ => none
  | .ifCond .gt o => match st with
    | .int x :: r => some (0 < x, x ≤ 0, o, r)
    | _ => none
  | .ifCond .le o => match st with
    | .int x :: r => some (x ≤ 0, 0 < x, o, r)
    | _ => none
  | .if_icmp .eq o => match st with
    | .int y :: .int x :: r => some (x = y, ¬ x = y, o, r)
    | _ => none
  | .if_icmp .ne o => match st with
    | .int y :: .int x :: r => some (¬ x = y, x = y, o, r)
    | _ => none
  | .if_icmp .lt o => match st with
    | .int y :: .int x :: r => some (x < y, y ≤ x, o, r)
    | _ => none
  | .if_icmp .ge o => match st with
    | .int y :: .int x :: r => some (y ≤ x, x < y, o, r)
    | _ => none
  | .if_icmp .gt o => match st with
    | .int y :: .int x :: r => some (y < x, x ≤ y, o, r)
    | _ => none
  | .if_icmp .le o => match st with
    | .int y :: .int x :: r => some (x ≤ y, y < x, o, r)
    | _ => none
  | .ifnull o => match st with
    | .ref x :: r => some (False, True, o, r)
    | .null :: r => some (True, False, o, r)
    | _ => none
  | _ => none
set_option maxHeartbeats 4000000 in
theorem z_b (n t : Nat) {ins : Instr} {c c' : Prop} {off : Int} (hB : z_B g X own cc nL) (hd : decode cc pc = .ok (ins, 3)) (hs : z_bx ins st = some (c, c', off, st')) (hn : pc + 3 = n) (ht : (pc : Int) + off = (t : Int))
    (kt : c → z_W g X t ls st' cl sl S) (kf : c' → z_W g X n ls st' cl sl S) : z_W g X pc ls st cl sl S := by
  obtain ⟨hx, hb, hml, -⟩ := hB
  subst hn
  intro H locs Ls hW hS hh
  cases ins with
  | ifCond q o =>
    cases q with
    | eq =>
      simp only [z_bx] at hs
      split at hs
      next => cases hs; exact lv_if_eq hx hb hd ht (fun h => kt h H locs Ls hW hS hh) (fun h => kf h H locs Ls hW hS hh)
      next => cases hs
    | ne =>
      simp only [z_bx] at hs
      split at hs
      next => cases hs; exact lv_if_ne hx hb hd ht (fun h => kt h H locs Ls hW hS hh) (fun h => kf h H locs Ls hW hS hh)
      next => cases hs
    | lt =>
      simp only [z_bx] at hs
      split at hs
      next => cases hs; exact lv_if_lt hx hb hd ht (fun h => kt h H locs Ls hW hS hh) (fun h => kf (z_le1 h) H locs Ls hW hS hh)
      next => cases hs
    | ge =>
      simp only [z_bx] at hs
      split at hs
      next => cases hs; exact lv_if_ge hx hb hd ht (fun h => kt h H locs Ls hW hS hh) (fun h => kf (z_lt1 h) H locs Ls hW hS hh)
      next => cases hs
    | gt =>
      simp only [z_bx] at hs
      split at hs
      next => cases hs; exact lv_if_gt hx hb hd ht (fun h => kt h H locs Ls hW hS hh) (fun h => kf (z_le1 h) H locs Ls hW hS hh)
      next => cases hs
    | le =>
      simp only [z_bx] at hs
      split at hs
      next => cases hs; exact lv_if_le hx hb hd ht (fun h => kt h H locs Ls hW hS hh) (fun h => kf (z_lt1 h) H locs Ls hW hS hh)
      next => cases hs
  | if_icmp q o =>
    cases q with
    | eq =>
      simp only [z_bx] at hs
      split at hs
      next => cases hs; exact lv_icmp_eq hx hb hd ht (fun h => kt h H locs Ls hW hS hh) (fun h => kf h H locs Ls hW hS hh)
      next => cases hs
    | ne =>
      simp only [z_bx] at hs
      split at hs
      next => cases hs; exact lv_icmp_ne hx hb hd ht (fun h => kt h H locs Ls hW hS hh) (fun h => kf h H locs Ls hW hS hh)
      next => cases hs
    | lt =>
      simp only [z_bx] at hs
      split at hs
      next => cases hs; exact lv_icmp_lt hx hb hd ht (fun h => kt h H locs Ls hW hS hh) (fun h => kf (z_le1 h) H locs Ls hW hS hh)
      next => cases hs
    | ge =>
      simp only [z_bx] at hs
      split at hs
      next => cases hs; exact lv_icmp_ge hx hb hd ht (fun h => kt h H locs Ls hW hS hh) (fun h => kf (z_lt1 h) H locs Ls hW hS hh)
      next => cases hs
    | gt =>
      simp only [z_bx] at hs
      split at hs
      next => cases hs; exact lv_icmp_gt hx hb hd ht (fun h => kt h H locs Ls hW hS hh) (fun h => kf (z_le1 h) H locs Ls hW hS hh)
      next => cases hs
    | le =>
      simp only [z_bx] at hs
      split at hs
      next => cases hs; exact lv_icmp_le hx hb hd ht (fun h => kt h H locs Ls hW hS hh) (fun h => kf (z_lt1 h) H locs Ls hW hS hh)
      next => cases hs
  | ifnull o =>
    simp only [z_bx] at hs
    split at hs
    next => cases hs; exact lv_ifnull hx hb hd (kf trivial H locs Ls hW hS hh)
    next => cases hs; exact lv_ifnullN hx hb hd ht (kt trivial H locs Ls hW hS hh)
    next => cases hs
  | _ => simp [z_bx] at hs
theorem z_j (t : Nat) {off : Int} (hB : z_B g X own cc nL) (hd : decode cc pc = .ok (.goto off, 3)) (ht : (pc : Int) + off = (t : Int)) (k : z_W g X t ls st cl sl S) : z_W g X pc ls st cl sl S :=
  fun H locs Ls hW hS hh => lv_goto hB.1 hB.2.1 hd ht (k H locs Ls hW hS hh)
theorem z_irem (n : Nat) {x y : Int32} (hB : z_B g X own cc nL) (hd : decode cc pc = .ok (.irem, 1)) (hn : pc + 1 = n) (hy : ¬ y = 0) (k : z_W g X n ls (.int (x - x / y * y) :: st) cl sl S) : z_W g X pc ls (.int y :: .int x :: st) cl sl S := by
  subst hn
  exact fun H locs Ls hW hS hh => lv_irem hB.1 hB.2.1 hd hy (k H locs Ls hW hS hh)
theorem z_idiv (n : Nat) {x y : Int32} (hB : z_B g X own cc nL) (hd : decode cc pc = .ok (.idiv, 1)) (hn : pc + 1 = n) (hy : ¬ y = 0) (k : z_W g X n ls (.int (x / y) :: st) cl sl S) : z_W g X pc ls (.int y :: .int x :: st) cl sl S := by
  subst hn
  exact fun H locs Ls hW hS hh => lv_idiv hB.1 hB.2.1 hd hy (k H locs Ls hW hS hh)
theorem z_lrem (n : Nat) {x y : Int64} (hB : z_B g X own cc nL) (hd : decode cc pc = .ok (.lrem, 1)) (hn : pc + 1 = n) (hy : ¬ y = 0) (k : z_W g X n ls (.long (x - x / y * y) :: st) cl sl S) : z_W g X pc ls (.long y :: .long x :: st) cl sl S := by
  subst hn
  exact fun H locs Ls hW hS hh => lv_lrem hB.1 hB.2.1 hd hy (k H locs Ls hW hS hh)
theorem z_ldiv (n : Nat) {x y : Int64} (hB : z_B g X own cc nL) (hd : decode cc pc = .ok (.ldiv, 1)) (hn : pc + 1 = n) (hy : ¬ y = 0) (k : z_W g X n ls (.long (x / y) :: st) cl sl S) : z_W g X pc ls (.long y :: .long x :: st) cl sl S := by
  subst hn
  exact fun H locs Ls hW hS hh => lv_ldiv hB.1 hB.2.1 hd hy (k H locs Ls hW hS hh)
theorem z_ldc (n : Nat) {idx : Nat} {v : Int32} (hB : z_B g X own cc nL) (hm : Cond.constant own idx v ∈ z_tbl) (hd : decode cc pc = .ok (.ldc idx, 2)) (hn : pc + 2 = n) (k : z_W g X n ls (.int v :: st) cl sl S) : z_W g X pc ls st cl sl S := by
  subst hn
  exact fun H locs Ls hW hS hh => lv_ldc hB.1 hB.2.1 hB.2.2.2.1 (hB.2.2.2.2.1 _ hm) hd (k H locs Ls hW hS hh)
theorem z_ldcw (n : Nat) {idx : Nat} {v : Int32} (hB : z_B g X own cc nL) (hm : Cond.constant own idx v ∈ z_tbl) (hd : decode cc pc = .ok (.ldc_w idx, 3)) (hn : pc + 3 = n) (k : z_W g X n ls (.int v :: st) cl sl S) : z_W g X pc ls st cl sl S := by
  subst hn
  exact fun H locs Ls hW hS hh => lv_ldcw hB.1 hB.2.1 hB.2.2.2.1 (hB.2.2.2.2.1 _ hm) hd (k H locs Ls hW hS hh)
theorem z_ldc2 (n : Nat) {idx : Nat} {v : Int64} (hB : z_B g X own cc nL) (hm : Cond.constantLong own idx v ∈ z_tbl) (hd : decode cc pc = .ok (.ldc2_w idx, 3)) (hn : pc + 3 = n) (k : z_W g X n ls (.long v :: st) cl sl S) : z_W g X pc ls st cl sl S := by
  subst hn
  exact fun H locs Ls hW hS hh => lv_ldc2 hB.1 hB.2.1 hB.2.2.2.1 (hB.2.2.2.2.1 _ hm) hd (k H locs Ls hW hS hh)
theorem z_tsw {x : Int32} {dflt lo hi : Int} {offs : Array Int} {len : Nat} (hB : z_B g X own cc nL) (hd : decode cc pc = .ok (.tableswitch dflt lo hi offs, len)) (t : Nat) (ht : (pc : Int) + (if x.toInt < lo ∨ hi < x.toInt then dflt else (offs[(x.toInt - lo).toNat]?).getD dflt) = (t : Int)) (hok : lo ≤ x.toInt → x.toInt ≤ hi → (x.toInt - lo).toNat < offs.size)
    (k : z_W g X t ls st cl sl S) : z_W g X pc ls (.int x :: st) cl sl S := by
  intro H locs Ls hW hS hh
  by_cases h : x.toInt < lo ∨ hi < x.toInt
  · rw [if_pos h] at ht
    exact lv_tableOut hB.1 hB.2.1 hd h ht (k H locs Ls hW hS hh)
  · rw [if_neg h] at ht
    have h1 : ¬ x.toInt < lo := fun q => h (Or.inl q)
    have h2 : ¬ hi < x.toInt := fun q => h (Or.inr q)
    have h3 := hok (by omega) (by omega)
    rw [Array.getElem?_eq_getElem h3] at ht
    exact lv_tableIn hB.1 hB.2.1 hd h1 h2 (Array.getElem?_eq_getElem h3) ht (k H locs Ls hW hS hh)
theorem z_lsw {x : Int32} {dflt : Int} {ps : Array (Int × Int)} {len : Nat} (hB : z_B g X own cc nL) (hd : decode cc pc = .ok (.lookupswitch dflt ps, len)) (t : Nat) (hp : (ps.toList.zip (ps.toList.drop 1)).all (fun (a, next) => a.1 < next.1) = true) (ht : (pc : Int) + Op.lookupswitch.offset ps.toList dflt x.toInt = (t : Int))
    (k : z_W g X t ls st cl sl S) : z_W g X pc ls (.int x :: st) cl sl S :=
  fun H locs Ls hW hS hh => lv_lookup hB.1 hB.2.1 hd hp rfl ht (k H locs Ls hW hS hh)
end ZW
end
section
/-! the heap's rows, and calls -/
theorem z_cls : ∀ (ci : Nat) (q : vw_C), z_cl[ci]? = some q → (∀ w ∈ u_ws q.1 q.2.1 q.2.2, w ∈ z_tbl) ∧ (∀ a, a < q.2.2 → ∀ b, b < q.2.2 → a ≠ b → (q.2.1 a).2.1 ≠ (q.2.1 b).2.1) := by
  have key : ∀ ws : List Cond, ws.all (fun w => decide (w ∈ lw_tbl) && goodWord w) = true → ∀ w ∈ ws, w ∈ z_tbl := fun ws h w hw => by
    have h1 := List.all_eq_true.mp h w hw
    simp only [Bool.and_eq_true, decide_eq_true_eq] at h1
    exact List.mem_filter.mpr ⟨h1.1, h1.2⟩
  intro ci q hq
  match ci, hq with
  | 0, hq => cases hq; exact ⟨key _ (by decide +kernel), nmX0⟩
  | 1, hq => cases hq; exact ⟨key _ (by decide +kernel), nmX1⟩
  | 2, hq => cases hq; exact ⟨key _ (by decide +kernel), nmX2⟩
  | 3, hq => cases hq; exact ⟨key _ (by decide +kernel), nmX3⟩
  | 4, hq => cases hq; exact ⟨key _ (by decide +kernel), nmX4⟩
  | 5, hq => cases hq; exact ⟨key _ (by decide +kernel), nmX5⟩
  | 6, hq => cases hq; exact ⟨key _ (by decide +kernel), nmX6⟩
  | 7, hq => cases hq; exact ⟨key _ (by decide +kernel), nmX7⟩
  | 8, hq => cases hq; exact ⟨key _ (by decide +kernel), nmX8⟩
  | 9, hq => cases hq; exact ⟨key _ (by decide +kernel), nmX9⟩
  | 10, hq => cases hq; exact ⟨key _ (by decide +kernel), nmX10⟩
  | k + 11, hq => simp [z_cl] at hq
/-- the fields' types: whole numbers, and references -/
def z_tyOK (q : vw_C) (ty : Nat → FieldType) : Bool := (List.range q.2.2).all (fun k => if (q.2.1 k).2.2.1 == "I" then ty k == .int else (ty k).isReference)
theorem z_clty : ∀ (ci : Nat) (q : vw_C), z_cl[ci]? = some q → ∃ ty : Nat → FieldType, (∀ k, k < q.2.2 → parseFieldDescriptor (q.2.1 k).2.2.1 = some (ty k)) ∧ z_tyOK q ty = true := by
  intro ci q hq
  match ci, hq with
  | 0, hq => cases hq; exact ⟨_, tyX0_ok, by decide +kernel⟩
  | 1, hq => cases hq; exact ⟨_, tyX1_ok, by decide +kernel⟩
  | 2, hq => cases hq; exact ⟨_, tyX2_ok, by decide +kernel⟩
  | 3, hq => cases hq; exact ⟨_, tyX3_ok, by decide +kernel⟩
  | 4, hq => cases hq; exact ⟨_, tyX4_ok, by decide +kernel⟩
  | 5, hq => cases hq; exact ⟨_, tyX5_ok, by decide +kernel⟩
  | 6, hq => cases hq; exact ⟨_, tyX6_ok, by decide +kernel⟩
  | 7, hq => cases hq; exact ⟨_, tyX7_ok, by decide +kernel⟩
  | 8, hq => cases hq; exact ⟨_, tyX8_ok, by decide +kernel⟩
  | 9, hq => cases hq; exact ⟨_, tyX9_ok, by decide +kernel⟩
  | 10, hq => cases hq; exact ⟨_, tyX10_ok, by decide +kernel⟩
  | k + 11, hq => simp [z_cl] at hq
theorem z_tyI {ci k : Nat} {q : vw_C} (hq : z_cl[ci]? = some q) (hk : k < q.2.2) (hi : z_isI ci k = true) : parseFieldDescriptor (q.2.1 k).2.2.1 = some .int := by
  obtain ⟨ty, h1, h2⟩ := z_clty ci q hq
  have h3 := List.all_eq_true.mp h2 k (List.mem_range.mpr hk)
  simp only [z_isI, hq] at hi
  rw [if_pos hi] at h3
  rw [h1 k hk, beq_iff_eq.mp h3]
theorem z_tyR {ci k : Nat} {q : vw_C} (hq : z_cl[ci]? = some q) (hk : k < q.2.2) (hi : z_isI ci k = false) : ∃ ty, parseFieldDescriptor (q.2.1 k).2.2.1 = some ty ∧ ∀ r : Option Nat, narrow ty (va_rf r) = va_rf r ∧ fits ty (va_rf r) = true := by
  obtain ⟨ty, h1, h2⟩ := z_clty ci q hq
  have h3 := List.all_eq_true.mp h2 k (List.mem_range.mpr hk)
  simp only [z_isI, hq] at hi
  rw [if_neg (by rw [hi]; exact Bool.false_ne_true)] at h3
  refine ⟨ty k, h1 k hk, fun r => ?_⟩
  revert h3
  generalize ty k = t
  intro h3
  cases t <;> first | (simp [FieldType.isReference] at h3; done) | (cases r <;> exact ⟨rfl, rfl⟩)
def z_fin (ci k : Nat) : Bool := match z_cl[ci]? with
  | some q => (q.2.1 k).2.2.2
  | none => true
theorem z_adge {g : z_U} {S : z_S} {o : Nat} {q : Nat × Nat} (h : z_is S o q) : z_base g ≤ z_ad g o := by
  obtain ⟨-, h1, -⟩ := h
  obtain ⟨k, rfl⟩ : ∃ k, o = k + 4 := ⟨o - 4, by omega⟩
  show z_base g ≤ z_base g + k
  omega
theorem z_oldS {g : z_U} {S : z_S} {H H1 : Heap} {a : Nat} (hW : z_Wd g S H) (ha : z_base g ≤ a) (oq : ∀ x, x ≠ a → H1[x]? = H[x]?) : ∀ q : Nat, q < z_base g → H1[q]? = (z_H0 g)[q]? :=
  fun q hq => (oq q (by omega)).trans (hW.2.2 q hq)
theorem z_n_of {ci : Nat} {q : vw_C} (h : z_cl[ci]? = some q) : z_n ci = q.2.2 := by simp [z_n, h]
section ZH
variable {g : z_U} {X : z_X} {own : String} {cc : ByteArray} {nL pc : Nat} {ls ls' : List (Option Value)} {st st' : List Value} {cl sl : Nat} {S : z_S} {o ci k idx : Nat}
theorem z_getV (n : Nat) (hB : z_B g X own cc nL) (hf : z_FL own idx ci k) (ho : z_is S o (0, ci)) (hd : decode cc pc = .ok (.getfield idx, 3)) (hn : pc + 3 = n) {v : Value} (hv : z_fld g S ci o k = z_val g v)
    (kk : z_W g X n ls (v :: st) cl sl S) : z_W g X pc ls (.ref o :: st) cl sl S := by
  subst hn
  obtain ⟨hx, hb, hml, hown, hts, hKn, -⟩ := hB
  obtain ⟨q, hq, hk, hC, hlink⟩ := hf
  intro H locs Ls hW hS hh
  have he := z_ws_o (g := g) ho
  rw [z_ent_obj ho.1] at he
  have hc := (z_cls ci q hq).1
  have hfv : ((List.range (z_n ci)).map (z_fld g S ci o))[k]? = some (z_val g v) := by
    rw [List.getElem?_map, List.getElem?_range (by rw [z_n_of hq]; exact hk), ← hv]; rfl
  have hgo := kk H locs Ls hW hS hh
  rcases hlink with hl | ⟨host, hl⟩
  · exact va_get hx hb hts hc hown hKn.1 hW.2.1 (o - 4) he hq k hk (hts _ hl) (fun x h => by rw [← hC]; rw [hC] at h ⊢; exact h) hfv hd hgo
  · exact va_getN hx hb hts hc hown hKn.1 hW.2.1 (o - 4) he hq k hk (va_Nw.use rfl (hKn.2.1 _ hl)) (fun x h => by rw [← hC]; rw [hC] at h ⊢; exact h) hfv hd hgo
theorem z_getI (n : Nat) (hB : z_B g X own cc nL) (hf : z_FL own idx ci k) (ho : z_is S o (0, ci)) (hd : decode cc pc = .ok (.getfield idx, 3)) (hn : pc + 3 = n) (hi : z_isI ci k = true)
    (kk : z_W g X n ls (.int (z_I S o k) :: st) cl sl S) : z_W g X pc ls (.ref o :: st) cl sl S :=
  z_getV n hB hf ho hd hn (v := .int (z_I S o k)) (by simp [z_fld, hi, z_val]) kk
theorem z_getR (n : Nat) {r : Nat} (hB : z_B g X own cc nL) (hf : z_FL own idx ci k) (ho : z_is S o (0, ci)) (hd : decode cc pc = .ok (.getfield idx, 3)) (hn : pc + 3 = n) (hi : z_isI ci k = false) (hr : z_R S o k = some r)
    (kk : z_W g X n ls (.ref r :: st) cl sl S) : z_W g X pc ls (.ref o :: st) cl sl S :=
  z_getV n hB hf ho hd hn (v := .ref r) (by simp [z_fld, hi, z_val, hr, va_rf]) kk
/-- a put: every field, by its link -/
theorem z_putV (n : Nat) {v v' : Value} (hB : z_B g X own cc nL) (hf : z_FL own idx ci k) (ho : z_is S o (0, ci)) (hd : decode cc pc = .ok (.putfield idx, 3)) (hn : pc + 3 = n) (hfin : z_fin ci k = false ∨ ((z_Xh X).name = "<init>" ∧ (z_cl[ci]?).map (fun q => q.1) = some own)) {S' : z_S} (hv : v' = z_val g v)
    (hty : ∀ q : vw_C, z_cl[ci]? = some q → k < q.2.2 → ∃ ty, parseFieldDescriptor (q.2.1 k).2.2.1 = some ty ∧ narrow ty v' = v' ∧ fits ty v' = true) (hnx : z_nx S' = z_nx S)
    (hset : ∀ q : vw_C, z_cl[ci]? = some q → k < q.2.2 → (z_ws g S).set (o - 4) (z_ad g o, .inr (ci, ((List.range (z_n ci)).map (z_fld g S ci o)).set k v')) = z_ws g S')
    (kk : z_W g X n ls st cl sl S') : z_W g X pc ls (v :: .ref o :: st) cl sl S := by
  subst hn
  subst hv
  obtain ⟨hx, hb, hml, hown, hts, hKn, -⟩ := hB
  obtain ⟨q, hq, hk, hC, hlink⟩ := hf
  obtain ⟨C, T, N⟩ := q
  dsimp only at hk hC hlink
  intro H locs Ls hW hS hh
  have he := z_ws_o (g := g) ho
  rw [z_ent_obj ho.1] at he
  obtain ⟨hin, hnm⟩ := z_cls ci _ hq
  obtain ⟨ty0, hty0, -⟩ := z_clty ci _ hq
  obtain ⟨ty, hd1, hn1, hfit⟩ := hty _ hq hk
  have hN := z_n_of hq
  have hset' := hset _ hq hk
  dsimp only at hN hin hnm hty0 hd1
  have hkl : k < ((List.range (z_n ci)).map (z_fld g S ci o)).length := by simp [hN, hk]
  have hap := va_apart (own := own) hts hin ty0 hty0 hnm hKn.1 hq
  obtain ⟨r, h1, cell, q1, q2, q3, q4⟩ := hW.2.1 (o - 4) _ he
  have hr : r = (C, T, N) := Option.some.inj (h1.symm.trans hq)
  subst hr
  obtain ⟨hSl, hfc, kC, hkC, hkind⟩ := hKn.1.1 ci _ hq
  obtain ⟨cf, kf, fi, f, hi, hsl⟩ := hSl k hk
  have hst := (u_facts hfc hkC (u_lays hts hin hk) hi).1
  have hsame : (z_Xs X).fieldFound? C (T k).2.1 (T k).2.2.1 = some (cf, kf, fi, f) := by rw [← hC]; exact hi
  have fin : ∀ H1 : Heap, H1[z_ad g o]? = some (cell.setSlot f.slot (z_val g v)) → H1.size = H.size → (∀ x, x ≠ z_ad g o → H1[x]? = H[x]?) → W (z_Xp X) g.1 (z_Xe X) (z_XR X) (z_Xs X) (z_Xm X) (z_Xa X) (z_Xb X) (z_Xh X) (z_Xc X) H1 (locs ++ [⟨z_ad g o, f.slot⟩]) cl sl (z_XQ X) (F0 (z_Xm X) (pc + 3) Ls (st.map (z_val g))) := by
    intro H1 e1 e2 e3
    rw [hsl] at e1
    have hP1 := hW.2.1.set (z_D g S) he (e := .inr (ci, ((List.range (z_n ci)).map (z_fld g S ci o)).set k (z_val g v))) ⟨_, hq, t_OB.to (V := updV (vp_V ((List.range (z_n ci)).map (z_fld g S ci o))) k (z_val g v)) ⟨_, e1, q2, q3, t_set q4 hap hk (z_val g v)⟩ (fun j _ => vp_updV_set hkl (z_val g v) j)⟩ e3
    rw [hset'] at hP1
    exact kk H1 _ Ls ⟨by rw [e2, hnx]; exact hW.1, hP1, z_oldS hW (z_adge ho) e3⟩ (hS.put e2 e3 ((z_D g S).2 (o - 4) _ he)) hh
  have hlt : f.slot < cell.slots.size := by rw [hsl]; exact k2_hasslot (q4 k hk)
  by_cases hf0 : (T k).2.2.2 = false
  · have hlay := hts _ (hin _ (u_in_lay hk))
    unfold u_lay at hlay
    rw [if_neg (by rw [hf0]; decide)] at hlay
    have h6 := u_store hfc hkC hkind hlay hi hd1 hn1 hfit
    rcases hlink with hl | ⟨host, hl⟩
    · exact W.putK hx hb (f := f) ⟨hown, hts _ hl, ⟨_, _, _, hsame⟩, hst⟩ (by rw [q2]; exact h6) q1 q3 hlt rfl rfl hd fin
    · exact va_WputK hx hb (f := f) hown (va_Nw.use rfl (hKn.2.1 _ hl)) hsame hst (by rw [q2]; exact h6) q1 q3 hlt rfl rfl hd fin
  · have hf1 : (T k).2.2.2 = true := by simpa using hf0
    rcases hfin with hf2 | ⟨hin2, hown2⟩
    · simp [z_fin, hq, hf1] at hf2
    have hCo : C = own := by simpa [hq] using hown2
    have hlay := hts _ (hin _ (u_in_lay hk))
    unfold u_lay at hlay
    rw [if_pos hf1] at hlay
    have hcf : (z_Xm X).cls = cf := by
      obtain ⟨_, _, c', _, _, _, -, -, hf', -, -, -, hown3, -⟩ := Cond.laysFinal_spec hlay
      have e1 : c' = cf := by have := hi.symm.trans hf'; simp at this; exact this.1.symm
      rw [hC, hCo] at hown3
      rw [← e1]; exact Option.some.inj (hown.symm.trans hown3)
    have h6 := u_fits hfc hkC hkind (Or.inr hlay) hi hd1 hn1 hfit
    rcases hlink with hl | ⟨host, hl⟩
    · exact W.putFinK hx hb hown (hts _ hl) hsame hst hcf hin2 (by rw [q2]; exact h6) q1 q3 hlt rfl rfl hd fin
    · exact va_Wputf hx hb hown (va_Nw.use rfl (hKn.2.1 _ hl)) hsame hst (Or.inr ⟨hcf, hin2⟩) q1 (by rw [q3]; exact fun h => by cases h) hlt h6.1 (by rw [q2, q3]; exact h6.2) rfl rfl hd (fin _ (by simp [Array.getElem?_setIfInBounds, (Array.getElem?_eq_some_iff.mp q1).1]) (by simp) (fun x hx' => by simp [Array.getElem?_setIfInBounds, Ne.symm hx']))
theorem z_putI (n : Nat) {x : Int32} (hB : z_B g X own cc nL) (hf : z_FL own idx ci k) (ho : z_is S o (0, ci)) (hd : decode cc pc = .ok (.putfield idx, 3)) (hn : pc + 3 = n) (hi : z_isI ci k = true) (hfin : z_fin ci k = false)
    (kk : z_W g X n ls st cl sl (z_pI S o k x)) : z_W g X pc ls (.int x :: .ref o :: st) cl sl S :=
  z_putV n hB hf ho hd hn (Or.inl hfin) (v' := .int x) (S' := z_pI S o k x) rfl (fun q hq hk => ⟨.int, z_tyI hq hk hi, rfl, rfl⟩) rfl (fun q hq hk => z_setI ho (by rw [z_n_of hq]; exact hk) hi) kk
theorem z_putR (n : Nat) {r : Nat} (hB : z_B g X own cc nL) (hf : z_FL own idx ci k) (ho : z_is S o (0, ci)) (hd : decode cc pc = .ok (.putfield idx, 3)) (hn : pc + 3 = n) (hi : z_isI ci k = false) (hfin : z_fin ci k = false ∨ ((z_Xh X).name = "<init>" ∧ (z_cl[ci]?).map (fun q => q.1) = some own))
    (kk : z_W g X n ls st cl sl (z_pR S o k (some r))) : z_W g X pc ls (.ref r :: .ref o :: st) cl sl S :=
  z_putV n hB hf ho hd hn hfin (v' := .ref (z_ad g r)) (S' := z_pR S o k (some r)) rfl (fun q hq hk => by
    obtain ⟨ty, h1, h2⟩ := z_tyR hq hk hi
    exact ⟨ty, h1, h2 (some (z_ad g r))⟩) rfl (fun q hq hk => z_setR (v := some r) ho (by rw [z_n_of hq]; exact hk) hi) kk
theorem z_ald (n : Nat) {i : Int32} {N : Nat} (hB : z_B g X own cc nL) (ho : z_is S o (1, N)) (hd : decode cc pc = .ok (.iaload, 1)) (hn : pc + 1 = n) (hin : vp_in i N)
    (kk : z_W g X n ls (.int (z_I S o i.toNatClampNeg) :: st) cl sl S) : z_W g X pc ls (.int i :: .ref o :: st) cl sl S := by
  subst hn
  intro H locs Ls hW hS hh
  have he := z_ws_o (g := g) ho
  rw [z_ent_row ho.1] at he
  exact va_iald hB.1 hB.2.1 hB.2.2.2.2.2.1.1 hW.2.1 (o - 4) 0 he rfl hin hd (kk H locs Ls hW hS hh)
theorem z_alen (n : Nat) {N : Nat} (hB : z_B g X own cc nL) (ho : z_is S o (1, N)) (hd : decode cc pc = .ok (.arraylength, 1)) (hn : pc + 1 = n)
    (kk : z_W g X n ls (.int (Int32.ofNat N) :: st) cl sl S) : z_W g X pc ls (.ref o :: st) cl sl S := by
  subst hn
  intro H locs Ls hW hS hh
  have he := z_ws_o (g := g) ho
  rw [z_ent_row ho.1] at he
  exact va_alen hB.1 hB.2.1 hB.2.2.2.2.2.1.1 hW.2.1 (o - 4) 0 he (ty := .int) rfl rfl hd (kk H locs Ls hW hS hh)
theorem z_alenQ (n : Nat) {N : Nat} (hB : z_B g X own cc nL) (ho : z_is S o (2, N)) (hd : decode cc pc = .ok (.arraylength, 1)) (hn : pc + 1 = n)
    (kk : z_W g X n ls (.int (Int32.ofNat N) :: st) cl sl S) : z_W g X pc ls (.ref o :: st) cl sl S := by
  subst hn
  intro H locs Ls hW hS hh
  have he := z_ws_o (g := g) ho
  rw [z_ent_refs ho.1] at he
  exact va_alen hB.1 hB.2.1 hB.2.2.2.2.2.1.1 hW.2.1 (o - 4) 1 he (ty := .object RX7) rfl rfl hd (kk H locs Ls hW hS hh)
theorem z_ast (n : Nat) {i x : Int32} {N : Nat} (hB : z_B g X own cc nL) (ho : z_is S o (1, N)) (hd : decode cc pc = .ok (.iastore, 1)) (hn : pc + 1 = n) (hin : vp_in i N)
    (kk : z_W g X n ls st cl sl (z_pI S o i.toNatClampNeg x)) : z_W g X pc ls (.int x :: .int i :: .ref o :: st) cl sl S := by
  subst hn
  intro H locs Ls hW hS hh
  have he := z_ws_o (g := g) ho
  rw [z_ent_row ho.1] at he
  have hK := hB.2.2.2.2.2.1.1
  refine W.iast hB.1 hB.2.1 (hW.2.1 (o - 4) _ he) ((hK.2 0 _ rfl).1 N (fun j => .int (z_I S o j))) (fun q => by cases q) (by show ¬ (i < 0 ∨ (arrV _ _ _).slots.size ≤ _); rw [arrV_size]; exact hin) rfl rfl hd fun H1 e z oq => ?_
  have hP1 := hW.2.1.set (z_D g S) he (e := .inl (g.2.2.1, N, .inl (upd (z_I S o) i.toNatClampNeg x))) (by
    show H1[z_ad g o]? = some (vp_cell _ _)
    rw [e]
    rw [vp_cell_i, vp_cell_i, arrV_store]
    congr 2
    funext q
    by_cases hq : q = i.toNatClampNeg
    · subst hq
      simp [updV, upd]
    · simp [updV, upd, hq]) oq
  rw [z_setA ho] at hP1
  exact kk H1 _ Ls ⟨by rw [z]; exact hW.1, hP1, z_oldS hW (z_adge ho) oq⟩ (hS.put z oq ((z_D g S).2 (o - 4) _ he)) hh
theorem z_aldQ (n : Nat) {i : Int32} {N r : Nat} (hB : z_B g X own cc nL) (ho : z_is S o (2, N)) (hd : decode cc pc = .ok (.aaload, 1)) (hn : pc + 1 = n) (hin : vp_in i N) (hr : z_R S o i.toNatClampNeg = some r)
    (kk : z_W g X n ls (.ref r :: st) cl sl S) : z_W g X pc ls (.int i :: .ref o :: st) cl sl S := by
  subst hn
  intro H locs Ls hW hS hh
  have he := z_ws_o (g := g) ho
  rw [z_ent_refs ho.1] at he
  have hgo := kk H locs Ls hW hS hh
  refine va_aldq hB.1 hB.2.1 hB.2.2.2.2.2.1.1 hW.2.1 (o - 4) 1 he rfl hin hd ?_
  show W _ _ _ _ _ _ _ _ _ _ _ _ _ _ _ (F0 _ _ _ (va_rf ((z_R S o i.toNatClampNeg).map (z_ad g)) :: _))
  rw [hr]
  exact hgo
theorem z_astQ (n : Nat) {i : Int32} {N r : Nat} (hB : z_B g X own cc nL) (ho : z_is S o (2, N)) (hv : z_is S r (0, 7)) (hd : decode cc pc = .ok (.aastore, 1)) (hn : pc + 1 = n) (hin : vp_in i N)
    (kk : z_W g X n ls st cl sl (z_pR S o i.toNatClampNeg (some r))) : z_W g X pc ls (.ref r :: .int i :: .ref o :: st) cl sl S := by
  subst hn
  intro H locs Ls hW hS hh
  have he := z_ws_o (g := g) ho
  rw [z_ent_refs ho.1] at he
  have hev := z_ws_o (g := g) hv
  rw [z_ent_obj hv.1] at hev
  have hK := hB.2.2.2.2.2.1.1
  have hlt : i.toNatClampNeg < N := Nat.not_le.mp fun q => hin (Or.inr q)
  have h0 : ¬ i < 0 := fun q => hin (Or.inl q)
  obtain ⟨r', hr', cellV, g1, g2, g3, -⟩ := hW.2.1 (r - 4) _ hev
  have hcls := (hK.1 7 (RX7, TX7, 7) rfl).2
  obtain ⟨kA, comp, k1, k2, k3, -⟩ := (hK.2 1 _ rfl).2
  have hcomp : comp = g.2.1.1 7 := Option.some.inj (k3.symm.trans hcls.1)
  subst hcomp
  obtain ⟨kC, hkC, -⟩ := hcls.2
  refine W.aast hB.1 hB.2.1 (hW.2.1 (o - 4) _ he) (fun q h => by cases h) (fun h => by cases h) k1 k2 rfl hkC ⟨h0, by show _ < (arrV _ _ _).slots.size; rw [arrV_size]; exact hlt⟩ g1 (fun q h => by rw [g3] at h; cases h) (by rw [g2]; exact hkC) (by rw [g2]; exact va_assign hcls) rfl rfl hd fun H1 e z oq => ?_
  have hP1 := hW.2.1.set (z_D g S) he (e := .inl (g.2.2.2.1, N, .inr (.inr (.inr (.inr (va_up (fun j => (z_R S o j).map (z_ad g)) i.toNatClampNeg ((some r).map (z_ad g)))))))) (by
    show H1[z_ad g o]? = some (vp_cell _ _)
    rw [e]
    rw [vp_cell_q, vp_cell_q, arrV_store]
    congr 2
    funext q
    by_cases hq : q = i.toNatClampNeg
    · subst hq
      simp [updV, va_up, va_rf]
    · simp [updV, va_up, hq]) oq
  rw [z_setQ ho] at hP1
  exact kk H1 _ Ls ⟨by rw [z]; exact hW.1, hP1, z_oldS hW (z_adge ho) oq⟩ (hS.put z oq ((z_D g S).2 (o - 4) _ he)) hh
end ZH
end
section
/-! contracts, calls, ends, new cells -/
def z_room (d mc ms : Nat) : Room := { frames := d, cells := mc, slots := ms, locals := 12 + 34 * d }
def z_Q (g : z_U) (Post : Option Value → z_S → Prop) : Array Value → State → Outcome → State → Prop := fun _ st oc t => (∃ (r : Option Value) (S' : z_S), oc = .returned (r.map (z_val g)) ∧ Post r S' ∧ z_Wd g S' t.heap) ∧ va_F (z_A g) st t
def z_wl (M : z_M) : List Cond := .code M.1 M.2.1 M.2.2.1 M.2.2.2 :: z_tbl
/-- THE CONTRACT of a method, called with av in the world S: it returns, and Post holds of its answer and the world behind it; mc cells of ms slots are new; it calls at most d deep -/
def z_C (g : z_U) (d mc ms : Nat) (M : z_M) (av : List Value) (S : z_S) (Post : Option Value → z_S → Prop) : Prop :=
  Met g.1 M.1 (z_wl M) (z_room d mc ms) (va_Pc (av.map (z_val g)) (fun U => z_Wd g S U.heap ∧ z_Kn g U)) (z_Q g Post) mc ms (z_A g)
def z_BM (g : z_U) (X : z_X) (d mc ms : Nat) (M : z_M) (Post : Option Value → z_S → Prop) : Prop :=
  z_B g X M.1.cls M.2.1 M.2.2.1 ∧ z_XR X = z_room d mc ms ∧ (z_Xh X).sig.returnType = M.2.2.2 ∧ (z_Xh X).locks = false ∧ z_XQ X = MQ (z_Xb X) (z_Q g Post) (z_Xa X) (z_Xs X) mc ms (z_A g) ∧ (z_Xh X).name = M.1.name
theorem z_args (vs : List Value) : ∀ (i : Nat), (∀ v ∈ vs, v.category = 1) → lv_args i vs = (List.range vs.length).filterMap (fun k => (vs[k]?).map (fun v => (i + k, v))) := by
  induction vs with
  | nil => intro i _; rfl
  | cons v vs ih =>
    intro i h
    have hv := h v List.mem_cons_self
    rw [lv_args, if_neg (by omega), ih (i + 1) (fun w hw => h w (List.mem_cons_of_mem _ hw))]
    rw [List.length_cons, List.range_succ_eq_map, List.filterMap_cons]
    simp only [List.getElem?_cons_zero, Option.map_some, Nat.add_zero]
    rw [List.filterMap_map]
    congr 2
    funext k
    simp only [Function.comp, List.getElem?_cons_succ, show i + 1 + k = i + (k + 1) by omega]
theorem z_sl1 (vs : List Value) (h : ∀ v ∈ vs, v.category = 1) : (lg_sl vs).length = vs.length := by
  induction vs with
  | nil => rfl
  | cons v vs ih =>
    have hv := h v List.mem_cons_self
    have e : lg_sl (v :: vs) = .val v :: lg_sl vs := by
      show List.flatMap _ (v :: vs) = _
      rw [List.flatMap_cons, if_neg (by omega)]
      rfl
    rw [e, List.length_cons, List.length_cons, ih (fun w hw => h w (List.mem_cons_of_mem _ hw))]
theorem z_enter {g : z_U} {d mc ms : Nat} {M : z_M} {av : List Value} {S : z_S} {Post : Option Value → z_S → Prop} (ls : List (Option Value)) (hpl : plainName M.1.cls = true) (hc : av.all (fun v => decide (v.category = 1)) = true) (hlen : av.length ≤ M.2.2.1) (hls : av.map some ++ List.replicate (M.2.2.1 - av.length) none = ls)
    (body : ∀ X : z_X, z_BM g X d mc ms M Post → z_W g X 0 ls [] 0 0 S) : z_C g d mc ms M av S Post := by
  subst hls
  refine Met.ofW (cc := M.2.1) (maxL := M.2.2.1) (ret := M.2.2.2) hpl rfl ?_
  intro p e s m args below meth c s₁ B hml hv
  obtain ⟨rfl, hW, hKn⟩ := hv
  have hcat : ∀ v ∈ av.map (z_val g), v.category = 1 := by
    intro v hv
    obtain ⟨w, hw, rfl⟩ := List.mem_map.mp hv
    rw [z_cat]
    simpa using List.all_eq_true.mp hc w hw
  have hts := atoms_spec (ws := z_wl M) B.pre
  have X1 : z_BM g (p, e, (headSpec (z_wl M) (z_room d mc ms)).room, s, m, (av.map (z_val g)).toArray, below, meth, c, MQ below (z_Q g Post) (av.map (z_val g)).toArray s mc ms (z_A g), M.2.2.1) d mc ms M Post :=
    ⟨⟨B.exec, B.bytes, hml, findClass_of_methodNamed B.named, fun w hw => hts w (List.mem_cons_of_mem _ hw), hKn, by show z_base g ≤ s.heap.size; rw [hW.1]; omega, rfl⟩, rfl, B.returns, B.notSynchronized, rfl, (name_of_methodNamed B.named B.method).1⟩
  have hl := lv_entry (av.map (z_val g)) (n := M.2.2.1) (by rw [z_sl1 _ hcat]; simpa using hlen)
  rw [lg_entry_eq]
  refine body _ X1 s.heap [] _ hW va_S.rf ⟨by show (av.map some ++ List.replicate (M.2.2.1 - av.length) none).length = M.2.2.1; simp; omega, ?_⟩
  refine ⟨hl.1, hl.2.1, fun q hq => hl.2.2 q ?_⟩
  obtain ⟨v, h1, h2⟩ := z_as_mem.mp hq
  rw [z_args _ 0 hcat]
  have hlt : q.1 < av.length := by
    rcases Nat.lt_or_ge q.1 av.length with z | z
    · exact z
    · rw [List.getElem?_append_right (by simpa using z), List.getElem?_replicate] at h1
      split at h1 <;> simp at h1
  rw [List.getElem?_append_left (by simpa using hlt), List.getElem?_map, List.getElem?_eq_getElem hlt] at h1
  have hv : av[q.1] = v := by simpa using h1
  refine List.mem_filterMap.mpr ⟨q.1, List.mem_range.mpr (by simpa using hlt), ?_⟩
  rw [List.getElem?_map, List.getElem?_eq_getElem hlt, hv]
  show some (0 + q.1, z_val g v) = some q
  rw [Nat.zero_add, ← h2]
theorem z_good {M : z_M} (h : Cond.code M.1 M.2.1 M.2.2.1 M.2.2.2 ∈ z_tbl) : GoodIn z_tbl (z_wl M) := by
  intro w hw
  have hm : w ∈ z_tbl := by
    rcases List.mem_cons.mp hw with e | e
    · rw [e]; exact h
    · exact e
  exact ⟨hm, good_of_word (List.mem_filter.mp hm).2⟩
section ZC
variable {g : z_U} {X : z_X} {own : String} {cc : ByteArray} {nL pc : Nat} {ls ls' : List (Option Value)} {st st' : List Value} {cl sl : Nat} {S : z_S} {o ci k idx : Nat} {d mc ms d' mc' ms' np : Nat} {M : z_M} {av : List Value} {Post : Option Value → z_S → Prop}
theorem z_pre {H : Heap} (hKn : z_Kn g (z_Xs X)) (hW : z_Wd g S H) : PreS (z_Xs X) H (va_Pc (av.map (z_val g)) (fun U => z_Wd g S U.heap ∧ z_Kn g U)) (av.map (z_val g)) :=
  ⟨fun a U q mk h => ⟨h.1, h.2.1, z_Kn.same (s := U) (U := U.calling q mk a) rfl h.2.2⟩, fun U hU hW1 => ⟨rfl, by rw [hU]; exact hW, z_Kn.warm hW1 hKn⟩⟩
theorem z_after {H : Heap} {locs : List Loc} {Ls : Array Slot} {stk : List Value} {a : Array Value} (hr : va_Run (z_Xp X) g.1 (z_Xe X) (z_XR X) (z_Xs X) (z_Xm X) (z_Xa X) (z_Xb X) (z_Xh X) (z_Xc X) H locs cl sl mc' ms' (F0 (z_Xm X) pc Ls stk) (st.map (z_val g)) (z_Q g Post a) (z_A g)) (hS : va_S (z_A g) (z_Xs X).heap H locs) (hh : z_has g ls Ls (z_XL X))
    (kk : ∀ r S', Post r S' → z_W g X (pc + 3) ls (r.toList ++ st) (cl + mc') (sl + ms') S') : W (z_Xp X) g.1 (z_Xe X) (z_XR X) (z_Xs X) (z_Xm X) (z_Xa X) (z_Xb X) (z_Xh X) (z_Xc X) H locs cl sl (z_XQ X) (F0 (z_Xm X) pc Ls stk) := by
  intro T hT Y
  obtain ⟨v, st₀, t, T', L, h0, X', hL, e1, e2, ⟨⟨r, S', hv, hp, hw⟩, hz, hk⟩, sx⟩ := hr T hT Y
  cases hv
  rw [h0] at hz hk
  have hS1 : va_S (z_A g) (z_Xs X).heap T'.heap (locs ++ L) := ⟨Nat.le_trans hS.1 (by rw [e1]; exact hz), fun q h1 h2 => by rw [e1, hk q (Nat.lt_of_lt_of_le h1 hS.1) h2]; exact hS.2.1 q h1 h2, fun q hq => by
      rcases List.mem_append.mp hq with h | h
      · exact hS.2.2 q h
      · exact hL q h⟩
  obtain ⟨t2, a1, b1⟩ := kk r S' hp T'.heap (locs ++ L) Ls (by rw [e1]; exact hw) hS1 hh T' rfl X'
  refine ⟨t2, sx t2 ?_, b1⟩
  have e3 : (r.toList ++ st).map (z_val g) = (r.map (z_val g)).toList ++ st.map (z_val g) := by cases r <;> simp
  rw [← e3]
  exact a1
theorem z_fixed (hB : z_B g X own cc nL) : CallFix (z_Xp X) (z_Xm X) (z_Xc X) cc nL (z_Xs X) (z_Xa X) z_tbl own := ⟨hB.1, hB.2.1, hB.2.2.1, hB.2.2.2.1, hB.2.2.2.2.1⟩
theorem z_roomOK (hR : z_XR X = z_room d mc ms) (hd' : d' < d) (hm : M.2.2.1 ≤ 15) : (z_room d' mc' ms').frames + 1 ≤ (z_XR X).frames ∧ 8 + (M.2.2.1 + 11) + (z_room d' mc' ms').locals ≤ (z_XR X).locals := by
  rw [hR]
  simp only [z_room]
  omega
theorem z_catsum {l : List Value} : ((l.map (z_val g)).map fun v => v.category).sum = (l.map fun v => v.category).sum := by
  induction l with
  | nil => rfl
  | cons a l ih => simp only [List.map_cons, List.sum_cons, ih, z_cat]
theorem z_callS (n : Nat) {rest : List Value} (hB : z_B g X own cc nL) (hR : z_XR X = z_room d mc ms) (hm : z_MS own idx M np) (hd : decode cc pc = .ok (.invokestatic idx, 3)) (hn : pc + 3 = n) (hc : z_C g d' mc' ms' M av S Post) (hd' : d' < d) (hnp : av.length = np) (hst : st = av.reverse ++ rest) (hcat : (rest.map fun v => v.category).sum ≤ 8) (hcl : cl + mc' ≤ mc ∧ sl + ms' ≤ ms)
    (kk : ∀ r S', Post r S' → z_W g X n ls (r.toList ++ rest) (cl + mc') (sl + ms') S') : z_W g X pc ls st cl sl S := by
  subst hn; subst hst
  obtain ⟨⟨hl, hcode, hini, ⟨hy1, hy2, hy3⟩, hml⟩, hsta⟩ := hm
  intro H locs Ls hW hS hh
  have hts := hB.2.2.2.2.1
  have hG := z_good hcode
  have hrm := z_roomOK (X := X) (mc' := mc') (ms' := ms') hR hd' hml
  have hpre := z_pre (av := av) hB.2.2.2.2.2.1 hW
  have hrest : 2 * (F0 (z_Xm X) pc Ls ((av.reverse ++ rest).map (z_val g))).monitorRoom + (((rest.map (z_val g))).map fun v => v.category).sum ≤ 8 := lv_room (by rw [z_catsum]; exact hcat)
  have hcl' : cl + mc' ≤ (z_XR X).cells ∧ sl + ms' ≤ (z_XR X).slots := by rw [hR]; exact hcl
  have hstk : (F0 (z_Xm X) pc Ls ((av.reverse ++ rest).map (z_val g))).stack = (av.map (z_val g)).reverse ++ rest.map (z_val g) := by simp
  have hsz : (F0 (z_Xm X) pc Ls ((av.reverse ++ rest).map (z_val g))).locals.size = nL := hh.2.1.trans hB.2.2.2.2.2.2.2
  rcases hl with hl | ⟨host, hl⟩
  · exact z_after (va_runS (z_fixed hB) hc ⟨callB_of np hts hG rfl rfl rfl (hts _ hini) (hts _ hl) ⟨hy1, hy2, hy3⟩ hrm, hts _ hsta⟩ hpre rfl (by simpa using hnp) hsz hstk hrest hd hcl') hS hh kk
  · exact z_after (va_runSN (z_fixed hB) hc ⟨va_cnB np hts hG rfl rfl rfl (hB.2.2.2.2.2.1.2.1 _ hl) (hts _ hini) ⟨hy1, hy2, hy3⟩ hrm, hts _ hsta, trivial⟩ hpre rfl (by simpa using hnp) hsz hstk hrest hd hcl') hS hh kk
theorem z_callV (n : Nat) {rest : List Value} {b : Nat} (hB : z_B g X own cc nL) (hR : z_XR X = z_room d mc ms) (hm : z_MV own idx M np) (hd : decode cc pc = .ok (.invokevirtual idx, 3)) (hn : pc + 3 = n) (hb : z_is S b (0, ci)) (hci : (z_cl[ci]?).map (fun q => q.1) = some M.1.cls) (hc : z_C g d' mc' ms' M (.ref b :: av) S Post) (hd' : d' < d) (hnp : av.length = np) (hst : st = av.reverse ++ .ref b :: rest) (hcat : (rest.map fun v => v.category).sum ≤ 8) (hcl : cl + mc' ≤ mc ∧ sl + ms' ≤ ms)
    (kk : ∀ r S', Post r S' → z_W g X n ls (r.toList ++ rest) (cl + mc') (sl + ms') S') : z_W g X pc ls st cl sl S := by
  subst hn; subst hst
  obtain ⟨⟨hl, hcode, hini, ⟨hy1, hy2, hy3⟩, hml⟩, hins, hsel⟩ := hm
  intro H locs Ls hW hS hh
  have hts := hB.2.2.2.2.1
  have hG := z_good hcode
  have hrm := z_roomOK (X := X) (mc' := mc') (ms' := ms') hR hd' hml
  have hpre := z_pre (av := .ref b :: av) hB.2.2.2.2.2.1 hW
  obtain ⟨q, hq, hqc⟩ := Option.map_eq_some_iff.mp hci
  have he := z_ws_o (g := g) hb
  rw [z_ent_obj hb.1] at he
  have hcell := va_recv hB.2.2.2.2.2.1.1 hW.2.1 hq he
  rw [hqc] at hcell
  have hrest : 2 * (F0 (z_Xm X) pc Ls ((av.reverse ++ .ref b :: rest).map (z_val g))).monitorRoom + (((rest.map (z_val g))).map fun v => v.category).sum ≤ 8 := lv_room (by rw [z_catsum]; exact hcat)
  have hcl' : cl + mc' ≤ (z_XR X).cells ∧ sl + ms' ≤ (z_XR X).slots := by rw [hR]; exact hcl
  have hstk : (F0 (z_Xm X) pc Ls ((av.reverse ++ .ref b :: rest).map (z_val g))).stack = (av.map (z_val g)).reverse ++ .ref (z_ad g b) :: rest.map (z_val g) := by simp [z_val]
  have hsz : (F0 (z_Xm X) pc Ls ((av.reverse ++ .ref b :: rest).map (z_val g))).locals.size = nL := hh.2.1.trans hB.2.2.2.2.2.2.2
  rcases hl with hl | ⟨host, hl⟩
  · exact z_after (va_runV (z_fixed hB) hc ⟨callB_of np hts hG rfl rfl rfl (hts _ hini) (hts _ hl) ⟨hy1, hy2, hy3⟩ hrm, hts _ hins, hts _ hsel⟩ ⟨hpre.1, hcell, hpre.2⟩ rfl (by simpa using hnp) hsz hstk hrest hd hcl') hS hh kk
  · exact z_after (va_runVN (z_fixed hB) hc ⟨va_cnB np hts hG rfl rfl rfl (hB.2.2.2.2.2.1.2.1 _ hl) (hts _ hini) ⟨hy1, hy2, hy3⟩ hrm, hts _ hins, hts _ hsel⟩ ⟨hpre.1, hcell, hpre.2⟩ rfl (by simpa using hnp) hsz hstk hrest hd hcl') hS hh kk
theorem z_callI (n : Nat) {rest : List Value} {b : Nat} (hB : z_B g X own cc nL) (hR : z_XR X = z_room d mc ms) (hm : z_MI own idx M np) (hd : decode cc pc = .ok (.invokespecial idx, 3)) (hn : pc + 3 = n) (hc : z_C g d' mc' ms' M (.ref b :: av) S Post) (hd' : d' < d) (hnp : av.length = np) (hst : st = av.reverse ++ .ref b :: rest) (hcat : (rest.map fun v => v.category).sum ≤ 8) (hcl : cl + mc' ≤ mc ∧ sl + ms' ≤ ms)
    (kk : ∀ r S', Post r S' → z_W g X n ls (r.toList ++ rest) (cl + mc') (sl + ms') S') : z_W g X pc ls st cl sl S := by
  subst hn; subst hst
  obtain ⟨yM, cM, lM, rM⟩ := M
  obtain ⟨⟨hl, hcode, hini, ⟨hy1, hy2, hy3⟩, hml⟩, hins, hnm, hret⟩ := hm
  dsimp only at hret
  subst hret
  intro H locs Ls hW hS hh
  have hts := hB.2.2.2.2.1
  have hG := z_good hcode
  have hrm := z_roomOK (X := X) (mc' := mc') (ms' := ms') hR hd' hml
  have hpre := z_pre (av := .ref b :: av) hB.2.2.2.2.2.1 hW
  have hrest : 2 * (F0 (z_Xm X) pc Ls ((av.reverse ++ .ref b :: rest).map (z_val g))).monitorRoom + (((rest.map (z_val g))).map fun v => v.category).sum ≤ 8 := lv_room (by rw [z_catsum]; exact hcat)
  have hcl' : cl + mc' ≤ (z_XR X).cells ∧ sl + ms' ≤ (z_XR X).slots := by rw [hR]; exact hcl
  have hstk : (F0 (z_Xm X) pc Ls ((av.reverse ++ .ref b :: rest).map (z_val g))).stack = (av.map (z_val g)).reverse ++ .ref (z_ad g b) :: rest.map (z_val g) := by simp [z_val]
  have hsz : (F0 (z_Xm X) pc Ls ((av.reverse ++ .ref b :: rest).map (z_val g))).locals.size = nL := hh.2.1.trans hB.2.2.2.2.2.2.2
  rcases hl with hl | ⟨host, hl⟩
  · exact z_after (va_runI (z_fixed hB) hc ⟨callB_of np hts hG rfl rfl rfl (hts _ hini) (hts _ hl) ⟨hy1, hy2, hy3⟩ hrm, hnm, hts _ hins⟩ hpre rfl (by simpa using hnp) hsz hstk hrest hd hcl') hS hh kk
  · exact z_after (va_runIN (z_fixed hB) hc ⟨va_cnB np hts hG rfl rfl rfl (hB.2.2.2.2.2.1.2.1 _ hl) (hts _ hini) ⟨hy1, hy2, hy3⟩ hrm, hnm, hts _ hins⟩ hpre rfl (by simpa using hnp) hsz hstk hrest hd hcl') hS hh kk
/-- ends -/
theorem z_iret {x : Int32} (hM : z_BM g X d mc ms M Post) (hd : decode M.2.1 pc = .ok (.ireturn, 1)) (hr : M.2.2.2 = some .int) (hP : Post (some (.int x)) S) (h1 : cl = mc) (h2 : sl = ms) : z_W g X pc ls [.int x] cl sl S := by
  subst h1; subst h2
  obtain ⟨hB, hR, hret, hlk, hQ, -⟩ := hM
  intro H locs Ls hW hS hh
  rw [hQ]
  exact W.iret hB.1 hB.2.1 (hret.trans hr) (fun t ht _ => ⟨⟨some (.int x), S, rfl, hP, by rw [ht]; exact hW⟩, hS.F ht⟩) hS.2.2 hd hlk
theorem z_zret {x : Int32} (hM : z_BM g X d mc ms M Post) (hd : decode M.2.1 pc = .ok (.ireturn, 1)) (hr : M.2.2.2 = some .boolean) (hx : x &&& 1 = x) (hP : Post (some (.int x)) S) (h1 : cl = mc) (h2 : sl = ms) : z_W g X pc ls [.int x] cl sl S := by
  subst h1; subst h2
  obtain ⟨hB, hR, hret, hlk, hQ, -⟩ := hM
  intro H locs Ls hW hS hh
  rw [hQ]
  exact W.zret hB.1 hB.2.1 (hret.trans hr) (by show Value.int (x &&& 1) = _; rw [hx]) (fun t ht _ => ⟨⟨some (.int x), S, rfl, hP, by rw [ht]; exact hW⟩, hS.F ht⟩) hS.2.2 hd hlk
theorem z_vret (hM : z_BM g X d mc ms M Post) (hd : decode M.2.1 pc = .ok (.return_, 1)) (hr : M.2.2.2 = none) (hP : Post none S) (h1 : cl = mc) (h2 : sl = ms) : z_W g X pc ls [] cl sl S := by
  subst h1; subst h2
  obtain ⟨hB, hR, hret, hlk, hQ, -⟩ := hM
  intro H locs Ls hW hS hh
  rw [hQ]
  exact W.vret hB.1 hB.2.1 (hret.trans hr) (fun t ht _ => ⟨⟨none, S, rfl, hP, by rw [ht]; exact hW⟩, hS.F ht⟩) hS.2.2 hd hlk
/-- Object's constructor, and the larger of two -/
theorem z_objI (n : Nat) {r : Nat} (hB : z_B g X own cc nL) (hR : z_XR X = z_room (d + 1) mc ms) (hl : Cond.methodLink own idx Lib.objectInit ∈ z_tbl) (hi : Cond.instanceMethod Lib.objectInit ∈ z_tbl) (hcd : Cond.code Lib.objectInit ⟨#[0xb1]⟩ 1 none ∈ z_tbl) (hd : decode cc pc = .ok (.invokespecial idx, 3)) (hn : pc + 3 = n) (hcat : (st.map fun v => v.category).sum ≤ 8)
    (kk : z_W g X n ls st cl sl S) : z_W g X pc ls (.ref r :: st) cl sl S := by
  subst hn
  intro H locs Ls hW hS hh
  have hts := hB.2.2.2.2.1
  have hsum := z_catsum (g := g) (l := st)
  exact W.objInit hB.1 hB.2.1 hB.2.2.2.1 (hts _ hl) (hts _ hi) (hts _ hcd) rfl (hh.2.1.trans (hB.2.2.2.2.2.2.2.trans hB.2.2.1.symm)) rfl hd (by rw [hR]; simp [z_room]) (by
    have : 2 * (F0 (z_Xm X) pc Ls ((Value.ref r :: st).map (z_val g))).monitorRoom + ((st.map (z_val g)).map fun v => v.category).sum ≤ 8 := lv_room (by rw [hsum]; exact hcat)
    rw [hR]; simp only [z_room]; omega) (kk H locs Ls hW hS hh)
theorem z_max (n : Nat) {x y : Int32} (hB : z_B g X own cc nL) (hR : z_XR X = z_room (d + 1) mc ms) (hl : Cond.methodLink own idx Lib.Math.max.name ∈ z_tbl) (hs : Cond.static Lib.Math.max.name ∈ z_tbl) (hi : Cond.initialized "java/lang/Math" ∈ z_tbl) (hcd : Cond.code Lib.Math.max.name Lib.Math.max.code 2 (some .int) ∈ z_tbl) (hd : decode cc pc = .ok (.invokestatic idx, 3)) (hn : pc + 3 = n) (hcat : (st.map fun v => v.category).sum ≤ 8) (hcl : cl ≤ mc ∧ sl ≤ ms)
    (kk : z_W g X n ls (.int (if x < y then y else x) :: st) cl sl S) : z_W g X pc ls (.int y :: .int x :: st) cl sl S := by
  subst hn
  intro H locs Ls hW hS hh
  have hts := hB.2.2.2.2.1
  have hsum := z_catsum (g := g) (l := st)
  exact va_mmax hB.1 hB.2.1 (hB.2.2.1.trans (hB.2.2.2.2.2.2.2.symm.trans hh.2.1.symm)) hB.2.2.2.1 (hts _ hl) (hts _ hs) (hts _ hi) (hts _ hcd) (by rw [hR]; simp [z_room]) (by rw [hR, hsum]; simp only [z_room]; omega) (by rw [hR]; exact hcl.1) (by rw [hR]; exact hcl.2) hd (kk H locs Ls hW hS hh)
end ZC
end
section
/-! new cells -/
theorem z_ent_new {g : z_U} {S : z_S} {q : Nat × Nat} {o : Nat} (h : o < z_nx S + 4) : z_ent g (z_new S q) o = z_ent g S o := by
  have hne : ¬ o = S.2.2.2 + 4 := by
    have : z_nx S = S.2.2.2 := rfl
    omega
  have e1 : z_kd (z_new S q) o = z_kd S o := by simp [z_kd, z_new, hne]
  have e2 : z_I (z_new S q) o = z_I S o := by funext j; simp [z_I, z_new, hne]
  have e3 : z_R (z_new S q) o = z_R S o := by funext j; simp [z_R, z_new, hne]
  have e4 : ∀ ci, z_fld g (z_new S q) ci o = z_fld g S ci o := by
    intro ci
    funext j
    simp only [z_fld, e2, e3]
  unfold z_ent
  rw [e1, e2, e3]
  simp only [e4]
theorem z_ws_new {g : z_U} {S : z_S} {q : Nat × Nat} : z_ws g (z_new S q) = z_ws g S ++ [(z_ad g (z_nx S + 4), z_ent g (z_new S q) (z_nx S + 4))] := by
  have hnx : z_nx (z_new S q) = z_nx S + 1 := rfl
  unfold z_ws
  rw [hnx, List.range_succ, List.map_append]
  congr 1
  apply List.map_congr_left
  intro k hk
  rw [z_ent_new (by have := List.mem_range.mp hk; omega)]
theorem z_Wd_new {g : z_U} {S : z_S} {q : Nat × Nat} {H H1 : Heap} (hW : z_Wd g S H) (hz : H1.size = H.size + 1) (ho : ∀ x, x < H.size → H1[x]? = H[x]?) (he : va_at g.2.1 z_cl (z_ad g (z_nx S + 4), z_ent g (z_new S q) (z_nx S + 4)) H1) : z_Wd g (z_new S q) H1 := by
  refine ⟨by rw [hz, hW.1]; rfl, ?_, fun q hq => (ho q (by rw [hW.1]; omega)).trans (hW.2.2 q hq)⟩
  rw [z_ws_new]
  refine va_P.app (hW.2.1.kept (fun k x hx => ho _ ((hW.2.1 k x hx).lt))) (fun k x hx => ?_)
  have hz : k < 1 := (List.getElem?_eq_some_iff.mp hx).1
  rw [show k = 0 by omega] at hx
  cases hx
  exact he
theorem z_S_new {g : z_U} {H0 H H1 : Heap} {locs : List Loc} (hS : va_S (z_A g) H0 H locs) (hz : H1.size = H.size + 1) (ho : ∀ x, x < H.size → H1[x]? = H[x]?) : va_S (z_A g) H0 H1 locs :=
  ⟨Nat.le_trans hS.1 (by omega), fun x h1 h2 => (ho x (Nat.lt_of_lt_of_le h1 hS.1)).trans (hS.2.1 x h1 h2), hS.2.2⟩
section ZN
variable {g : z_U} {X : z_X} {own : String} {cc : ByteArray} {nL pc : Nat} {ls ls' : List (Option Value)} {st st' : List Value} {cl sl : Nat} {S : z_S} {o ci k idx : Nat} {d mc ms : Nat}
theorem z_nobj (n : Nat) (hB : z_B g X own cc nL) (hR : z_XR X = z_room d mc ms) (hl : z_CL own idx ci) (hd : decode cc pc = .ok (.new idx, 3)) (hn : pc + 3 = n) (h1 : cl + 1 ≤ mc) (h2 : sl + z_n ci ≤ ms)
    (kk : z_W g X n ls (.ref (z_nx S + 4) :: st) (cl + 1) (sl + z_n ci) (z_new S (0, ci))) : z_W g X pc ls st cl sl S := by
  subst hn
  obtain ⟨hx, hb, hml, hown, hts, hKn, -⟩ := hB
  obtain ⟨q, hq, hcl, hins, hini⟩ := hl
  obtain ⟨C, T, N⟩ := q
  have hN : z_n ci = N := z_n_of hq
  intro H locs Ls hW hS hh
  have hKc := hKn.1.1 ci _ hq
  obtain ⟨hin, -⟩ := z_cls ci _ hq
  obtain ⟨ty, hty, htyOK⟩ := z_clty ci _ hq
  refine W.newcK hx hb hown (hts _ hcl) (hts _ hins) (hts _ hini) rfl hd (by rw [hR]; exact h1) (by rw [hR]; show sl + N ≤ ms; rw [← hN]; exact h2) hKc.2.1 rfl fun H1 kC hkC e1 z1 o1 => ?_
  have ha : z_ad g (z_nx S + 4) = H.size := hW.1.symm
  have hI0 : z_I (z_new S (0, ci)) (z_nx S + 4) = fun _ => 0 := by funext j; simp [z_I, z_new, z_nx]
  have hR0 : z_R (z_new S (0, ci)) (z_nx S + 4) = fun _ => none := by funext j; simp [z_R, z_new, z_nx]
  have hk0 : z_kd (z_new S (0, ci)) (z_nx S + 4) = (0, ci) := by simp [z_kd, z_new, z_nx]
  have hW1 : z_Wd g (z_new S (0, ci)) H1 := by
    refine z_Wd_new hW z1 o1 ?_
    rw [z_ent_obj hk0, ha]
    refine ⟨_, hq, (u_born ty hts hin hKc hkC e1 hty).to (fun j hj => ?_)⟩
    have h3 := List.all_eq_true.mp htyOK j (List.mem_range.mpr hj)
    have hvp : vp_V ((List.range (z_n ci)).map (z_fld g (z_new S (0, ci)) ci (z_nx S + 4))) j = z_fld g (z_new S (0, ci)) ci (z_nx S + 4) j := by
      have hjr : j < (List.range (z_n ci)).length := by rw [List.length_range, hN]; exact hj
      unfold vp_V
      rw [List.getD_eq_getElem?_getD, List.getElem?_map, List.getElem?_eq_getElem hjr]
      simp
    rw [hvp]
    unfold z_fld
    rw [hI0, hR0]
    by_cases hi : z_isI ci j = true
    · rw [if_pos hi]
      have hi' := hi
      simp only [z_isI, hq] at hi'
      rw [if_pos hi'] at h3
      rw [beq_iff_eq.mp h3]
      rfl
    · rw [if_neg hi]
      have hi' := hi
      simp only [z_isI, hq] at hi'
      rw [if_neg hi'] at h3
      revert h3
      generalize ty j = t
      intro h3
      cases t <;> first | (simp [FieldType.isReference] at h3; done) | rfl
  have := kk H1 locs Ls hW1 (z_S_new hS z1 o1) hh
  rw [hN] at this
  have e4 : ((Value.ref (z_nx S + 4) :: st).map (z_val g)) = .ref H.size :: st.map (z_val g) := by
    rw [List.map_cons, ← ha]; rfl
  rw [e4] at this
  exact this
theorem z_nrow (n : Nat) {x : Int32} {N : Nat} (hB : z_B g X own cc nL) (hR : z_XR X = z_room d mc ms) (hac : Cond.arrayClass .int ∈ z_tbl) (hd : decode cc pc = .ok (.newarray .int, 2)) (hn : pc + 2 = n) (hx0 : ¬ x < 0) (hxN : x.toNatClampNeg = N) (hbig : N * 4 ≤ 536870912) (h1 : cl + 1 ≤ mc) (h2 : sl + N ≤ ms)
    (kk : z_W g X n ls (.ref (z_nx S + 4) :: st) (cl + 1) (sl + N) (z_new S (1, N))) : z_W g X pc ls (.int x :: st) cl sl S := by
  subst hn
  intro H locs Ls hW hS hh
  refine va_newaK (atype := .int) hB.1 hB.2.1 (hB.2.2.2.2.1 _ hac) rfl hd rfl hx0 hxN hbig (by rw [hR]; exact h1) (by rw [hR]; exact h2) rfl fun H1 cA e1 z1 o1 hAr hNm => ?_
  have hcA : cA = g.2.2.1 := by
    have h3 := (hB.2.2.2.2.2.1.1.2 0 _ rfl).2
    exact (Option.some.inj (h3.symm.trans hNm)).symm
  subst hcA
  have ha : z_ad g (z_nx S + 4) = H.size := hW.1.symm
  have hI0 : z_I (z_new S (1, N)) (z_nx S + 4) = fun _ => 0 := by funext j; simp [z_I, z_new, z_nx]
  have hk0 : z_kd (z_new S (1, N)) (z_nx S + 4) = (1, N) := by simp [z_kd, z_new, z_nx]
  have hW1 : z_Wd g (z_new S (1, N)) H1 := by
    refine z_Wd_new hW z1 o1 ?_
    rw [z_ent_row hk0, ha, hI0]
    exact e1
  have := kk H1 locs Ls hW1 (z_S_new hS z1 o1) hh
  have e4 : ((Value.ref (z_nx S + 4) :: st).map (z_val g)) = .ref H.size :: st.map (z_val g) := by
    rw [List.map_cons, ← ha]; rfl
  rw [e4] at this
  exact this
end ZN
section ZNQ
variable {g : z_U} {X : z_X} {own : String} {cc : ByteArray} {nL pc : Nat} {ls ls' : List (Option Value)} {st st' : List Value} {cl sl : Nat} {S : z_S} {o ci k idx : Nat} {d mc ms : Nat}
theorem z_nrefs (n : Nat) {x : Int32} {N : Nat} (hB : z_B g X own cc nL) (hR : z_XR X = z_room d mc ms) (hcl : Cond.classLink own idx RX7 ∈ z_tbl) (hd : decode cc pc = .ok (.anewarray idx, 3)) (hn : pc + 3 = n) (hx0 : ¬ x < 0) (hxN : x.toNatClampNeg = N) (hbig : N * 4 ≤ 536870912) (h1 : cl + 1 ≤ mc) (h2 : sl + N ≤ ms)
    (kk : z_W g X n ls (.ref (z_nx S + 4) :: st) (cl + 1) (sl + N) (z_new S (2, N))) : z_W g X pc ls (.int x :: st) cl sl S := by
  subst hn; subst hxN
  intro H locs Ls hW hS hh
  refine W.anew hB.1 hB.2.1 hB.2.2.2.1 (hB.2.2.2.2.1 _ hcl) (va_AO.use hB.2.2.2.2.2.1.2.2.1) rfl hd rfl hx0 hbig (by rw [hR]; exact h1) (by rw [hR]; exact h2) fun cA kA comp f1 f2 f3 f4 => ?_
  have hcA : cA = g.2.2.2.1 := by
    obtain ⟨_, _, _, _, _, h3⟩ := (hB.2.2.2.2.2.1.1.2 1 _ rfl).2
    exact (Option.some.inj (h3.symm.trans f1)).symm
  subst hcA
  generalize hH1 : H.push ({ cls := g.2.2.2.1, slots := Array.replicate x.toNatClampNeg .null, vm := .none } : Cell) = H1
  have z1 : H1.size = H.size + 1 := by rw [← hH1, Array.size_push]
  have e1 : H1[H.size]? = some (arrV g.2.2.2.1 x.toNatClampNeg (fun _ => .null)) := by rw [← hH1, Array.getElem?_push_size, ← arrV_new]
  have o1 : ∀ q : Nat, q < H.size → H1[q]? = H[q]? := fun q hq => by rw [← hH1, Array.getElem?_push, if_neg (Nat.ne_of_lt hq)]
  have ha : z_ad g (z_nx S + 4) = H.size := hW.1.symm
  have hR0 : z_R (z_new S (2, x.toNatClampNeg)) (z_nx S + 4) = fun _ => none := by funext j; simp [z_R, z_new, z_nx]
  have hk0 : z_kd (z_new S (2, x.toNatClampNeg)) (z_nx S + 4) = (2, x.toNatClampNeg) := by simp [z_kd, z_new, z_nx]
  have hW1 : z_Wd g (z_new S (2, x.toNatClampNeg)) H1 := by
    refine z_Wd_new hW z1 o1 ?_
    rw [z_ent_refs hk0, ha, hR0]
    show H1[H.size]? = some (vp_cell _ _)
    rw [vp_cell_q]
    exact e1
  have := kk H1 locs Ls hW1 (z_S_new hS z1 o1) hh
  have e4 : ((Value.ref (z_nx S + 4) :: st).map (z_val g)) = .ref H.size :: st.map (z_val g) := by
    rw [List.map_cons, ← ha]; rfl
  rw [e4] at this
  exact this
end ZNQ
end
section
/-! tools: states, loops, numbers -/
def z_up (S : z_S) (f : Nat → Nat → Int32) : z_S := (S.1, f, S.2.2)
theorem z_up_id (S : z_S) : z_up S (z_I S) = S := rfl
theorem z_up_I (S : z_S) (f : Nat → Nat → Int32) : z_I (z_up S f) = f := rfl
theorem z_up_up (S : z_S) (f h : Nat → Nat → Int32) : z_up (z_up S f) h = z_up S h := rfl
theorem z_pI_up (S : z_S) (o k : Nat) (v : Int32) : z_pI S o k v = z_up S (z_u2 (z_I S) o k v) := rfl
theorem z_eq {g : z_U} {X : z_X} {pc : Nat} {ls ls' : List (Option Value)} {st st' : List Value} {cl sl : Nat} {S S' : z_S} (h : z_W g X pc ls' st' cl sl S') (h1 : ls = ls') (h2 : st = st') (h3 : S = S') : z_W g X pc ls st cl sl S := by
  subst h1; subst h2; subst h3; exact h
theorem z_loop (P : Nat → Prop) (N : Nat) (step : ∀ j, j ≤ N → (j < N → P (j + 1)) → P j) : ∀ j, j ≤ N → P j := by
  have key : ∀ m j, j + m = N → P j := by
    intro m
    induction m with
    | zero => intro j h; exact step j (by omega) (fun q => by omega)
    | succ m ih => intro j h; exact step j (by omega) (fun _ => ih (j + 1) (by omega))
  intro j h
  exact key (N - j) j (by omega)
def z_row (S : z_S) (o a n : Nat) : Prop := z_is S o (0, 3) ∧ z_R S o 0 = some a ∧ z_is S a (1, n)
/-- what a row answers at i -/
def z_rd (I : Nat → Nat → Int32) (a n : Nat) (i : Int32) : Int32 := if 0 ≤ i ∧ i < nI n then I a i.toNatClampNeg else 0
theorem z_ge0 {x : Int32} (h : ¬ x < 0) : 0 ≤ x := Int32.not_lt.mp h
theorem z_vin {i : Int32} {n : Nat} (hn : n < 2 ^ 31) (h0 : ¬ i < 0) (h1 : i < nI n) : vp_in i n := by
  obtain ⟨j, hj, rfl⟩ := nI_of h0
  exact vp_in_nI ((nI_ltI hj hn).mp h1) hn
theorem z_nlt0 {x y : Int32} (h : x ≤ y) : ¬ y < x := Int32.not_lt.mpr h
theorem z_nle0 {x y : Int32} (h : x < y) : ¬ y ≤ x := Int32.not_le.mpr h
theorem z_inc (j : Nat) : nI j + 1 = nI (j + 1) := nI_1 j
theorem z_u2_same {α : Type} (f : Nat → Nat → α) (o k : Nat) (v : α) : z_u2 f o k v o k = v := by simp [z_u2]
theorem z_u2_ne {α : Type} {f : Nat → Nat → α} {o k o' k' : Nat} {v : α} (h : o' ≠ o ∨ k' ≠ k) : z_u2 f o k v o' k' = f o' k' := by
  unfold z_u2
  rw [if_neg (by rintro ⟨h1, h2⟩; rcases h with h | h <;> contradiction)]
/-- a whole row set -/
def z_sa (I : Nat → Nat → Int32) (a n : Nat) (f : Nat → Int32) : Nat → Nat → Int32 := fun o k => if o = a ∧ k < n then f k else I o k
theorem z_sa_0 (I : Nat → Nat → Int32) (a : Nat) (f : Nat → Int32) : z_sa I a 0 f = I := by funext o k; simp [z_sa]
theorem z_sa_succ (I : Nat → Nat → Int32) (a n : Nat) (f : Nat → Int32) : z_u2 (z_sa I a n f) a n (f n) = z_sa I a (n + 1) f := by
  funext o k
  simp only [z_u2, z_sa]
  by_cases ho : o = a
  · subst ho
    by_cases hk : k = n
    · subst hk; simp
    · simp only [hk, and_false, if_false, true_and]
      by_cases h : k < n
      · rw [if_pos h, if_pos (by omega)]
      · rw [if_neg h, if_neg (by omega)]
  · simp [ho]
theorem z_sa_off {I : Nat → Nat → Int32} {a n o k : Nat} {f : Nat → Int32} (h : o ≠ a) : z_sa I a n f o k = I o k := by simp [z_sa, h]
theorem z_row.up {S : z_S} {o a n : Nat} {f : Nat → Nat → Int32} (h : z_row S o a n) : z_row (z_up S f) o a n := h
theorem z_row.pI {S : z_S} {o a n o' k : Nat} {v : Int32} (h : z_row S o a n) : z_row (z_pI S o' k v) o a n := h
/-- the JDK's count of bits, as it counts -/
def z_bc (x : Int32) : Int32 :=
  let a := x - ((x.toUInt32 >>> ((1 : Int32).toUInt32 &&& Int32.toUInt32 31)).toInt32 &&& 1431655765)
  let b := (a &&& 858993459) + ((a.toUInt32 >>> ((2 : Int32).toUInt32 &&& Int32.toUInt32 31)).toInt32 &&& 858993459)
  let c := (b + (b.toUInt32 >>> ((4 : Int32).toUInt32 &&& Int32.toUInt32 31)).toInt32) &&& 252645135
  let d := c + (c.toUInt32 >>> ((8 : Int32).toUInt32 &&& Int32.toUInt32 31)).toInt32
  let e := d + (d.toUInt32 >>> ((16 : Int32).toUInt32 &&& Int32.toUInt32 31)).toInt32
  e &&& 63
def z_wakes (way pence kind : Int32) : Int32 := if way = 0 then (if kind = 2 ∨ kind = 1 ∧ 10 < pence then 1 else 0) else if way = 1 then (if kind = 0 then 1 else 0) else if way = 2 then (if kind = 3 then 1 else 0) else 0
def z_draw (z k : Int32) : Int32 :=
  let x : Int64 := 7919 * z.toInt64 + 6151 * k.toInt64 + 1
  ((x * x - x * x / 65521 * 65521) / 2).toInt32
end
section
/-! leaves: the class's static methods, Row, Text, Choice -/
theorem c_X9_bit {g_z : z_U} {d_z : Nat} {zS : z_S} {x_z : Int32} {i_z : Int32} : z_C g_z (d_z) 0 0 mX9_bit [.int x_z, .int i_z] zS (fun r_z zS' => zS = zS' ∧ r_z = some (.int (x_z >>> (i_z &&& 31) &&& 1))) := by
  refine z_enter [some (.int x_z), some (.int i_z)] rfl rfl (Nat.le_of_ble_eq_true rfl) rfl (fun zX hM_z => ?_)
  have hB_z : z_B g_z zX RX9 cX9_bit 2 := hM_z.1
  refine z_s 1 hB_z dX9_bit_0 rfl rfl ?_
  refine z_s 2 hB_z dX9_bit_1 rfl rfl ?_
  refine z_s 3 hB_z dX9_bit_2 rfl rfl ?_
  refine z_s 4 hB_z dX9_bit_3 rfl rfl ?_
  refine z_s 5 hB_z dX9_bit_4 rfl rfl ?_
  refine z_iret hM_z dX9_bit_5 rfl ?_ rfl rfl
  first
    | exact ⟨rfl, rfl⟩
    | exact ⟨rfl, by rw [if_pos (by first | assumption | exact ⟨by assumption, by assumption⟩)]⟩
    | exact ⟨rfl, by rw [if_neg (by first | assumption | exact z_nlt0 (by assumption) | exact (fun h_z => z_nlt0 h_z.1 (by assumption)) | exact (fun h_z => z_nlt0 h_z.2 (by assumption)))]⟩

theorem c_X9_has {g_z : z_U} {d_z : Nat} {zS : z_S} {x_z : Int32} {i_z : Int32} : z_C g_z (d_z) 0 0 mX9_has [.int x_z, .int i_z] zS (fun r_z zS' => zS = zS' ∧ r_z = some (.int (if x_z >>> (i_z &&& 31) &&& 1 = 1 then 1 else 0))) := by
  refine z_enter [some (.int x_z), some (.int i_z)] rfl rfl (Nat.le_of_ble_eq_true rfl) rfl (fun zX hM_z => ?_)
  have hB_z : z_B g_z zX RX9 cX9_has 2 := hM_z.1
  refine z_s 1 hB_z dX9_has_0 rfl rfl ?_
  refine z_s 2 hB_z dX9_has_1 rfl rfl ?_
  refine z_s 3 hB_z dX9_has_2 rfl rfl ?_
  refine z_s 4 hB_z dX9_has_3 rfl rfl ?_
  refine z_s 5 hB_z dX9_has_4 rfl rfl ?_
  refine z_s 6 hB_z dX9_has_5 rfl rfl ?_
  refine z_b 9 13 hB_z dX9_has_6 rfl rfl (by decide) (fun c_6 => ?_) (fun c_6 => ?_)
  ·
    refine z_s 14 hB_z dX9_has_13 rfl rfl ?_
    refine z_zret hM_z dX9_has_14 rfl (by decide) ?_ rfl rfl
    first
      | exact ⟨rfl, rfl⟩
      | exact ⟨rfl, by rw [if_pos (by first | assumption | exact ⟨by assumption, by assumption⟩)]⟩
      | exact ⟨rfl, by rw [if_neg (by first | assumption | exact z_nlt0 (by assumption) | exact (fun h_z => z_nlt0 h_z.1 (by assumption)) | exact (fun h_z => z_nlt0 h_z.2 (by assumption)))]⟩
  ·
    refine z_s 10 hB_z dX9_has_9 rfl rfl ?_
    refine z_j 14 hB_z dX9_has_10 (by decide) ?_
    refine z_zret hM_z dX9_has_14 rfl (by decide) ?_ rfl rfl
    first
      | exact ⟨rfl, rfl⟩
      | exact ⟨rfl, by rw [if_pos (by first | assumption | exact ⟨by assumption, by assumption⟩)]⟩
      | exact ⟨rfl, by rw [if_neg (by first | assumption | exact z_nlt0 (by assumption) | exact (fun h_z => z_nlt0 h_z.1 (by assumption)) | exact (fun h_z => z_nlt0 h_z.2 (by assumption)))]⟩

theorem c_X9_mod {g_z : z_U} {d_z : Nat} {zS : z_S} {x_z : Int32} {y_z : Int32} : z_C g_z (d_z) 0 0 mX9_mod [.int x_z, .int y_z] zS (fun r_z zS' => zS = zS' ∧ r_z = some (.int (if 0 < y_z then x_z - x_z / y_z * y_z else 0))) := by
  refine z_enter [some (.int x_z), some (.int y_z)] rfl rfl (Nat.le_of_ble_eq_true rfl) rfl (fun zX hM_z => ?_)
  have hB_z : z_B g_z zX RX9 cX9_mod 2 := hM_z.1
  refine z_s 1 hB_z dX9_mod_0 rfl rfl ?_
  refine z_b 4 10 hB_z dX9_mod_1 rfl rfl (by decide) (fun c_1 => ?_) (fun c_1 => ?_)
  ·
    refine z_s 11 hB_z dX9_mod_10 rfl rfl ?_
    refine z_iret hM_z dX9_mod_11 rfl ?_ rfl rfl
    first
      | exact ⟨rfl, rfl⟩
      | exact ⟨rfl, by rw [if_pos (by first | assumption | exact ⟨by assumption, by assumption⟩)]⟩
      | exact ⟨rfl, by rw [if_neg (by first | assumption | exact z_nlt0 (by assumption) | exact (fun h_z => z_nlt0 h_z.1 (by assumption)) | exact (fun h_z => z_nlt0 h_z.2 (by assumption)))]⟩
  ·
    refine z_s 5 hB_z dX9_mod_4 rfl rfl ?_
    refine z_s 6 hB_z dX9_mod_5 rfl rfl ?_
    refine z_irem 7 hB_z dX9_mod_6 rfl (fun h_z => by subst h_z; exact absurd c_1 (by decide)) ?_
    refine z_j 11 hB_z dX9_mod_7 (by decide) ?_
    refine z_iret hM_z dX9_mod_11 rfl ?_ rfl rfl
    first
      | exact ⟨rfl, rfl⟩
      | exact ⟨rfl, by rw [if_pos (by first | assumption | exact ⟨by assumption, by assumption⟩)]⟩
      | exact ⟨rfl, by rw [if_neg (by first | assumption | exact z_nlt0 (by assumption) | exact (fun h_z => z_nlt0 h_z.1 (by assumption)) | exact (fun h_z => z_nlt0 h_z.2 (by assumption)))]⟩

theorem c_X9_quotient {g_z : z_U} {d_z : Nat} {zS : z_S} {x_z : Int32} {y_z : Int32} : z_C g_z (d_z) 0 0 mX9_quotient [.int x_z, .int y_z] zS (fun r_z zS' => zS = zS' ∧ r_z = some (.int (if 0 < y_z then x_z / y_z else 0))) := by
  refine z_enter [some (.int x_z), some (.int y_z)] rfl rfl (Nat.le_of_ble_eq_true rfl) rfl (fun zX hM_z => ?_)
  have hB_z : z_B g_z zX RX9 cX9_quotient 2 := hM_z.1
  refine z_s 1 hB_z dX9_quotient_0 rfl rfl ?_
  refine z_b 4 10 hB_z dX9_quotient_1 rfl rfl (by decide) (fun c_1 => ?_) (fun c_1 => ?_)
  ·
    refine z_s 11 hB_z dX9_quotient_10 rfl rfl ?_
    refine z_iret hM_z dX9_quotient_11 rfl ?_ rfl rfl
    first
      | exact ⟨rfl, rfl⟩
      | exact ⟨rfl, by rw [if_pos (by first | assumption | exact ⟨by assumption, by assumption⟩)]⟩
      | exact ⟨rfl, by rw [if_neg (by first | assumption | exact z_nlt0 (by assumption) | exact (fun h_z => z_nlt0 h_z.1 (by assumption)) | exact (fun h_z => z_nlt0 h_z.2 (by assumption)))]⟩
  ·
    refine z_s 5 hB_z dX9_quotient_4 rfl rfl ?_
    refine z_s 6 hB_z dX9_quotient_5 rfl rfl ?_
    refine z_idiv 7 hB_z dX9_quotient_6 rfl (fun h_z => by subst h_z; exact absurd c_1 (by decide)) ?_
    refine z_j 11 hB_z dX9_quotient_7 (by decide) ?_
    refine z_iret hM_z dX9_quotient_11 rfl ?_ rfl rfl
    first
      | exact ⟨rfl, rfl⟩
      | exact ⟨rfl, by rw [if_pos (by first | assumption | exact ⟨by assumption, by assumption⟩)]⟩
      | exact ⟨rfl, by rw [if_neg (by first | assumption | exact z_nlt0 (by assumption) | exact (fun h_z => z_nlt0 h_z.1 (by assumption)) | exact (fun h_z => z_nlt0 h_z.2 (by assumption)))]⟩

theorem c_X9_isWithin {g_z : z_U} {d_z : Nat} {zS : z_S} {x_z : Int32} {a_z : Int32} {b_z : Int32} : z_C g_z (d_z) 0 0 mX9_isWithin [.int x_z, .int a_z, .int b_z] zS (fun r_z zS' => zS = zS' ∧ r_z = some (.int (if a_z ≤ x_z ∧ x_z ≤ b_z then 1 else 0))) := by
  refine z_enter [some (.int x_z), some (.int a_z), some (.int b_z)] rfl rfl (Nat.le_of_ble_eq_true rfl) rfl (fun zX hM_z => ?_)
  have hB_z : z_B g_z zX RX9 cX9_isWithin 3 := hM_z.1
  refine z_s 1 hB_z dX9_isWithin_0 rfl rfl ?_
  refine z_s 2 hB_z dX9_isWithin_1 rfl rfl ?_
  refine z_b 5 14 hB_z dX9_isWithin_2 rfl rfl (by decide) (fun c_2 => ?_) (fun c_2 => ?_)
  ·
    refine z_s 15 hB_z dX9_isWithin_14 rfl rfl ?_
    refine z_zret hM_z dX9_isWithin_15 rfl (by decide) ?_ rfl rfl
    first
      | exact ⟨rfl, rfl⟩
      | exact ⟨rfl, by rw [if_pos (by first | assumption | exact ⟨by assumption, by assumption⟩)]⟩
      | exact ⟨rfl, by rw [if_neg (by first | assumption | exact z_nlt0 (by assumption) | exact (fun h_z => z_nlt0 h_z.1 (by assumption)) | exact (fun h_z => z_nlt0 h_z.2 (by assumption)))]⟩
  ·
    refine z_s 6 hB_z dX9_isWithin_5 rfl rfl ?_
    refine z_s 7 hB_z dX9_isWithin_6 rfl rfl ?_
    refine z_b 10 14 hB_z dX9_isWithin_7 rfl rfl (by decide) (fun c_7 => ?_) (fun c_7 => ?_)
    ·
      refine z_s 15 hB_z dX9_isWithin_14 rfl rfl ?_
      refine z_zret hM_z dX9_isWithin_15 rfl (by decide) ?_ rfl rfl
      first
        | exact ⟨rfl, rfl⟩
        | exact ⟨rfl, by rw [if_pos (by first | assumption | exact ⟨by assumption, by assumption⟩)]⟩
        | exact ⟨rfl, by rw [if_neg (by first | assumption | exact z_nlt0 (by assumption) | exact (fun h_z => z_nlt0 h_z.1 (by assumption)) | exact (fun h_z => z_nlt0 h_z.2 (by assumption)))]⟩
    ·
      refine z_s 11 hB_z dX9_isWithin_10 rfl rfl ?_
      refine z_j 15 hB_z dX9_isWithin_11 (by decide) ?_
      refine z_zret hM_z dX9_isWithin_15 rfl (by decide) ?_ rfl rfl
      first
        | exact ⟨rfl, rfl⟩
        | exact ⟨rfl, by rw [if_pos (by first | assumption | exact ⟨by assumption, by assumption⟩)]⟩
        | exact ⟨rfl, by rw [if_neg (by first | assumption | exact z_nlt0 (by assumption) | exact (fun h_z => z_nlt0 h_z.1 (by assumption)) | exact (fun h_z => z_nlt0 h_z.2 (by assumption)))]⟩

theorem c_X9_pair {g_z : z_U} {d_z : Nat} {zS : z_S} {a_z : Int32} {b_z : Int32} : z_C g_z (d_z) 0 0 mX9_pair [.int a_z, .int b_z] zS (fun r_z zS' => zS = zS' ∧ r_z = some (.int (if a_z < b_z then 6 * a_z + b_z else 6 * b_z + a_z))) := by
  refine z_enter [some (.int a_z), some (.int b_z)] rfl rfl (Nat.le_of_ble_eq_true rfl) rfl (fun zX hM_z => ?_)
  have hB_z : z_B g_z zX RX9 cX9_pair 2 := hM_z.1
  refine z_s 1 hB_z dX9_pair_0 rfl rfl ?_
  refine z_s 2 hB_z dX9_pair_1 rfl rfl ?_
  refine z_b 5 14 hB_z dX9_pair_2 rfl rfl (by decide) (fun c_2 => ?_) (fun c_2 => ?_)
  ·
    refine z_s 16 hB_z dX9_pair_14 rfl rfl ?_
    refine z_s 17 hB_z dX9_pair_16 rfl rfl ?_
    refine z_s 18 hB_z dX9_pair_17 rfl rfl ?_
    refine z_s 19 hB_z dX9_pair_18 rfl rfl ?_
    refine z_s 20 hB_z dX9_pair_19 rfl rfl ?_
    refine z_iret hM_z dX9_pair_20 rfl ?_ rfl rfl
    first
      | exact ⟨rfl, rfl⟩
      | exact ⟨rfl, by rw [if_pos (by first | assumption | exact ⟨by assumption, by assumption⟩)]⟩
      | exact ⟨rfl, by rw [if_neg (by first | assumption | exact z_nlt0 (by assumption) | exact (fun h_z => z_nlt0 h_z.1 (by assumption)) | exact (fun h_z => z_nlt0 h_z.2 (by assumption)))]⟩
  ·
    refine z_s 7 hB_z dX9_pair_5 rfl rfl ?_
    refine z_s 8 hB_z dX9_pair_7 rfl rfl ?_
    refine z_s 9 hB_z dX9_pair_8 rfl rfl ?_
    refine z_s 10 hB_z dX9_pair_9 rfl rfl ?_
    refine z_s 11 hB_z dX9_pair_10 rfl rfl ?_
    refine z_j 20 hB_z dX9_pair_11 (by decide) ?_
    refine z_iret hM_z dX9_pair_20 rfl ?_ rfl rfl
    first
      | exact ⟨rfl, rfl⟩
      | exact ⟨rfl, by rw [if_pos (by first | assumption | exact ⟨by assumption, by assumption⟩)]⟩
      | exact ⟨rfl, by rw [if_neg (by first | assumption | exact z_nlt0 (by assumption) | exact (fun h_z => z_nlt0 h_z.1 (by assumption)) | exact (fun h_z => z_nlt0 h_z.2 (by assumption)))]⟩

theorem c_X3_at {g_z : z_U} {d_z : Nat} {zS : z_S} {o a_z n_z : Nat} (hr : z_row zS o a_z n_z) (hn : n_z < 2 ^ 31) {i_z : Int32} : z_C g_z (d_z) 0 0 mX3_at [.ref o, .int i_z] zS (fun r_z zS' => zS = zS' ∧ r_z = some (.int (z_rd (z_I zS) a_z n_z i_z))) := by
  refine z_enter [some (.ref o), some (.int i_z)] rfl rfl (Nat.le_of_ble_eq_true rfl) rfl (fun zX hM_z => ?_)
  have hB_z : z_B g_z zX RX3 cX3_at 2 := hM_z.1
  obtain ⟨h1, h2, h3⟩ := hr
  refine z_s 1 hB_z dX3_at_0 rfl rfl ?_
  refine z_b 4 22 hB_z dX3_at_1 rfl rfl (by decide) (fun c_1 => ?_) (fun c_1 => ?_)
  ·
    refine z_s 23 hB_z dX3_at_22 rfl rfl ?_
    refine z_iret hM_z dX3_at_23 rfl ?_ rfl rfl
    exact ⟨rfl, by unfold z_rd; rw [if_neg (fun h_z => z_nlt0 h_z.1 c_1)]⟩
  ·
    refine z_s 5 hB_z dX3_at_4 rfl rfl ?_
    refine z_s 6 hB_z dX3_at_5 rfl rfl ?_
    refine z_getR 9 hB_z fX3_7 (by assumption) dX3_at_6 rfl rfl (by assumption) ?_
    refine z_alen 10 hB_z (by assumption) dX3_at_9 rfl ?_
    refine z_b 13 22 hB_z dX3_at_10 rfl rfl (by decide) (fun c_10 => ?_) (fun c_10 => ?_)
    ·
      refine z_s 23 hB_z dX3_at_22 rfl rfl ?_
      refine z_iret hM_z dX3_at_23 rfl ?_ rfl rfl
      exact ⟨rfl, by unfold z_rd; rw [if_neg (fun h_z => z_nlt0 c_10 h_z.2)]⟩
    ·
      refine z_s 14 hB_z dX3_at_13 rfl rfl ?_
      refine z_getR 17 hB_z fX3_7 (by assumption) dX3_at_14 rfl rfl (by assumption) ?_
      refine z_s 18 hB_z dX3_at_17 rfl rfl ?_
      refine z_ald 19 hB_z (by assumption) dX3_at_18 rfl (z_vin hn (z_nlt0 c_1) c_10) ?_
      refine z_j 23 hB_z dX3_at_19 (by decide) ?_
      refine z_iret hM_z dX3_at_23 rfl ?_ rfl rfl
      exact ⟨rfl, by unfold z_rd; rw [if_pos ⟨c_1, c_10⟩]⟩

theorem c_X3_put {g_z : z_U} {d_z : Nat} {zS : z_S} {o a_z n_z : Nat} (hr : z_row zS o a_z n_z) (hn : n_z < 2 ^ 31) {i_z v_z : Int32} : z_C g_z (d_z) 0 0 mX3_put [.ref o, .int i_z, .int v_z] zS (fun r_z zS' => r_z = none ∧ zS' = if 0 ≤ i_z ∧ i_z < nI n_z then z_pI zS a_z i_z.toNatClampNeg v_z else zS) := by
  refine z_enter [some (.ref o), some (.int i_z), some (.int v_z)] rfl rfl (Nat.le_of_ble_eq_true rfl) rfl (fun zX hM_z => ?_)
  have hB_z : z_B g_z zX RX3 cX3_put 3 := hM_z.1
  obtain ⟨h1, h2, h3⟩ := hr
  refine z_s 1 hB_z dX3_put_0 rfl rfl ?_
  refine z_b 4 20 hB_z dX3_put_1 rfl rfl (by decide) (fun c_1 => ?_) (fun c_1 => ?_)
  ·
    refine z_vret hM_z dX3_put_20 rfl ?_ rfl rfl
    exact ⟨rfl, by rw [if_neg (fun h_z => z_nlt0 h_z.1 c_1)]⟩
  ·
    refine z_s 5 hB_z dX3_put_4 rfl rfl ?_
    refine z_s 6 hB_z dX3_put_5 rfl rfl ?_
    refine z_getR 9 hB_z fX3_7 (by assumption) dX3_put_6 rfl rfl (by assumption) ?_
    refine z_alen 10 hB_z (by assumption) dX3_put_9 rfl ?_
    refine z_b 13 20 hB_z dX3_put_10 rfl rfl (by decide) (fun c_10 => ?_) (fun c_10 => ?_)
    ·
      refine z_vret hM_z dX3_put_20 rfl ?_ rfl rfl
      exact ⟨rfl, by rw [if_neg (fun h_z => z_nlt0 c_10 h_z.2)]⟩
    ·
      refine z_s 14 hB_z dX3_put_13 rfl rfl ?_
      refine z_getR 17 hB_z fX3_7 (by assumption) dX3_put_14 rfl rfl (by assumption) ?_
      refine z_s 18 hB_z dX3_put_17 rfl rfl ?_
      refine z_s 19 hB_z dX3_put_18 rfl rfl ?_
      refine z_ast 20 hB_z (by assumption) dX3_put_19 rfl (z_vin hn (z_nlt0 c_1) c_10) ?_
      refine z_vret hM_z dX3_put_20 rfl ?_ rfl rfl
      exact ⟨rfl, by rw [if_pos ⟨c_1, c_10⟩]⟩

theorem c_X3_fill {g_z : z_U} {d_z : Nat} {zS : z_S} {o a_z n_z : Nat} (hr : z_row zS o a_z n_z) (hn : n_z < 2 ^ 31) {v_z : Int32} : z_C g_z (d_z) 0 0 mX3_fill [.ref o, .int v_z] zS (fun r_z zS' => r_z = none ∧ zS' = z_up zS (z_sa (z_I zS) a_z n_z (fun _ => v_z))) := by
  refine z_enter [some (.ref o), some (.int v_z), none] rfl rfl (Nat.le_of_ble_eq_true rfl) rfl (fun zX hM_z => ?_)
  have hB_z : z_B g_z zX RX3 cX3_fill 3 := hM_z.1
  obtain ⟨h1, h2, h3⟩ := hr
  have loop := z_loop (fun j_z => z_W g_z zX 2 [some (.ref o), some (.int v_z), some (.int (nI j_z))] [] 0 0 (z_up zS (z_sa (z_I zS) a_z j_z (fun _ => v_z)))) n_z (fun j_z hj ih_z => by
    refine z_s 3 hB_z dX3_fill_2 rfl rfl ?_
    refine z_s 4 hB_z dX3_fill_3 rfl rfl ?_
    refine z_getR 7 hB_z fX3_7 (by assumption) dX3_fill_4 rfl rfl (by assumption) ?_
    refine z_alen 8 hB_z (by assumption) dX3_fill_7 rfl ?_
    refine z_b 11 24 hB_z dX3_fill_8 rfl rfl (by decide) (fun c_8 => ?_) (fun c_8 => ?_)
    ·
      refine z_vret hM_z dX3_fill_24 rfl ?_ rfl rfl
      have e_z : j_z = n_z := by
        have h_z := (nI_leI hn (by omega)).mp c_8
        omega
      subst e_z
      exact ⟨rfl, rfl⟩
    ·
      have hlt : j_z < n_z := (nI_ltI (by omega) hn).mp c_8
      refine z_s 12 hB_z dX3_fill_11 rfl rfl ?_
      refine z_getR 15 hB_z fX3_7 (by assumption) dX3_fill_12 rfl rfl (by assumption) ?_
      refine z_s 16 hB_z dX3_fill_15 rfl rfl ?_
      refine z_s 17 hB_z dX3_fill_16 rfl rfl ?_
      refine z_ast 18 hB_z (by assumption) dX3_fill_17 rfl (vp_in_nI hlt hn) ?_
      refine z_s 21 hB_z dX3_fill_18 rfl rfl ?_
      refine z_j 2 hB_z dX3_fill_21 (by decide) ?_
      exact z_eq (ih_z hlt) (by rw [← z_inc]; rfl) rfl (by rw [← z_sa_succ, nI_clamp (by omega)]; rfl)) 0 (Nat.zero_le n_z)
  refine z_s 1 hB_z dX3_fill_0 rfl rfl ?_
  refine z_s 2 hB_z dX3_fill_1 rfl rfl ?_
  exact z_eq loop rfl rfl (by rw [z_sa_0]; rfl)

theorem c_X3_copy {g_z : z_U} {d_z : Nat} {zS : z_S} {o a_z o2 a2 n_z : Nat} (hr : z_row zS o a_z n_z) (hr2 : z_row zS o2 a2 n_z) (hn : n_z < 2 ^ 31) : z_C g_z (d_z + 1) 0 0 mX3_copy [.ref o, .ref o2] zS (fun r_z zS' => r_z = none ∧ zS' = z_up zS (z_sa (z_I zS) a_z n_z (z_I zS a2))) := by
  refine z_enter [some (.ref o), some (.ref o2), none] rfl rfl (Nat.le_of_ble_eq_true rfl) rfl (fun zX hM_z => ?_)
  have hB_z : z_B g_z zX RX3 cX3_copy 3 := hM_z.1
  obtain ⟨h1, h2, h3⟩ := hr
  obtain ⟨q1_z, q2_z, q3_z⟩ := id hr2
  have loop := z_loop (fun j_z => z_W g_z zX 2 [some (.ref o), some (.ref o2), some (.int (nI j_z))] [] 0 0 (z_up zS (z_sa (z_I zS) a_z j_z (z_I zS a2)))) n_z (fun j_z hj ih_z => by
    refine z_s 3 hB_z dX3_copy_2 rfl rfl ?_
    refine z_s 4 hB_z dX3_copy_3 rfl rfl ?_
    refine z_getR 7 hB_z fX3_7 (by assumption) dX3_copy_4 rfl rfl (by assumption) ?_
    refine z_alen 8 hB_z (by assumption) dX3_copy_7 rfl ?_
    refine z_b 11 28 hB_z dX3_copy_8 rfl rfl (by decide) (fun c_8 => ?_) (fun c_8 => ?_)
    ·
      refine z_vret hM_z dX3_copy_28 rfl ?_ rfl rfl
      have e_z : j_z = n_z := by
        have h_z := (nI_leI hn (by omega)).mp c_8
        omega
      subst e_z
      exact ⟨rfl, rfl⟩
    ·
      have hlt : j_z < n_z := (nI_ltI (by omega) hn).mp c_8
      refine z_s 12 hB_z dX3_copy_11 rfl rfl ?_
      refine z_getR 15 hB_z fX3_7 (by assumption) dX3_copy_12 rfl rfl (by assumption) ?_
      refine z_s 16 hB_z dX3_copy_15 rfl rfl ?_
      refine z_s 17 hB_z dX3_copy_16 rfl rfl ?_
      refine z_s 18 hB_z dX3_copy_17 rfl rfl ?_
      refine z_callV 21 hB_z hM_z.2.1 kX3_13 dX3_copy_18 rfl (by assumption) rfl (c_X3_at (d_z := 0) (z_row.up hr2) hn) (by omega) rfl rfl (Nat.le_of_ble_eq_true rfl) ⟨Nat.le_refl _, Nat.le_refl _⟩ ?_
      rintro _ _ ⟨rfl, rfl⟩
      refine z_ast 22 hB_z (by assumption) dX3_copy_21 rfl (vp_in_nI hlt hn) ?_
      refine z_s 25 hB_z dX3_copy_22 rfl rfl ?_
      refine z_j 2 hB_z dX3_copy_25 (by decide) ?_
      have e1_z : z_rd (z_sa (z_I zS) a_z j_z (fun k_z => z_I zS a2 k_z)) a2 n_z (nI j_z) = z_I zS a2 j_z := by
        unfold z_rd
        rw [if_pos ⟨nI_pos' (by omega), (nI_ltI (by omega) hn).mpr hlt⟩, nI_clamp (by omega)]
        simp only [z_sa, Nat.lt_irrefl, and_false, if_false]
      exact z_eq (ih_z hlt) (by rw [← z_inc]; rfl) rfl (by rw [← z_sa_succ, nI_clamp (by omega), ← e1_z]; rfl)) 0 (Nat.zero_le n_z)
  refine z_s 1 hB_z dX3_copy_0 rfl rfl ?_
  refine z_s 2 hB_z dX3_copy_1 rfl rfl ?_
  exact z_eq loop rfl rfl (by rw [z_sa_0]; rfl)

theorem c_J6_bitCount_0f7a4 {g_z : z_U} {d_z : Nat} {zS : z_S} {x_z : Int32} : z_C g_z (d_z) 0 0 mJ6_bitCount_0f7a4 [.int x_z] zS (fun r_z zS' => zS = zS' ∧ r_z = some (.int (z_bc x_z))) := by
  refine z_enter [some (.int x_z)] rfl rfl (Nat.le_of_ble_eq_true rfl) rfl (fun zX hM_z => ?_)
  have hB_z : z_B g_z zX RJ6 cJ6_bitCount_0f7a4 1 := hM_z.1
  refine z_s 1 hB_z dJ6_bitCount_0f7a4_0 rfl rfl ?_
  refine z_s 2 hB_z dJ6_bitCount_0f7a4_1 rfl rfl ?_
  refine z_s 3 hB_z dJ6_bitCount_0f7a4_2 rfl rfl ?_
  refine z_s 4 hB_z dJ6_bitCount_0f7a4_3 rfl rfl ?_
  refine z_ldcw 7 hB_z vJ6_265 dJ6_bitCount_0f7a4_4 rfl ?_
  refine z_s 8 hB_z dJ6_bitCount_0f7a4_7 rfl rfl ?_
  refine z_s 9 hB_z dJ6_bitCount_0f7a4_8 rfl rfl ?_
  refine z_s 10 hB_z dJ6_bitCount_0f7a4_9 rfl rfl ?_
  refine z_s 11 hB_z dJ6_bitCount_0f7a4_10 rfl rfl ?_
  refine z_ldcw 14 hB_z vJ6_266 dJ6_bitCount_0f7a4_11 rfl ?_
  refine z_s 15 hB_z dJ6_bitCount_0f7a4_14 rfl rfl ?_
  refine z_s 16 hB_z dJ6_bitCount_0f7a4_15 rfl rfl ?_
  refine z_s 17 hB_z dJ6_bitCount_0f7a4_16 rfl rfl ?_
  refine z_s 18 hB_z dJ6_bitCount_0f7a4_17 rfl rfl ?_
  refine z_ldcw 21 hB_z vJ6_266 dJ6_bitCount_0f7a4_18 rfl ?_
  refine z_s 22 hB_z dJ6_bitCount_0f7a4_21 rfl rfl ?_
  refine z_s 23 hB_z dJ6_bitCount_0f7a4_22 rfl rfl ?_
  refine z_s 24 hB_z dJ6_bitCount_0f7a4_23 rfl rfl ?_
  refine z_s 25 hB_z dJ6_bitCount_0f7a4_24 rfl rfl ?_
  refine z_s 26 hB_z dJ6_bitCount_0f7a4_25 rfl rfl ?_
  refine z_s 27 hB_z dJ6_bitCount_0f7a4_26 rfl rfl ?_
  refine z_s 28 hB_z dJ6_bitCount_0f7a4_27 rfl rfl ?_
  refine z_s 29 hB_z dJ6_bitCount_0f7a4_28 rfl rfl ?_
  refine z_ldcw 32 hB_z vJ6_267 dJ6_bitCount_0f7a4_29 rfl ?_
  refine z_s 33 hB_z dJ6_bitCount_0f7a4_32 rfl rfl ?_
  refine z_s 34 hB_z dJ6_bitCount_0f7a4_33 rfl rfl ?_
  refine z_s 35 hB_z dJ6_bitCount_0f7a4_34 rfl rfl ?_
  refine z_s 36 hB_z dJ6_bitCount_0f7a4_35 rfl rfl ?_
  refine z_s 38 hB_z dJ6_bitCount_0f7a4_36 rfl rfl ?_
  refine z_s 39 hB_z dJ6_bitCount_0f7a4_38 rfl rfl ?_
  refine z_s 40 hB_z dJ6_bitCount_0f7a4_39 rfl rfl ?_
  refine z_s 41 hB_z dJ6_bitCount_0f7a4_40 rfl rfl ?_
  refine z_s 42 hB_z dJ6_bitCount_0f7a4_41 rfl rfl ?_
  refine z_s 43 hB_z dJ6_bitCount_0f7a4_42 rfl rfl ?_
  refine z_s 45 hB_z dJ6_bitCount_0f7a4_43 rfl rfl ?_
  refine z_s 46 hB_z dJ6_bitCount_0f7a4_45 rfl rfl ?_
  refine z_s 47 hB_z dJ6_bitCount_0f7a4_46 rfl rfl ?_
  refine z_s 48 hB_z dJ6_bitCount_0f7a4_47 rfl rfl ?_
  refine z_s 49 hB_z dJ6_bitCount_0f7a4_48 rfl rfl ?_
  refine z_s 51 hB_z dJ6_bitCount_0f7a4_49 rfl rfl ?_
  refine z_s 52 hB_z dJ6_bitCount_0f7a4_51 rfl rfl ?_
  refine z_iret hM_z dJ6_bitCount_0f7a4_52 rfl ?_ rfl rfl
  first | exact ⟨rfl, rfl⟩ | exact rfl | simp_all

theorem c_X9_dividesBoth {g_z : z_U} {d_z : Nat} {zS : z_S} {d2_z : Int32} {a_z : Int32} {b_z : Int32} : z_C g_z (d_z) 0 0 mX9_dividesBoth [.int d2_z, .int a_z, .int b_z] zS (fun r_z zS' => zS = zS' ∧ r_z = some (.int (if 0 < d2_z ∧ a_z - a_z / d2_z * d2_z = 0 ∧ b_z - b_z / d2_z * d2_z = 0 then 1 else 0))) := by
  refine z_enter [some (.int d2_z), some (.int a_z), some (.int b_z)] rfl rfl (Nat.le_of_ble_eq_true rfl) rfl (fun zX hM_z => ?_)
  have hB_z : z_B g_z zX RX9 cX9_dividesBoth 3 := hM_z.1
  refine z_s 1 hB_z dX9_dividesBoth_0 rfl rfl ?_
  refine z_b 4 20 hB_z dX9_dividesBoth_1 rfl rfl (by decide) (fun c_1 => ?_) (fun c_1 => ?_)
  ·
    refine z_s 21 hB_z dX9_dividesBoth_20 rfl rfl ?_
    refine z_zret hM_z dX9_dividesBoth_21 rfl (by decide) ?_ rfl rfl
    first
      | exact ⟨rfl, by rw [if_pos ⟨by assumption, by assumption, by assumption⟩]⟩
      | exact ⟨rfl, by rw [if_neg (fun h_z => z_nlt0 (by assumption) h_z.1)]⟩
      | exact ⟨rfl, by rw [if_neg (fun h_z => by first | exact absurd h_z.2.1 (by assumption) | exact absurd h_z.2.2 (by assumption))]⟩
  ·
    refine z_s 5 hB_z dX9_dividesBoth_4 rfl rfl ?_
    refine z_s 6 hB_z dX9_dividesBoth_5 rfl rfl ?_
    refine z_irem 7 hB_z dX9_dividesBoth_6 rfl (fun h_z => by subst h_z; exact absurd c_1 (by decide)) ?_
    refine z_b 10 20 hB_z dX9_dividesBoth_7 rfl rfl (by decide) (fun c_7 => ?_) (fun c_7 => ?_)
    ·
      refine z_s 21 hB_z dX9_dividesBoth_20 rfl rfl ?_
      refine z_zret hM_z dX9_dividesBoth_21 rfl (by decide) ?_ rfl rfl
      first
        | exact ⟨rfl, by rw [if_pos ⟨by assumption, by assumption, by assumption⟩]⟩
        | exact ⟨rfl, by rw [if_neg (fun h_z => z_nlt0 (by assumption) h_z.1)]⟩
        | exact ⟨rfl, by rw [if_neg (fun h_z => by first | exact absurd h_z.2.1 (by assumption) | exact absurd h_z.2.2 (by assumption))]⟩
    ·
      refine z_s 11 hB_z dX9_dividesBoth_10 rfl rfl ?_
      refine z_s 12 hB_z dX9_dividesBoth_11 rfl rfl ?_
      refine z_irem 13 hB_z dX9_dividesBoth_12 rfl (fun h_z => by subst h_z; exact absurd c_1 (by decide)) ?_
      refine z_b 16 20 hB_z dX9_dividesBoth_13 rfl rfl (by decide) (fun c_13 => ?_) (fun c_13 => ?_)
      ·
        refine z_s 21 hB_z dX9_dividesBoth_20 rfl rfl ?_
        refine z_zret hM_z dX9_dividesBoth_21 rfl (by decide) ?_ rfl rfl
        first
          | exact ⟨rfl, by rw [if_pos ⟨by assumption, by assumption, by assumption⟩]⟩
          | exact ⟨rfl, by rw [if_neg (fun h_z => z_nlt0 (by assumption) h_z.1)]⟩
          | exact ⟨rfl, by rw [if_neg (fun h_z => by first | exact absurd h_z.2.1 (by assumption) | exact absurd h_z.2.2 (by assumption))]⟩
      ·
        refine z_s 17 hB_z dX9_dividesBoth_16 rfl rfl ?_
        refine z_j 21 hB_z dX9_dividesBoth_17 (by decide) ?_
        refine z_zret hM_z dX9_dividesBoth_21 rfl (by decide) ?_ rfl rfl
        first
          | exact ⟨rfl, by rw [if_pos ⟨by assumption, by assumption, by assumption⟩]⟩
          | exact ⟨rfl, by rw [if_neg (fun h_z => z_nlt0 (by assumption) h_z.1)]⟩
          | exact ⟨rfl, by rw [if_neg (fun h_z => by first | exact absurd h_z.2.1 (by assumption) | exact absurd h_z.2.2 (by assumption))]⟩

theorem c_X9_draw {g_z : z_U} {d_z : Nat} {zS : z_S} {z_z : Int32} {k_z : Int32} : z_C g_z (d_z) 0 0 mX9_draw [.int z_z, .int k_z] zS (fun r_z zS' => zS = zS' ∧ r_z = some (.int (z_draw z_z k_z))) := by
  refine z_enter [some (.int z_z), some (.int k_z), none, none] rfl rfl (Nat.le_of_ble_eq_true rfl) rfl (fun zX hM_z => ?_)
  have hB_z : z_B g_z zX RX9 cX9_draw 4 := hM_z.1
  refine z_ldc2 3 hB_z vX9_319 dX9_draw_0 rfl ?_
  refine z_s 4 hB_z dX9_draw_3 rfl rfl ?_
  refine z_s 5 hB_z dX9_draw_4 rfl rfl ?_
  refine z_s 6 hB_z dX9_draw_5 rfl rfl ?_
  refine z_ldc2 9 hB_z vX9_321 dX9_draw_6 rfl ?_
  refine z_s 10 hB_z dX9_draw_9 rfl rfl ?_
  refine z_s 11 hB_z dX9_draw_10 rfl rfl ?_
  refine z_s 12 hB_z dX9_draw_11 rfl rfl ?_
  refine z_s 13 hB_z dX9_draw_12 rfl rfl ?_
  refine z_s 14 hB_z dX9_draw_13 rfl rfl ?_
  refine z_s 15 hB_z dX9_draw_14 rfl rfl ?_
  refine z_s 16 hB_z dX9_draw_15 rfl rfl ?_
  refine z_s 17 hB_z dX9_draw_16 rfl rfl ?_
  refine z_s 18 hB_z dX9_draw_17 rfl rfl ?_
  refine z_s 19 hB_z dX9_draw_18 rfl rfl ?_
  refine z_ldc2 22 hB_z vX9_323 dX9_draw_19 rfl ?_
  refine z_lrem 23 hB_z dX9_draw_22 rfl (by decide) ?_
  refine z_ldc2 26 hB_z vX9_325 dX9_draw_23 rfl ?_
  refine z_ldiv 27 hB_z dX9_draw_26 rfl (by decide) ?_
  refine z_s 28 hB_z dX9_draw_27 rfl rfl ?_
  refine z_iret hM_z dX9_draw_28 rfl ?_ rfl rfl
  exact ⟨rfl, rfl⟩
end
section
/-! the layout of the class's cells, by program; and what the calls say, in words of numbers -/
def z_kL : List (Nat × Nat) := [(0, 9), (0, 8), (1, 200), (0, 5), (0, 3), (1, 6), (0, 3), (1, 6), (0, 3), (1, 6), (0, 3), (1, 6), (0, 3), (1, 10), (0, 3), (1, 10), (0, 3), (1, 10), (0, 3), (1, 10), (0, 3), (1, 6), (0, 5), (0, 3), (1, 6), (0, 3), (1, 6), (0, 3), (1, 6), (0, 3), (1, 6), (0, 3), (1, 10), (0, 3), (1, 10), (0, 3), (1, 10), (0, 3), (1, 10), (0, 3), (1, 6), (0, 2), (0, 3), (1, 4), (0, 1), (0, 3), (1, 10), (0, 7), (0, 3), (1, 6), (0, 7), (0, 3), (1, 6), (0, 4), (2, 8), (0, 7), (0, 3), (1, 6), (0, 7), (0, 3), (1, 6), (0, 7), (0, 3), (1, 6), (0, 7), (0, 3), (1, 6), (0, 7), (0, 3), (1, 6), (0, 7), (0, 3), (1, 6), (0, 7), (0, 3), (1, 6), (0, 7), (0, 3), (1, 6), (0, 4), (2, 2), (0, 7), (0, 3), (1, 6), (0, 7), (0, 3), (1, 6), (0, 6), (0, 3), (1, 8), (0, 3), (1, 8), (0, 3), (1, 8), (0, 0)]
def z_rL : List (Nat × Nat × Nat) := [(5, 0, 6), (8, 0, 9), (7, 0, 8), (10, 0, 11), (7, 1, 10), (12, 0, 13), (7, 2, 12), (14, 0, 15), (7, 3, 14), (16, 0, 17), (7, 4, 16), (18, 0, 19), (7, 5, 18), (20, 0, 21), (7, 6, 20), (22, 0, 23), (7, 7, 22), (24, 0, 25), (7, 8, 24), (27, 0, 28), (26, 0, 27), (29, 0, 30), (26, 1, 29), (31, 0, 32), (26, 2, 31), (33, 0, 34), (26, 3, 33), (35, 0, 36), (26, 4, 35), (37, 0, 38), (26, 5, 37), (39, 0, 40), (26, 6, 39), (41, 0, 42), (26, 7, 41), (43, 0, 44), (26, 8, 43), (45, 0, 5), (45, 1, 26), (46, 0, 47), (45, 2, 46), (48, 0, 7), (49, 0, 50), (48, 1, 49), (52, 0, 53), (51, 6, 52), (55, 0, 56), (54, 6, 55), (57, 0, 58), (60, 0, 61), (59, 6, 60), (63, 0, 64), (62, 6, 63), (66, 0, 67), (65, 6, 66), (69, 0, 70), (68, 6, 69), (72, 0, 73), (71, 6, 72), (75, 0, 76), (74, 6, 75), (78, 0, 79), (77, 6, 78), (81, 0, 82), (80, 6, 81), (83, 0, 84), (86, 0, 87), (85, 6, 86), (89, 0, 90), (88, 6, 89), (92, 0, 93), (91, 0, 92), (94, 0, 95), (91, 1, 94), (96, 0, 97), (91, 2, 96), (4, 0, 5), (4, 1, 7), (4, 2, 26), (4, 3, 45), (4, 4, 48), (4, 5, 51), (4, 6, 54), (4, 7, 57), (4, 8, 83), (4, 9, 91), (4, 10, 98)]
def z_L (zS : z_S) : Prop := (∀ k_z, k_z < 95 → z_kd zS (k_z + 4) = z_kL.getD k_z (0, 0)) ∧ 95 ≤ z_nx zS ∧ ∀ t_z ∈ z_rL, z_R zS t_z.1 t_z.2.1 = some t_z.2.2
theorem z_L_is {zS : z_S} (hL : z_L zS) (k_z : Nat) {q_z : Nat × Nat} (hk : k_z < 95) (hq : z_kL.getD k_z (0, 0) = q_z) : z_is zS (k_z + 4) q_z := ⟨(hL.1 k_z hk).trans hq, by omega, by have := hL.2.1; omega⟩
theorem z_L_r {zS : z_S} (hL : z_L zS) (i_z : Nat) {a_z k_z b_z : Nat} (h_z : z_rL[i_z]? = some (a_z, k_z, b_z)) : z_R zS a_z k_z = some b_z := hL.2.2 (a_z, k_z, b_z) (List.mem_of_getElem? h_z)
theorem z_L.up {zS : z_S} {f_z : Nat → Nat → Int32} (h_z : z_L zS) : z_L (z_up zS f_z) := h_z
theorem z_L.pI {zS : z_S} {o k_z : Nat} {v_z : Int32} (h_z : z_L zS) : z_L (z_pI zS o k_z v_z) := h_z
theorem L4_z {zS : z_S} (hL : z_L zS) : z_is zS 4 (0, 9) := z_L_is hL 0 (by decide) rfl
theorem L5_z {zS : z_S} (hL : z_L zS) : z_is zS 5 (0, 8) := z_L_is hL 1 (by decide) rfl
theorem L6_z {zS : z_S} (hL : z_L zS) : z_is zS 6 (1, 200) := z_L_is hL 2 (by decide) rfl
theorem L7 {zS : z_S} (hL : z_L zS) : z_is zS 7 (0, 5) := z_L_is hL 3 (by decide) rfl
theorem L8_z {zS : z_S} (hL : z_L zS) : z_is zS 8 (0, 3) := z_L_is hL 4 (by decide) rfl
theorem L9 {zS : z_S} (hL : z_L zS) : z_is zS 9 (1, 6) := z_L_is hL 5 (by decide) rfl
theorem L10 {zS : z_S} (hL : z_L zS) : z_is zS 10 (0, 3) := z_L_is hL 6 (by decide) rfl
theorem L11 {zS : z_S} (hL : z_L zS) : z_is zS 11 (1, 6) := z_L_is hL 7 (by decide) rfl
theorem L12_z {zS : z_S} (hL : z_L zS) : z_is zS 12 (0, 3) := z_L_is hL 8 (by decide) rfl
theorem L13 {zS : z_S} (hL : z_L zS) : z_is zS 13 (1, 6) := z_L_is hL 9 (by decide) rfl
theorem L14 {zS : z_S} (hL : z_L zS) : z_is zS 14 (0, 3) := z_L_is hL 10 (by decide) rfl
theorem L15 {zS : z_S} (hL : z_L zS) : z_is zS 15 (1, 6) := z_L_is hL 11 (by decide) rfl
theorem L16 {zS : z_S} (hL : z_L zS) : z_is zS 16 (0, 3) := z_L_is hL 12 (by decide) rfl
theorem L17 {zS : z_S} (hL : z_L zS) : z_is zS 17 (1, 10) := z_L_is hL 13 (by decide) rfl
theorem L18 {zS : z_S} (hL : z_L zS) : z_is zS 18 (0, 3) := z_L_is hL 14 (by decide) rfl
theorem L19 {zS : z_S} (hL : z_L zS) : z_is zS 19 (1, 10) := z_L_is hL 15 (by decide) rfl
theorem L20 {zS : z_S} (hL : z_L zS) : z_is zS 20 (0, 3) := z_L_is hL 16 (by decide) rfl
theorem L21 {zS : z_S} (hL : z_L zS) : z_is zS 21 (1, 10) := z_L_is hL 17 (by decide) rfl
theorem L22 {zS : z_S} (hL : z_L zS) : z_is zS 22 (0, 3) := z_L_is hL 18 (by decide) rfl
theorem L23 {zS : z_S} (hL : z_L zS) : z_is zS 23 (1, 10) := z_L_is hL 19 (by decide) rfl
theorem L24 {zS : z_S} (hL : z_L zS) : z_is zS 24 (0, 3) := z_L_is hL 20 (by decide) rfl
theorem L25 {zS : z_S} (hL : z_L zS) : z_is zS 25 (1, 6) := z_L_is hL 21 (by decide) rfl
theorem L26 {zS : z_S} (hL : z_L zS) : z_is zS 26 (0, 5) := z_L_is hL 22 (by decide) rfl
theorem L27 {zS : z_S} (hL : z_L zS) : z_is zS 27 (0, 3) := z_L_is hL 23 (by decide) rfl
theorem L28 {zS : z_S} (hL : z_L zS) : z_is zS 28 (1, 6) := z_L_is hL 24 (by decide) rfl
theorem L29 {zS : z_S} (hL : z_L zS) : z_is zS 29 (0, 3) := z_L_is hL 25 (by decide) rfl
theorem L30 {zS : z_S} (hL : z_L zS) : z_is zS 30 (1, 6) := z_L_is hL 26 (by decide) rfl
theorem L31 {zS : z_S} (hL : z_L zS) : z_is zS 31 (0, 3) := z_L_is hL 27 (by decide) rfl
theorem L32 {zS : z_S} (hL : z_L zS) : z_is zS 32 (1, 6) := z_L_is hL 28 (by decide) rfl
theorem L33 {zS : z_S} (hL : z_L zS) : z_is zS 33 (0, 3) := z_L_is hL 29 (by decide) rfl
theorem L34 {zS : z_S} (hL : z_L zS) : z_is zS 34 (1, 6) := z_L_is hL 30 (by decide) rfl
theorem L35 {zS : z_S} (hL : z_L zS) : z_is zS 35 (0, 3) := z_L_is hL 31 (by decide) rfl
theorem L36 {zS : z_S} (hL : z_L zS) : z_is zS 36 (1, 10) := z_L_is hL 32 (by decide) rfl
theorem L37 {zS : z_S} (hL : z_L zS) : z_is zS 37 (0, 3) := z_L_is hL 33 (by decide) rfl
theorem L38 {zS : z_S} (hL : z_L zS) : z_is zS 38 (1, 10) := z_L_is hL 34 (by decide) rfl
theorem L39 {zS : z_S} (hL : z_L zS) : z_is zS 39 (0, 3) := z_L_is hL 35 (by decide) rfl
theorem L40 {zS : z_S} (hL : z_L zS) : z_is zS 40 (1, 10) := z_L_is hL 36 (by decide) rfl
theorem L41 {zS : z_S} (hL : z_L zS) : z_is zS 41 (0, 3) := z_L_is hL 37 (by decide) rfl
theorem L42 {zS : z_S} (hL : z_L zS) : z_is zS 42 (1, 10) := z_L_is hL 38 (by decide) rfl
theorem L43 {zS : z_S} (hL : z_L zS) : z_is zS 43 (0, 3) := z_L_is hL 39 (by decide) rfl
theorem L44 {zS : z_S} (hL : z_L zS) : z_is zS 44 (1, 6) := z_L_is hL 40 (by decide) rfl
theorem L45 {zS : z_S} (hL : z_L zS) : z_is zS 45 (0, 2) := z_L_is hL 41 (by decide) rfl
theorem L46 {zS : z_S} (hL : z_L zS) : z_is zS 46 (0, 3) := z_L_is hL 42 (by decide) rfl
theorem L47 {zS : z_S} (hL : z_L zS) : z_is zS 47 (1, 4) := z_L_is hL 43 (by decide) rfl
theorem L48 {zS : z_S} (hL : z_L zS) : z_is zS 48 (0, 1) := z_L_is hL 44 (by decide) rfl
theorem L49 {zS : z_S} (hL : z_L zS) : z_is zS 49 (0, 3) := z_L_is hL 45 (by decide) rfl
theorem L50 {zS : z_S} (hL : z_L zS) : z_is zS 50 (1, 10) := z_L_is hL 46 (by decide) rfl
theorem L51 {zS : z_S} (hL : z_L zS) : z_is zS 51 (0, 7) := z_L_is hL 47 (by decide) rfl
theorem L52 {zS : z_S} (hL : z_L zS) : z_is zS 52 (0, 3) := z_L_is hL 48 (by decide) rfl
theorem L53 {zS : z_S} (hL : z_L zS) : z_is zS 53 (1, 6) := z_L_is hL 49 (by decide) rfl
theorem L54 {zS : z_S} (hL : z_L zS) : z_is zS 54 (0, 7) := z_L_is hL 50 (by decide) rfl
theorem L55 {zS : z_S} (hL : z_L zS) : z_is zS 55 (0, 3) := z_L_is hL 51 (by decide) rfl
theorem L56 {zS : z_S} (hL : z_L zS) : z_is zS 56 (1, 6) := z_L_is hL 52 (by decide) rfl
theorem L57 {zS : z_S} (hL : z_L zS) : z_is zS 57 (0, 4) := z_L_is hL 53 (by decide) rfl
theorem L58 {zS : z_S} (hL : z_L zS) : z_is zS 58 (2, 8) := z_L_is hL 54 (by decide) rfl
theorem L59 {zS : z_S} (hL : z_L zS) : z_is zS 59 (0, 7) := z_L_is hL 55 (by decide) rfl
theorem L60 {zS : z_S} (hL : z_L zS) : z_is zS 60 (0, 3) := z_L_is hL 56 (by decide) rfl
theorem L61 {zS : z_S} (hL : z_L zS) : z_is zS 61 (1, 6) := z_L_is hL 57 (by decide) rfl
theorem L62 {zS : z_S} (hL : z_L zS) : z_is zS 62 (0, 7) := z_L_is hL 58 (by decide) rfl
theorem L63 {zS : z_S} (hL : z_L zS) : z_is zS 63 (0, 3) := z_L_is hL 59 (by decide) rfl
theorem L64 {zS : z_S} (hL : z_L zS) : z_is zS 64 (1, 6) := z_L_is hL 60 (by decide) rfl
theorem L65 {zS : z_S} (hL : z_L zS) : z_is zS 65 (0, 7) := z_L_is hL 61 (by decide) rfl
theorem L66 {zS : z_S} (hL : z_L zS) : z_is zS 66 (0, 3) := z_L_is hL 62 (by decide) rfl
theorem L67 {zS : z_S} (hL : z_L zS) : z_is zS 67 (1, 6) := z_L_is hL 63 (by decide) rfl
theorem L68 {zS : z_S} (hL : z_L zS) : z_is zS 68 (0, 7) := z_L_is hL 64 (by decide) rfl
theorem L69 {zS : z_S} (hL : z_L zS) : z_is zS 69 (0, 3) := z_L_is hL 65 (by decide) rfl
theorem L70 {zS : z_S} (hL : z_L zS) : z_is zS 70 (1, 6) := z_L_is hL 66 (by decide) rfl
theorem L71 {zS : z_S} (hL : z_L zS) : z_is zS 71 (0, 7) := z_L_is hL 67 (by decide) rfl
theorem L72 {zS : z_S} (hL : z_L zS) : z_is zS 72 (0, 3) := z_L_is hL 68 (by decide) rfl
theorem L73 {zS : z_S} (hL : z_L zS) : z_is zS 73 (1, 6) := z_L_is hL 69 (by decide) rfl
theorem L74 {zS : z_S} (hL : z_L zS) : z_is zS 74 (0, 7) := z_L_is hL 70 (by decide) rfl
theorem L75 {zS : z_S} (hL : z_L zS) : z_is zS 75 (0, 3) := z_L_is hL 71 (by decide) rfl
theorem L76 {zS : z_S} (hL : z_L zS) : z_is zS 76 (1, 6) := z_L_is hL 72 (by decide) rfl
theorem L77 {zS : z_S} (hL : z_L zS) : z_is zS 77 (0, 7) := z_L_is hL 73 (by decide) rfl
theorem L78 {zS : z_S} (hL : z_L zS) : z_is zS 78 (0, 3) := z_L_is hL 74 (by decide) rfl
theorem L79 {zS : z_S} (hL : z_L zS) : z_is zS 79 (1, 6) := z_L_is hL 75 (by decide) rfl
theorem L80 {zS : z_S} (hL : z_L zS) : z_is zS 80 (0, 7) := z_L_is hL 76 (by decide) rfl
theorem L81 {zS : z_S} (hL : z_L zS) : z_is zS 81 (0, 3) := z_L_is hL 77 (by decide) rfl
theorem L82 {zS : z_S} (hL : z_L zS) : z_is zS 82 (1, 6) := z_L_is hL 78 (by decide) rfl
theorem L83 {zS : z_S} (hL : z_L zS) : z_is zS 83 (0, 4) := z_L_is hL 79 (by decide) rfl
theorem L84 {zS : z_S} (hL : z_L zS) : z_is zS 84 (2, 2) := z_L_is hL 80 (by decide) rfl
theorem L85 {zS : z_S} (hL : z_L zS) : z_is zS 85 (0, 7) := z_L_is hL 81 (by decide) rfl
theorem L86 {zS : z_S} (hL : z_L zS) : z_is zS 86 (0, 3) := z_L_is hL 82 (by decide) rfl
theorem L87 {zS : z_S} (hL : z_L zS) : z_is zS 87 (1, 6) := z_L_is hL 83 (by decide) rfl
theorem L88 {zS : z_S} (hL : z_L zS) : z_is zS 88 (0, 7) := z_L_is hL 84 (by decide) rfl
theorem L89 {zS : z_S} (hL : z_L zS) : z_is zS 89 (0, 3) := z_L_is hL 85 (by decide) rfl
theorem L90 {zS : z_S} (hL : z_L zS) : z_is zS 90 (1, 6) := z_L_is hL 86 (by decide) rfl
theorem L91 {zS : z_S} (hL : z_L zS) : z_is zS 91 (0, 6) := z_L_is hL 87 (by decide) rfl
theorem L92 {zS : z_S} (hL : z_L zS) : z_is zS 92 (0, 3) := z_L_is hL 88 (by decide) rfl
theorem L93 {zS : z_S} (hL : z_L zS) : z_is zS 93 (1, 8) := z_L_is hL 89 (by decide) rfl
theorem L94 {zS : z_S} (hL : z_L zS) : z_is zS 94 (0, 3) := z_L_is hL 90 (by decide) rfl
theorem L95 {zS : z_S} (hL : z_L zS) : z_is zS 95 (1, 8) := z_L_is hL 91 (by decide) rfl
theorem L96 {zS : z_S} (hL : z_L zS) : z_is zS 96 (0, 3) := z_L_is hL 92 (by decide) rfl
theorem L97 {zS : z_S} (hL : z_L zS) : z_is zS 97 (1, 8) := z_L_is hL 93 (by decide) rfl
theorem L98 {zS : z_S} (hL : z_L zS) : z_is zS 98 (0, 0) := z_L_is hL 94 (by decide) rfl
theorem r5_0 {zS : z_S} (hL : z_L zS) : z_R zS 5 0 = some 6 := z_L_r hL 0 rfl
theorem r8_0 {zS : z_S} (hL : z_L zS) : z_R zS 8 0 = some 9 := z_L_r hL 1 rfl
theorem r7_0 {zS : z_S} (hL : z_L zS) : z_R zS 7 0 = some 8 := z_L_r hL 2 rfl
theorem r10_0 {zS : z_S} (hL : z_L zS) : z_R zS 10 0 = some 11 := z_L_r hL 3 rfl
theorem r7_1 {zS : z_S} (hL : z_L zS) : z_R zS 7 1 = some 10 := z_L_r hL 4 rfl
theorem r12_0 {zS : z_S} (hL : z_L zS) : z_R zS 12 0 = some 13 := z_L_r hL 5 rfl
theorem r7_2 {zS : z_S} (hL : z_L zS) : z_R zS 7 2 = some 12 := z_L_r hL 6 rfl
theorem r14_0 {zS : z_S} (hL : z_L zS) : z_R zS 14 0 = some 15 := z_L_r hL 7 rfl
theorem r7_3 {zS : z_S} (hL : z_L zS) : z_R zS 7 3 = some 14 := z_L_r hL 8 rfl
theorem r16_0 {zS : z_S} (hL : z_L zS) : z_R zS 16 0 = some 17 := z_L_r hL 9 rfl
theorem r7_4 {zS : z_S} (hL : z_L zS) : z_R zS 7 4 = some 16 := z_L_r hL 10 rfl
theorem r18_0 {zS : z_S} (hL : z_L zS) : z_R zS 18 0 = some 19 := z_L_r hL 11 rfl
theorem r7_5 {zS : z_S} (hL : z_L zS) : z_R zS 7 5 = some 18 := z_L_r hL 12 rfl
theorem r20_0 {zS : z_S} (hL : z_L zS) : z_R zS 20 0 = some 21 := z_L_r hL 13 rfl
theorem r7_6 {zS : z_S} (hL : z_L zS) : z_R zS 7 6 = some 20 := z_L_r hL 14 rfl
theorem r22_0 {zS : z_S} (hL : z_L zS) : z_R zS 22 0 = some 23 := z_L_r hL 15 rfl
theorem r7_7 {zS : z_S} (hL : z_L zS) : z_R zS 7 7 = some 22 := z_L_r hL 16 rfl
theorem r24_0 {zS : z_S} (hL : z_L zS) : z_R zS 24 0 = some 25 := z_L_r hL 17 rfl
theorem r7_8 {zS : z_S} (hL : z_L zS) : z_R zS 7 8 = some 24 := z_L_r hL 18 rfl
theorem r27_0 {zS : z_S} (hL : z_L zS) : z_R zS 27 0 = some 28 := z_L_r hL 19 rfl
theorem r26_0 {zS : z_S} (hL : z_L zS) : z_R zS 26 0 = some 27 := z_L_r hL 20 rfl
theorem r29_0 {zS : z_S} (hL : z_L zS) : z_R zS 29 0 = some 30 := z_L_r hL 21 rfl
theorem r26_1 {zS : z_S} (hL : z_L zS) : z_R zS 26 1 = some 29 := z_L_r hL 22 rfl
theorem r31_0 {zS : z_S} (hL : z_L zS) : z_R zS 31 0 = some 32 := z_L_r hL 23 rfl
theorem r26_2 {zS : z_S} (hL : z_L zS) : z_R zS 26 2 = some 31 := z_L_r hL 24 rfl
theorem r33_0 {zS : z_S} (hL : z_L zS) : z_R zS 33 0 = some 34 := z_L_r hL 25 rfl
theorem r26_3 {zS : z_S} (hL : z_L zS) : z_R zS 26 3 = some 33 := z_L_r hL 26 rfl
theorem r35_0 {zS : z_S} (hL : z_L zS) : z_R zS 35 0 = some 36 := z_L_r hL 27 rfl
theorem r26_4 {zS : z_S} (hL : z_L zS) : z_R zS 26 4 = some 35 := z_L_r hL 28 rfl
theorem r37_0 {zS : z_S} (hL : z_L zS) : z_R zS 37 0 = some 38 := z_L_r hL 29 rfl
theorem r26_5 {zS : z_S} (hL : z_L zS) : z_R zS 26 5 = some 37 := z_L_r hL 30 rfl
theorem r39_0 {zS : z_S} (hL : z_L zS) : z_R zS 39 0 = some 40 := z_L_r hL 31 rfl
theorem r26_6 {zS : z_S} (hL : z_L zS) : z_R zS 26 6 = some 39 := z_L_r hL 32 rfl
theorem r41_0 {zS : z_S} (hL : z_L zS) : z_R zS 41 0 = some 42 := z_L_r hL 33 rfl
theorem r26_7 {zS : z_S} (hL : z_L zS) : z_R zS 26 7 = some 41 := z_L_r hL 34 rfl
theorem r43_0 {zS : z_S} (hL : z_L zS) : z_R zS 43 0 = some 44 := z_L_r hL 35 rfl
theorem r26_8 {zS : z_S} (hL : z_L zS) : z_R zS 26 8 = some 43 := z_L_r hL 36 rfl
theorem r45_0 {zS : z_S} (hL : z_L zS) : z_R zS 45 0 = some 5 := z_L_r hL 37 rfl
theorem r45_1 {zS : z_S} (hL : z_L zS) : z_R zS 45 1 = some 26 := z_L_r hL 38 rfl
theorem r46_0 {zS : z_S} (hL : z_L zS) : z_R zS 46 0 = some 47 := z_L_r hL 39 rfl
theorem r45_2 {zS : z_S} (hL : z_L zS) : z_R zS 45 2 = some 46 := z_L_r hL 40 rfl
theorem r48_0 {zS : z_S} (hL : z_L zS) : z_R zS 48 0 = some 7 := z_L_r hL 41 rfl
theorem r49_0 {zS : z_S} (hL : z_L zS) : z_R zS 49 0 = some 50 := z_L_r hL 42 rfl
theorem r48_1 {zS : z_S} (hL : z_L zS) : z_R zS 48 1 = some 49 := z_L_r hL 43 rfl
theorem r52_0 {zS : z_S} (hL : z_L zS) : z_R zS 52 0 = some 53 := z_L_r hL 44 rfl
theorem r51_6 {zS : z_S} (hL : z_L zS) : z_R zS 51 6 = some 52 := z_L_r hL 45 rfl
theorem r55_0 {zS : z_S} (hL : z_L zS) : z_R zS 55 0 = some 56 := z_L_r hL 46 rfl
theorem r54_6 {zS : z_S} (hL : z_L zS) : z_R zS 54 6 = some 55 := z_L_r hL 47 rfl
theorem r57_0 {zS : z_S} (hL : z_L zS) : z_R zS 57 0 = some 58 := z_L_r hL 48 rfl
theorem r60_0 {zS : z_S} (hL : z_L zS) : z_R zS 60 0 = some 61 := z_L_r hL 49 rfl
theorem r59_6 {zS : z_S} (hL : z_L zS) : z_R zS 59 6 = some 60 := z_L_r hL 50 rfl
theorem r63_0 {zS : z_S} (hL : z_L zS) : z_R zS 63 0 = some 64 := z_L_r hL 51 rfl
theorem r62_6 {zS : z_S} (hL : z_L zS) : z_R zS 62 6 = some 63 := z_L_r hL 52 rfl
theorem r66_0 {zS : z_S} (hL : z_L zS) : z_R zS 66 0 = some 67 := z_L_r hL 53 rfl
theorem r65_6 {zS : z_S} (hL : z_L zS) : z_R zS 65 6 = some 66 := z_L_r hL 54 rfl
theorem r69_0 {zS : z_S} (hL : z_L zS) : z_R zS 69 0 = some 70 := z_L_r hL 55 rfl
theorem r68_6 {zS : z_S} (hL : z_L zS) : z_R zS 68 6 = some 69 := z_L_r hL 56 rfl
theorem r72_0 {zS : z_S} (hL : z_L zS) : z_R zS 72 0 = some 73 := z_L_r hL 57 rfl
theorem r71_6 {zS : z_S} (hL : z_L zS) : z_R zS 71 6 = some 72 := z_L_r hL 58 rfl
theorem r75_0 {zS : z_S} (hL : z_L zS) : z_R zS 75 0 = some 76 := z_L_r hL 59 rfl
theorem r74_6 {zS : z_S} (hL : z_L zS) : z_R zS 74 6 = some 75 := z_L_r hL 60 rfl
theorem r78_0 {zS : z_S} (hL : z_L zS) : z_R zS 78 0 = some 79 := z_L_r hL 61 rfl
theorem r77_6 {zS : z_S} (hL : z_L zS) : z_R zS 77 6 = some 78 := z_L_r hL 62 rfl
theorem r81_0 {zS : z_S} (hL : z_L zS) : z_R zS 81 0 = some 82 := z_L_r hL 63 rfl
theorem r80_6 {zS : z_S} (hL : z_L zS) : z_R zS 80 6 = some 81 := z_L_r hL 64 rfl
theorem r83_0 {zS : z_S} (hL : z_L zS) : z_R zS 83 0 = some 84 := z_L_r hL 65 rfl
theorem r86_0 {zS : z_S} (hL : z_L zS) : z_R zS 86 0 = some 87 := z_L_r hL 66 rfl
theorem r85_6 {zS : z_S} (hL : z_L zS) : z_R zS 85 6 = some 86 := z_L_r hL 67 rfl
theorem r89_0 {zS : z_S} (hL : z_L zS) : z_R zS 89 0 = some 90 := z_L_r hL 68 rfl
theorem r88_6 {zS : z_S} (hL : z_L zS) : z_R zS 88 6 = some 89 := z_L_r hL 69 rfl
theorem r92_0 {zS : z_S} (hL : z_L zS) : z_R zS 92 0 = some 93 := z_L_r hL 70 rfl
theorem r91_0 {zS : z_S} (hL : z_L zS) : z_R zS 91 0 = some 92 := z_L_r hL 71 rfl
theorem r94_0 {zS : z_S} (hL : z_L zS) : z_R zS 94 0 = some 95 := z_L_r hL 72 rfl
theorem r91_1 {zS : z_S} (hL : z_L zS) : z_R zS 91 1 = some 94 := z_L_r hL 73 rfl
theorem r96_0 {zS : z_S} (hL : z_L zS) : z_R zS 96 0 = some 97 := z_L_r hL 74 rfl
theorem r91_2 {zS : z_S} (hL : z_L zS) : z_R zS 91 2 = some 96 := z_L_r hL 75 rfl
theorem r4_0 {zS : z_S} (hL : z_L zS) : z_R zS 4 0 = some 5 := z_L_r hL 76 rfl
theorem r4_1 {zS : z_S} (hL : z_L zS) : z_R zS 4 1 = some 7 := z_L_r hL 77 rfl
theorem r4_2 {zS : z_S} (hL : z_L zS) : z_R zS 4 2 = some 26 := z_L_r hL 78 rfl
theorem r4_3 {zS : z_S} (hL : z_L zS) : z_R zS 4 3 = some 45 := z_L_r hL 79 rfl
theorem r4_4 {zS : z_S} (hL : z_L zS) : z_R zS 4 4 = some 48 := z_L_r hL 80 rfl
theorem r4_5 {zS : z_S} (hL : z_L zS) : z_R zS 4 5 = some 51 := z_L_r hL 81 rfl
theorem r4_6 {zS : z_S} (hL : z_L zS) : z_R zS 4 6 = some 54 := z_L_r hL 82 rfl
theorem r4_7 {zS : z_S} (hL : z_L zS) : z_R zS 4 7 = some 57 := z_L_r hL 83 rfl
theorem r4_8 {zS : z_S} (hL : z_L zS) : z_R zS 4 8 = some 83 := z_L_r hL 84 rfl
theorem r4_9 {zS : z_S} (hL : z_L zS) : z_R zS 4 9 = some 91 := z_L_r hL 85 rfl
theorem r4_10 {zS : z_S} (hL : z_L zS) : z_R zS 4 10 = some 98 := z_L_r hL 86 rfl
theorem w8 {zS : z_S} (hL : z_L zS) : z_row zS 8 9 6 := ⟨L8_z hL, r8_0 hL, L9 hL⟩
theorem w10_z {zS : z_S} (hL : z_L zS) : z_row zS 10 11 6 := ⟨L10 hL, r10_0 hL, L11 hL⟩
theorem w12 {zS : z_S} (hL : z_L zS) : z_row zS 12 13 6 := ⟨L12_z hL, r12_0 hL, L13 hL⟩
theorem w14_z {zS : z_S} (hL : z_L zS) : z_row zS 14 15 6 := ⟨L14 hL, r14_0 hL, L15 hL⟩
theorem w16 {zS : z_S} (hL : z_L zS) : z_row zS 16 17 10 := ⟨L16 hL, r16_0 hL, L17 hL⟩
theorem w18 {zS : z_S} (hL : z_L zS) : z_row zS 18 19 10 := ⟨L18 hL, r18_0 hL, L19 hL⟩
theorem w20 {zS : z_S} (hL : z_L zS) : z_row zS 20 21 10 := ⟨L20 hL, r20_0 hL, L21 hL⟩
theorem w22 {zS : z_S} (hL : z_L zS) : z_row zS 22 23 10 := ⟨L22 hL, r22_0 hL, L23 hL⟩
theorem w24 {zS : z_S} (hL : z_L zS) : z_row zS 24 25 6 := ⟨L24 hL, r24_0 hL, L25 hL⟩
theorem w27 {zS : z_S} (hL : z_L zS) : z_row zS 27 28 6 := ⟨L27 hL, r27_0 hL, L28 hL⟩
theorem w29 {zS : z_S} (hL : z_L zS) : z_row zS 29 30 6 := ⟨L29 hL, r29_0 hL, L30 hL⟩
theorem w31 {zS : z_S} (hL : z_L zS) : z_row zS 31 32 6 := ⟨L31 hL, r31_0 hL, L32 hL⟩
theorem w33 {zS : z_S} (hL : z_L zS) : z_row zS 33 34 6 := ⟨L33 hL, r33_0 hL, L34 hL⟩
theorem w35 {zS : z_S} (hL : z_L zS) : z_row zS 35 36 10 := ⟨L35 hL, r35_0 hL, L36 hL⟩
theorem w37 {zS : z_S} (hL : z_L zS) : z_row zS 37 38 10 := ⟨L37 hL, r37_0 hL, L38 hL⟩
theorem w39 {zS : z_S} (hL : z_L zS) : z_row zS 39 40 10 := ⟨L39 hL, r39_0 hL, L40 hL⟩
theorem w41 {zS : z_S} (hL : z_L zS) : z_row zS 41 42 10 := ⟨L41 hL, r41_0 hL, L42 hL⟩
theorem w43 {zS : z_S} (hL : z_L zS) : z_row zS 43 44 6 := ⟨L43 hL, r43_0 hL, L44 hL⟩
theorem w46 {zS : z_S} (hL : z_L zS) : z_row zS 46 47 4 := ⟨L46 hL, r46_0 hL, L47 hL⟩
theorem w49 {zS : z_S} (hL : z_L zS) : z_row zS 49 50 10 := ⟨L49 hL, r49_0 hL, L50 hL⟩
theorem w52 {zS : z_S} (hL : z_L zS) : z_row zS 52 53 6 := ⟨L52 hL, r52_0 hL, L53 hL⟩
theorem w55 {zS : z_S} (hL : z_L zS) : z_row zS 55 56 6 := ⟨L55 hL, r55_0 hL, L56 hL⟩
theorem w60 {zS : z_S} (hL : z_L zS) : z_row zS 60 61 6 := ⟨L60 hL, r60_0 hL, L61 hL⟩
theorem w63 {zS : z_S} (hL : z_L zS) : z_row zS 63 64 6 := ⟨L63 hL, r63_0 hL, L64 hL⟩
theorem w66 {zS : z_S} (hL : z_L zS) : z_row zS 66 67 6 := ⟨L66 hL, r66_0 hL, L67 hL⟩
theorem w69 {zS : z_S} (hL : z_L zS) : z_row zS 69 70 6 := ⟨L69 hL, r69_0 hL, L70 hL⟩
theorem w72 {zS : z_S} (hL : z_L zS) : z_row zS 72 73 6 := ⟨L72 hL, r72_0 hL, L73 hL⟩
theorem w75 {zS : z_S} (hL : z_L zS) : z_row zS 75 76 6 := ⟨L75 hL, r75_0 hL, L76 hL⟩
theorem w78 {zS : z_S} (hL : z_L zS) : z_row zS 78 79 6 := ⟨L78 hL, r78_0 hL, L79 hL⟩
theorem w81 {zS : z_S} (hL : z_L zS) : z_row zS 81 82 6 := ⟨L81 hL, r81_0 hL, L82 hL⟩
theorem w86 {zS : z_S} (hL : z_L zS) : z_row zS 86 87 6 := ⟨L86 hL, r86_0 hL, L87 hL⟩
theorem w89 {zS : z_S} (hL : z_L zS) : z_row zS 89 90 6 := ⟨L89 hL, r89_0 hL, L90 hL⟩
theorem w92 {zS : z_S} (hL : z_L zS) : z_row zS 92 93 8 := ⟨L92 hL, r92_0 hL, L93 hL⟩
theorem w94 {zS : z_S} (hL : z_L zS) : z_row zS 94 95 8 := ⟨L94 hL, r94_0 hL, L95 hL⟩
theorem w96 {zS : z_S} (hL : z_L zS) : z_row zS 96 97 8 := ⟨L96 hL, r96_0 hL, L97 hL⟩
/-- a State: its row and its row's numbers lie behind it -/
def z_st (zS : z_S) (o : Nat) : Prop := z_is zS o (0, 7) ∧ z_R zS o 6 = some (o + 1) ∧ z_row zS (o + 1) (o + 2) 6
theorem z_st.up {zS : z_S} {o : Nat} {f_z : Nat → Nat → Int32} (h_z : z_st zS o) : z_st (z_up zS f_z) o := h_z
theorem z_st.pI {zS : z_S} {o o' k_z : Nat} {v_z : Int32} (h_z : z_st zS o) : z_st (z_pI zS o' k_z v_z) o := h_z
theorem s51 {zS : z_S} (hL : z_L zS) : z_st zS 51 := ⟨L51 hL, r51_6 hL, w52 hL⟩
theorem s54 {zS : z_S} (hL : z_L zS) : z_st zS 54 := ⟨L54 hL, r54_6 hL, w55 hL⟩
theorem s59 {zS : z_S} (hL : z_L zS) : z_st zS 59 := ⟨L59 hL, r59_6 hL, w60 hL⟩
theorem s62 {zS : z_S} (hL : z_L zS) : z_st zS 62 := ⟨L62 hL, r62_6 hL, w63 hL⟩
theorem s65 {zS : z_S} (hL : z_L zS) : z_st zS 65 := ⟨L65 hL, r65_6 hL, w66 hL⟩
theorem s68 {zS : z_S} (hL : z_L zS) : z_st zS 68 := ⟨L68 hL, r68_6 hL, w69 hL⟩
theorem s71 {zS : z_S} (hL : z_L zS) : z_st zS 71 := ⟨L71 hL, r71_6 hL, w72 hL⟩
theorem s74 {zS : z_S} (hL : z_L zS) : z_st zS 74 := ⟨L74 hL, r74_6 hL, w75 hL⟩
theorem s77 {zS : z_S} (hL : z_L zS) : z_st zS 77 := ⟨L77 hL, r77_6 hL, w78 hL⟩
theorem s80 {zS : z_S} (hL : z_L zS) : z_st zS 80 := ⟨L80 hL, r80_6 hL, w81 hL⟩
theorem s85 {zS : z_S} (hL : z_L zS) : z_st zS 85 := ⟨L85 hL, r85_6 hL, w86 hL⟩
theorem s88 {zS : z_S} (hL : z_L zS) : z_st zS 88 := ⟨L88 hL, r88_6 hL, w89 hL⟩
/-! what the calls say -/
def z_hb (x_z : Int32) (i_z : Nat) : Bool := decide (x_z >>> (nI i_z &&& 31) &&& 1 = 1)
def z_mod (x_z y_z : Int32) : Int32 := if 0 < y_z then x_z - x_z / y_z * y_z else 0
/-- a shop: its rows (kinds, skills, everies, offsets, nights, things, ways, pences, servers), how many staff, customers, each how many nights a dog -/
abbrev z_V : Type := (Nat → Nat → Int32) × Nat × Nat × Int32
def z_vl (k_z : Nat) : Nat := if k_z < 4 then 6 else if k_z < 8 then 10 else 6
/-- a shop's cells (o its object) tell zV -/
def z_rV (zI : Nat → Nat → Int32) (o : Nat) (zV : z_V) : Prop := (∀ k_z, k_z < 9 → ∀ j_z, j_z < z_vl k_z → zI (o + 2 + 2 * k_z) j_z = zV.1 k_z j_z) ∧ zI o 9 = nI zV.2.1 ∧ zI o 10 = nI zV.2.2.1 ∧ zI o 12 = zV.2.2.2 ∧ zV.2.1 ≤ 6 ∧ zV.2.2.1 ≤ 10
/-- a state's cells tell zT: night, till, drawer, hams, quarrels, fed, then nights awake -/
def z_rT (zI : Nat → Nat → Int32) (o : Nat) (zT : Nat → Int32) : Prop := (∀ k_z, k_z < 6 → zI o k_z = zT k_z) ∧ ∀ k_z, k_z < 6 → zI (o + 2) k_z = zT (6 + k_z)
def z_due (zV : z_V) (t_z : Int32) (s_z : Nat) : Bool := decide (z_mod t_z (zV.1 2 s_z) = z_mod (zV.1 3 s_z) (zV.1 2 s_z))
def z_comes (zV : z_V) (t_z : Int32) (c_z : Nat) : Bool := decide (zV.1 4 c_z = z_mod t_z 14)
def z_hasDog (zV : z_V) (t_z : Int32) : Bool := decide (0 < zV.2.2.2) && decide (z_mod t_z zV.2.2.2 = 0)
/-- one of lower number that walks and has a quarrel with s (l of them looked at) -/
def z_bar (w_z Q_z : Int32) (s_z : Nat) : Nat → Bool
  | 0 => false
  | l + 1 => z_bar w_z Q_z s_z l || (z_hb w_z l && z_hb Q_z (6 * l + s_z))
def z_goes (zV : z_V) (zT : Nat → Int32) (w_z : Int32) (s_z : Nat) : Bool := z_due zV (zT 0) s_z && (decide (zT (6 + s_z) = 0) && (!z_hb (zT 5) s_z && !z_bar w_z (zT 4) s_z s_z))
/-- who walks, of the first s (no dog) -/
def z_wk (zV : z_V) (zT : Nat → Int32) : Nat → Int32
  | 0 => 0
  | s_z + 1 => if z_goes zV zT (z_wk zV zT s_z) s_z then z_wk zV zT s_z ||| (1 <<< (nI s_z &&& 31)) else z_wk zV zT s_z
def z_wlk (zV : z_V) (zT : Nat → Int32) (dog : Bool) : Int32 := if dog then 0 else z_wk zV zT zV.2.1
/-- a customer goes from one to the next: m are left, s is next, K woken -/
def z_scan (w_z srv : Int32) (wk_z : Nat → Bool) : Nat → Nat → Int32 → Int32 × Option Nat
  | 0, _, K_z => (K_z, none)
  | m_z + 1, s_z, K_z => if z_hb (w_z &&& (K_z ^^^ -1) &&& srv) s_z then (if wk_z s_z then z_scan w_z srv wk_z m_z (s_z + 1) (K_z ||| (1 <<< (nI s_z &&& 31))) else (K_z, some s_z)) else z_scan w_z srv wk_z m_z (s_z + 1) K_z
def z_rse (zV : z_V) (c_z s_z : Nat) : Bool := decide (z_wakes (zV.1 6 c_z) (zV.1 7 c_z) (zV.1 0 s_z) = 1)
def z_sc (zV : z_V) (w_z K_z : Int32) (c_z : Nat) : Int32 × Option Nat := z_scan w_z (z_rd zV.1 8 6 (zV.1 5 c_z)) (z_rse zV c_z) zV.2.1 0 K_z
/-- a night so far: woken, served, hams, first with a ham, till, drawer; sellers -/
abbrev z_N : Type := Int32 × Int32 × Int32 × Int32 × Int32 × Int32 × (Nat → Int32)
def z_N0 : z_N := (0, 0, 0, -4, 0, 0, fun _ => -4)
def z_pay (zV : z_V) (c_z : Nat) : Int32 := if zV.1 6 c_z = 3 then 0 else zV.1 7 c_z
def z_at1 (zV : z_V) (w_z : Int32) (D_z : z_N) (c_z : Nat) : z_N := match z_sc zV w_z D_z.1 c_z with
  | (K_z, some s_z) => (K_z, D_z.2.1 + 1, D_z.2.2.1, D_z.2.2.2.1, D_z.2.2.2.2.1 + (z_pay zV c_z - z_pay zV c_z * 9 / 100), D_z.2.2.2.2.2.1 + z_pay zV c_z * 9 / 100, fun q_z => if q_z = c_z then nI s_z else D_z.2.2.2.2.2.2 q_z)
  | (K_z, none) => (K_z, D_z.2.1, D_z.2.2.1 + 1, if D_z.2.2.1 = 0 then nI c_z else D_z.2.2.2.1, D_z.2.2.2.2.1, D_z.2.2.2.2.2.1, D_z.2.2.2.2.2.2)
def z_day (zV : z_V) (t_z w_z : Int32) : Nat → z_N
  | 0 => z_N0
  | c_z + 1 => if z_comes zV t_z c_z then z_at1 zV w_z (z_day zV t_z w_z c_z) c_z else z_day zV t_z w_z c_z
/-- behind a night -/
def z_cls1 (zV : z_V) (zT : Nat → Int32) (D_z : z_N) : Nat → Int32 := fun k_z =>
  if k_z = 0 then zT 0 + 1 else if k_z = 1 then zT 1 + D_z.2.2.2.2.1 else if k_z = 2 then zT 2 + D_z.2.2.2.2.2.1 else if k_z = 3 then zT 3 + D_z.2.2.1 else if k_z = 4 then zT 4 else if k_z = 5 then 0
  else if k_z - 6 < zV.2.1 then (if z_hb D_z.1 (k_z - 6) then 3 else if zT k_z - 1 < 0 then 0 else zT k_z - 1) else zT k_z
theorem z_rd_V {zI : Nat → Nat → Int32} {zV : z_V} (hV : z_rV zI 7 zV) (k_z : Nat) (hk : k_z < 9) {j_z n_z a_z : Nat} (ha_z : 9 + 2 * k_z = a_z) (hn : n_z = z_vl k_z) (hj : j_z < n_z) : z_rd zI a_z n_z (nI j_z) = zV.1 k_z j_z := by
  subst ha_z; subst hn
  have hb_z : z_vl k_z < 2 ^ 31 := by unfold z_vl; split <;> first | omega | (split <;> omega)
  unfold z_rd
  rw [if_pos ⟨nI_pos' (by omega), (nI_ltI (by omega) hb_z).mpr hj⟩, nI_clamp (by omega)]
  exact hV.1 k_z hk j_z hj
/-- what changes lies in P -/
def z_fr (P_z : Nat → Prop) (zI zI' : Nat → Nat → Int32) : Prop := ∀ q_z k_z, ¬ P_z q_z → zI' q_z k_z = zI q_z k_z
theorem z_fr.rf {P_z : Nat → Prop} {zI : Nat → Nat → Int32} : z_fr P_z zI zI := fun _ _ _ => rfl
theorem z_fr.tr {P_z : Nat → Prop} {zI zI' I2_z : Nat → Nat → Int32} (h_z : z_fr P_z zI zI') (h2 : z_fr P_z zI' I2_z) : z_fr P_z zI I2_z := fun q_z k_z hq => (h2 q_z k_z hq).trans (h_z q_z k_z hq)
theorem z_fr.u2 {P_z : Nat → Prop} {zI zI' : Nat → Nat → Int32} {o k_z : Nat} {v_z : Int32} (h_z : z_fr P_z zI zI') (ho : P_z o) : z_fr P_z zI (z_u2 zI' o k_z v_z) := fun q_z j_z hq => by
  rw [z_u2_ne (Or.inl (fun e_z => hq (by rw [e_z]; exact ho)))]; exact h_z q_z j_z hq
theorem z_fr.sa {P_z : Nat → Prop} {zI zI' : Nat → Nat → Int32} {a_z n_z : Nat} {f_z : Nat → Int32} (h_z : z_fr P_z zI zI') (ho : P_z a_z) : z_fr P_z zI (z_sa zI' a_z n_z f_z) := fun q_z j_z hq => by
  rw [z_sa_off (fun e_z => hq (by rw [e_z]; exact ho))]; exact h_z q_z j_z hq
theorem z_fr.mono {P_z P2_z : Nat → Prop} {zI zI' : Nat → Nat → Int32} (h_z : z_fr P_z zI zI') (hP : ∀ q_z, P_z q_z → P2_z q_z) : z_fr P2_z zI zI' := fun q_z k_z hq => h_z q_z k_z (fun z_z => hq (hP q_z z_z))
theorem z_rV.fr {P_z : Nat → Prop} {zI zI' : Nat → Nat → Int32} {o : Nat} {zV : z_V} (h_z : z_rV zI o zV) (hf : z_fr P_z zI zI') (hP : ∀ q_z, o ≤ q_z → q_z < o + 19 → ¬ P_z q_z) : z_rV zI' o zV := by
  obtain ⟨h1, h2, h3, h4, h5, h6⟩ := h_z
  have e_z := fun k_z => hf o k_z (hP o (by omega) (by omega))
  exact ⟨fun k_z hk j_z hj => (hf _ j_z (hP _ (by omega) (by omega))).trans (h1 k_z hk j_z hj), (e_z 9).trans h2, (e_z 10).trans h3, (e_z 12).trans h4, h5, h6⟩
theorem z_rT.fr {P_z : Nat → Prop} {zI zI' : Nat → Nat → Int32} {o : Nat} {zT : Nat → Int32} (h_z : z_rT zI o zT) (hf : z_fr P_z zI zI') (hP : ¬ P_z o ∧ ¬ P_z (o + 2)) : z_rT zI' o zT :=
  ⟨fun k_z hk => (hf o k_z hP.1).trans (h_z.1 k_z hk), fun k_z hk => (hf _ k_z hP.2).trans (h_z.2 k_z hk)⟩
/-- the night's own cells change -/
def z_PN : Nat → Prop := fun q_z => q_z = 48 ∨ q_z = 50
/-- what the night's cells tell: who walks, and D -/
def z_rN (zI : Nat → Nat → Int32) (w_z : Int32) (D_z : z_N) : Prop := zI 48 2 = w_z ∧ zI 48 3 = D_z.1 ∧ zI 48 4 = D_z.2.1 ∧ zI 48 5 = D_z.2.2.1 ∧ zI 48 6 = D_z.2.2.2.1 ∧ zI 48 7 = D_z.2.2.2.2.1 ∧ zI 48 8 = D_z.2.2.2.2.2.1 ∧ ∀ c_z, c_z < 10 → zI 50 c_z = D_z.2.2.2.2.2.2 c_z
end
section
/-! the shop's questions and the night -/
theorem z_wakes_bit (a_z b_z c_z : Int32) : z_wakes a_z b_z c_z &&& 1 = z_wakes a_z b_z c_z := by
  unfold z_wakes
  split
  · split <;> rfl
  · split
    · split <;> rfl
    · split
      · split <;> rfl
      · rfl

theorem c_X5_isDue {g_z : z_U} {d_z : Nat} {zS : z_S} {zV : z_V} (hL : z_L zS) (hV : z_rV (z_I zS) 7 zV) {s_z : Nat} (hs : s_z < 6) {t_z : Int32} : z_C g_z (d_z + 1) 0 0 mX5_isDue [.ref 7, .int (nI s_z), .int t_z] zS (fun r_z zS' => zS = zS' ∧ r_z = some (.int (if z_due zV t_z s_z then 1 else 0))) := by
  refine z_enter [some (.ref 7), some (.int (nI s_z)), some (.int t_z), none] rfl rfl (Nat.le_of_ble_eq_true rfl) rfl (fun zX hM_z => ?_)
  have hB_z : z_B g_z zX RX5 cX5_isDue 4 := hM_z.1
  have e2_z := z_rd_V hV 2 (by decide) (j_z := s_z) (n_z := 6) (a_z := 13) rfl rfl hs
  have e3_z := z_rd_V hV 3 (by decide) (j_z := s_z) (n_z := 6) (a_z := 15) rfl rfl hs
  have e_z : z_due zV t_z s_z = decide (z_mod t_z (zV.1 2 s_z) = z_mod (zV.1 3 s_z) (zV.1 2 s_z)) := rfl
  rw [← e2_z, ← e3_z] at e_z
  refine z_s 1 hB_z dX5_isDue_0 rfl rfl ?_
  refine z_getR 4 hB_z fX5_23 (L7 (zS := zS) hL) dX5_isDue_1 rfl rfl (r7_2 (zS := zS) hL) ?_
  refine z_s 5 hB_z dX5_isDue_4 rfl rfl ?_
  refine z_callV 8 hB_z hM_z.2.1 kX5_68 dX5_isDue_5 rfl (L12_z (zS := zS) hL) rfl (c_X3_at (d_z := 0) (w12 (zS := zS) hL) (by decide)) (by omega) rfl rfl (Nat.le_of_ble_eq_true rfl) ⟨Nat.le_refl _, Nat.le_refl _⟩ ?_
  rintro _ _ ⟨rfl, rfl⟩
  refine z_s 9 hB_z dX5_isDue_8 rfl rfl ?_
  refine z_s 10 hB_z dX5_isDue_9 rfl rfl ?_
  refine z_s 11 hB_z dX5_isDue_10 rfl rfl ?_
  refine z_callS 14 hB_z hM_z.2.1 kX5_64 dX5_isDue_11 rfl (c_X9_mod (d_z := 0)) (by omega) rfl rfl (Nat.le_of_ble_eq_true rfl) ⟨Nat.le_refl _, Nat.le_refl _⟩ ?_
  rintro _ _ ⟨rfl, rfl⟩
  refine z_s 15 hB_z dX5_isDue_14 rfl rfl ?_
  refine z_getR 18 hB_z fX5_26 (L7 (zS := zS) hL) dX5_isDue_15 rfl rfl (r7_3 (zS := zS) hL) ?_
  refine z_s 19 hB_z dX5_isDue_18 rfl rfl ?_
  refine z_callV 22 hB_z hM_z.2.1 kX5_68 dX5_isDue_19 rfl (L14 (zS := zS) hL) rfl (c_X3_at (d_z := 0) (w14_z (zS := zS) hL) (by decide)) (by omega) rfl rfl (Nat.le_of_ble_eq_true rfl) ⟨Nat.le_refl _, Nat.le_refl _⟩ ?_
  rintro _ _ ⟨rfl, rfl⟩
  refine z_s 23 hB_z dX5_isDue_22 rfl rfl ?_
  refine z_callS 26 hB_z hM_z.2.1 kX5_64 dX5_isDue_23 rfl (c_X9_mod (d_z := 0)) (by omega) rfl rfl (Nat.le_of_ble_eq_true rfl) ⟨Nat.le_refl _, Nat.le_refl _⟩ ?_
  rintro _ _ ⟨rfl, rfl⟩
  refine z_b 29 33 hB_z dX5_isDue_26 rfl rfl (by decide) (fun c_26 => ?_) (fun c_26 => ?_)
  ·
    refine z_s 34 hB_z dX5_isDue_33 rfl rfl ?_
    refine z_zret hM_z dX5_isDue_34 rfl (by decide) ?_ rfl rfl
    exact ⟨rfl, by rw [e_z, decide_eq_false (by exact c_26)]; rfl⟩
  ·
    refine z_s 30 hB_z dX5_isDue_29 rfl rfl ?_
    refine z_j 34 hB_z dX5_isDue_30 (by decide) ?_
    refine z_zret hM_z dX5_isDue_34 rfl (by decide) ?_ rfl rfl
    exact ⟨rfl, by rw [e_z, decide_eq_true (by exact c_26)]; rfl⟩

theorem c_X5_comes {g_z : z_U} {d_z : Nat} {zS : z_S} {zV : z_V} (hL : z_L zS) (hV : z_rV (z_I zS) 7 zV) {c_z : Nat} (hc_z : c_z < 10) {t_z : Int32} : z_C g_z (d_z + 1) 0 0 mX5_comes [.ref 7, .int (nI c_z), .int t_z] zS (fun r_z zS' => zS = zS' ∧ r_z = some (.int (if z_comes zV t_z c_z then 1 else 0))) := by
  refine z_enter [some (.ref 7), some (.int (nI c_z)), some (.int t_z)] rfl rfl (Nat.le_of_ble_eq_true rfl) rfl (fun zX hM_z => ?_)
  have hB_z : z_B g_z zX RX5 cX5_comes 3 := hM_z.1
  have e2_z := z_rd_V hV 4 (by decide) (j_z := c_z) (n_z := 10) (a_z := 17) rfl rfl hc_z
  have e_z : z_comes zV t_z c_z = decide (zV.1 4 c_z = z_mod t_z 14) := rfl
  rw [← e2_z] at e_z
  refine z_s 1 hB_z dX5_comes_0 rfl rfl ?_
  refine z_getR 4 hB_z fX5_29 (L7 (zS := zS) hL) dX5_comes_1 rfl rfl (r7_4 (zS := zS) hL) ?_
  refine z_s 5 hB_z dX5_comes_4 rfl rfl ?_
  refine z_callV 8 hB_z hM_z.2.1 kX5_68 dX5_comes_5 rfl (L16 (zS := zS) hL) rfl (c_X3_at (d_z := 0) (w16 (zS := zS) hL) (by decide)) (by omega) rfl rfl (Nat.le_of_ble_eq_true rfl) ⟨Nat.le_refl _, Nat.le_refl _⟩ ?_
  rintro _ _ ⟨rfl, rfl⟩
  refine z_s 9 hB_z dX5_comes_8 rfl rfl ?_
  refine z_s 11 hB_z dX5_comes_9 rfl rfl ?_
  refine z_callS 14 hB_z hM_z.2.1 kX5_64 dX5_comes_11 rfl (c_X9_mod (d_z := 0)) (by omega) rfl rfl (Nat.le_of_ble_eq_true rfl) ⟨Nat.le_refl _, Nat.le_refl _⟩ ?_
  rintro _ _ ⟨rfl, rfl⟩
  refine z_b 17 21 hB_z dX5_comes_14 rfl rfl (by decide) (fun c_14 => ?_) (fun c_14 => ?_)
  ·
    refine z_s 22 hB_z dX5_comes_21 rfl rfl ?_
    refine z_zret hM_z dX5_comes_22 rfl (by decide) ?_ rfl rfl
    exact ⟨rfl, by rw [e_z, decide_eq_false (by exact c_14)]; rfl⟩
  ·
    refine z_s 18 hB_z dX5_comes_17 rfl rfl ?_
    refine z_j 22 hB_z dX5_comes_18 (by decide) ?_
    refine z_zret hM_z dX5_comes_22 rfl (by decide) ?_ rfl rfl
    exact ⟨rfl, by rw [e_z, decide_eq_true (by exact c_14)]; rfl⟩

theorem c_X5_hasDog {g_z : z_U} {d_z : Nat} {zS : z_S} {zV : z_V} (hL : z_L zS) (hV : z_rV (z_I zS) 7 zV) {t_z : Int32} : z_C g_z (d_z + 1) 0 0 mX5_hasDog [.ref 7, .int t_z] zS (fun r_z zS' => zS = zS' ∧ r_z = some (.int (if z_hasDog zV t_z then 1 else 0))) := by
  refine z_enter [some (.ref 7), some (.int t_z)] rfl rfl (Nat.le_of_ble_eq_true rfl) rfl (fun zX hM_z => ?_)
  have hB_z : z_B g_z zX RX5 cX5_hasDog 2 := hM_z.1
  have e1_z : z_I zS 7 12 = zV.2.2.2 := hV.2.2.2.1
  have e_z : z_hasDog zV t_z = (decide (0 < zV.2.2.2) && decide (z_mod t_z zV.2.2.2 = 0)) := rfl
  rw [← e1_z] at e_z
  refine z_s 1 hB_z dX5_hasDog_0 rfl rfl ?_
  refine z_getI 4 hB_z fX5_57 (L7 (zS := zS) hL) dX5_hasDog_1 rfl rfl ?_
  refine z_b 7 22 hB_z dX5_hasDog_4 rfl rfl (by decide) (fun c_4 => ?_) (fun c_4 => ?_)
  ·
    refine z_s 23 hB_z dX5_hasDog_22 rfl rfl ?_
    refine z_zret hM_z dX5_hasDog_23 rfl (by decide) ?_ rfl rfl
    exact ⟨rfl, by rw [e_z, decide_eq_false (z_nlt0 c_4)]; rfl⟩
  ·
    refine z_s 8 hB_z dX5_hasDog_7 rfl rfl ?_
    refine z_s 9 hB_z dX5_hasDog_8 rfl rfl ?_
    refine z_getI 12 hB_z fX5_57 (L7 (zS := zS) hL) dX5_hasDog_9 rfl rfl ?_
    refine z_callS 15 hB_z hM_z.2.1 kX5_64 dX5_hasDog_12 rfl (c_X9_mod (d_z := 0)) (by omega) rfl rfl (Nat.le_of_ble_eq_true rfl) ⟨Nat.le_refl _, Nat.le_refl _⟩ ?_
    rintro _ _ ⟨rfl, rfl⟩
    refine z_b 18 22 hB_z dX5_hasDog_15 rfl rfl (by decide) (fun c_15 => ?_) (fun c_15 => ?_)
    ·
      refine z_s 23 hB_z dX5_hasDog_22 rfl rfl ?_
      refine z_zret hM_z dX5_hasDog_23 rfl (by decide) ?_ rfl rfl
      exact ⟨rfl, by rw [e_z, decide_eq_true c_4, decide_eq_false (by exact c_15)]; rfl⟩
    ·
      refine z_s 19 hB_z dX5_hasDog_18 rfl rfl ?_
      refine z_j 23 hB_z dX5_hasDog_19 (by decide) ?_
      refine z_zret hM_z dX5_hasDog_23 rfl (by decide) ?_ rfl rfl
      exact ⟨rfl, by rw [e_z, decide_eq_true c_4, decide_eq_true (by exact c_15)]; rfl⟩

theorem c_X9_wakes {g_z : z_U} {d_z : Nat} {zS : z_S} {way_z pence kind : Int32} : z_C g_z (d_z) 0 0 mX9_wakes [.int way_z, .int pence, .int kind] zS (fun r_z zS' => zS = zS' ∧ r_z = some (.int (z_wakes way_z pence kind))) := by
  refine z_enter [some (.int way_z), some (.int pence), some (.int kind)] rfl rfl (Nat.le_of_ble_eq_true rfl) rfl (fun zX hM_z => ?_)
  have hB_z : z_B g_z zX RX9 cX9_wakes 3 := hM_z.1
  refine z_s 1 hB_z dX9_wakes_0 rfl rfl ?_
  by_cases h0 : way_z = 0
  · subst h0
    refine z_tsw hB_z dX9_wakes_1 28 (by decide) (by decide) ?_
    refine z_s 29 hB_z dX9_wakes_28 rfl rfl ?_
    refine z_s 30 hB_z dX9_wakes_29 rfl rfl ?_
    refine z_b 33 44 hB_z dX9_wakes_30 rfl rfl (by decide) (fun c_30 => ?_) (fun c_30 => ?_)
    ·
      refine z_s 45 hB_z dX9_wakes_44 rfl rfl ?_
      refine z_j 49 hB_z dX9_wakes_45 (by decide) ?_
      refine z_zret hM_z dX9_wakes_49 rfl (by decide) ?_ rfl rfl
      exact ⟨rfl, by unfold z_wakes; rw [if_pos rfl, if_pos (Or.inl c_30)]⟩
    ·
      refine z_s 34 hB_z dX9_wakes_33 rfl rfl ?_
      refine z_s 35 hB_z dX9_wakes_34 rfl rfl ?_
      refine z_b 38 48 hB_z dX9_wakes_35 rfl rfl (by decide) (fun c_35 => ?_) (fun c_35 => ?_)
      ·
        refine z_s 49 hB_z dX9_wakes_48 rfl rfl ?_
        refine z_zret hM_z dX9_wakes_49 rfl (by decide) ?_ rfl rfl
        exact ⟨rfl, by unfold z_wakes; rw [if_pos rfl, if_neg (fun h_z => h_z.elim (fun q_z => c_30 q_z) (fun q_z => c_35 q_z.1))]⟩
      ·
        refine z_s 39 hB_z dX9_wakes_38 rfl rfl ?_
        refine z_s 41 hB_z dX9_wakes_39 rfl rfl ?_
        refine z_b 44 48 hB_z dX9_wakes_41 rfl rfl (by decide) (fun c_41 => ?_) (fun c_41 => ?_)
        ·
          refine z_s 49 hB_z dX9_wakes_48 rfl rfl ?_
          refine z_zret hM_z dX9_wakes_49 rfl (by decide) ?_ rfl rfl
          exact ⟨rfl, by unfold z_wakes; rw [if_pos rfl, if_neg (fun h_z => h_z.elim (fun q_z => c_30 q_z) (fun q_z => z_nlt0 c_41 q_z.2))]⟩
        ·
          refine z_s 45 hB_z dX9_wakes_44 rfl rfl ?_
          refine z_j 49 hB_z dX9_wakes_45 (by decide) ?_
          refine z_zret hM_z dX9_wakes_49 rfl (by decide) ?_ rfl rfl
          exact ⟨rfl, by unfold z_wakes; rw [if_pos rfl, if_pos (Or.inr ⟨c_35, c_41⟩)]⟩
  by_cases h1 : way_z = 1
  · subst h1
    refine z_tsw hB_z dX9_wakes_1 50 (by decide) (by decide) ?_
    refine z_s 51 hB_z dX9_wakes_50 rfl rfl ?_
    refine z_b 54 58 hB_z dX9_wakes_51 rfl rfl (by decide) (fun c_51 => ?_) (fun c_51 => ?_)
    ·
      refine z_s 59 hB_z dX9_wakes_58 rfl rfl ?_
      refine z_zret hM_z dX9_wakes_59 rfl (by decide) ?_ rfl rfl
      exact ⟨rfl, by unfold z_wakes; rw [if_neg h0, if_pos rfl, if_neg c_51]⟩
    ·
      refine z_s 55 hB_z dX9_wakes_54 rfl rfl ?_
      refine z_j 59 hB_z dX9_wakes_55 (by decide) ?_
      refine z_zret hM_z dX9_wakes_59 rfl (by decide) ?_ rfl rfl
      exact ⟨rfl, by unfold z_wakes; rw [if_neg h0, if_pos rfl, if_pos c_51]⟩
  by_cases h2 : way_z = 2
  · subst h2
    refine z_tsw hB_z dX9_wakes_1 60 (by decide) (by decide) ?_
    refine z_s 61 hB_z dX9_wakes_60 rfl rfl ?_
    refine z_s 62 hB_z dX9_wakes_61 rfl rfl ?_
    refine z_b 65 69 hB_z dX9_wakes_62 rfl rfl (by decide) (fun c_62 => ?_) (fun c_62 => ?_)
    ·
      refine z_s 70 hB_z dX9_wakes_69 rfl rfl ?_
      refine z_zret hM_z dX9_wakes_70 rfl (by decide) ?_ rfl rfl
      exact ⟨rfl, by unfold z_wakes; rw [if_neg h0, if_neg h1, if_pos rfl, if_neg c_62]⟩
    ·
      refine z_s 66 hB_z dX9_wakes_65 rfl rfl ?_
      refine z_j 70 hB_z dX9_wakes_66 (by decide) ?_
      refine z_zret hM_z dX9_wakes_70 rfl (by decide) ?_ rfl rfl
      exact ⟨rfl, by unfold z_wakes; rw [if_neg h0, if_neg h1, if_pos rfl, if_pos c_62]⟩
  · have hout : way_z.toInt < 0 ∨ 2 < way_z.toInt := by
      rcases Int.lt_or_le way_z.toInt 0 with h_z | h_z
      · exact Or.inl h_z
      · rcases Int.lt_or_le 2 way_z.toInt with h_z' | h_z'
        · exact Or.inr h_z'
        · exfalso
          have : way_z.toInt = 0 ∨ way_z.toInt = 1 ∨ way_z.toInt = 2 := by omega
          rcases this with q_z | q_z | q_z
          · exact h0 (Int32.toInt_inj.mp (by rw [q_z]; decide))
          · exact h1 (Int32.toInt_inj.mp (by rw [q_z]; decide))
          · exact h2 (Int32.toInt_inj.mp (by rw [q_z]; decide))
    refine z_tsw hB_z dX9_wakes_1 71 (by rw [if_pos hout]; decide) (fun q1_z q2_z => by rcases hout with h_z | h_z <;> omega) ?_
    refine z_s 72 hB_z dX9_wakes_71 rfl rfl ?_
    refine z_zret hM_z dX9_wakes_72 rfl (by decide) ?_ rfl rfl
    exact ⟨rfl, by unfold z_wakes; rw [if_neg h0, if_neg h1, if_neg h2]⟩

theorem c_X5_rouses {g_z : z_U} {d_z : Nat} {zS : z_S} {zV : z_V} (hL : z_L zS) (hV : z_rV (z_I zS) 7 zV) {c_z s_z : Nat} (hc_z : c_z < 10) (hs : s_z < 6) : z_C g_z (d_z + 1) 0 0 mX5_rouses [.ref 7, .int (nI c_z), .int (nI s_z)] zS (fun r_z zS' => zS = zS' ∧ r_z = some (.int (z_wakes (zV.1 6 c_z) (zV.1 7 c_z) (zV.1 0 s_z)))) := by
  refine z_enter [some (.ref 7), some (.int (nI c_z)), some (.int (nI s_z))] rfl rfl (Nat.le_of_ble_eq_true rfl) rfl (fun zX hM_z => ?_)
  have hB_z : z_B g_z zX RX5 cX5_rouses 3 := hM_z.1
  have e1_z := z_rd_V hV 6 (by decide) (j_z := c_z) (n_z := 10) (a_z := 21) rfl rfl hc_z
  have e2_z := z_rd_V hV 7 (by decide) (j_z := c_z) (n_z := 10) (a_z := 23) rfl rfl hc_z
  have e3_z := z_rd_V hV 0 (by decide) (j_z := s_z) (n_z := 6) (a_z := 9) rfl rfl hs
  refine z_s 1 hB_z dX5_rouses_0 rfl rfl ?_
  refine z_getR 4 hB_z fX5_35 (L7 (zS := zS) hL) dX5_rouses_1 rfl rfl (r7_6 (zS := zS) hL) ?_
  refine z_s 5 hB_z dX5_rouses_4 rfl rfl ?_
  refine z_callV 8 hB_z hM_z.2.1 kX5_68 dX5_rouses_5 rfl (L20 (zS := zS) hL) rfl (c_X3_at (d_z := 0) (w20 (zS := zS) hL) (by decide)) (by omega) rfl rfl (Nat.le_of_ble_eq_true rfl) ⟨Nat.le_refl _, Nat.le_refl _⟩ ?_
  rintro _ _ ⟨rfl, rfl⟩
  refine z_s 9 hB_z dX5_rouses_8 rfl rfl ?_
  refine z_getR 12 hB_z fX5_38 (L7 (zS := zS) hL) dX5_rouses_9 rfl rfl (r7_7 (zS := zS) hL) ?_
  refine z_s 13 hB_z dX5_rouses_12 rfl rfl ?_
  refine z_callV 16 hB_z hM_z.2.1 kX5_68 dX5_rouses_13 rfl (L22 (zS := zS) hL) rfl (c_X3_at (d_z := 0) (w22 (zS := zS) hL) (by decide)) (by omega) rfl rfl (Nat.le_of_ble_eq_true rfl) ⟨Nat.le_refl _, Nat.le_refl _⟩ ?_
  rintro _ _ ⟨rfl, rfl⟩
  refine z_s 17 hB_z dX5_rouses_16 rfl rfl ?_
  refine z_getR 20 hB_z fX5_14 (L7 (zS := zS) hL) dX5_rouses_17 rfl rfl (r7_0 (zS := zS) hL) ?_
  refine z_s 21 hB_z dX5_rouses_20 rfl rfl ?_
  refine z_callV 24 hB_z hM_z.2.1 kX5_68 dX5_rouses_21 rfl (L8_z (zS := zS) hL) rfl (c_X3_at (d_z := 0) (w8 (zS := zS) hL) (by decide)) (by omega) rfl rfl (Nat.le_of_ble_eq_true rfl) ⟨Nat.le_refl _, Nat.le_refl _⟩ ?_
  rintro _ _ ⟨rfl, rfl⟩
  refine z_callS 27 hB_z hM_z.2.1 kX5_76 dX5_rouses_24 rfl (c_X9_wakes (d_z := 0)) (by omega) rfl rfl (Nat.le_of_ble_eq_true rfl) ⟨Nat.le_refl _, Nat.le_refl _⟩ ?_
  rintro _ _ ⟨rfl, rfl⟩
  refine z_zret hM_z dX5_rouses_27 rfl (z_wakes_bit _ _ _) ?_ rfl rfl
  exact ⟨rfl, by rw [e1_z, e2_z, e3_z]⟩
end
section
/-! the night -/
theorem z_hb_if {x_z : Int32} {i_z : Nat} {a_z b_z : Int32} : (if z_hb x_z i_z = true then a_z else b_z) = if x_z >>> (nI i_z &&& 31) &&& 1 = 1 then a_z else b_z := by
  unfold z_hb
  by_cases h_z : x_z >>> (nI i_z &&& 31) &&& 1 = 1
  · rw [if_pos (decide_eq_true h_z), if_pos h_z]
  · rw [if_neg (by rw [decide_eq_false h_z]; exact Bool.false_ne_true), if_neg h_z]
theorem z_bit01 (y_z : Int32) : y_z &&& 1 = 0 ∨ y_z &&& 1 = 1 := by
  have h_z : ∀ b_z : BitVec 32, b_z &&& 1#32 = 0#32 ∨ b_z &&& 1#32 = 1#32 := by
    intro b_z
    rcases Nat.mod_two_eq_zero_or_one b_z.toNat with h_z | h_z
    · exact Or.inl (BitVec.eq_of_toNat_eq (by rw [BitVec.toNat_and]; show b_z.toNat &&& 1 = 0; rw [Nat.and_one_is_mod]; exact h_z))
    · exact Or.inr (BitVec.eq_of_toNat_eq (by rw [BitVec.toNat_and]; show b_z.toNat &&& 1 = 1; rw [Nat.and_one_is_mod]; exact h_z))
  rcases h_z y_z.toBitVec with h_z | h_z
  · exact Or.inl (Int32.toBitVec_inj.mp h_z)
  · exact Or.inr (Int32.toBitVec_inj.mp h_z)
theorem z_b01 {p_z : Prop} [h_z : Decidable p_z] : (if p_z then (1 : Int32) else 0) &&& 1 = if p_z then 1 else 0 := by
  by_cases h_z : p_z
  · rw [if_pos h_z]; rfl
  · rw [if_neg h_z]; rfl
theorem z_if0 {b_z : Bool} (h_z : (if b_z = true then (1 : Int32) else 0) = 0) : b_z = false := by
  cases b_z
  · rfl
  · exact absurd h_z (by decide)
theorem z_if1 {b_z : Bool} (h_z : ¬ (if b_z = true then (1 : Int32) else 0) = 0) : b_z = true := by
  cases b_z
  · exact absurd rfl h_z
  · rfl
theorem c_has {g_z : z_U} {d_z : Nat} {zS : z_S} {x_z : Int32} {i_z : Nat} : z_C g_z d_z 0 0 mX9_has [.int x_z, .int (nI i_z)] zS (fun r_z zS' => zS = zS' ∧ r_z = some (.int (if z_hb x_z i_z = true then 1 else 0))) := by
  rw [z_hb_if]
  exact c_X9_has
theorem c_bit {g_z : z_U} {d_z : Nat} {zS : z_S} {x_z : Int32} {i_z : Nat} : z_C g_z d_z 0 0 mX9_bit [.int x_z, .int (nI i_z)] zS (fun r_z zS' => zS = zS' ∧ r_z = some (.int (if z_hb x_z i_z = true then 1 else 0))) := by
  have e_z : (if z_hb x_z i_z = true then (1 : Int32) else 0) = x_z >>> (nI i_z &&& 31) &&& 1 := by
    rw [z_hb_if]
    rcases z_bit01 (x_z >>> (nI i_z &&& 31)) with h_z | h_z
    · rw [h_z]; rfl
    · rw [h_z]; rfl
  rw [e_z]
  exact c_X9_bit
theorem z_rdI {zI : Nat → Nat → Int32} {a_z n_z k_z : Nat} (hk : k_z < n_z) (hn : n_z < 2 ^ 31) : z_rd zI a_z n_z (nI k_z) = zI a_z k_z := by
  unfold z_rd
  rw [if_pos ⟨nI_pos' (by omega), (nI_ltI (by omega) hn).mpr hk⟩, nI_clamp (by omega)]
theorem c_at {g_z : z_U} {d_z : Nat} {zS : z_S} {o a_z n_z k_z : Nat} (hr : z_row zS o a_z n_z) (hn : n_z < 2 ^ 31) (hk : k_z < n_z) : z_C g_z d_z 0 0 mX3_at [.ref o, .int (nI k_z)] zS (fun r_z zS' => zS = zS' ∧ r_z = some (.int (z_I zS a_z k_z))) := by
  have h_z := c_X3_at (g_z := g_z) (d_z := d_z) hr hn (i_z := nI k_z)
  rw [z_rdI hk hn] at h_z
  exact h_z
theorem c_put {g_z : z_U} {d_z : Nat} {zS : z_S} {o a_z n_z k_z : Nat} {v_z : Int32} (hr : z_row zS o a_z n_z) (hn : n_z < 2 ^ 31) (hk : k_z < n_z) : z_C g_z d_z 0 0 mX3_put [.ref o, .int (nI k_z), .int v_z] zS (fun r_z zS' => r_z = none ∧ z_pI zS a_z k_z v_z = zS') := by
  have h_z := c_X3_put (g_z := g_z) (d_z := d_z) hr hn (i_z := nI k_z) (v_z := v_z)
  rw [if_pos ⟨nI_pos' (by omega), (nI_ltI (by omega) hn).mpr hk⟩, nI_clamp (by omega)] at h_z
  have e_z : (fun (r_z : Option Value) (zS' : z_S) => r_z = none ∧ z_pI zS a_z k_z v_z = zS') = fun r_z zS' => r_z = none ∧ zS' = z_pI zS a_z k_z v_z := by
    funext r_z zS'
    exact propext ⟨fun q_z => ⟨q_z.1, q_z.2.symm⟩, fun q_z => ⟨q_z.1, q_z.2.symm⟩⟩
  rw [e_z]
  exact h_z
theorem c_pair {g_z : z_U} {d_z : Nat} {zS : z_S} {a_z b_z : Nat} (h_z : a_z < b_z) (hb_z : b_z < 6) : z_C g_z d_z 0 0 mX9_pair [.int (nI a_z), .int (nI b_z)] zS (fun r_z zS' => zS = zS' ∧ r_z = some (.int (nI (6 * a_z + b_z)))) := by
  have e_z := c_X9_pair (g_z := g_z) (zS := zS) (d_z := d_z) (a_z := nI a_z) (b_z := nI b_z)
  rw [if_pos ((nI_ltI (by omega) (by omega)).mpr h_z)] at e_z
  have e2_z : 6 * nI a_z + nI b_z = nI (6 * a_z + b_z) := by
    have e3_z : ∀ a_z, a_z < 6 → ∀ b_z, b_z < 6 → 6 * nI a_z + nI b_z = nI (6 * a_z + b_z) := by decide +kernel
    exact e3_z a_z (by omega) b_z hb_z
  rw [e2_z] at e_z
  exact e_z
theorem z_bar_mono {w_z Q_z : Int32} {s_z l m_z : Nat} (h_z : z_bar w_z Q_z s_z l = true) (hm_z : l ≤ m_z) : z_bar w_z Q_z s_z m_z = true := by
  induction m_z with
  | zero => rw [show l = 0 by omega] at h_z; exact h_z
  | succ m_z ih_z =>
    rcases Nat.lt_or_ge m_z l with q_z | q_z
    · rw [show l = m_z + 1 by omega] at h_z; exact h_z
    · unfold z_bar; rw [ih_z q_z]; rfl
theorem z_rd_V2 {zI : Nat → Nat → Int32} {zV : z_V} (hV : z_rV zI 7 zV) (i_z : Int32) : z_rd zI 25 6 i_z = z_rd zV.1 8 6 i_z := by
  unfold z_rd
  by_cases h_z : 0 ≤ i_z ∧ i_z < nI 6
  · rw [if_pos h_z, if_pos h_z]
    obtain ⟨j_z, hj, rfl⟩ := nI_of (z_nlt0 h_z.1)
    have h6 := (nI_ltI hj (by decide)).mp h_z.2
    rw [nI_clamp hj]
    exact hV.1 8 (by decide) j_z (by unfold z_vl; exact h6)
  · rw [if_neg h_z, if_neg h_z]
theorem z_rN_w {zI : Nat → Nat → Int32} {w_z v_z : Int32} {D_z : z_N} (h_z : z_rN zI w_z D_z) : z_rN (z_u2 zI 48 2 v_z) v_z D_z := by
  obtain ⟨h1, h2, h3, h4, h5, h6, h7, h8⟩ := h_z
  exact ⟨z_u2_same _ _ _ _, (z_u2_ne (Or.inr (by decide))).trans h2, (z_u2_ne (Or.inr (by decide))).trans h3, (z_u2_ne (Or.inr (by decide))).trans h4, (z_u2_ne (Or.inr (by decide))).trans h5, (z_u2_ne (Or.inr (by decide))).trans h6, (z_u2_ne (Or.inr (by decide))).trans h7, fun c_z hc_z => (z_u2_ne (Or.inl (by decide))).trans (h8 c_z hc_z)⟩
theorem z_rN_K {zI : Nat → Nat → Int32} {w_z v_z : Int32} {D_z : z_N} (h_z : z_rN zI w_z D_z) : z_rN (z_u2 zI 48 3 v_z) w_z (v_z, D_z.2) := by
  obtain ⟨h1, h2, h3, h4, h5, h6, h7, h8⟩ := h_z
  exact ⟨(z_u2_ne (Or.inr (by decide))).trans h1, z_u2_same _ _ _ _, (z_u2_ne (Or.inr (by decide))).trans h3, (z_u2_ne (Or.inr (by decide))).trans h4, (z_u2_ne (Or.inr (by decide))).trans h5, (z_u2_ne (Or.inr (by decide))).trans h6, (z_u2_ne (Or.inr (by decide))).trans h7, fun c_z hc_z => (z_u2_ne (Or.inl (by decide))).trans (h8 c_z hc_z)⟩
theorem z_rN_sv {zI : Nat → Nat → Int32} {w_z v_z : Int32} {D_z : z_N} (h_z : z_rN zI w_z D_z) : z_rN (z_u2 zI 48 4 v_z) w_z (D_z.1, v_z, D_z.2.2) := by
  obtain ⟨h1, h2, h3, h4, h5, h6, h7, h8⟩ := h_z
  exact ⟨(z_u2_ne (Or.inr (by decide))).trans h1, (z_u2_ne (Or.inr (by decide))).trans h2, z_u2_same _ _ _ _, (z_u2_ne (Or.inr (by decide))).trans h4, (z_u2_ne (Or.inr (by decide))).trans h5, (z_u2_ne (Or.inr (by decide))).trans h6, (z_u2_ne (Or.inr (by decide))).trans h7, fun c_z hc_z => (z_u2_ne (Or.inl (by decide))).trans (h8 c_z hc_z)⟩
theorem z_rN_hm {zI : Nat → Nat → Int32} {w_z v_z : Int32} {D_z : z_N} (h_z : z_rN zI w_z D_z) : z_rN (z_u2 zI 48 5 v_z) w_z (D_z.1, D_z.2.1, v_z, D_z.2.2.2) := by
  obtain ⟨h1, h2, h3, h4, h5, h6, h7, h8⟩ := h_z
  exact ⟨(z_u2_ne (Or.inr (by decide))).trans h1, (z_u2_ne (Or.inr (by decide))).trans h2, (z_u2_ne (Or.inr (by decide))).trans h3, z_u2_same _ _ _ _, (z_u2_ne (Or.inr (by decide))).trans h5, (z_u2_ne (Or.inr (by decide))).trans h6, (z_u2_ne (Or.inr (by decide))).trans h7, fun c_z hc_z => (z_u2_ne (Or.inl (by decide))).trans (h8 c_z hc_z)⟩
theorem z_rN_fi {zI : Nat → Nat → Int32} {w_z v_z : Int32} {D_z : z_N} (h_z : z_rN zI w_z D_z) : z_rN (z_u2 zI 48 6 v_z) w_z (D_z.1, D_z.2.1, D_z.2.2.1, v_z, D_z.2.2.2.2) := by
  obtain ⟨h1, h2, h3, h4, h5, h6, h7, h8⟩ := h_z
  exact ⟨(z_u2_ne (Or.inr (by decide))).trans h1, (z_u2_ne (Or.inr (by decide))).trans h2, (z_u2_ne (Or.inr (by decide))).trans h3, (z_u2_ne (Or.inr (by decide))).trans h4, z_u2_same _ _ _ _, (z_u2_ne (Or.inr (by decide))).trans h6, (z_u2_ne (Or.inr (by decide))).trans h7, fun c_z hc_z => (z_u2_ne (Or.inl (by decide))).trans (h8 c_z hc_z)⟩
theorem z_rN_ti {zI : Nat → Nat → Int32} {w_z v_z : Int32} {D_z : z_N} (h_z : z_rN zI w_z D_z) : z_rN (z_u2 zI 48 7 v_z) w_z (D_z.1, D_z.2.1, D_z.2.2.1, D_z.2.2.2.1, v_z, D_z.2.2.2.2.2) := by
  obtain ⟨h1, h2, h3, h4, h5, h6, h7, h8⟩ := h_z
  exact ⟨(z_u2_ne (Or.inr (by decide))).trans h1, (z_u2_ne (Or.inr (by decide))).trans h2, (z_u2_ne (Or.inr (by decide))).trans h3, (z_u2_ne (Or.inr (by decide))).trans h4, (z_u2_ne (Or.inr (by decide))).trans h5, z_u2_same _ _ _ _, (z_u2_ne (Or.inr (by decide))).trans h7, fun c_z hc_z => (z_u2_ne (Or.inl (by decide))).trans (h8 c_z hc_z)⟩
theorem z_rN_dr {zI : Nat → Nat → Int32} {w_z v_z : Int32} {D_z : z_N} (h_z : z_rN zI w_z D_z) : z_rN (z_u2 zI 48 8 v_z) w_z (D_z.1, D_z.2.1, D_z.2.2.1, D_z.2.2.2.1, D_z.2.2.2.2.1, v_z, D_z.2.2.2.2.2.2) := by
  obtain ⟨h1, h2, h3, h4, h5, h6, h7, h8⟩ := h_z
  exact ⟨(z_u2_ne (Or.inr (by decide))).trans h1, (z_u2_ne (Or.inr (by decide))).trans h2, (z_u2_ne (Or.inr (by decide))).trans h3, (z_u2_ne (Or.inr (by decide))).trans h4, (z_u2_ne (Or.inr (by decide))).trans h5, (z_u2_ne (Or.inr (by decide))).trans h6, z_u2_same _ _ _ _, fun c_z hc_z => (z_u2_ne (Or.inl (by decide))).trans (h8 c_z hc_z)⟩
theorem z_rN_se {zI : Nat → Nat → Int32} {w_z v_z : Int32} {D_z : z_N} {k_z : Nat} (h_z : z_rN zI w_z D_z) : z_rN (z_u2 zI 50 k_z v_z) w_z (D_z.1, D_z.2.1, D_z.2.2.1, D_z.2.2.2.1, D_z.2.2.2.2.1, D_z.2.2.2.2.2.1, fun q_z => if q_z = k_z then v_z else D_z.2.2.2.2.2.2 q_z) := by
  obtain ⟨h1, h2, h3, h4, h5, h6, h7, h8⟩ := h_z
  have e_z : ∀ j_z, z_u2 zI 50 k_z v_z 48 j_z = zI 48 j_z := fun j_z => z_u2_ne (Or.inl (by decide))
  refine ⟨(e_z 2).trans h1, (e_z 3).trans h2, (e_z 4).trans h3, (e_z 5).trans h4, (e_z 6).trans h5, (e_z 7).trans h6, (e_z 8).trans h7, fun c_z hc_z => ?_⟩
  by_cases q_z : c_z = k_z
  · subst q_z; rw [z_u2_same]; simp
  · rw [z_u2_ne (Or.inr q_z), h8 c_z hc_z]; simp [q_z]
theorem c_X1_isReadyFor {g_z : z_U} {d_z : Nat} {zS : z_S} (hL : z_L zS) {s_z : Nat} {th : Int32} : z_C g_z (d_z + 1) 0 0 mX1_isReadyFor [.ref 48, .int (nI s_z), .int th] zS (fun r_z zS' => zS = zS' ∧ r_z = some (.int (if z_hb (z_I zS 48 2 &&& (z_I zS 48 3 ^^^ -1) &&& z_rd (z_I zS) 25 6 th) s_z = true then 1 else 0))) := by
  refine z_enter [some (.ref 48), some (.int (nI s_z)), some (.int th)] rfl rfl (Nat.le_of_ble_eq_true rfl) rfl (fun zX hM_z => ?_)
  have hB_z : z_B g_z zX RX1 cX1_isReadyFor 3 := hM_z.1
  refine z_s 1 hB_z dX1_isReadyFor_0 rfl rfl ?_
  refine z_getI 4 hB_z fX1_43 (L48 (zS := zS) hL) dX1_isReadyFor_1 rfl rfl ?_
  refine z_s 5 hB_z dX1_isReadyFor_4 rfl rfl ?_
  refine z_getI 8 hB_z fX1_46 (L48 (zS := zS) hL) dX1_isReadyFor_5 rfl rfl ?_
  refine z_s 9 hB_z dX1_isReadyFor_8 rfl rfl ?_
  refine z_s 10 hB_z dX1_isReadyFor_9 rfl rfl ?_
  refine z_s 11 hB_z dX1_isReadyFor_10 rfl rfl ?_
  refine z_s 12 hB_z dX1_isReadyFor_11 rfl rfl ?_
  refine z_getR 15 hB_z fX1_20 (L48 (zS := zS) hL) dX1_isReadyFor_12 rfl rfl (r48_0 (zS := zS) hL) ?_
  refine z_getR 18 hB_z fX1_109 (L7 (zS := zS) hL) dX1_isReadyFor_15 rfl rfl (r7_8 (zS := zS) hL) ?_
  refine z_s 19 hB_z dX1_isReadyFor_18 rfl rfl ?_
  refine z_callV 22 hB_z hM_z.2.1 kX1_76 dX1_isReadyFor_19 rfl (L24 (zS := zS) hL) rfl (c_X3_at (d_z := 0) (w24 (zS := zS) hL) (by decide)) (by omega) rfl rfl (Nat.le_of_ble_eq_true rfl) ⟨Nat.le_refl _, Nat.le_refl _⟩ ?_
  rintro _ _ ⟨rfl, rfl⟩
  refine z_s 23 hB_z dX1_isReadyFor_22 rfl rfl ?_
  refine z_s 24 hB_z dX1_isReadyFor_23 rfl rfl ?_
  refine z_callS 27 hB_z hM_z.2.1 kX1_83 dX1_isReadyFor_24 rfl (c_has (d_z := 0)) (by omega) rfl rfl (Nat.le_of_ble_eq_true rfl) ⟨Nat.le_refl _, Nat.le_refl _⟩ ?_
  rintro _ _ ⟨rfl, rfl⟩
  refine z_zret hM_z dX1_isReadyFor_27 rfl z_b01 ?_ rfl rfl
  exact ⟨rfl, rfl⟩

theorem c_X1_isBarred {g_z : z_U} {d_z : Nat} {zS : z_S} (hL : z_L zS) {s_z : Nat} (hs : s_z < 6) {Q_z : Int32} : z_C g_z (d_z + 1) 0 0 mX1_isBarred [.ref 48, .int (nI s_z), .int Q_z] zS (fun r_z zS' => zS = zS' ∧ r_z = some (.int (if z_bar (z_I zS 48 2) Q_z s_z s_z = true then 1 else 0))) := by
  refine z_enter [some (.ref 48), some (.int (nI s_z)), some (.int Q_z), none] rfl rfl (Nat.le_of_ble_eq_true rfl) rfl (fun zX hM_z => ?_)
  have hB_z : z_B g_z zX RX1 cX1_isBarred 4 := hM_z.1
  have loop := z_loop (fun j_z => z_bar (z_I zS 48 2) Q_z s_z j_z = false → z_W g_z zX 2 [some (.ref 48), some (.int (nI s_z)), some (.int Q_z), some (.int (nI j_z))] [] 0 0 zS) s_z (fun j_z hj ih_z hb_z => by
    refine z_s 3 hB_z dX1_isBarred_2 rfl rfl ?_
    refine z_s 4 hB_z dX1_isBarred_3 rfl rfl ?_
    refine z_b 7 38 hB_z dX1_isBarred_4 rfl rfl (by decide) (fun c_4 => ?_) (fun c_4 => ?_)
    ·
      have hjs : s_z ≤ j_z := (nI_leI (by omega) (by omega)).mp c_4
      refine z_s 39 hB_z dX1_isBarred_38 rfl rfl ?_
      refine z_zret hM_z dX1_isBarred_39 rfl (by decide) ?_ rfl rfl
      rw [show j_z = s_z by omega] at hb_z
      exact ⟨rfl, by rw [hb_z]; rfl⟩
    ·
      have hjs : j_z < s_z := (nI_ltI (by omega) (by omega)).mp c_4
      refine z_s 8 hB_z dX1_isBarred_7 rfl rfl ?_
      refine z_getI 11 hB_z fX1_43 (L48 (zS := zS) hL) dX1_isBarred_8 rfl rfl ?_
      refine z_s 12 hB_z dX1_isBarred_11 rfl rfl ?_
      refine z_callS 15 hB_z hM_z.2.1 kX1_83 dX1_isBarred_12 rfl (c_has (d_z := 0)) (by omega) rfl rfl (Nat.le_of_ble_eq_true rfl) ⟨Nat.le_refl _, Nat.le_refl _⟩ ?_
      rintro _ _ ⟨rfl, rfl⟩
      refine z_b 18 32 hB_z dX1_isBarred_15 rfl rfl (by decide) (fun c_15 => ?_) (fun c_15 => ?_)
      ·
        refine z_s 35 hB_z dX1_isBarred_32 rfl rfl ?_
        refine z_j 2 hB_z dX1_isBarred_35 (by decide) ?_
        exact z_eq (ih_z hjs (by
          unfold z_bar
          rw [hb_z]
          first
            | rw [z_if0 c_15]; exact Bool.false_or _
            | rw [z_if0 c_27, Bool.and_false]; exact Bool.false_or _)) (by rw [← z_inc]; rfl) rfl rfl
      ·
        refine z_s 19 hB_z dX1_isBarred_18 rfl rfl ?_
        refine z_s 20 hB_z dX1_isBarred_19 rfl rfl ?_
        refine z_s 21 hB_z dX1_isBarred_20 rfl rfl ?_
        refine z_callS 24 hB_z hM_z.2.1 kX1_92 dX1_isBarred_21 rfl (c_pair (d_z := 0) hjs hs) (by omega) rfl rfl (Nat.le_of_ble_eq_true rfl) ⟨Nat.le_refl _, Nat.le_refl _⟩ ?_
        rintro _ _ ⟨rfl, rfl⟩
        refine z_callS 27 hB_z hM_z.2.1 kX1_83 dX1_isBarred_24 rfl (c_has (d_z := 0)) (by omega) rfl rfl (Nat.le_of_ble_eq_true rfl) ⟨Nat.le_refl _, Nat.le_refl _⟩ ?_
        rintro _ _ ⟨rfl, rfl⟩
        refine z_b 30 32 hB_z dX1_isBarred_27 rfl rfl (by decide) (fun c_27 => ?_) (fun c_27 => ?_)
        ·
          refine z_s 35 hB_z dX1_isBarred_32 rfl rfl ?_
          refine z_j 2 hB_z dX1_isBarred_35 (by decide) ?_
          exact z_eq (ih_z hjs (by
            unfold z_bar
            rw [hb_z]
            first
              | rw [z_if0 c_15]; exact Bool.false_or _
              | rw [z_if0 c_27, Bool.and_false]; exact Bool.false_or _)) (by rw [← z_inc]; rfl) rfl rfl
        ·
          refine z_s 31 hB_z dX1_isBarred_30 rfl rfl ?_
          refine z_zret hM_z dX1_isBarred_31 rfl (by decide) ?_ rfl rfl
          have q1_z := z_if1 c_15
          have q2_z := z_if1 c_27
          have q3_z : z_bar (z_I zS 48 2) Q_z s_z (j_z + 1) = true := by
            unfold z_bar
            rw [q1_z, q2_z]
            exact Bool.or_true _
          exact ⟨rfl, by rw [z_bar_mono q3_z hjs]; rfl⟩) 0 (Nat.zero_le s_z) rfl
  refine z_s 1 hB_z dX1_isBarred_0 rfl rfl ?_
  refine z_s 2 hB_z dX1_isBarred_1 rfl rfl ?_
  exact z_eq loop rfl rfl rfl
end
section
/-! the night, go on: sell, attend, firstFor, open, play, close -/
theorem z_Ine {zS : z_S} {o k_z o' k_z' : Nat} {v_z : Int32} (h_z : o' ≠ o ∨ k_z' ≠ k_z) : z_I (z_pI zS o k_z v_z) o' k_z' = z_I zS o' k_z' := z_u2_ne h_z
theorem z_Ieq {zS : z_S} {o k_z : Nat} {v_z : Int32} : z_I (z_pI zS o k_z v_z) o k_z = v_z := z_u2_same _ _ _ _
theorem c_X1_sell {g_z : z_U} {d_z : Nat} {zS : z_S} {zV : z_V} (hL : z_L zS) (hV : z_rV (z_I zS) 7 zV) {c_z s_z : Nat} (hc_z : c_z < 10) : z_C g_z (d_z + 1) 0 0 mX1_sell [.ref 48, .int (nI c_z), .int (nI s_z)] zS (fun r_z zS' => r_z = none ∧ z_pI (z_pI (z_pI (z_pI zS 50 c_z (nI s_z)) 48 4 (z_I zS 48 4 + 1)) 48 8 (z_I zS 48 8 + z_pay zV c_z * 9 / 100)) 48 7 (z_I zS 48 7 + (z_pay zV c_z - z_pay zV c_z * 9 / 100)) = zS') := by
  refine z_enter [some (.ref 48), some (.int (nI c_z)), some (.int (nI s_z)), none, none] rfl rfl (Nat.le_of_ble_eq_true rfl) rfl (fun zX hM_z => ?_)
  have hB_z : z_B g_z zX RX1 cX1_sell 5 := hM_z.1
  have e1_z : z_I zS 21 c_z = zV.1 6 c_z := hV.1 6 (by decide) c_z (by unfold z_vl; exact hc_z)
  have e2_z : z_I zS 23 c_z = zV.1 7 c_z := hV.1 7 (by decide) c_z (by unfold z_vl; exact hc_z)
  refine z_s 1 hB_z dX1_sell_0 rfl rfl ?_
  refine z_getR 4 hB_z fX1_20 (L48 (zS := zS) hL) dX1_sell_1 rfl rfl (r48_0 (zS := zS) hL) ?_
  refine z_getR 7 hB_z fX1_112 (L7 (zS := zS) hL) dX1_sell_4 rfl rfl (r7_6 (zS := zS) hL) ?_
  refine z_s 8 hB_z dX1_sell_7 rfl rfl ?_
  refine z_callV 11 hB_z hM_z.2.1 kX1_76 dX1_sell_8 rfl (L20 (zS := zS) hL) rfl (c_at (d_z := 0) (w20 (zS := zS) hL) (by decide) hc_z) (by omega) rfl rfl (Nat.le_of_ble_eq_true rfl) ⟨Nat.le_refl _, Nat.le_refl _⟩ ?_
  rintro _ _ ⟨rfl, rfl⟩
  refine z_s 12 hB_z dX1_sell_11 rfl rfl ?_
  refine z_b 15 19 hB_z dX1_sell_12 rfl rfl (by decide) (fun c_12 => ?_) (fun c_12 => ?_)
  ·
    refine z_s 20 hB_z dX1_sell_19 rfl rfl ?_
    refine z_getR 23 hB_z fX1_20 (L48 (zS := zS) hL) dX1_sell_20 rfl rfl (r48_0 (zS := zS) hL) ?_
    refine z_getR 26 hB_z fX1_115 (L7 (zS := zS) hL) dX1_sell_23 rfl rfl (r7_7 (zS := zS) hL) ?_
    refine z_s 27 hB_z dX1_sell_26 rfl rfl ?_
    refine z_callV 30 hB_z hM_z.2.1 kX1_76 dX1_sell_27 rfl (L22 (zS := zS) hL) rfl (c_at (d_z := 0) (w22 (zS := zS) hL) (by decide) hc_z) (by omega) rfl rfl (Nat.le_of_ble_eq_true rfl) ⟨Nat.le_refl _, Nat.le_refl _⟩ ?_
    rintro _ _ ⟨rfl, rfl⟩
    refine z_s 31 hB_z dX1_sell_30 rfl rfl ?_
    refine z_s 32 hB_z dX1_sell_31 rfl rfl ?_
    refine z_s 34 hB_z dX1_sell_32 rfl rfl ?_
    refine z_s 35 hB_z dX1_sell_34 rfl rfl ?_
    refine z_s 37 hB_z dX1_sell_35 rfl rfl ?_
    refine z_idiv 38 hB_z dX1_sell_37 rfl (by decide) ?_
    refine z_s 40 hB_z dX1_sell_38 rfl rfl ?_
    refine z_s 41 hB_z dX1_sell_40 rfl rfl ?_
    refine z_getR 44 hB_z fX1_14 (L48 (zS := zS) hL) dX1_sell_41 rfl rfl (r48_1 (zS := zS) hL) ?_
    refine z_s 45 hB_z dX1_sell_44 rfl rfl ?_
    refine z_s 46 hB_z dX1_sell_45 rfl rfl ?_
    refine z_callV 49 hB_z hM_z.2.1 kX1_118 dX1_sell_46 rfl (L49 (zS := zS) hL) rfl (c_put (d_z := 0) (w49 (zS := zS) hL) (by decide) hc_z) (by omega) rfl rfl (Nat.le_of_ble_eq_true rfl) ⟨Nat.le_refl _, Nat.le_refl _⟩ ?_
    rintro _ _ ⟨rfl, rfl⟩
    refine z_s 50 hB_z dX1_sell_49 rfl rfl ?_
    refine z_s 51 hB_z dX1_sell_50 rfl rfl ?_
    refine z_getI 54 hB_z fX1_49 (L48 (zS := zS) hL) dX1_sell_51 rfl rfl ?_
    refine z_s 55 hB_z dX1_sell_54 rfl rfl ?_
    refine z_s 56 hB_z dX1_sell_55 rfl rfl ?_
    refine z_putI 59 hB_z fX1_49 (L48 (zS := zS) hL) dX1_sell_56 rfl rfl rfl ?_
    refine z_s 60 hB_z dX1_sell_59 rfl rfl ?_
    refine z_s 61 hB_z dX1_sell_60 rfl rfl ?_
    refine z_getI 64 hB_z fX1_61 (L48 (zS := zS) hL) dX1_sell_61 rfl rfl ?_
    refine z_s 66 hB_z dX1_sell_64 rfl rfl ?_
    refine z_s 67 hB_z dX1_sell_66 rfl rfl ?_
    refine z_putI 70 hB_z fX1_61 (L48 (zS := zS) hL) dX1_sell_67 rfl rfl rfl ?_
    refine z_s 71 hB_z dX1_sell_70 rfl rfl ?_
    refine z_s 72 hB_z dX1_sell_71 rfl rfl ?_
    refine z_getI 75 hB_z fX1_58 (L48 (zS := zS) hL) dX1_sell_72 rfl rfl ?_
    refine z_s 76 hB_z dX1_sell_75 rfl rfl ?_
    refine z_s 78 hB_z dX1_sell_76 rfl rfl ?_
    refine z_s 79 hB_z dX1_sell_78 rfl rfl ?_
    refine z_s 80 hB_z dX1_sell_79 rfl rfl ?_
    refine z_putI 83 hB_z fX1_58 (L48 (zS := zS) hL) dX1_sell_80 rfl rfl rfl ?_
    refine z_vret hM_z dX1_sell_83 rfl ?_ rfl rfl
    have e3_z : z_pay zV c_z = z_I zS 23 c_z := by
      unfold z_pay
      rw [if_neg (by rw [← e1_z]; exact c_12), e2_z]
    rw [e3_z]
    exact ⟨rfl, rfl⟩
  ·
    refine z_s 16 hB_z dX1_sell_15 rfl rfl ?_
    refine z_j 30 hB_z dX1_sell_16 (by decide) ?_
    refine z_s 31 hB_z dX1_sell_30 rfl rfl ?_
    refine z_s 32 hB_z dX1_sell_31 rfl rfl ?_
    refine z_s 34 hB_z dX1_sell_32 rfl rfl ?_
    refine z_s 35 hB_z dX1_sell_34 rfl rfl ?_
    refine z_s 37 hB_z dX1_sell_35 rfl rfl ?_
    refine z_idiv 38 hB_z dX1_sell_37 rfl (by decide) ?_
    refine z_s 40 hB_z dX1_sell_38 rfl rfl ?_
    refine z_s 41 hB_z dX1_sell_40 rfl rfl ?_
    refine z_getR 44 hB_z fX1_14 (L48 (zS := zS) hL) dX1_sell_41 rfl rfl (r48_1 (zS := zS) hL) ?_
    refine z_s 45 hB_z dX1_sell_44 rfl rfl ?_
    refine z_s 46 hB_z dX1_sell_45 rfl rfl ?_
    refine z_callV 49 hB_z hM_z.2.1 kX1_118 dX1_sell_46 rfl (L49 (zS := zS) hL) rfl (c_put (d_z := 0) (w49 (zS := zS) hL) (by decide) hc_z) (by omega) rfl rfl (Nat.le_of_ble_eq_true rfl) ⟨Nat.le_refl _, Nat.le_refl _⟩ ?_
    rintro _ _ ⟨rfl, rfl⟩
    refine z_s 50 hB_z dX1_sell_49 rfl rfl ?_
    refine z_s 51 hB_z dX1_sell_50 rfl rfl ?_
    refine z_getI 54 hB_z fX1_49 (L48 (zS := zS) hL) dX1_sell_51 rfl rfl ?_
    refine z_s 55 hB_z dX1_sell_54 rfl rfl ?_
    refine z_s 56 hB_z dX1_sell_55 rfl rfl ?_
    refine z_putI 59 hB_z fX1_49 (L48 (zS := zS) hL) dX1_sell_56 rfl rfl rfl ?_
    refine z_s 60 hB_z dX1_sell_59 rfl rfl ?_
    refine z_s 61 hB_z dX1_sell_60 rfl rfl ?_
    refine z_getI 64 hB_z fX1_61 (L48 (zS := zS) hL) dX1_sell_61 rfl rfl ?_
    refine z_s 66 hB_z dX1_sell_64 rfl rfl ?_
    refine z_s 67 hB_z dX1_sell_66 rfl rfl ?_
    refine z_putI 70 hB_z fX1_61 (L48 (zS := zS) hL) dX1_sell_67 rfl rfl rfl ?_
    refine z_s 71 hB_z dX1_sell_70 rfl rfl ?_
    refine z_s 72 hB_z dX1_sell_71 rfl rfl ?_
    refine z_getI 75 hB_z fX1_58 (L48 (zS := zS) hL) dX1_sell_72 rfl rfl ?_
    refine z_s 76 hB_z dX1_sell_75 rfl rfl ?_
    refine z_s 78 hB_z dX1_sell_76 rfl rfl ?_
    refine z_s 79 hB_z dX1_sell_78 rfl rfl ?_
    refine z_s 80 hB_z dX1_sell_79 rfl rfl ?_
    refine z_putI 83 hB_z fX1_58 (L48 (zS := zS) hL) dX1_sell_80 rfl rfl rfl ?_
    refine z_vret hM_z dX1_sell_83 rfl ?_ rfl rfl
    have e3_z : z_pay zV c_z = 0 := by
      unfold z_pay
      rw [if_pos (by rw [← e1_z]; exact c_12)]
    rw [e3_z]
    exact ⟨rfl, rfl⟩

/-- the first of n that are so -/
def z_ff (f_z : Nat → Bool) : Nat → Nat → Int32
  | 0, _ => -4
  | m_z + 1, s_z => if f_z s_z then nI s_z else z_ff f_z m_z (s_z + 1)
theorem z_ff_skip {f_z : Nat → Bool} : ∀ (j_z m_z s_z : Nat), (∀ i_z, s_z ≤ i_z → i_z < s_z + j_z → f_z i_z = false) → z_ff f_z (j_z + m_z) s_z = z_ff f_z m_z (s_z + j_z)
  | 0, m_z, s_z, _ => by rw [Nat.zero_add]; rfl
  | j_z + 1, m_z, s_z, h_z => by
    rw [show j_z + 1 + m_z = (j_z + m_z) + 1 by omega, z_ff, h_z s_z (Nat.le_refl _) (by omega)]
    rw [if_neg Bool.false_ne_true, z_ff_skip j_z m_z (s_z + 1) (fun i_z h1 h2 => h_z i_z (by omega) (by omega)), show s_z + 1 + j_z = s_z + (j_z + 1) by omega]
theorem z_ff_hit {f_z : Nat → Bool} {n_z j_z : Nat} (hj : j_z < n_z) (h_z : ∀ i_z, i_z < j_z → f_z i_z = false) (hf : f_z j_z = true) : z_ff f_z n_z 0 = nI j_z := by
  have e_z := z_ff_skip j_z (n_z - j_z) 0 (fun i_z _ h2 => h_z i_z (by omega))
  rw [show j_z + (n_z - j_z) = n_z by omega, Nat.zero_add] at e_z
  rw [e_z, show n_z - j_z = (n_z - j_z - 1) + 1 by omega, z_ff, hf, if_pos rfl]
theorem z_ff_no {f_z : Nat → Bool} {n_z : Nat} (h_z : ∀ i_z, i_z < n_z → f_z i_z = false) : z_ff f_z n_z 0 = -4 := by
  have e_z := z_ff_skip n_z 0 0 (fun i_z _ h2 => h_z i_z (by omega))
  rw [Nat.add_zero] at e_z
  rw [e_z]; rfl
theorem c_X1_firstFor {g_z : z_U} {d_z : Nat} {zS : z_S} (hL : z_L zS) {n_z : Nat} (hn : z_I zS 7 9 = nI n_z) (hn6 : n_z ≤ 6) {th : Int32} : z_C g_z (d_z + 2) 0 0 mX1_firstFor [.ref 48, .int th] zS (fun r_z zS' => zS = zS' ∧ r_z = some (.int (z_ff (fun s_z => z_hb (z_I zS 48 2 &&& (z_I zS 48 3 ^^^ -1) &&& z_rd (z_I zS) 25 6 th) s_z) n_z 0))) := by
  refine z_enter [some (.ref 48), some (.int th), none] rfl rfl (Nat.le_of_ble_eq_true rfl) rfl (fun zX hM_z => ?_)
  have hB_z : z_B g_z zX RX1 cX1_firstFor 3 := hM_z.1
  have loop := z_loop (fun j_z => (∀ i_z, i_z < j_z → z_hb (z_I zS 48 2 &&& (z_I zS 48 3 ^^^ -1) &&& z_rd (z_I zS) 25 6 th) i_z = false) → z_W g_z zX 2 [some (.ref 48), some (.int th), some (.int (nI j_z))] [] 0 0 zS) n_z (fun j_z hj ih_z hb_z => by
    refine z_s 3 hB_z dX1_firstFor_2 rfl rfl ?_
    refine z_s 4 hB_z dX1_firstFor_3 rfl rfl ?_
    refine z_getR 7 hB_z fX1_20 (L48 (zS := zS) hL) dX1_firstFor_4 rfl rfl (r48_0 (zS := zS) hL) ?_
    refine z_getI 10 hB_z fX1_67 (L7 (zS := zS) hL) dX1_firstFor_7 rfl rfl ?_
    refine z_b 13 30 hB_z dX1_firstFor_10 rfl rfl (by decide) (fun c_10 => ?_) (fun c_10 => ?_)
    ·
      have hjs : n_z ≤ j_z := (nI_leI (by omega) (by omega)).mp (by rw [← hn]; exact c_10)
      refine z_s 32 hB_z dX1_firstFor_30 rfl rfl ?_
      refine z_iret hM_z dX1_firstFor_32 rfl ?_ rfl rfl
      exact ⟨rfl, by rw [z_ff_no (n_z := n_z) (fun i_z hi_z => hb_z i_z (by omega))]⟩
    ·
      have hjs : j_z < n_z := (nI_ltI (by omega) (by omega)).mp (by rw [← hn]; exact c_10)
      refine z_s 14 hB_z dX1_firstFor_13 rfl rfl ?_
      refine z_s 15 hB_z dX1_firstFor_14 rfl rfl ?_
      refine z_s 16 hB_z dX1_firstFor_15 rfl rfl ?_
      refine z_callV 19 hB_z hM_z.2.1 kX1_99 dX1_firstFor_16 rfl (L48 (zS := zS) hL) rfl (c_X1_isReadyFor (d_z := 0) hL) (by omega) rfl rfl (Nat.le_of_ble_eq_true rfl) ⟨Nat.le_refl _, Nat.le_refl _⟩ ?_
      rintro _ _ ⟨rfl, rfl⟩
      refine z_b 22 24 hB_z dX1_firstFor_19 rfl rfl (by decide) (fun c_19 => ?_) (fun c_19 => ?_)
      ·
        refine z_s 27 hB_z dX1_firstFor_24 rfl rfl ?_
        refine z_j 2 hB_z dX1_firstFor_27 (by decide) ?_
        exact z_eq (ih_z hjs (fun i_z hi_z => by rcases Nat.lt_or_ge i_z j_z with q_z | q_z; exact hb_z i_z q_z; rw [show i_z = j_z by omega]; exact z_if0 c_19)) (by rw [← z_inc]; rfl) rfl rfl
      ·
        refine z_s 23 hB_z dX1_firstFor_22 rfl rfl ?_
        refine z_iret hM_z dX1_firstFor_23 rfl ?_ rfl rfl
        exact ⟨rfl, by rw [z_ff_hit hjs (hb_z) (z_if1 c_19)]⟩) 0 (Nat.zero_le n_z) (fun i_z hi_z => absurd hi_z (Nat.not_lt_zero i_z))
  refine z_s 1 hB_z dX1_firstFor_0 rfl rfl ?_
  refine z_s 2 hB_z dX1_firstFor_1 rfl rfl ?_
  exact z_eq loop rfl rfl rfl

theorem z_scan_step {w_z srv K_z : Int32} {wk_z : Nat → Bool} {n_z j_z : Nat} (hj : j_z < n_z) : z_scan w_z srv wk_z (n_z - j_z) j_z K_z = if z_hb (w_z &&& (K_z ^^^ -1) &&& srv) j_z then (if wk_z j_z then z_scan w_z srv wk_z (n_z - (j_z + 1)) (j_z + 1) (K_z ||| (1 <<< (nI j_z &&& 31))) else (K_z, some j_z)) else z_scan w_z srv wk_z (n_z - (j_z + 1)) (j_z + 1) K_z := by
  rw [show n_z - j_z = (n_z - (j_z + 1)) + 1 by omega]; rfl
theorem z_pI_pI (zS : z_S) (o k_z : Nat) (v_z v2 : Int32) : z_pI (z_pI zS o k_z v_z) o k_z v2 = z_pI zS o k_z v2 := by
  have e_z : z_u2 (z_u2 zS.2.1 o k_z v_z) o k_z v2 = z_u2 zS.2.1 o k_z v2 := by
    funext q_z j_z
    unfold z_u2
    by_cases h_z : q_z = o ∧ j_z = k_z
    · rw [if_pos h_z, if_pos h_z]
    · rw [if_neg h_z, if_neg h_z, if_neg h_z]
  show (zS.1, z_u2 (z_u2 zS.2.1 o k_z v_z) o k_z v2, zS.2.2) = _
  rw [e_z]; rfl
theorem z_pI_id (zS : z_S) (o k_z : Nat) : z_pI zS o k_z (z_I zS o k_z) = zS := by
  have e_z : z_u2 zS.2.1 o k_z (z_I zS o k_z) = zS.2.1 := by
    funext q_z j_z
    unfold z_u2
    by_cases h_z : q_z = o ∧ j_z = k_z
    · rw [if_pos h_z, h_z.1, h_z.2]; rfl
    · rw [if_neg h_z]
  show (zS.1, z_u2 zS.2.1 o k_z (z_I zS o k_z), zS.2.2) = zS
  rw [e_z]
theorem z_PN7 : ∀ q_z : Nat, 7 ≤ q_z → q_z < 7 + 19 → ¬ z_PN q_z := fun q_z _ h2 h3 => by
  rcases h3 with h_z | h_z <;> omega
theorem z_w1 {a_z b_z c_z : Int32} (h_z : ¬ z_wakes a_z b_z c_z = 0) : z_wakes a_z b_z c_z = 1 := by
  have e_z := z_wakes_bit a_z b_z c_z
  rcases z_bit01 (z_wakes a_z b_z c_z) with q_z | q_z
  · rw [e_z] at q_z; exact absurd q_z h_z
  · rw [e_z] at q_z; exact q_z
theorem z_attS {zS : z_S} {zV : z_V} {w_z K_z : Int32} {D_z : z_N} {c_z j_z : Nat} (hN_z : z_rN (z_I zS) w_z D_z) (hK_z : (K_z, some j_z) = z_scan (z_I zS 48 2) (z_rd zV.1 8 6 (zV.1 5 c_z)) (z_rse zV c_z) zV.2.1 0 (z_I zS 48 3)) :
    ∃ zI', z_up zS zI' = z_pI (z_pI (z_pI (z_pI (z_pI zS 48 3 K_z) 50 c_z (nI j_z)) 48 4 (z_I (z_pI zS 48 3 K_z) 48 4 + 1)) 48 8 (z_I (z_pI zS 48 3 K_z) 48 8 + z_pay zV c_z * 9 / 100)) 48 7 (z_I (z_pI zS 48 3 K_z) 48 7 + (z_pay zV c_z - z_pay zV c_z * 9 / 100)) ∧ z_fr z_PN (z_I zS) zI' ∧ z_rN zI' w_z (z_at1 zV w_z D_z c_z) := by
  refine ⟨_, rfl, ((((z_fr.rf.u2 (Or.inl rfl)).u2 (Or.inr rfl)).u2 (Or.inl rfl)).u2 (Or.inl rfl)).u2 (Or.inl rfl), ?_⟩
  have e_z : z_at1 zV w_z D_z c_z = (K_z, D_z.2.1 + 1, D_z.2.2.1, D_z.2.2.2.1, D_z.2.2.2.2.1 + (z_pay zV c_z - z_pay zV c_z * 9 / 100), D_z.2.2.2.2.2.1 + z_pay zV c_z * 9 / 100, fun q_z => if q_z = c_z then nI j_z else D_z.2.2.2.2.2.2 q_z) := by
    unfold z_at1 z_sc
    rw [← hN_z.1, ← hN_z.2.1, ← hK_z]
  rw [e_z]
  have a3 : z_I (z_pI zS 48 3 K_z) 48 4 = D_z.2.1 := (z_Ine (by decide)).trans hN_z.2.2.1
  have a8 : z_I (z_pI zS 48 3 K_z) 48 8 = D_z.2.2.2.2.2.1 := (z_Ine (by decide)).trans hN_z.2.2.2.2.2.2.1
  have a7 : z_I (z_pI zS 48 3 K_z) 48 7 = D_z.2.2.2.2.1 := (z_Ine (by decide)).trans hN_z.2.2.2.2.2.1
  rw [a3, a8, a7]
  exact z_rN_ti (z_rN_dr (z_rN_sv (z_rN_se (z_rN_K hN_z))))
theorem z_attN1 {zS : z_S} {zV : z_V} {w_z K_z : Int32} {D_z : z_N} {c_z : Nat} (hN_z : z_rN (z_I zS) w_z D_z) (hK_z : (K_z, none) = z_scan (z_I zS 48 2) (z_rd zV.1 8 6 (zV.1 5 c_z)) (z_rse zV c_z) zV.2.1 0 (z_I zS 48 3)) (h0 : z_I (z_pI zS 48 3 K_z) 48 5 = 0) :
    ∃ zI', z_up zS zI' = z_pI (z_pI (z_pI zS 48 3 K_z) 48 6 (nI c_z)) 48 5 (z_I (z_pI (z_pI zS 48 3 K_z) 48 6 (nI c_z)) 48 5 + 1) ∧ z_fr z_PN (z_I zS) zI' ∧ z_rN zI' w_z (z_at1 zV w_z D_z c_z) := by
  refine ⟨_, rfl, ((z_fr.rf.u2 (Or.inl rfl)).u2 (Or.inl rfl)).u2 (Or.inl rfl), ?_⟩
  have a5 : z_I (z_pI zS 48 3 K_z) 48 5 = D_z.2.2.1 := (z_Ine (by decide)).trans hN_z.2.2.2.1
  have b5 : z_I (z_pI (z_pI zS 48 3 K_z) 48 6 (nI c_z)) 48 5 = D_z.2.2.1 := (z_Ine (by decide)).trans a5
  have e_z : z_at1 zV w_z D_z c_z = (K_z, D_z.2.1, D_z.2.2.1 + 1, nI c_z, D_z.2.2.2.2.1, D_z.2.2.2.2.2.1, D_z.2.2.2.2.2.2) := by
    unfold z_at1 z_sc
    rw [← hN_z.1, ← hN_z.2.1, ← hK_z]
    dsimp only
    rw [if_pos (by rw [← a5]; exact h0)]
  rw [e_z, b5]
  exact z_rN_hm (z_rN_fi (z_rN_K hN_z))
theorem z_attN2 {zS : z_S} {zV : z_V} {w_z K_z : Int32} {D_z : z_N} {c_z : Nat} (hN_z : z_rN (z_I zS) w_z D_z) (hK_z : (K_z, none) = z_scan (z_I zS 48 2) (z_rd zV.1 8 6 (zV.1 5 c_z)) (z_rse zV c_z) zV.2.1 0 (z_I zS 48 3)) (h0 : ¬ z_I (z_pI zS 48 3 K_z) 48 5 = 0) :
    ∃ zI', z_up zS zI' = z_pI (z_pI (z_pI zS 48 3 K_z) 48 6 (z_I (z_pI zS 48 3 K_z) 48 6)) 48 5 (z_I (z_pI (z_pI zS 48 3 K_z) 48 6 (z_I (z_pI zS 48 3 K_z) 48 6)) 48 5 + 1) ∧ z_fr z_PN (z_I zS) zI' ∧ z_rN zI' w_z (z_at1 zV w_z D_z c_z) := by
  refine ⟨_, rfl, ((z_fr.rf.u2 (Or.inl rfl)).u2 (Or.inl rfl)).u2 (Or.inl rfl), ?_⟩
  have a5 : z_I (z_pI zS 48 3 K_z) 48 5 = D_z.2.2.1 := (z_Ine (by decide)).trans hN_z.2.2.2.1
  have a6 : z_I (z_pI zS 48 3 K_z) 48 6 = D_z.2.2.2.1 := (z_Ine (by decide)).trans hN_z.2.2.2.2.1
  have b5 : z_I (z_pI (z_pI zS 48 3 K_z) 48 6 (z_I (z_pI zS 48 3 K_z) 48 6)) 48 5 = D_z.2.2.1 := (z_Ine (by decide)).trans a5
  have e_z : z_at1 zV w_z D_z c_z = (K_z, D_z.2.1, D_z.2.2.1 + 1, D_z.2.2.2.1, D_z.2.2.2.2.1, D_z.2.2.2.2.2.1, D_z.2.2.2.2.2.2) := by
    unfold z_at1 z_sc
    rw [← hN_z.1, ← hN_z.2.1, ← hK_z]
    dsimp only
    rw [if_neg (by rw [← a5]; exact h0)]
  rw [e_z, b5, a6]
  exact z_rN_hm (z_rN_fi (z_rN_K hN_z))
theorem c_X1_attend {g_z : z_U} {d_z : Nat} {zS : z_S} {zV : z_V} (hL : z_L zS) (hV : z_rV (z_I zS) 7 zV) {w_z : Int32} {D_z : z_N} (hN_z : z_rN (z_I zS) w_z D_z) {c_z : Nat} (hc_z : c_z < 10) : z_C g_z (d_z + 2) 0 0 mX1_attend [.ref 48, .int (nI c_z)] zS (fun r_z zS' => r_z = none ∧ ∃ zI', z_up zS zI' = zS' ∧ z_fr z_PN (z_I zS) zI' ∧ z_rN zI' w_z (z_at1 zV w_z D_z c_z)) := by
  refine z_enter [some (.ref 48), some (.int (nI c_z)), none, none] rfl rfl (Nat.le_of_ble_eq_true rfl) rfl (fun zX hM_z => ?_)
  have hB_z : z_B g_z zX RX1 cX1_attend 4 := hM_z.1
  have hn : z_I zS 7 9 = nI zV.2.1 := hV.2.1
  have hn6 : zV.2.1 ≤ 6 := hV.2.2.2.2.1
  have e5_z : z_I zS 19 c_z = zV.1 5 c_z := hV.1 5 (by decide) c_z (by unfold z_vl; exact hc_z)
  have loop := z_loop (fun j_z => ∀ K_z, z_scan (z_I zS 48 2) (z_rd zV.1 8 6 (zV.1 5 c_z)) (z_rse zV c_z) (zV.2.1 - j_z) j_z K_z = z_scan (z_I zS 48 2) (z_rd zV.1 8 6 (zV.1 5 c_z)) (z_rse zV c_z) zV.2.1 0 (z_I zS 48 3) → z_W g_z zX 14 [some (.ref 48), some (.int (nI c_z)), some (.int (z_I zS 19 c_z)), some (.int (nI j_z))] [] 0 0 (z_pI zS 48 3 K_z)) zV.2.1 (fun j_z hj ih_z K_z hK_z => by
    refine z_s 15 hB_z dX1_attend_14 rfl rfl ?_
    refine z_s 16 hB_z dX1_attend_15 rfl rfl ?_
    refine z_getR 19 hB_z fX1_20 (L48 (zS := zS) hL) dX1_attend_16 rfl rfl (r48_0 (zS := zS) hL) ?_
    refine z_getI 22 hB_z fX1_67 (L7 (zS := zS) hL) dX1_attend_19 rfl rfl ?_
    refine z_b 25 71 hB_z dX1_attend_22 rfl rfl (by decide) (fun c_22 => ?_) (fun c_22 => ?_)
    ·
      have hjs : zV.2.1 ≤ j_z := (nI_leI (by omega) (by omega)).mp (by rw [← hn]; exact c_22)
      refine z_s 72 hB_z dX1_attend_71 rfl rfl ?_
      refine z_s 73 hB_z dX1_attend_72 rfl rfl ?_
      refine z_getI 76 hB_z fX1_52 (L48 (zS := zS) hL) dX1_attend_73 rfl rfl ?_
      refine z_b 79 83 hB_z dX1_attend_76 rfl rfl (by decide) (fun c_76 => ?_) (fun c_76 => ?_)
      ·
        refine z_s 84 hB_z dX1_attend_83 rfl rfl ?_
        refine z_getI 87 hB_z fX1_55 (L48 (zS := zS) hL) dX1_attend_84 rfl rfl ?_
        refine z_putI 90 hB_z fX1_55 (L48 (zS := zS) hL) dX1_attend_87 rfl rfl rfl ?_
        refine z_s 91 hB_z dX1_attend_90 rfl rfl ?_
        refine z_s 92 hB_z dX1_attend_91 rfl rfl ?_
        refine z_getI 95 hB_z fX1_52 (L48 (zS := zS) hL) dX1_attend_92 rfl rfl ?_
        refine z_s 96 hB_z dX1_attend_95 rfl rfl ?_
        refine z_s 97 hB_z dX1_attend_96 rfl rfl ?_
        refine z_putI 100 hB_z fX1_52 (L48 (zS := zS) hL) dX1_attend_97 rfl rfl rfl ?_
        refine z_vret hM_z dX1_attend_100 rfl ?_ rfl rfl
        rw [show zV.2.1 - j_z = 0 by omega] at hK_z
        exact ⟨rfl, z_attN2 hN_z hK_z c_76⟩
      ·
        refine z_s 80 hB_z dX1_attend_79 rfl rfl ?_
        refine z_j 87 hB_z dX1_attend_80 (by decide) ?_
        refine z_putI 90 hB_z fX1_55 (L48 (zS := zS) hL) dX1_attend_87 rfl rfl rfl ?_
        refine z_s 91 hB_z dX1_attend_90 rfl rfl ?_
        refine z_s 92 hB_z dX1_attend_91 rfl rfl ?_
        refine z_getI 95 hB_z fX1_52 (L48 (zS := zS) hL) dX1_attend_92 rfl rfl ?_
        refine z_s 96 hB_z dX1_attend_95 rfl rfl ?_
        refine z_s 97 hB_z dX1_attend_96 rfl rfl ?_
        refine z_putI 100 hB_z fX1_52 (L48 (zS := zS) hL) dX1_attend_97 rfl rfl rfl ?_
        refine z_vret hM_z dX1_attend_100 rfl ?_ rfl rfl
        rw [show zV.2.1 - j_z = 0 by omega] at hK_z
        exact ⟨rfl, z_attN1 hN_z hK_z c_76⟩
    ·
      have hjs : j_z < zV.2.1 := (nI_ltI (by omega) (by omega)).mp (by rw [← hn]; exact c_22)
      have est := z_scan_step (w_z := z_I zS 48 2) (srv := z_rd zV.1 8 6 (zV.1 5 c_z)) (K_z := K_z) (wk_z := z_rse zV c_z) hjs
      refine z_s 26 hB_z dX1_attend_25 rfl rfl ?_
      refine z_s 27 hB_z dX1_attend_26 rfl rfl ?_
      refine z_s 28 hB_z dX1_attend_27 rfl rfl ?_
      refine z_callV 31 hB_z hM_z.2.1 kX1_99 dX1_attend_28 rfl (L48 (zS := zS) hL) rfl (c_X1_isReadyFor (d_z := 0) (z_L.pI hL)) (by omega) rfl rfl (Nat.le_of_ble_eq_true rfl) ⟨Nat.le_refl _, Nat.le_refl _⟩ ?_
      rintro _ _ ⟨rfl, rfl⟩
      have e7_z : z_hb (z_I (z_pI zS 48 3 K_z) 48 2 &&& (z_I (z_pI zS 48 3 K_z) 48 3 ^^^ -1) &&& z_rd (z_I (z_pI zS 48 3 K_z)) 25 6 (z_I zS 19 c_z)) j_z = z_hb (z_I zS 48 2 &&& (K_z ^^^ -1) &&& z_rd zV.1 8 6 (zV.1 5 c_z)) j_z := by
        rw [← z_rd_V2 hV, ← e5_z]
        have q1_z : z_I (z_pI zS 48 3 K_z) 48 2 = z_I zS 48 2 := z_Ine (by decide)
        have q2_z : z_I (z_pI zS 48 3 K_z) 48 3 = K_z := z_Ieq
        have q3_z : z_rd (z_I (z_pI zS 48 3 K_z)) 25 6 (z_I zS 19 c_z) = z_rd (z_I zS) 25 6 (z_I zS 19 c_z) := by
          unfold z_rd
          rw [show z_I (z_pI zS 48 3 K_z) 25 = z_I zS 25 from funext fun i_z => z_Ine (Or.inl (by decide))]
        rw [q1_z, q2_z, q3_z]
      rw [e7_z]
      refine z_b 34 65 hB_z dX1_attend_31 rfl rfl (by decide) (fun c_31 => ?_) (fun c_31 => ?_)
      ·
        refine z_s 68 hB_z dX1_attend_65 rfl rfl ?_
        refine z_j 14 hB_z dX1_attend_68 (by decide) ?_
        rw [if_neg (by rw [z_if0 c_31]; exact Bool.false_ne_true)] at est
        exact z_eq (ih_z hjs K_z (by rw [← est]; exact hK_z)) (by rw [← z_inc]; rfl) rfl rfl
      ·
        refine z_s 35 hB_z dX1_attend_34 rfl rfl ?_
        refine z_getR 38 hB_z fX1_20 (L48 (zS := zS) hL) dX1_attend_35 rfl rfl (r48_0 (zS := zS) hL) ?_
        refine z_s 39 hB_z dX1_attend_38 rfl rfl ?_
        refine z_s 40 hB_z dX1_attend_39 rfl rfl ?_
        refine z_callV 43 hB_z hM_z.2.1 kX1_102 dX1_attend_40 rfl (L7 (zS := zS) hL) rfl (c_X5_rouses (d_z := 0) (z_L.pI hL) (hV.fr (z_fr.u2 (P_z := z_PN) z_fr.rf (Or.inl rfl)) (z_PN7)) hc_z (by omega)) (by omega) rfl rfl (Nat.le_of_ble_eq_true rfl) ⟨Nat.le_refl _, Nat.le_refl _⟩ ?_
        rintro _ _ ⟨rfl, rfl⟩
        refine z_b 46 53 hB_z dX1_attend_43 rfl rfl (by decide) (fun c_43 => ?_) (fun c_43 => ?_)
        ·
          have ew : z_rse zV c_z j_z = true := decide_eq_true (z_w1 c_43)
          refine z_s 54 hB_z dX1_attend_53 rfl rfl ?_
          refine z_s 55 hB_z dX1_attend_54 rfl rfl ?_
          refine z_getI 58 hB_z fX1_46 (L48 (zS := zS) hL) dX1_attend_55 rfl rfl ?_
          refine z_s 59 hB_z dX1_attend_58 rfl rfl ?_
          refine z_s 60 hB_z dX1_attend_59 rfl rfl ?_
          refine z_s 61 hB_z dX1_attend_60 rfl rfl ?_
          refine z_s 62 hB_z dX1_attend_61 rfl rfl ?_
          refine z_putI 65 hB_z fX1_46 (L48 (zS := zS) hL) dX1_attend_62 rfl rfl rfl ?_
          refine z_s 68 hB_z dX1_attend_65 rfl rfl ?_
          refine z_j 14 hB_z dX1_attend_68 (by decide) ?_
          rw [if_pos (z_if1 c_31), ew, if_pos rfl] at est
          have q1_z : z_I (z_pI zS 48 3 K_z) 48 3 = K_z := z_Ieq
          exact z_eq (ih_z hjs (K_z ||| (1 <<< (nI j_z &&& 31))) (by rw [← est]; exact hK_z)) (by rw [← z_inc]; rfl) rfl (by rw [← q1_z]; exact z_pI_pI _ _ _ _ _)
        ·
          have ew : z_rse zV c_z j_z = false := decide_eq_false (fun q_z => by rw [q_z] at c_43; exact absurd c_43 (by decide))
          refine z_s 47 hB_z dX1_attend_46 rfl rfl ?_
          refine z_s 48 hB_z dX1_attend_47 rfl rfl ?_
          refine z_s 49 hB_z dX1_attend_48 rfl rfl ?_
          refine z_callV 52 hB_z hM_z.2.1 kX1_105 dX1_attend_49 rfl (L48 (zS := zS) hL) rfl (c_X1_sell (d_z := 0) (z_L.pI hL) (hV.fr (z_fr.u2 (P_z := z_PN) z_fr.rf (Or.inl rfl)) (z_PN7)) hc_z) (by omega) rfl rfl (Nat.le_of_ble_eq_true rfl) ⟨Nat.le_refl _, Nat.le_refl _⟩ ?_
          rintro _ _ ⟨rfl, rfl⟩
          refine z_vret hM_z dX1_attend_52 rfl ?_ rfl rfl
          rw [if_pos (z_if1 c_31), ew, if_neg Bool.false_ne_true] at est
          rw [est] at hK_z
          exact ⟨rfl, z_attS hN_z hK_z⟩) 0 (Nat.zero_le _) (z_I zS 48 3) rfl
  refine z_s 1 hB_z dX1_attend_0 rfl rfl ?_
  refine z_getR 4 hB_z fX1_20 (L48 (zS := zS) hL) dX1_attend_1 rfl rfl (r48_0 (zS := zS) hL) ?_
  refine z_getR 7 hB_z fX1_96 (L7 (zS := zS) hL) dX1_attend_4 rfl rfl (r7_5 (zS := zS) hL) ?_
  refine z_s 8 hB_z dX1_attend_7 rfl rfl ?_
  refine z_callV 11 hB_z hM_z.2.1 kX1_76 dX1_attend_8 rfl (L18 (zS := zS) hL) rfl (c_at (d_z := 0) (w18 (zS := zS) hL) (by decide) hc_z) (by omega) rfl rfl (Nat.le_of_ble_eq_true rfl) ⟨Nat.le_refl _, Nat.le_refl _⟩ ?_
  rintro _ _ ⟨rfl, rfl⟩
  refine z_s 12 hB_z dX1_attend_11 rfl rfl ?_
  refine z_s 13 hB_z dX1_attend_12 rfl rfl ?_
  refine z_s 14 hB_z dX1_attend_13 rfl rfl ?_
  exact z_eq loop rfl rfl (z_pI_id _ _ _).symm
end
section
/-! the night: it begins, goes on, ends -/
def z_le : List (Option Value) → List (Option Value) → Prop
  | [], [] => True
  | none :: a_z, _ :: b_z => z_le a_z b_z
  | some v_z :: a_z, w_z :: b_z => w_z = some v_z ∧ z_le a_z b_z
  | _, _ => False
theorem z_le_len : ∀ {a_z b_z : List (Option Value)}, z_le a_z b_z → a_z.length = b_z.length
  | [], [], _ => rfl
  | none :: a_z, _ :: b_z, h_z => by rw [List.length_cons, List.length_cons, z_le_len (a_z := a_z) (b_z := b_z) h_z]
  | some v_z :: a_z, w_z :: b_z, h_z => by rw [List.length_cons, List.length_cons, z_le_len (a_z := a_z) (b_z := b_z) h_z.2]
  | [], _ :: _, h_z => h_z.elim
  | none :: _, [], h_z => h_z.elim
  | some _ :: _, [], h_z => h_z.elim
theorem z_le_at : ∀ {a_z b_z : List (Option Value)}, z_le a_z b_z → ∀ (k_z : Nat) (v_z : Value), a_z[k_z]? = some (some v_z) → b_z[k_z]? = some (some v_z)
  | [], [], _, k_z, v_z, h_z => by simp at h_z
  | none :: a_z, _ :: b_z, h_z, 0, v_z, hk => by simp at hk
  | none :: a_z, _ :: b_z, h_z, k_z + 1, v_z, hk => by
    rw [List.getElem?_cons_succ] at hk ⊢
    exact z_le_at (a_z := a_z) (b_z := b_z) h_z k_z v_z hk
  | some u_z :: a_z, w_z :: b_z, h_z, 0, v_z, hk => by
    rw [List.getElem?_cons_zero] at hk ⊢
    rw [h_z.1, hk]
  | some u_z :: a_z, w_z :: b_z, h_z, k_z + 1, v_z, hk => by
    rw [List.getElem?_cons_succ] at hk ⊢
    exact z_le_at (a_z := a_z) (b_z := b_z) h_z.2 k_z v_z hk
  | [], _ :: _, h_z, _, _, _ => h_z.elim
  | none :: _, [], h_z, _, _, _ => h_z.elim
  | some _ :: _, [], h_z, _, _, _ => h_z.elim
/-- less may be said of the locals -/
theorem z_wkn {g_z : z_U} {zX : z_X} {pc : Nat} {ls ls' : List (Option Value)} {st_z : List Value} {cl_z sl_z : Nat} {zS : z_S} (h_z : z_W g_z zX pc ls' st_z cl_z sl_z zS) (hs : z_le ls' ls) : z_W g_z zX pc ls st_z cl_z sl_z zS := by
  intro H_z locs Ls_z hW hS_z hh
  refine h_z H_z locs Ls_z hW hS_z ⟨(z_le_len hs).trans hh.1, hh.2.1, hh.2.2.1, fun q_z hq => hh.2.2.2 q_z ?_⟩
  obtain ⟨v_z, h1, h2⟩ := z_as_mem.mp hq
  exact z_as_mem.mpr ⟨v_z, z_le_at hs _ _ h1, h2⟩
theorem z_wk_no {zV : z_V} {zT : Nat → Int32} {j_z : Nat} (h_z : z_goes zV zT (z_wk zV zT j_z) j_z = false) : z_wk zV zT (j_z + 1) = z_wk zV zT j_z := by
  rw [z_wk, h_z, if_neg Bool.false_ne_true]
theorem z_wk_yes {zV : z_V} {zT : Nat → Int32} {j_z : Nat} (h_z : z_goes zV zT (z_wk zV zT j_z) j_z = true) : z_wk zV zT (j_z + 1) = z_wk zV zT j_z ||| (1 <<< (nI j_z &&& 31)) := by
  rw [z_wk, h_z, if_pos rfl]
theorem z_PNo {q_z : Nat} (h_z : 51 ≤ q_z) : ¬ z_PN q_z := fun z_z => by
  rcases z_z with z_z | z_z <;> omega
theorem z_gF {a_z b_z c_z e_z : Bool} (h_z : a_z = false ∨ b_z = false ∨ c_z = true ∨ e_z = true) : (a_z && (b_z && (!c_z && !e_z))) = false := by
  cases a_z <;> cases b_z <;> cases c_z <;> cases e_z <;> first | rfl | (exfalso; rcases h_z with h_z | h_z | h_z | h_z <;> exact absurd h_z (by decide))
set_option maxHeartbeats 1000000 in
theorem c_X1_open {g_z : z_U} {d_z : Nat} {zS : z_S} {zV : z_V} {zT : Nat → Int32} (hL : z_L zS) (hV : z_rV (z_I zS) 7 zV) {o : Nat} (ho : 51 ≤ o) (hst : z_st zS o) (hT_z : z_rT (z_I zS) o zT) {dog : Bool} {dv : Int32} (hdv : dv = if dog = true then 1 else 0) : z_C g_z (d_z + 2) 0 0 mX1_open [.ref 48, .ref o, .int dv] zS (fun r_z zS' => r_z = none ∧ ∃ zI', z_up zS zI' = zS' ∧ z_fr z_PN (z_I zS) zI' ∧ z_rN zI' (z_wlk zV zT dog) z_N0) := by
  refine z_enter [some (.ref 48), some (.ref o), some (.int dv), none] rfl rfl (Nat.le_of_ble_eq_true rfl) rfl (fun zX hM_z => ?_)
  have hB_z : z_B g_z zX RX1 cX1_open 4 := hM_z.1
  have hn : z_I zS 7 9 = nI zV.2.1 := hV.2.1
  have hn6 : zV.2.1 ≤ 6 := hV.2.2.2.2.1
  have hm10 : zV.2.2.1 ≤ 10 := hV.2.2.2.2.2
  have fin_z : ∀ I1, z_fr z_PN (z_I zS) I1 → z_rN I1 0 z_N0 → z_W g_z zX 47 [some (.ref 48), some (.ref o), some (.int dv), some (.int (nI 0))] [] 0 0 (z_up zS I1) := by
    cases dog with
    | true =>
      have hdv : dv = 1 := hdv
      subst hdv
      intro I1 hf hN_z
      refine z_s 48 hB_z dX1_open_47 rfl rfl ?_
      refine z_s 49 hB_z dX1_open_48 rfl rfl ?_
      refine z_getR 52 hB_z fX1_20 (L48 (zS := zS) hL) dX1_open_49 rfl rfl (r48_0 (zS := zS) hL) ?_
      refine z_getI 55 hB_z fX1_67 (L7 (zS := zS) hL) dX1_open_52 rfl rfl ?_
      refine z_b 58 129 hB_z dX1_open_55 rfl rfl (by decide) (fun c_55 => ?_) (fun c_55 => ?_)
      ·
        refine z_vret hM_z dX1_open_129 rfl ?_ rfl rfl
        exact ⟨rfl, I1, rfl, hf, hN_z⟩
      ·
        refine z_s 59 hB_z dX1_open_58 rfl rfl ?_
        refine z_b 62 129 hB_z dX1_open_59 rfl rfl (by decide) (fun c_59 => ?_) (fun c_59 => ?_)
        ·
          refine z_vret hM_z dX1_open_129 rfl ?_ rfl rfl
          exact ⟨rfl, I1, rfl, hf, hN_z⟩
        ·
          exact absurd c_59 (by decide)
    | false =>
      have hdv : dv = 0 := hdv
      subst hdv
      exact z_loop (fun j_z => ∀ I1, z_fr z_PN (z_I zS) I1 → z_rN I1 (z_wk zV zT j_z) z_N0 → z_W g_z zX 47 [some (.ref 48), some (.ref o), some (.int 0), some (.int (nI j_z))] [] 0 0 (z_up zS I1)) zV.2.1 (fun j_z hj ih_z I1 hf hN_z => by
        have hV1 : z_rV (z_I (z_up zS I1)) 7 zV := hV.fr hf z_PN7
        have hT1 : z_rT (z_I (z_up zS I1)) o zT := hT_z.fr hf ⟨z_PNo ho, z_PNo (by omega)⟩
        have hn1 : z_I (z_up zS I1) 7 9 = nI zV.2.1 := hV1.2.1
        refine z_s 48 hB_z dX1_open_47 rfl rfl ?_
        refine z_s 49 hB_z dX1_open_48 rfl rfl ?_
        refine z_getR 52 hB_z fX1_20 (L48 (zS := zS) hL) dX1_open_49 rfl rfl (r48_0 (zS := zS) hL) ?_
        refine z_getI 55 hB_z fX1_67 (L7 (zS := zS) hL) dX1_open_52 rfl rfl ?_
        refine z_b 58 129 hB_z dX1_open_55 rfl rfl (by decide) (fun c_55 => ?_) (fun c_55 => ?_)
        ·
          have hjs : zV.2.1 ≤ j_z := (nI_leI (by omega) (by omega)).mp (by rw [← hn1]; exact c_55)
          refine z_vret hM_z dX1_open_129 rfl ?_ rfl rfl
          rw [show j_z = zV.2.1 by omega] at hN_z
          exact ⟨rfl, I1, rfl, hf, hN_z⟩
        ·
          have hjs : j_z < zV.2.1 := (nI_ltI (by omega) (by omega)).mp (by rw [← hn1]; exact c_55)
          refine z_s 59 hB_z dX1_open_58 rfl rfl ?_
          refine z_b 62 129 hB_z dX1_open_59 rfl rfl (by decide) (fun c_59 => ?_) (fun c_59 => ?_)
          ·
            exact absurd rfl c_59
          ·
            refine z_s 63 hB_z dX1_open_62 rfl rfl ?_
            refine z_getR 66 hB_z fX1_20 (L48 (zS := zS) hL) dX1_open_63 rfl rfl (r48_0 (zS := zS) hL) ?_
            refine z_s 67 hB_z dX1_open_66 rfl rfl ?_
            refine z_s 68 hB_z dX1_open_67 rfl rfl ?_
            refine z_getI 71 hB_z fX1_28 hst.1 dX1_open_68 rfl rfl ?_
            refine z_callV 74 hB_z hM_z.2.1 kX1_70 dX1_open_71 rfl (L7 (zS := zS) hL) rfl (c_X5_isDue (zS := z_up zS I1) (d_z := 0) hL hV1 (by omega)) (by omega) rfl rfl (Nat.le_of_ble_eq_true rfl) ⟨Nat.le_refl _, Nat.le_refl _⟩ ?_
            rintro _ _ ⟨rfl, rfl⟩
            rw [show z_I (z_up zS I1) o 0 = zT 0 from hT1.1 0 (by decide)]
            refine z_b 77 123 hB_z dX1_open_74 rfl rfl (by decide) (fun c_74 => ?_) (fun c_74 => ?_)
            ·
              refine z_s 126 hB_z dX1_open_123 rfl rfl ?_
              refine z_j 47 hB_z dX1_open_126 (by decide) ?_
              exact z_eq (ih_z hjs I1 hf (by rw [z_wk_no (z_gF (Or.inl (z_if0 c_74)))]; exact hN_z)) (by rw [← z_inc]; rfl) rfl rfl
            ·
              refine z_s 78 hB_z dX1_open_77 rfl rfl ?_
              refine z_getR 81 hB_z fX1_73 hst.1 dX1_open_78 rfl rfl hst.2.1 ?_
              refine z_s 82 hB_z dX1_open_81 rfl rfl ?_
              refine z_callV 85 hB_z hM_z.2.1 kX1_76 dX1_open_82 rfl hst.2.2.1 rfl (c_at (zS := z_up zS I1) (d_z := 0) hst.2.2 (by decide) (by omega)) (by omega) rfl rfl (Nat.le_of_ble_eq_true rfl) ⟨Nat.le_refl _, Nat.le_refl _⟩ ?_
              rintro _ _ ⟨rfl, rfl⟩
              rw [show z_I (z_up zS I1) (o + 2) j_z = zT (6 + j_z) from hT1.2 j_z (by omega)]
              refine z_b 88 123 hB_z dX1_open_85 rfl rfl (by decide) (fun c_85 => ?_) (fun c_85 => ?_)
              ·
                refine z_s 126 hB_z dX1_open_123 rfl rfl ?_
                refine z_j 47 hB_z dX1_open_126 (by decide) ?_
                exact z_eq (ih_z hjs I1 hf (by rw [z_wk_no (z_gF (Or.inr (Or.inl (decide_eq_false c_85))))]; exact hN_z)) (by rw [← z_inc]; rfl) rfl rfl
              ·
                refine z_s 89 hB_z dX1_open_88 rfl rfl ?_
                refine z_getI 92 hB_z fX1_80 hst.1 dX1_open_89 rfl rfl ?_
                refine z_s 93 hB_z dX1_open_92 rfl rfl ?_
                refine z_callS 96 hB_z hM_z.2.1 kX1_83 dX1_open_93 rfl (c_has (d_z := 0)) (by omega) rfl rfl (Nat.le_of_ble_eq_true rfl) ⟨Nat.le_refl _, Nat.le_refl _⟩ ?_
                rintro _ _ ⟨rfl, rfl⟩
                rw [show z_I (z_up zS I1) o 5 = zT 5 from hT1.1 5 (by decide)]
                refine z_b 99 123 hB_z dX1_open_96 rfl rfl (by decide) (fun c_96 => ?_) (fun c_96 => ?_)
                ·
                  refine z_s 126 hB_z dX1_open_123 rfl rfl ?_
                  refine z_j 47 hB_z dX1_open_126 (by decide) ?_
                  exact z_eq (ih_z hjs I1 hf (by rw [z_wk_no (z_gF (Or.inr (Or.inr (Or.inl (z_if1 c_96)))))]; exact hN_z)) (by rw [← z_inc]; rfl) rfl rfl
                ·
                  refine z_s 100 hB_z dX1_open_99 rfl rfl ?_
                  refine z_s 101 hB_z dX1_open_100 rfl rfl ?_
                  refine z_s 102 hB_z dX1_open_101 rfl rfl ?_
                  refine z_getI 105 hB_z fX1_86 hst.1 dX1_open_102 rfl rfl ?_
                  refine z_callV 108 hB_z hM_z.2.1 kX1_89 dX1_open_105 rfl (L48 (zS := zS) hL) rfl (c_X1_isBarred (zS := z_up zS I1) (d_z := 0) hL (by omega)) (by omega) rfl rfl (Nat.le_of_ble_eq_true rfl) ⟨Nat.le_refl _, Nat.le_refl _⟩ ?_
                  rintro _ _ ⟨rfl, rfl⟩
                  rw [show z_I (z_up zS I1) o 4 = zT 4 from hT1.1 4 (by decide), show z_I (z_up zS I1) 48 2 = z_wk zV zT j_z from hN_z.1]
                  refine z_b 111 123 hB_z dX1_open_108 rfl rfl (by decide) (fun c_108 => ?_) (fun c_108 => ?_)
                  ·
                    refine z_s 126 hB_z dX1_open_123 rfl rfl ?_
                    refine z_j 47 hB_z dX1_open_126 (by decide) ?_
                    exact z_eq (ih_z hjs I1 hf (by rw [z_wk_no (z_gF (Or.inr (Or.inr (Or.inr (z_if1 c_108)))))]; exact hN_z)) (by rw [← z_inc]; rfl) rfl rfl
                  ·
                    refine z_s 112 hB_z dX1_open_111 rfl rfl ?_
                    refine z_s 113 hB_z dX1_open_112 rfl rfl ?_
                    refine z_getI 116 hB_z fX1_43 (L48 (zS := zS) hL) dX1_open_113 rfl rfl ?_
                    refine z_s 117 hB_z dX1_open_116 rfl rfl ?_
                    refine z_s 118 hB_z dX1_open_117 rfl rfl ?_
                    refine z_s 119 hB_z dX1_open_118 rfl rfl ?_
                    refine z_s 120 hB_z dX1_open_119 rfl rfl ?_
                    refine z_putI 123 hB_z fX1_43 (L48 (zS := zS) hL) dX1_open_120 rfl rfl rfl ?_
                    refine z_s 126 hB_z dX1_open_123 rfl rfl ?_
                    refine z_j 47 hB_z dX1_open_126 (by decide) ?_
                    have eg : z_goes zV zT (z_wk zV zT j_z) j_z = true := by
                      unfold z_goes
                      rw [z_if1 c_74, z_if0 c_96, z_if0 c_108, decide_eq_true c_85]
                      rfl
                    exact z_eq (ih_z hjs _ (hf.u2 (Or.inl rfl)) (by rw [z_wk_yes eg]; exact z_rN_w hN_z)) (by rw [← z_inc]; rfl) rfl (by rw [← hN_z.1]; rfl)) 0 (Nat.zero_le _)
  refine z_s 1 hB_z dX1_open_0 rfl rfl ?_
  refine z_s 2 hB_z dX1_open_1 rfl rfl ?_
  refine z_putI 5 hB_z fX1_43 (L48 (zS := zS) hL) dX1_open_2 rfl rfl rfl ?_
  refine z_s 6 hB_z dX1_open_5 rfl rfl ?_
  refine z_s 7 hB_z dX1_open_6 rfl rfl ?_
  refine z_putI 10 hB_z fX1_46 (L48 (zS := zS) hL) dX1_open_7 rfl rfl rfl ?_
  refine z_s 11 hB_z dX1_open_10 rfl rfl ?_
  refine z_s 12 hB_z dX1_open_11 rfl rfl ?_
  refine z_putI 15 hB_z fX1_49 (L48 (zS := zS) hL) dX1_open_12 rfl rfl rfl ?_
  refine z_s 16 hB_z dX1_open_15 rfl rfl ?_
  refine z_s 17 hB_z dX1_open_16 rfl rfl ?_
  refine z_putI 20 hB_z fX1_52 (L48 (zS := zS) hL) dX1_open_17 rfl rfl rfl ?_
  refine z_s 21 hB_z dX1_open_20 rfl rfl ?_
  refine z_s 23 hB_z dX1_open_21 rfl rfl ?_
  refine z_putI 26 hB_z fX1_55 (L48 (zS := zS) hL) dX1_open_23 rfl rfl rfl ?_
  refine z_s 27 hB_z dX1_open_26 rfl rfl ?_
  refine z_s 28 hB_z dX1_open_27 rfl rfl ?_
  refine z_putI 31 hB_z fX1_58 (L48 (zS := zS) hL) dX1_open_28 rfl rfl rfl ?_
  refine z_s 32 hB_z dX1_open_31 rfl rfl ?_
  refine z_s 33 hB_z dX1_open_32 rfl rfl ?_
  refine z_putI 36 hB_z fX1_61 (L48 (zS := zS) hL) dX1_open_33 rfl rfl rfl ?_
  refine z_s 37 hB_z dX1_open_36 rfl rfl ?_
  refine z_getR 40 hB_z fX1_14 (L48 (zS := zS) hL) dX1_open_37 rfl rfl (r48_1 (zS := zS) hL) ?_
  refine z_s 42 hB_z dX1_open_40 rfl rfl ?_
  refine z_callV 45 hB_z hM_z.2.1 kX1_64 dX1_open_42 rfl (L49 (zS := zS) hL) rfl (by refine c_X3_fill (d_z := 0) (o := 49) (a_z := 50) (n_z := 10) (v_z := -4) ?_ (by decide); exact w49 (zS := zS) hL) (by omega) rfl rfl (Nat.le_of_ble_eq_true rfl) ⟨Nat.le_refl _, Nat.le_refl _⟩ ?_
  rintro _ _ ⟨rfl, e9_z⟩
  subst e9_z
  refine z_s 46 hB_z dX1_open_45 rfl rfl ?_
  refine z_s 47 hB_z dX1_open_46 rfl rfl ?_
  exact z_eq (fin_z _ (by exact ((((((((z_fr.rf.u2 (Or.inl rfl)).u2 (Or.inl rfl)).u2 (Or.inl rfl)).u2 (Or.inl rfl)).u2 (Or.inl rfl)).u2 (Or.inl rfl)).u2 (Or.inl rfl)).sa (Or.inr rfl))) (by
    refine ⟨rfl, rfl, rfl, rfl, rfl, rfl, rfl, fun c_z hc_z => ?_⟩
    show z_sa _ 50 10 _ 50 c_z = _
    unfold z_sa
    rw [if_pos ⟨rfl, hc_z⟩]
    rfl)) rfl rfl rfl

theorem c_X1_play {g_z : z_U} {d_z : Nat} {zS : z_S} {zV : z_V} {zT : Nat → Int32} (hL : z_L zS) (hV : z_rV (z_I zS) 7 zV) {o : Nat} (ho : 51 ≤ o) (hst : z_st zS o) (hT_z : z_rT (z_I zS) o zT) {dog : Bool} {dv : Int32} (hdv : dv = if dog = true then 1 else 0) {e_z : Nat} (he : e_z ≤ 10) : z_C g_z (d_z + 3) 0 0 mX1_play [.ref 48, .ref o, .int dv, .int (nI e_z)] zS (fun r_z zS' => r_z = none ∧ ∃ zI', z_up zS zI' = zS' ∧ z_fr z_PN (z_I zS) zI' ∧ z_rN zI' (z_wlk zV zT dog) (z_day zV (zT 0) (z_wlk zV zT dog) e_z)) := by
  refine z_enter [some (.ref 48), some (.ref o), some (.int dv), some (.int (nI e_z)), none] rfl rfl (Nat.le_of_ble_eq_true rfl) rfl (fun zX hM_z => ?_)
  have hB_z : z_B g_z zX RX1 cX1_play 5 := hM_z.1
  have loop := z_loop (fun j_z => ∀ I1, z_fr z_PN (z_I zS) I1 → z_rN I1 (z_wlk zV zT dog) (z_day zV (zT 0) (z_wlk zV zT dog) j_z) → z_W g_z zX 9 [some (.ref 48), some (.ref o), some (.int dv), some (.int (nI e_z)), some (.int (nI j_z))] [] 0 0 (z_up zS I1)) e_z (fun j_z hj ih_z I1 hf hN_z => by
    have hV1 : z_rV (z_I (z_up zS I1)) 7 zV := hV.fr hf z_PN7
    have hT1 : z_rT (z_I (z_up zS I1)) o zT := hT_z.fr hf ⟨z_PNo ho, z_PNo (by omega)⟩
    have hn1 : z_I (z_up zS I1) 7 9 = nI zV.2.1 := hV1.2.1
    refine z_s 11 hB_z dX1_play_9 rfl rfl ?_
    refine z_s 12 hB_z dX1_play_11 rfl rfl ?_
    refine z_b 15 43 hB_z dX1_play_12 rfl rfl (by decide) (fun c_12 => ?_) (fun c_12 => ?_)
    ·
      have hjs : e_z ≤ j_z := (nI_leI (by omega) (by omega)).mp c_12
      refine z_vret hM_z dX1_play_43 rfl ?_ rfl rfl
      rw [show j_z = e_z by omega] at hN_z
      exact ⟨rfl, I1, rfl, hf, hN_z⟩
    ·
      have hjs : j_z < e_z := (nI_ltI (by omega) (by omega)).mp c_12
      refine z_s 16 hB_z dX1_play_15 rfl rfl ?_
      refine z_getR 19 hB_z fX1_20 (L48 (zS := zS) hL) dX1_play_16 rfl rfl (r48_0 (zS := zS) hL) ?_
      refine z_s 21 hB_z dX1_play_19 rfl rfl ?_
      refine z_s 22 hB_z dX1_play_21 rfl rfl ?_
      refine z_getI 25 hB_z fX1_28 hst.1 dX1_play_22 rfl rfl ?_
      refine z_callV 28 hB_z hM_z.2.1 kX1_34 dX1_play_25 rfl (L7 (zS := zS) hL) rfl (c_X5_comes (zS := z_up zS I1) (d_z := 0) hL hV1 (by omega)) (by omega) rfl rfl (Nat.le_of_ble_eq_true rfl) ⟨Nat.le_refl _, Nat.le_refl _⟩ ?_
      rintro _ _ ⟨rfl, rfl⟩
      rw [show z_I (z_up zS I1) o 0 = zT 0 from hT1.1 0 (by decide)]
      refine z_b 31 37 hB_z dX1_play_28 rfl rfl (by decide) (fun c_28 => ?_) (fun c_28 => ?_)
      ·
        refine z_s 40 hB_z dX1_play_37 rfl rfl ?_
        refine z_j 9 hB_z dX1_play_40 (by decide) ?_
        exact z_eq (ih_z hjs I1 hf (by unfold z_day; rw [z_if0 c_28, if_neg Bool.false_ne_true]; exact hN_z)) (by rw [← z_inc]; rfl) rfl rfl
      ·
        refine z_s 32 hB_z dX1_play_31 rfl rfl ?_
        refine z_s 34 hB_z dX1_play_32 rfl rfl ?_
        refine z_callV 37 hB_z hM_z.2.1 kX1_40 dX1_play_34 rfl (L48 (zS := zS) hL) rfl (c_X1_attend (zS := z_up zS I1) (d_z := 0) hL hV1 hN_z (by omega)) (by omega) rfl rfl (Nat.le_of_ble_eq_true rfl) ⟨Nat.le_refl _, Nat.le_refl _⟩ ?_
        rintro _ _ ⟨rfl, I2_z, rfl, hf2, hN2⟩
        refine z_s 40 hB_z dX1_play_37 rfl rfl ?_
        refine z_j 9 hB_z dX1_play_40 (by decide) ?_
        exact z_eq (ih_z hjs I2_z (hf.tr hf2) (by unfold z_day; rw [z_if1 c_28, if_pos rfl]; exact hN2)) (by rw [← z_inc]; rfl) rfl rfl) 0 (Nat.zero_le _)
  refine z_s 1 hB_z dX1_play_0 rfl rfl ?_
  refine z_s 2 hB_z dX1_play_1 rfl rfl ?_
  refine z_s 3 hB_z dX1_play_2 rfl rfl ?_
  refine z_callV 6 hB_z hM_z.2.1 kX1_24 dX1_play_3 rfl (L48 (zS := zS) hL) rfl (c_X1_open (d_z := 0) hL hV ho hst hT_z hdv) (by omega) rfl rfl (Nat.le_of_ble_eq_true rfl) ⟨Nat.le_refl _, Nat.le_refl _⟩ ?_
  rintro _ _ ⟨rfl, I1, rfl, hf, hN_z⟩
  refine z_s 7 hB_z dX1_play_6 rfl rfl ?_
  refine z_s 9 hB_z dX1_play_7 rfl rfl ?_
  exact z_eq (loop I1 hf hN_z) rfl rfl rfl

theorem z_close_fin {I1 : Nat → Nat → Int32} {o : Nat} {zV : z_V} {zT : Nat → Int32} {D_z : z_N} (h1 : ∀ k_z, k_z < 6 → I1 o k_z = zT k_z) (h2 : ∀ k_z, k_z < 6 → I1 (o + 2) k_z = if k_z < zV.2.1 then z_cls1 zV zT D_z (6 + k_z) else zT (6 + k_z)) :
    z_rT (z_u2 (z_u2 (z_u2 (z_u2 (z_u2 I1 o 5 0) o 1 (zT 1 + D_z.2.2.2.2.1)) o 2 (zT 2 + D_z.2.2.2.2.2.1)) o 3 (zT 3 + D_z.2.2.1)) o 0 (zT 0 + 1)) o (z_cls1 zV zT D_z) := by
  refine ⟨fun k_z hk => ?_, fun k_z hk => ?_⟩
  · rcases (show k_z = 0 ∨ k_z = 1 ∨ k_z = 2 ∨ k_z = 3 ∨ k_z = 4 ∨ k_z = 5 by omega) with rfl | rfl | rfl | rfl | rfl | rfl
    · exact z_u2_same _ _ _ _
    · exact (z_u2_ne (Or.inr (by decide))).trans ((z_u2_ne (Or.inr (by decide))).trans ((z_u2_ne (Or.inr (by decide))).trans (z_u2_same _ _ _ _)))
    · exact (z_u2_ne (Or.inr (by decide))).trans ((z_u2_ne (Or.inr (by decide))).trans (z_u2_same _ _ _ _))
    · exact (z_u2_ne (Or.inr (by decide))).trans (z_u2_same _ _ _ _)
    · exact (z_u2_ne (Or.inr (by decide))).trans ((z_u2_ne (Or.inr (by decide))).trans ((z_u2_ne (Or.inr (by decide))).trans ((z_u2_ne (Or.inr (by decide))).trans ((z_u2_ne (Or.inr (by decide))).trans (h1 4 (by decide))))))
    · exact (z_u2_ne (Or.inr (by decide))).trans ((z_u2_ne (Or.inr (by decide))).trans ((z_u2_ne (Or.inr (by decide))).trans ((z_u2_ne (Or.inr (by decide))).trans (z_u2_same _ _ _ _))))
  · have ne_z : o + 2 ≠ o := by omega
    rw [z_u2_ne (Or.inl ne_z), z_u2_ne (Or.inl ne_z), z_u2_ne (Or.inl ne_z), z_u2_ne (Or.inl ne_z), z_u2_ne (Or.inl ne_z), h2 k_z hk]
    by_cases q_z : k_z < zV.2.1
    · rw [if_pos q_z]
    · rw [if_neg q_z]
      unfold z_cls1
      rw [if_neg (by omega), if_neg (by omega), if_neg (by omega), if_neg (by omega), if_neg (by omega), if_neg (by omega), if_neg (by omega)]
theorem z_cls1_aw {zV : z_V} {zT : Nat → Int32} {D_z : z_N} {j_z : Nat} (hj : j_z < zV.2.1) : z_cls1 zV zT D_z (6 + j_z) = if z_hb D_z.1 j_z = true then 3 else if zT (6 + j_z) - 1 < 0 then 0 else zT (6 + j_z) - 1 := by
  unfold z_cls1
  rw [if_neg (by omega), if_neg (by omega), if_neg (by omega), if_neg (by omega), if_neg (by omega), if_neg (by omega), show 6 + j_z - 6 = j_z by omega, if_pos hj]
set_option maxHeartbeats 1000000 in
theorem c_X1_close {g_z : z_U} {d_z : Nat} {zS : z_S} {zV : z_V} {zT : Nat → Int32} {w_z : Int32} {D_z : z_N} (hL : z_L zS) (hV : z_rV (z_I zS) 7 zV) {o : Nat} (ho : 51 ≤ o) (hst : z_st zS o) (hT_z : z_rT (z_I zS) o zT) (hN_z : z_rN (z_I zS) w_z D_z) : z_C g_z (d_z + 1) 0 0 mX1_close [.ref 48, .ref o] zS (fun r_z zS' => r_z = none ∧ ∃ zI', z_up zS zI' = zS' ∧ z_fr (fun q_z => q_z = o ∨ q_z = o + 2) (z_I zS) zI' ∧ z_rT zI' o (z_cls1 zV zT D_z)) := by
  refine z_enter [some (.ref 48), some (.ref o), none, none] rfl rfl (Nat.le_of_ble_eq_true rfl) rfl (fun zX hM_z => ?_)
  have hB_z : z_B g_z zX RX1 cX1_close 4 := hM_z.1
  have hn : z_I zS 7 9 = nI zV.2.1 := hV.2.1
  have hn6 : zV.2.1 ≤ 6 := hV.2.2.2.2.1
  have hm10 : zV.2.2.1 ≤ 10 := hV.2.2.2.2.2
  have loop := z_loop (fun j_z => ∀ I1, z_fr (fun q_z => q_z = o ∨ q_z = o + 2) (z_I zS) I1 → (∀ k_z, k_z < 6 → I1 o k_z = zT k_z) → (∀ k_z, k_z < 6 → I1 (o + 2) k_z = if k_z < j_z then z_cls1 zV zT D_z (6 + k_z) else zT (6 + k_z)) → z_W g_z zX 2 [some (.ref 48), some (.ref o), some (.int (nI j_z)), none] [] 0 0 (z_up zS I1)) zV.2.1 (fun j_z hj ih_z I1 hf h1 h2 => by
    have hn1 : z_I (z_up zS I1) 7 9 = nI zV.2.1 := (hf 7 9 (by omega)).trans hn
    refine z_s 3 hB_z dX1_close_2 rfl rfl ?_
    refine z_s 4 hB_z dX1_close_3 rfl rfl ?_
    refine z_getR 7 hB_z fX1_20 (L48 (zS := zS) hL) dX1_close_4 rfl rfl (r48_0 (zS := zS) hL) ?_
    refine z_getI 10 hB_z fX1_67 (L7 (zS := zS) hL) dX1_close_7 rfl rfl ?_
    refine z_b 13 58 hB_z dX1_close_10 rfl rfl (by decide) (fun c_10 => ?_) (fun c_10 => ?_)
    ·
      have hjs : zV.2.1 ≤ j_z := (nI_leI (by omega) (by omega)).mp (by rw [← hn1]; exact c_10)
      refine z_s 59 hB_z dX1_close_58 rfl rfl ?_
      refine z_s 60 hB_z dX1_close_59 rfl rfl ?_
      refine z_putI 63 hB_z fX1_80 hst.1 dX1_close_60 rfl rfl rfl ?_
      refine z_s 64 hB_z dX1_close_63 rfl rfl ?_
      refine z_s 65 hB_z dX1_close_64 rfl rfl ?_
      refine z_getI 68 hB_z fX1_126 hst.1 dX1_close_65 rfl rfl ?_
      refine z_s 69 hB_z dX1_close_68 rfl rfl ?_
      refine z_getI 72 hB_z fX1_58 (L48 (zS := zS) hL) dX1_close_69 rfl rfl ?_
      refine z_s 73 hB_z dX1_close_72 rfl rfl ?_
      refine z_putI 76 hB_z fX1_126 hst.1 dX1_close_73 rfl rfl rfl ?_
      refine z_s 77 hB_z dX1_close_76 rfl rfl ?_
      refine z_s 78 hB_z dX1_close_77 rfl rfl ?_
      refine z_getI 81 hB_z fX1_127 hst.1 dX1_close_78 rfl rfl ?_
      refine z_s 82 hB_z dX1_close_81 rfl rfl ?_
      refine z_getI 85 hB_z fX1_61 (L48 (zS := zS) hL) dX1_close_82 rfl rfl ?_
      refine z_s 86 hB_z dX1_close_85 rfl rfl ?_
      refine z_putI 89 hB_z fX1_127 hst.1 dX1_close_86 rfl rfl rfl ?_
      refine z_s 90 hB_z dX1_close_89 rfl rfl ?_
      refine z_s 91 hB_z dX1_close_90 rfl rfl ?_
      refine z_getI 94 hB_z fX1_128 hst.1 dX1_close_91 rfl rfl ?_
      refine z_s 95 hB_z dX1_close_94 rfl rfl ?_
      refine z_getI 98 hB_z fX1_52 (L48 (zS := zS) hL) dX1_close_95 rfl rfl ?_
      refine z_s 99 hB_z dX1_close_98 rfl rfl ?_
      refine z_putI 102 hB_z fX1_128 hst.1 dX1_close_99 rfl rfl rfl ?_
      refine z_s 103 hB_z dX1_close_102 rfl rfl ?_
      refine z_s 104 hB_z dX1_close_103 rfl rfl ?_
      refine z_getI 107 hB_z fX1_28 hst.1 dX1_close_104 rfl rfl ?_
      refine z_s 108 hB_z dX1_close_107 rfl rfl ?_
      refine z_s 109 hB_z dX1_close_108 rfl rfl ?_
      refine z_putI 112 hB_z fX1_28 hst.1 dX1_close_109 rfl rfl rfl ?_
      refine z_vret hM_z dX1_close_112 rfl ?_ rfl rfl
      have hj2 : j_z = zV.2.1 := by omega
      rw [hj2] at h2
      have a7 : z_I (z_up zS I1) 48 7 = D_z.2.2.2.2.1 := (hf 48 7 (by omega)).trans hN_z.2.2.2.2.2.1
      have a8 : z_I (z_up zS I1) 48 8 = D_z.2.2.2.2.2.1 := (hf 48 8 (by omega)).trans hN_z.2.2.2.2.2.2.1
      have a5 : z_I (z_up zS I1) 48 5 = D_z.2.2.1 := (hf 48 5 (by omega)).trans hN_z.2.2.2.1
      have b1 := h1 1 (by decide)
      have b2 := h1 2 (by decide)
      have b3 := h1 3 (by decide)
      have b0 := h1 0 (by decide)
      refine ⟨rfl, z_u2 (z_u2 (z_u2 (z_u2 (z_u2 I1 o 5 0) o 1 (zT 1 + D_z.2.2.2.2.1)) o 2 (zT 2 + D_z.2.2.2.2.2.1)) o 3 (zT 3 + D_z.2.2.1)) o 0 (zT 0 + 1), ?_, ((((hf.u2 (Or.inl rfl)).u2 (Or.inl rfl)).u2 (Or.inl rfl)).u2 (Or.inl rfl)).u2 (Or.inl rfl), z_close_fin h1 h2⟩
      rw [z_Ine (o' := o) (k_z' := 0) (Or.inr (by decide)), z_Ine (o' := o) (k_z' := 0) (Or.inr (by decide)), z_Ine (o' := o) (k_z' := 0) (Or.inr (by decide)), z_Ine (o' := o) (k_z' := 0) (Or.inr (by decide))]
      rw [z_Ine (o' := 48) (k_z' := 5) (Or.inl (by omega)), z_Ine (o' := 48) (k_z' := 5) (Or.inl (by omega)), z_Ine (o' := 48) (k_z' := 5) (Or.inl (by omega)), z_Ine (o' := o) (k_z' := 3) (Or.inr (by decide)), z_Ine (o' := o) (k_z' := 3) (Or.inr (by decide)), z_Ine (o' := o) (k_z' := 3) (Or.inr (by decide))]
      rw [z_Ine (o' := 48) (k_z' := 8) (Or.inl (by omega)), z_Ine (o' := 48) (k_z' := 8) (Or.inl (by omega)), z_Ine (o' := o) (k_z' := 2) (Or.inr (by decide)), z_Ine (o' := o) (k_z' := 2) (Or.inr (by decide))]
      rw [z_Ine (o' := 48) (k_z' := 7) (Or.inl (by omega)), z_Ine (o' := o) (k_z' := 1) (Or.inr (by decide))]
      rw [a7, a8, a5, show z_I (z_up zS I1) o 1 = zT 1 from b1, show z_I (z_up zS I1) o 2 = zT 2 from b2, show z_I (z_up zS I1) o 3 = zT 3 from b3, show z_I (z_up zS I1) o 0 = zT 0 from b0]
      rfl
    ·
      have hjs : j_z < zV.2.1 := (nI_ltI (by omega) (by omega)).mp (by rw [← hn1]; exact c_10)
      refine z_s 14 hB_z dX1_close_13 rfl rfl ?_
      refine z_getR 17 hB_z fX1_73 hst.1 dX1_close_14 rfl rfl hst.2.1 ?_
      refine z_s 18 hB_z dX1_close_17 rfl rfl ?_
      refine z_callV 21 hB_z hM_z.2.1 kX1_76 dX1_close_18 rfl hst.2.2.1 rfl (c_at (zS := z_up zS I1) (d_z := 0) hst.2.2 (by decide) (by omega)) (by omega) rfl rfl (Nat.le_of_ble_eq_true rfl) ⟨Nat.le_refl _, Nat.le_refl _⟩ ?_
      rintro _ _ ⟨rfl, rfl⟩
      rw [show z_I (z_up zS I1) (o + 2) j_z = zT (6 + j_z) from (h2 j_z (by omega)).trans (if_neg (Nat.lt_irrefl j_z))]
      refine z_s 22 hB_z dX1_close_21 rfl rfl ?_
      refine z_s 23 hB_z dX1_close_22 rfl rfl ?_
      refine z_s 24 hB_z dX1_close_23 rfl rfl ?_
      refine z_max 27 hB_z hM_z.2.1 kX1_121 x_stat x_init x_code dX1_close_24 rfl (Nat.le_of_ble_eq_true rfl) ⟨Nat.le_refl _, Nat.le_refl _⟩ ?_
      refine z_s 28 hB_z dX1_close_27 rfl rfl ?_
      refine z_s 29 hB_z dX1_close_28 rfl rfl ?_
      refine z_getR 32 hB_z fX1_73 hst.1 dX1_close_29 rfl rfl hst.2.1 ?_
      refine z_s 33 hB_z dX1_close_32 rfl rfl ?_
      refine z_s 34 hB_z dX1_close_33 rfl rfl ?_
      refine z_getI 37 hB_z fX1_46 (L48 (zS := zS) hL) dX1_close_34 rfl rfl ?_
      refine z_s 38 hB_z dX1_close_37 rfl rfl ?_
      refine z_callS 41 hB_z hM_z.2.1 kX1_83 dX1_close_38 rfl (c_has (d_z := 0)) (by omega) rfl rfl (Nat.le_of_ble_eq_true rfl) ⟨Nat.le_refl _, Nat.le_refl _⟩ ?_
      rintro _ _ ⟨rfl, rfl⟩
      rw [show z_I (z_up zS I1) 48 3 = D_z.1 from (hf 48 3 (by omega)).trans hN_z.2.1]
      refine z_b 44 48 hB_z dX1_close_41 rfl rfl (by decide) (fun c_41 => ?_) (fun c_41 => ?_)
      ·
        refine z_s 49 hB_z dX1_close_48 rfl rfl ?_
        refine z_callV 52 hB_z hM_z.2.1 kX1_118 dX1_close_49 rfl hst.2.2.1 rfl (c_put (zS := z_up zS I1) (d_z := 0) hst.2.2 (by decide) (by omega)) (by omega) rfl rfl (Nat.le_of_ble_eq_true rfl) ⟨Nat.le_refl _, Nat.le_refl _⟩ ?_
        rintro _ _ ⟨rfl, rfl⟩
        refine z_s 55 hB_z dX1_close_52 rfl rfl ?_
        refine z_j 2 hB_z dX1_close_55 (by decide) ?_
        exact z_wkn (ih_z hjs (z_u2 I1 (o + 2) j_z _) (hf.u2 (Or.inr rfl)) (fun k_z hk => (z_u2_ne (Or.inl (by omega))).trans (h1 k_z hk)) (fun k_z hk => by
          by_cases q_z : k_z = j_z
          · rw [q_z, z_u2_same, if_pos (show j_z < j_z + 1 by omega), z_cls1_aw hjs]
            exact (if_neg (by rw [z_if0 c_41]; exact Bool.false_ne_true)).symm
          · rw [z_u2_ne (Or.inr q_z), h2 k_z hk]
            by_cases q2_z : k_z < j_z
            · rw [if_pos q2_z, if_pos (by omega)]
            · rw [if_neg q2_z, if_neg (by omega)])) ⟨rfl, rfl, congrArg (fun q_z => some (Value.int q_z)) (z_inc j_z), trivial⟩
      ·
        refine z_s 45 hB_z dX1_close_44 rfl rfl ?_
        refine z_j 49 hB_z dX1_close_45 (by decide) ?_
        refine z_callV 52 hB_z hM_z.2.1 kX1_118 dX1_close_49 rfl hst.2.2.1 rfl (c_put (zS := z_up zS I1) (d_z := 0) hst.2.2 (by decide) (by omega)) (by omega) rfl rfl (Nat.le_of_ble_eq_true rfl) ⟨Nat.le_refl _, Nat.le_refl _⟩ ?_
        rintro _ _ ⟨rfl, rfl⟩
        refine z_s 55 hB_z dX1_close_52 rfl rfl ?_
        refine z_j 2 hB_z dX1_close_55 (by decide) ?_
        exact z_wkn (ih_z hjs (z_u2 I1 (o + 2) j_z _) (hf.u2 (Or.inr rfl)) (fun k_z hk => (z_u2_ne (Or.inl (by omega))).trans (h1 k_z hk)) (fun k_z hk => by
          by_cases q_z : k_z = j_z
          · rw [q_z, z_u2_same, if_pos (show j_z < j_z + 1 by omega), z_cls1_aw hjs]
            exact (if_pos (z_if1 c_41)).symm
          · rw [z_u2_ne (Or.inr q_z), h2 k_z hk]
            by_cases q2_z : k_z < j_z
            · rw [if_pos q2_z, if_pos (by omega)]
            · rw [if_neg q2_z, if_neg (by omega)])) ⟨rfl, rfl, congrArg (fun q_z => some (Value.int q_z)) (z_inc j_z), trivial⟩) 0 (Nat.zero_le _)
  refine z_s 1 hB_z dX1_close_0 rfl rfl ?_
  refine z_s 2 hB_z dX1_close_1 rfl rfl ?_
  exact z_eq (loop (z_I zS) z_fr.rf hT_z.1 (fun k_z hk => by rw [if_neg (Nat.not_lt_zero k_z)]; exact hT_z.2 k_z hk)) rfl rfl rfl
end
section
/-! states are copied; nights go by -/
theorem z_st.ge {zS : z_S} {o : Nat} (h_z : z_st zS o) : 4 ≤ o := h_z.1.2.1
/-- a night's figures, and the state behind it -/
def z_dayO (zV : z_V) (zT : Nat → Int32) (dog : Bool) : z_N := z_day zV (zT 0) (z_wlk zV zT dog) zV.2.2.1
def z_nx1 (zV : z_V) (zT : Nat → Int32) (dog : Bool) : Nat → Int32 := z_cls1 zV zT (z_dayO zV zT dog)
def z_gob (zV : z_V) : Nat → (Nat → Int32) → (Nat → Int32)
  | 0, zT => zT
  | k_z + 1, zT => z_nx1 zV (z_gob zV k_z zT) (z_hasDog zV (z_gob zV k_z zT 0))
def z_PG (o : Nat) : Nat → Prop := fun q_z => z_PN q_z ∨ q_z = o ∨ q_z = o + 2
theorem z_PG7 {o : Nat} (h_z : 51 ≤ o) : ∀ q_z : Nat, 7 ≤ q_z → q_z < 7 + 19 → ¬ z_PG o q_z := fun q_z _ h2 h3 => by
  rcases h3 with (h3 | h3) | h3 | h3 <;> omega
theorem z_fr.toN {o : Nat} {zI zI' : Nat → Nat → Int32} (h_z : z_fr z_PN zI zI') : z_fr (z_PG o) zI zI' := h_z.mono (fun _ q_z => Or.inl q_z)
theorem z_fr.toS {o : Nat} {zI zI' : Nat → Nat → Int32} (h_z : z_fr (fun q_z => q_z = o ∨ q_z = o + 2) zI zI') : z_fr (z_PG o) zI zI' := h_z.mono (fun _ q_z => Or.inr q_z)
theorem z_rN.fr {P_z : Nat → Prop} {zI zI' : Nat → Nat → Int32} {w_z : Int32} {D_z : z_N} (h_z : z_rN zI w_z D_z) (hf : z_fr P_z zI zI') (h1 : ¬ P_z 48) (h2 : ¬ P_z 50) : z_rN zI' w_z D_z := by
  obtain ⟨a1_z, a2, a3, a4, a5, a6, a7, a8⟩ := h_z
  exact ⟨(hf 48 2 h1).trans a1_z, (hf 48 3 h1).trans a2, (hf 48 4 h1).trans a3, (hf 48 5 h1).trans a4, (hf 48 6 h1).trans a5, (hf 48 7 h1).trans a6, (hf 48 8 h1).trans a7, fun c_z hc_z => (hf 50 c_z h2).trans (a8 c_z hc_z)⟩
set_option maxHeartbeats 1000000 in
theorem c_X7_copy {g_z : z_U} {d_z : Nat} {zS : z_S} {o p_z : Nat} (hso : z_st zS o) (hsp : z_st zS p_z) (hpo : p_z ≠ o) (hpo2 : p_z + 2 ≠ o) : z_C g_z (d_z + 2) 0 0 mX7_copy [.ref o, .ref p_z] zS (fun r_z zS' => r_z = none ∧ ∃ zI', z_up zS zI' = zS' ∧ z_fr (fun q_z => q_z = o ∨ q_z = o + 2) (z_I zS) zI' ∧ ∀ zT, z_rT (z_I zS) p_z zT → z_rT zI' o zT) := by
  refine z_enter [some (.ref o), some (.ref p_z)] rfl rfl (Nat.le_of_ble_eq_true rfl) rfl (fun zX hM_z => ?_)
  have hB_z : z_B g_z zX RX7 cX7_copy 2 := hM_z.1
  refine z_s 1 hB_z dX7_copy_0 rfl rfl ?_
  refine z_s 2 hB_z dX7_copy_1 rfl rfl ?_
  refine z_getI 5 hB_z fX7_20 hsp.1 dX7_copy_2 rfl rfl ?_
  refine z_putI 8 hB_z fX7_20 hso.1 dX7_copy_5 rfl rfl rfl ?_
  refine z_s 9 hB_z dX7_copy_8 rfl rfl ?_
  refine z_s 10 hB_z dX7_copy_9 rfl rfl ?_
  refine z_getI 13 hB_z fX7_24 hsp.1 dX7_copy_10 rfl rfl ?_
  refine z_putI 16 hB_z fX7_24 hso.1 dX7_copy_13 rfl rfl rfl ?_
  refine z_s 17 hB_z dX7_copy_16 rfl rfl ?_
  refine z_s 18 hB_z dX7_copy_17 rfl rfl ?_
  refine z_getI 21 hB_z fX7_27 hsp.1 dX7_copy_18 rfl rfl ?_
  refine z_putI 24 hB_z fX7_27 hso.1 dX7_copy_21 rfl rfl rfl ?_
  refine z_s 25 hB_z dX7_copy_24 rfl rfl ?_
  refine z_s 26 hB_z dX7_copy_25 rfl rfl ?_
  refine z_getI 29 hB_z fX7_30 hsp.1 dX7_copy_26 rfl rfl ?_
  refine z_putI 32 hB_z fX7_30 hso.1 dX7_copy_29 rfl rfl rfl ?_
  refine z_s 33 hB_z dX7_copy_32 rfl rfl ?_
  refine z_s 34 hB_z dX7_copy_33 rfl rfl ?_
  refine z_getI 37 hB_z fX7_33 hsp.1 dX7_copy_34 rfl rfl ?_
  refine z_putI 40 hB_z fX7_33 hso.1 dX7_copy_37 rfl rfl rfl ?_
  refine z_s 41 hB_z dX7_copy_40 rfl rfl ?_
  refine z_s 42 hB_z dX7_copy_41 rfl rfl ?_
  refine z_getI 45 hB_z fX7_36 hsp.1 dX7_copy_42 rfl rfl ?_
  refine z_putI 48 hB_z fX7_36 hso.1 dX7_copy_45 rfl rfl rfl ?_
  refine z_s 49 hB_z dX7_copy_48 rfl rfl ?_
  refine z_getR 52 hB_z fX7_14 hso.1 dX7_copy_49 rfl rfl hso.2.1 ?_
  refine z_s 53 hB_z dX7_copy_52 rfl rfl ?_
  refine z_getR 56 hB_z fX7_14 hsp.1 dX7_copy_53 rfl rfl hsp.2.1 ?_
  refine z_callV 59 hB_z hM_z.2.1 kX7_42 dX7_copy_56 rfl hso.2.2.1 rfl (by refine c_X3_copy (d_z := 0) (o := o + 1) (a_z := o + 2) (o2 := p_z + 1) (a2 := p_z + 2) (n_z := 6) ?_ ?_ (by decide); exact hso.2.2; exact hsp.2.2) (by omega) rfl rfl (Nat.le_of_ble_eq_true rfl) ⟨Nat.le_refl _, Nat.le_refl _⟩ ?_
  rintro _ _ ⟨rfl, e9_z⟩
  refine z_vret hM_z dX7_copy_59 rfl ?_ rfl rfl
  subst e9_z
  refine ⟨rfl, _, rfl, ((((((z_fr.rf.u2 (Or.inl rfl)).u2 (Or.inl rfl)).u2 (Or.inl rfl)).u2 (Or.inl rfl)).u2 (Or.inl rfl)).u2 (Or.inl rfl)).sa (Or.inr rfl), ?_⟩
  intro zT hT_z
  have no : o ≠ o + 2 := by omega
  have f0_z := hT_z.1 0 (by decide)
  have f1_z := hT_z.1 1 (by decide)
  have f2_z := hT_z.1 2 (by decide)
  have f3_z := hT_z.1 3 (by decide)
  have f4_z := hT_z.1 4 (by decide)
  have f5_z := hT_z.1 5 (by decide)
  refine ⟨fun k_z hk => ?_, fun k_z hk => ?_⟩
  · rw [z_sa_off no]
    rcases (show k_z = 0 ∨ k_z = 1 ∨ k_z = 2 ∨ k_z = 3 ∨ k_z = 4 ∨ k_z = 5 by omega) with rfl | rfl | rfl | rfl | rfl | rfl
    · rw [← f0_z]
      exact (z_Ine (Or.inr (by decide))).trans ((z_Ine (Or.inr (by decide))).trans ((z_Ine (Or.inr (by decide))).trans ((z_Ine (Or.inr (by decide))).trans ((z_Ine (Or.inr (by decide))).trans z_Ieq))))
    · rw [← f1_z]
      exact (z_Ine (Or.inr (by decide))).trans ((z_Ine (Or.inr (by decide))).trans ((z_Ine (Or.inr (by decide))).trans ((z_Ine (Or.inr (by decide))).trans (z_Ieq.trans (z_Ine (Or.inl hpo))))))
    · rw [← f2_z]
      exact (z_Ine (Or.inr (by decide))).trans ((z_Ine (Or.inr (by decide))).trans ((z_Ine (Or.inr (by decide))).trans (z_Ieq.trans ((z_Ine (Or.inl hpo)).trans (z_Ine (Or.inl hpo))))))
    · rw [← f3_z]
      exact (z_Ine (Or.inr (by decide))).trans ((z_Ine (Or.inr (by decide))).trans (z_Ieq.trans ((z_Ine (Or.inl hpo)).trans ((z_Ine (Or.inl hpo)).trans (z_Ine (Or.inl hpo))))))
    · rw [← f4_z]
      exact (z_Ine (Or.inr (by decide))).trans (z_Ieq.trans ((z_Ine (Or.inl hpo)).trans ((z_Ine (Or.inl hpo)).trans ((z_Ine (Or.inl hpo)).trans (z_Ine (Or.inl hpo))))))
    · rw [← f5_z]
      exact z_Ieq.trans ((z_Ine (Or.inl hpo)).trans ((z_Ine (Or.inl hpo)).trans ((z_Ine (Or.inl hpo)).trans ((z_Ine (Or.inl hpo)).trans (z_Ine (Or.inl hpo))))))
  · rw [← hT_z.2 k_z hk]
    unfold z_sa
    rw [if_pos ⟨rfl, hk⟩]
    exact (z_Ine (Or.inl hpo2)).trans ((z_Ine (Or.inl hpo2)).trans ((z_Ine (Or.inl hpo2)).trans ((z_Ine (Or.inl hpo2)).trans ((z_Ine (Or.inl hpo2)).trans (z_Ine (Or.inl hpo2))))))

set_option maxHeartbeats 1000000 in
theorem c_X9_goBy {g_z : z_U} {d_z : Nat} {zS : z_S} {zV : z_V} {zT : Nat → Int32} (hL : z_L zS) (hV : z_rV (z_I zS) 7 zV) {o : Nat} (ho : 51 ≤ o) (hst : z_st zS o) (hT_z : z_rT (z_I zS) o zT) {n_z : Nat} (hn : n_z < 1000) : z_C g_z (d_z + 4) 0 0 mX9_goBy [.ref 4, .ref o, .int (nI n_z)] zS (fun r_z zS' => r_z = none ∧ ∃ zI', z_up zS zI' = zS' ∧ z_fr (z_PG o) (z_I zS) zI' ∧ z_rT zI' o (z_gob zV n_z zT) ∧ (0 < n_z → ∃ w_z, z_rN zI' w_z (z_dayO zV (z_gob zV (n_z - 1) zT) (z_hasDog zV (z_gob zV (n_z - 1) zT 0))))) := by
  refine z_enter [some (.ref 4), some (.ref o), some (.int (nI n_z)), none] rfl rfl (Nat.le_of_ble_eq_true rfl) rfl (fun zX hM_z => ?_)
  have hB_z : z_B g_z zX RX9 cX9_goBy 4 := hM_z.1
  have hm10 : zV.2.2.1 ≤ 10 := hV.2.2.2.2.2
  have loop := z_loop (fun j_z => ∀ I1, z_fr (z_PG o) (z_I zS) I1 → z_rT I1 o (z_gob zV j_z zT) → (0 < j_z → ∃ w_z, z_rN I1 w_z (z_dayO zV (z_gob zV (j_z - 1) zT) (z_hasDog zV (z_gob zV (j_z - 1) zT 0)))) → z_W g_z zX 2 [some (.ref 4), some (.ref o), some (.int (nI n_z)), some (.int (nI j_z))] [] 0 0 (z_up zS I1)) n_z (fun j_z hj ih_z I1 hf hT1 hlast => by
    have hV1 : z_rV (z_I (z_up zS I1)) 7 zV := hV.fr hf (z_PG7 ho)
    refine z_s 3 hB_z dX9_goBy_2 rfl rfl ?_
    refine z_s 4 hB_z dX9_goBy_3 rfl rfl ?_
    refine z_b 7 47 hB_z dX9_goBy_4 rfl rfl (by decide) (fun c_4 => ?_) (fun c_4 => ?_)
    ·
      have hjs : n_z ≤ j_z := (nI_leI (by omega) (by omega)).mp c_4
      refine z_vret hM_z dX9_goBy_47 rfl ?_ rfl rfl
      rw [show j_z = n_z by omega] at hT1 hlast
      exact ⟨rfl, I1, rfl, hf, hT1, hlast⟩
    ·
      have hjs : j_z < n_z := (nI_ltI (by omega) (by omega)).mp c_4
      refine z_s 8 hB_z dX9_goBy_7 rfl rfl ?_
      refine z_getR 11 hB_z fX9_40 (L4_z (zS := zS) hL) dX9_goBy_8 rfl rfl (r4_4 (zS := zS) hL) ?_
      refine z_s 12 hB_z dX9_goBy_11 rfl rfl ?_
      refine z_s 13 hB_z dX9_goBy_12 rfl rfl ?_
      refine z_getR 16 hB_z fX9_19 (L4_z (zS := zS) hL) dX9_goBy_13 rfl rfl (r4_1 (zS := zS) hL) ?_
      refine z_s 17 hB_z dX9_goBy_16 rfl rfl ?_
      refine z_getI 20 hB_z fX9_161 hst.1 dX9_goBy_17 rfl rfl ?_
      refine z_callV 23 hB_z hM_z.2.1 kX9_242 dX9_goBy_20 rfl (L7 (zS := zS) hL) rfl (c_X5_hasDog (zS := z_up zS I1) (d_z := 0) hL hV1) (by omega) rfl rfl (Nat.le_of_ble_eq_true rfl) ⟨Nat.le_refl _, Nat.le_refl _⟩ ?_
      rintro _ _ ⟨rfl, rfl⟩
      rw [show z_I (z_up zS I1) o 0 = z_gob zV j_z zT 0 from hT1.1 0 (by decide)]
      refine z_s 24 hB_z dX9_goBy_23 rfl rfl ?_
      refine z_getR 27 hB_z fX9_19 (L4_z (zS := zS) hL) dX9_goBy_24 rfl rfl (r4_1 (zS := zS) hL) ?_
      refine z_getI 30 hB_z fX9_290 (L7 (zS := zS) hL) dX9_goBy_27 rfl rfl ?_
      rw [show z_I (z_up zS I1) 7 10 = nI zV.2.2.1 from hV1.2.2.1]
      refine z_callV 33 hB_z hM_z.2.1 kX9_245 dX9_goBy_30 rfl (L48 (zS := zS) hL) rfl (c_X1_play (zS := z_up zS I1) (d_z := 0) hL hV1 ho hst hT1 (dog := z_hasDog zV (z_gob zV j_z zT 0)) rfl hm10) (by omega) rfl rfl (Nat.le_of_ble_eq_true rfl) ⟨Nat.le_refl _, Nat.le_refl _⟩ ?_
      rintro _ _ ⟨rfl, I2_z, rfl, hf2, hN2⟩
      refine z_s 34 hB_z dX9_goBy_33 rfl rfl ?_
      refine z_getR 37 hB_z fX9_40 (L4_z (zS := zS) hL) dX9_goBy_34 rfl rfl (r4_4 (zS := zS) hL) ?_
      refine z_s 38 hB_z dX9_goBy_37 rfl rfl ?_
      refine z_callV 41 hB_z hM_z.2.1 kX9_299 dX9_goBy_38 rfl (L48 (zS := zS) hL) rfl (c_X1_close (zS := z_up zS I2_z) (d_z := 0) hL (hV1.fr hf2 z_PN7) ho hst (hT1.fr hf2 ⟨z_PNo ho, z_PNo (by omega)⟩) hN2) (by omega) rfl rfl (Nat.le_of_ble_eq_true rfl) ⟨Nat.le_refl _, Nat.le_refl _⟩ ?_
      rintro _ _ ⟨rfl, I3, rfl, hf3, hT3⟩
      refine z_s 44 hB_z dX9_goBy_41 rfl rfl ?_
      refine z_j 2 hB_z dX9_goBy_44 (by decide) ?_
      exact z_eq (ih_z hjs I3 ((hf.tr hf2.toN).tr hf3.toS) hT3 (fun _ => ⟨_, hN2.fr hf3 (by omega) (by omega)⟩)) (by rw [← z_inc]; rfl) rfl rfl) 0 (Nat.zero_le n_z)
  refine z_s 1 hB_z dX9_goBy_0 rfl rfl ?_
  refine z_s 2 hB_z dX9_goBy_1 rfl rfl ?_
  exact z_eq (loop (z_I zS) z_fr.rf hT_z (fun q_z => absurd q_z (Nat.lt_irrefl 0))) rfl rfl rfl

theorem c_X9_playTonight {g_z : z_U} {d_z : Nat} {zS : z_S} {zV : z_V} {zT : Nat → Int32} (hL : z_L zS) (hV : z_rV (z_I zS) 7 zV) (hT_z : z_rT (z_I zS) 51 zT) : z_C g_z (d_z + 4) 0 0 mX9_playTonight [.ref 4] zS (fun r_z zS' => r_z = none ∧ ∃ zI', z_up zS zI' = zS' ∧ z_fr z_PN (z_I zS) zI' ∧ z_rN zI' (z_wlk zV zT (z_hasDog zV (zT 0))) (z_dayO zV zT (z_hasDog zV (zT 0)))) := by
  refine z_enter [some (.ref 4)] rfl rfl (Nat.le_of_ble_eq_true rfl) rfl (fun zX hM_z => ?_)
  have hB_z : z_B g_z zX RX9 cX9_playTonight 1 := hM_z.1
  have hm10 : zV.2.2.1 ≤ 10 := hV.2.2.2.2.2
  have et : z_I zS 51 0 = zT 0 := hT_z.1 0 (by decide)
  refine z_s 1 hB_z dX9_playTonight_0 rfl rfl ?_
  refine z_getR 4 hB_z fX9_40 (L4_z (zS := zS) hL) dX9_playTonight_1 rfl rfl (r4_4 (zS := zS) hL) ?_
  refine z_s 5 hB_z dX9_playTonight_4 rfl rfl ?_
  refine z_getR 8 hB_z fX9_47 (L4_z (zS := zS) hL) dX9_playTonight_5 rfl rfl (r4_5 (zS := zS) hL) ?_
  refine z_s 9 hB_z dX9_playTonight_8 rfl rfl ?_
  refine z_getR 12 hB_z fX9_19 (L4_z (zS := zS) hL) dX9_playTonight_9 rfl rfl (r4_1 (zS := zS) hL) ?_
  refine z_s 13 hB_z dX9_playTonight_12 rfl rfl ?_
  refine z_getR 16 hB_z fX9_47 (L4_z (zS := zS) hL) dX9_playTonight_13 rfl rfl (r4_5 (zS := zS) hL) ?_
  refine z_getI 19 hB_z fX9_161 (L51 (zS := zS) hL) dX9_playTonight_16 rfl rfl ?_
  refine z_callV 22 hB_z hM_z.2.1 kX9_242 dX9_playTonight_19 rfl (L7 (zS := zS) hL) rfl (c_X5_hasDog (d_z := 0) hL hV) (by omega) rfl rfl (Nat.le_of_ble_eq_true rfl) ⟨Nat.le_refl _, Nat.le_refl _⟩ ?_
  rintro _ _ ⟨rfl, rfl⟩
  rw [et]
  refine z_s 23 hB_z dX9_playTonight_22 rfl rfl ?_
  refine z_getR 26 hB_z fX9_19 (L4_z (zS := zS) hL) dX9_playTonight_23 rfl rfl (r4_1 (zS := zS) hL) ?_
  refine z_getI 29 hB_z fX9_290 (L7 (zS := zS) hL) dX9_playTonight_26 rfl rfl ?_
  rw [show z_I zS 7 10 = nI zV.2.2.1 from hV.2.2.1]
  refine z_callV 32 hB_z hM_z.2.1 kX9_245 dX9_playTonight_29 rfl (L48 (zS := zS) hL) rfl (c_X1_play (d_z := 0) hL hV (by decide) (s51 hL) hT_z (dog := z_hasDog zV (zT 0)) rfl hm10) (by omega) rfl rfl (Nat.le_of_ble_eq_true rfl) ⟨Nat.le_refl _, Nat.le_refl _⟩ ?_
  rintro _ _ ⟨rfl, I2_z, rfl, hf2, hN2⟩
  refine z_vret hM_z dX9_playTonight_32 rfl ?_ rfl rfl
  exact ⟨rfl, I2_z, rfl, hf2, hN2⟩

theorem c_X9_walkersTonight {g_z : z_U} {d_z : Nat} {zS : z_S} {zV : z_V} {zT : Nat → Int32} (hL : z_L zS) (hV : z_rV (z_I zS) 7 zV) (hT_z : z_rT (z_I zS) 51 zT) : z_C g_z (d_z + 3) 0 0 mX9_walkersTonight [.ref 4] zS (fun r_z zS' => r_z = some (.int (z_wlk zV zT (z_hasDog zV (zT 0)))) ∧ ∃ zI', z_up zS zI' = zS' ∧ z_fr z_PN (z_I zS) zI') := by
  refine z_enter [some (.ref 4)] rfl rfl (Nat.le_of_ble_eq_true rfl) rfl (fun zX hM_z => ?_)
  have hB_z : z_B g_z zX RX9 cX9_walkersTonight 1 := hM_z.1
  have hm10 : zV.2.2.1 ≤ 10 := hV.2.2.2.2.2
  have et : z_I zS 51 0 = zT 0 := hT_z.1 0 (by decide)
  refine z_s 1 hB_z dX9_walkersTonight_0 rfl rfl ?_
  refine z_getR 4 hB_z fX9_40 (L4_z (zS := zS) hL) dX9_walkersTonight_1 rfl rfl (r4_4 (zS := zS) hL) ?_
  refine z_s 5 hB_z dX9_walkersTonight_4 rfl rfl ?_
  refine z_getR 8 hB_z fX9_47 (L4_z (zS := zS) hL) dX9_walkersTonight_5 rfl rfl (r4_5 (zS := zS) hL) ?_
  refine z_s 9 hB_z dX9_walkersTonight_8 rfl rfl ?_
  refine z_getR 12 hB_z fX9_19 (L4_z (zS := zS) hL) dX9_walkersTonight_9 rfl rfl (r4_1 (zS := zS) hL) ?_
  refine z_s 13 hB_z dX9_walkersTonight_12 rfl rfl ?_
  refine z_getR 16 hB_z fX9_47 (L4_z (zS := zS) hL) dX9_walkersTonight_13 rfl rfl (r4_5 (zS := zS) hL) ?_
  refine z_getI 19 hB_z fX9_161 (L51 (zS := zS) hL) dX9_walkersTonight_16 rfl rfl ?_
  refine z_callV 22 hB_z hM_z.2.1 kX9_242 dX9_walkersTonight_19 rfl (L7 (zS := zS) hL) rfl (c_X5_hasDog (d_z := 0) hL hV) (by omega) rfl rfl (Nat.le_of_ble_eq_true rfl) ⟨Nat.le_refl _, Nat.le_refl _⟩ ?_
  rintro _ _ ⟨rfl, rfl⟩
  rw [et]
  refine z_callV 25 hB_z hM_z.2.1 kX9_302 dX9_walkersTonight_22 rfl (L48 (zS := zS) hL) rfl (c_X1_open (d_z := 0) hL hV (by decide) (s51 hL) hT_z (dog := z_hasDog zV (zT 0)) rfl) (by omega) rfl rfl (Nat.le_of_ble_eq_true rfl) ⟨Nat.le_refl _, Nat.le_refl _⟩ ?_
  rintro _ _ ⟨rfl, I2_z, rfl, hf2, hN2⟩
  refine z_s 26 hB_z dX9_walkersTonight_25 rfl rfl ?_
  refine z_getR 29 hB_z fX9_40 (L4_z (zS := zS) hL) dX9_walkersTonight_26 rfl rfl (r4_4 (zS := zS) hL) ?_
  refine z_getI 32 hB_z fX9_306 (L48 (zS := zS) hL) dX9_walkersTonight_29 rfl rfl ?_
  refine z_iret hM_z dX9_walkersTonight_32 rfl ?_ rfl rfl
  exact ⟨by rw [show z_I (z_up zS I2_z) 48 2 = _ from hN2.1], I2_z, rfl, hf2⟩

theorem c_X9_serverTonight {g_z : z_U} {d_z : Nat} {zS : z_S} {zV : z_V} {zT : Nat → Int32} (hL : z_L zS) (hV : z_rV (z_I zS) 7 zV) (hT_z : z_rT (z_I zS) 51 zT) {c_z : Nat} (hc_z : c_z < 10) : z_C g_z (d_z + 5) 0 0 mX9_serverTonight [.ref 4, .int (nI c_z)] zS (fun r_z zS' => r_z = some (.int ((z_dayO zV zT (z_hasDog zV (zT 0))).2.2.2.2.2.2 c_z)) ∧ ∃ zI', z_up zS zI' = zS' ∧ z_fr z_PN (z_I zS) zI') := by
  refine z_enter [some (.ref 4), some (.int (nI c_z))] rfl rfl (Nat.le_of_ble_eq_true rfl) rfl (fun zX hM_z => ?_)
  have hB_z : z_B g_z zX RX9 cX9_serverTonight 2 := hM_z.1
  refine z_s 1 hB_z dX9_serverTonight_0 rfl rfl ?_
  refine z_callV 4 hB_z hM_z.2.1 kX9_179 dX9_serverTonight_1 rfl (L4_z (zS := zS) hL) rfl (c_X9_playTonight (d_z := 0) hL hV hT_z) (by omega) rfl rfl (Nat.le_of_ble_eq_true rfl) ⟨Nat.le_refl _, Nat.le_refl _⟩ ?_
  rintro _ _ ⟨rfl, I2_z, rfl, hf2, hN2⟩
  refine z_s 5 hB_z dX9_serverTonight_4 rfl rfl ?_
  refine z_getR 8 hB_z fX9_40 (L4_z (zS := zS) hL) dX9_serverTonight_5 rfl rfl (r4_4 (zS := zS) hL) ?_
  refine z_getR 11 hB_z fX9_309 (L48 (zS := zS) hL) dX9_serverTonight_8 rfl rfl (r48_1 (zS := zS) hL) ?_
  refine z_s 12 hB_z dX9_serverTonight_11 rfl rfl ?_
  refine z_callV 15 hB_z hM_z.2.1 kX9_118 dX9_serverTonight_12 rfl (L49 (zS := zS) hL) rfl (c_at (zS := z_up zS I2_z) (d_z := 0) (w49 hL) (by decide) hc_z) (by omega) rfl rfl (Nat.le_of_ble_eq_true rfl) ⟨Nat.le_refl _, Nat.le_refl _⟩ ?_
  rintro _ _ ⟨rfl, rfl⟩
  refine z_iret hM_z dX9_serverTonight_15 rfl ?_ rfl rfl
  exact ⟨by rw [show z_I (z_up zS I2_z) 50 c_z = _ from hN2.2.2.2.2.2.2.2 c_z hc_z], I2_z, rfl, hf2⟩
end
section
/-! shelves of states -/
def z_sf (zS : z_S) (f_z a_z N_z b_z : Nat) (r_z : Nat → Nat) : Prop := z_is zS f_z (0, 4) ∧ z_R zS f_z 0 = some a_z ∧ z_is zS a_z (2, N_z) ∧ (∀ j_z, j_z < N_z → z_R zS a_z j_z = some (b_z + 3 * r_z j_z)) ∧ (∀ j_z, j_z < N_z → r_z j_z < N_z) ∧ (∀ i_z j_z, i_z < N_z → j_z < N_z → r_z i_z = r_z j_z → i_z = j_z) ∧ ∀ i_z, i_z < N_z → z_st zS (b_z + 3 * i_z)
/-- a shelf with u states, U the bottom first -/
def z_shelf (zS : z_S) (f_z a_z N_z b_z : Nat) (U_z : Nat → Nat → Int32) (u_z : Nat) : Prop := ∃ r_z, z_sf zS f_z a_z N_z b_z r_z ∧ z_I zS f_z 1 = nI u_z ∧ u_z ≤ N_z ∧ ∀ j_z, j_z < u_z → z_rT (z_I zS) (b_z + 3 * r_z j_z) (U_z j_z)
def z_q (zS : z_S) (Rn : Nat → Nat → Option Nat) : z_S := (zS.1, zS.2.1, Rn, zS.2.2.2)
/-- a whole other store of the same kinds -/
def z_w (zS : z_S) (f_z : Nat → Nat → Int32) (Rn : Nat → Nat → Option Nat) : z_S := (zS.1, f_z, Rn, zS.2.2.2)
def z_PS (f_z b_z N_z : Nat) : Nat → Prop := fun q_z => q_z = f_z ∨ (b_z ≤ q_z ∧ q_z < b_z + 3 * N_z)
def z_Rf (a_z : Nat) (Ra_z Rb_z : Nat → Nat → Option Nat) : Prop := ∀ q_z k_z, q_z ≠ a_z → Rb_z q_z k_z = Ra_z q_z k_z
theorem z_nIp (n_z : Nat) : nI (n_z + 1) - 1 = nI n_z := nI_pred n_z
set_option maxHeartbeats 1000000 in
theorem c_X4_dropOldest {g_z : z_U} {d_z : Nat} {zS : z_S} {f_z a_z N_z b_z : Nat} {r_z : Nat → Nat} (hsf : z_sf zS f_z a_z N_z b_z r_z) (hfa : f_z ≠ a_z) (hN_z : 0 < N_z) (hN2 : N_z < 1000) : z_C g_z (d_z) 0 0 mX4_dropOldest [.ref f_z] zS (fun v_z zS' => v_z = none ∧ ∃ zI' R_z', zS' = z_w zS zI' R_z' ∧ z_fr (fun q_z => q_z = f_z) (z_I zS) zI' ∧ z_Rf a_z (z_R zS) R_z' ∧ (∀ j_z, j_z < N_z → R_z' a_z j_z = if j_z < N_z - 1 then some (b_z + 3 * r_z (j_z + 1)) else some (b_z + 3 * r_z 0)) ∧ zI' f_z 1 = nI (N_z - 1)) := by
  refine z_enter [some (.ref f_z), none, none] rfl rfl (Nat.le_of_ble_eq_true rfl) rfl (fun zX hM_z => ?_)
  have hB_z : z_B g_z zX RX4 cX4_dropOldest 3 := hM_z.1
  obtain ⟨g1, g2, g3_z, g4, g5_z, g6, g7⟩ := id hsf
  have loop := z_loop (fun k_z => ∀ R1, z_Rf a_z (z_R zS) R1 → (∀ j_z, j_z < N_z → R1 a_z j_z = if j_z < k_z then z_R zS a_z (j_z + 1) else z_R zS a_z j_z) → z_W g_z zX 18 [some (.ref f_z), some (.ref (b_z + 3 * r_z 0)), some (.int (nI (k_z + 1)))] [] 0 0 (z_q zS R1)) (N_z - 1) (fun k_z hkN ih_z R1 hRf hRa => by
    refine z_s 19 hB_z dX4_dropOldest_18 rfl rfl ?_
    refine z_s 20 hB_z dX4_dropOldest_19 rfl rfl ?_
    refine z_getR 23 hB_z fX4_9 g1 dX4_dropOldest_20 rfl rfl ((hRf f_z 0 hfa).trans g2) ?_
    refine z_alenQ 24 hB_z g3_z dX4_dropOldest_23 rfl ?_
    refine z_b 27 47 hB_z dX4_dropOldest_24 rfl rfl (by decide) (fun c_24 => ?_) (fun c_24 => ?_)
    ·
      have hjs : N_z ≤ k_z + 1 := (nI_leI (by omega) (by omega)).mp c_24
      have hk : k_z = N_z - 1 := by omega
      have hNk : N_z = k_z + 1 := by omega
      refine z_s 48 hB_z dX4_dropOldest_47 rfl rfl ?_
      refine z_getR 51 hB_z fX4_9 g1 dX4_dropOldest_48 rfl rfl ((hRf f_z 0 hfa).trans g2) ?_
      refine z_s 52 hB_z dX4_dropOldest_51 rfl rfl ?_
      refine z_getR 55 hB_z fX4_9 g1 dX4_dropOldest_52 rfl rfl ((hRf f_z 0 hfa).trans g2) ?_
      refine z_alenQ 56 hB_z g3_z dX4_dropOldest_55 rfl ?_
      refine z_s 57 hB_z dX4_dropOldest_56 rfl rfl ?_
      refine z_s 58 hB_z dX4_dropOldest_57 rfl rfl ?_
      refine z_s 59 hB_z dX4_dropOldest_58 rfl rfl ?_
      have eN_z : Int32.ofNat N_z - 1 = nI k_z := by rw [hNk]; exact z_nIp k_z
      rw [eN_z]
      refine z_astQ 60 hB_z g3_z (g7 _ (g5_z 0 (by omega))).1 dX4_dropOldest_59 rfl (vp_in_nI (by omega) (by omega)) ?_
      rw [nI_clamp (by omega)]
      refine z_s 61 hB_z dX4_dropOldest_60 rfl rfl ?_
      refine z_s 62 hB_z dX4_dropOldest_61 rfl rfl ?_
      refine z_getR 65 hB_z fX4_9 g1 dX4_dropOldest_62 rfl rfl ((z_u2_ne (Or.inl hfa)).trans ((hRf f_z 0 hfa).trans g2)) ?_
      refine z_alenQ 66 hB_z g3_z dX4_dropOldest_65 rfl ?_
      refine z_s 67 hB_z dX4_dropOldest_66 rfl rfl ?_
      refine z_s 68 hB_z dX4_dropOldest_67 rfl rfl ?_
      rw [eN_z]
      refine z_putI 71 hB_z fX4_16 g1 dX4_dropOldest_68 rfl rfl rfl ?_
      refine z_vret hM_z dX4_dropOldest_71 rfl ?_ rfl rfl
      refine ⟨rfl, _, _, rfl, ?_, ?_, fun j_z hj => ?_, (z_u2_same _ _ _ _).trans (by rw [hk])⟩
      · exact z_fr.rf.u2 rfl
      · intro q_z j_z hq
        show z_u2 R1 a_z k_z _ q_z j_z = _
        rw [z_u2_ne (Or.inl hq)]; exact hRf q_z j_z hq
      · show z_u2 R1 a_z k_z _ a_z j_z = _
        by_cases h_z : j_z = k_z
        · rw [h_z, z_u2_same, if_neg (by omega)]
        · rw [z_u2_ne (Or.inr h_z), hRa j_z hj, if_pos (by omega), if_pos (by omega)]
          exact g4 (j_z + 1) (by omega)
    ·
      have hjs : k_z + 1 < N_z := (nI_ltI (by omega) (by omega)).mp c_24
      have hR1 : R1 a_z (k_z + 1) = some (b_z + 3 * r_z (k_z + 1)) := (hRa (k_z + 1) hjs).trans (by rw [if_neg (by omega)]; exact g4 (k_z + 1) hjs)
      refine z_s 28 hB_z dX4_dropOldest_27 rfl rfl ?_
      refine z_getR 31 hB_z fX4_9 g1 dX4_dropOldest_28 rfl rfl ((hRf f_z 0 hfa).trans g2) ?_
      refine z_s 32 hB_z dX4_dropOldest_31 rfl rfl ?_
      refine z_s 33 hB_z dX4_dropOldest_32 rfl rfl ?_
      refine z_s 34 hB_z dX4_dropOldest_33 rfl rfl ?_
      refine z_s 35 hB_z dX4_dropOldest_34 rfl rfl ?_
      refine z_getR 38 hB_z fX4_9 g1 dX4_dropOldest_35 rfl rfl ((hRf f_z 0 hfa).trans g2) ?_
      refine z_s 39 hB_z dX4_dropOldest_38 rfl rfl ?_
      refine z_aldQ 40 hB_z g3_z dX4_dropOldest_39 rfl (vp_in_nI hjs (by omega)) (by rw [nI_clamp (by omega)]; exact hR1) ?_
      rw [z_nIp k_z]
      refine z_astQ 41 hB_z g3_z (g7 _ (g5_z _ hjs)).1 dX4_dropOldest_40 rfl (vp_in_nI (by omega) (by omega)) ?_
      refine z_s 44 hB_z dX4_dropOldest_41 rfl rfl ?_
      refine z_j 18 hB_z dX4_dropOldest_44 (by decide) ?_
      exact z_eq (ih_z (by omega) (z_u2 R1 a_z k_z (some (b_z + 3 * r_z (k_z + 1)))) (fun q_z j_z hq => (z_u2_ne (Or.inl hq)).trans (hRf q_z j_z hq)) (fun j_z hj => by
        by_cases h_z : j_z = k_z
        · rw [h_z, z_u2_same, if_pos (by omega)]; exact (g4 (k_z + 1) hjs).symm
        · rw [z_u2_ne (Or.inr h_z), hRa j_z hj]
          by_cases h2 : j_z < k_z
          · rw [if_pos h2, if_pos (by omega)]
          · rw [if_neg h2, if_neg (by omega)])) (by rw [← z_inc (k_z + 1)]; rfl) rfl (by rw [nI_clamp (by omega)] <;> rfl)) 0 (Nat.zero_le _)
  refine z_s 1 hB_z dX4_dropOldest_0 rfl rfl ?_
  refine z_getR 4 hB_z fX4_9 g1 dX4_dropOldest_1 rfl rfl g2 ?_
  refine z_alenQ 5 hB_z g3_z dX4_dropOldest_4 rfl ?_
  refine z_b 8 9 hB_z dX4_dropOldest_5 rfl rfl (by decide) (fun c_5 => ?_) (fun c_5 => ?_)
  ·
    refine z_s 10 hB_z dX4_dropOldest_9 rfl rfl ?_
    refine z_getR 13 hB_z fX4_9 g1 dX4_dropOldest_10 rfl rfl g2 ?_
    refine z_s 14 hB_z dX4_dropOldest_13 rfl rfl ?_
    refine z_aldQ 15 hB_z g3_z dX4_dropOldest_14 rfl (show vp_in (nI 0) N_z from vp_in_nI hN_z (by omega)) (g4 0 hN_z) ?_
    refine z_s 16 hB_z dX4_dropOldest_15 rfl rfl ?_
    refine z_s 17 hB_z dX4_dropOldest_16 rfl rfl ?_
    refine z_s 18 hB_z dX4_dropOldest_17 rfl rfl ?_
    exact z_eq (loop (z_R zS) (fun _ _ _ => rfl) (fun j_z hj => by rw [if_neg (Nat.not_lt_zero j_z)])) rfl rfl rfl
  ·
    exfalso
    rw [show (0 : Int32) = nI 0 from rfl] at c_5
    exact absurd ((nI_eq (by omega) (by omega)).mp c_5) (by omega)

theorem c_X4_clear {g_z : z_U} {d_z : Nat} {zS : z_S} {f_z : Nat} (g1 : z_is zS f_z (0, 4)) : z_C g_z (d_z) 0 0 mX4_clear [.ref f_z] zS (fun v_z zS' => v_z = none ∧ z_pI zS f_z 1 0 = zS') := by
  refine z_enter [some (.ref f_z)] rfl rfl (Nat.le_of_ble_eq_true rfl) rfl (fun zX hM_z => ?_)
  have hB_z : z_B g_z zX RX4 cX4_clear 1 := hM_z.1
  refine z_s 1 hB_z dX4_clear_0 rfl rfl ?_
  refine z_s 2 hB_z dX4_clear_1 rfl rfl ?_
  refine z_putI 5 hB_z fX4_16 g1 dX4_clear_2 rfl rfl rfl ?_
  refine z_vret hM_z dX4_clear_5 rfl ?_ rfl rfl
  exact ⟨rfl, rfl⟩

set_option maxHeartbeats 1000000 in
theorem c_X4_takeInto {g_z : z_U} {d_z : Nat} {zS : z_S} {f_z a_z N_z b_z u_z o : Nat} {U_z : Nat → Nat → Int32} (hsh : z_shelf zS f_z a_z N_z b_z U_z (u_z + 1)) (hN2 : N_z < 1000) (hso : z_st zS o) (hd_z : o + 3 ≤ f_z) (hfb : f_z < b_z) (hfo : f_z ≠ o ∧ f_z ≠ o + 2) : z_C g_z (d_z + 3) 0 0 mX4_takeInto [.ref f_z, .ref o] zS (fun v_z zS' => v_z = none ∧ ∃ zI', z_up zS zI' = zS' ∧ z_fr (fun q_z => q_z = f_z ∨ q_z = o ∨ q_z = o + 2) (z_I zS) zI' ∧ z_rT zI' o (U_z u_z) ∧ zI' f_z 1 = nI u_z) := by
  refine z_enter [some (.ref f_z), some (.ref o), none] rfl rfl (Nat.le_of_ble_eq_true rfl) rfl (fun zX hM_z => ?_)
  have hB_z : z_B g_z zX RX4 cX4_takeInto 3 := hM_z.1
  obtain ⟨r_z, hsf, hsz, huN, hU⟩ := hsh
  obtain ⟨g1, g2, g3_z, g4, g5_z, g6, g7⟩ := id hsf
  have gu := g5_z u_z (by omega)
  refine z_s 1 hB_z dX4_takeInto_0 rfl rfl ?_
  refine z_getI 4 hB_z fX4_16 g1 dX4_takeInto_1 rfl rfl ?_
  refine z_s 5 hB_z dX4_takeInto_4 rfl rfl ?_
  refine z_s 6 hB_z dX4_takeInto_5 rfl rfl ?_
  rw [hsz, z_nIp u_z]
  refine z_s 7 hB_z dX4_takeInto_6 rfl rfl ?_
  refine z_s 8 hB_z dX4_takeInto_7 rfl rfl ?_
  refine z_b 11 44 hB_z dX4_takeInto_8 rfl rfl (by decide) (fun c_8 => ?_) (fun c_8 => ?_)
  ·
    exact absurd c_8 (nI_pos (by omega))
  ·
    refine z_s 12 hB_z dX4_takeInto_11 rfl rfl ?_
    refine z_s 13 hB_z dX4_takeInto_12 rfl rfl ?_
    refine z_getR 16 hB_z fX4_9 g1 dX4_takeInto_13 rfl rfl g2 ?_
    refine z_alenQ 17 hB_z g3_z dX4_takeInto_16 rfl ?_
    refine z_b 20 44 hB_z dX4_takeInto_17 rfl rfl (by decide) (fun c_17 => ?_) (fun c_17 => ?_)
    ·
      exact absurd ((nI_leI (by omega) (by omega)).mp c_17) (by omega)
    ·
      refine z_s 21 hB_z dX4_takeInto_20 rfl rfl ?_
      refine z_getR 24 hB_z fX4_9 g1 dX4_takeInto_21 rfl rfl g2 ?_
      refine z_s 25 hB_z dX4_takeInto_24 rfl rfl ?_
      refine z_aldQ 26 hB_z g3_z dX4_takeInto_25 rfl (vp_in_nI (by omega) (by omega)) (by rw [nI_clamp (by omega)]; exact g4 u_z (by omega)) ?_
      refine z_b 29 44 hB_z dX4_takeInto_26 rfl rfl (by decide) (fun c_26 => ?_) (fun c_26 => ?_)
      ·
        exact c_26.elim
      ·
        refine z_s 30 hB_z dX4_takeInto_29 rfl rfl ?_
        refine z_s 31 hB_z dX4_takeInto_30 rfl rfl ?_
        refine z_getR 34 hB_z fX4_9 g1 dX4_takeInto_31 rfl rfl g2 ?_
        refine z_s 35 hB_z dX4_takeInto_34 rfl rfl ?_
        refine z_aldQ 36 hB_z g3_z dX4_takeInto_35 rfl (vp_in_nI (by omega) (by omega)) (by rw [nI_clamp (by omega)]; exact g4 u_z (by omega)) ?_
        refine z_callV 39 hB_z hM_z.2.1 kX4_23 dX4_takeInto_36 rfl hso.1 rfl (c_X7_copy (d_z := 0) hso (g7 _ gu) (by omega) (by omega)) (by omega) rfl rfl (Nat.le_of_ble_eq_true rfl) ⟨Nat.le_refl _, Nat.le_refl _⟩ ?_
        rintro _ _ ⟨rfl, I2_z, rfl, hf2, hT2⟩
        refine z_s 40 hB_z dX4_takeInto_39 rfl rfl ?_
        refine z_s 41 hB_z dX4_takeInto_40 rfl rfl ?_
        refine z_putI 44 hB_z fX4_16 g1 dX4_takeInto_41 rfl rfl rfl ?_
        refine z_vret hM_z dX4_takeInto_44 rfl ?_ rfl rfl
        refine ⟨rfl, _, rfl, ?_, ?_, z_u2_same _ _ _ _⟩
        · exact (hf2.mono (fun _ q_z => Or.inr q_z)).u2 (Or.inl rfl)
        · exact (hT2 (U_z u_z) (hU u_z (by omega))).fr (P_z := fun q_z => q_z = f_z) (z_fr.rf.u2 rfl) ⟨fun q_z => hfo.1 q_z.symm, fun q_z => hfo.2 q_z.symm⟩

theorem z_sf_w {zS : z_S} {f_z a_z N_z b_z : Nat} {r_z : Nat → Nat} {I1 : Nat → Nat → Int32} (h_z : z_sf zS f_z a_z N_z b_z r_z) : z_sf (z_up zS I1) f_z a_z N_z b_z r_z := h_z
set_option maxHeartbeats 2000000 in
theorem c_X4_put {g_z : z_U} {d_z : Nat} {zS : z_S} {f_z a_z N_z b_z u_z o : Nat} {U_z : Nat → Nat → Int32} {zT : Nat → Int32} (hsh : z_shelf zS f_z a_z N_z b_z U_z u_z) (hN_z : 0 < N_z) (hN2 : N_z < 1000) (hso : z_st zS o) (hT_z : z_rT (z_I zS) o zT) (hof : o + 3 ≤ f_z) (hfa : f_z < a_z) (hab : a_z < b_z) : z_C g_z (d_z + 3) 0 0 mX4_put [.ref f_z, .ref o] zS (fun v_z zS' => v_z = none ∧ ∃ zI' R_z', zS' = z_w zS zI' R_z' ∧ z_fr (z_PS f_z b_z N_z) (z_I zS) zI' ∧ z_Rf a_z (z_R zS) R_z' ∧ z_shelf zS' f_z a_z N_z b_z (if u_z < N_z then (fun j_z => if j_z = u_z then zT else U_z j_z) else fun j_z => if j_z = N_z - 1 then zT else U_z (j_z + 1)) (if u_z < N_z then u_z + 1 else N_z)) := by
  refine z_enter [some (.ref f_z), some (.ref o)] rfl rfl (Nat.le_of_ble_eq_true rfl) rfl (fun zX hM_z => ?_)
  have hB_z : z_B g_z zX RX4 cX4_put 2 := hM_z.1
  obtain ⟨r_z, hsf, hsz, huN, hU⟩ := hsh
  obtain ⟨g1, g2, g3_z, g4, g5_z, g6, g7⟩ := id hsf
  have step : ∀ (S1 : z_S) (r1_z : Nat → Nat) (v_z : Nat), z_sf S1 f_z a_z N_z b_z r1_z → z_I S1 f_z 1 = nI v_z → v_z < N_z → z_st S1 o → z_rT (z_I S1) o zT →
      (∀ I2_z, z_fr (fun q_z => q_z = b_z + 3 * r1_z v_z ∨ q_z = b_z + 3 * r1_z v_z + 2) (z_I S1) I2_z → z_rT I2_z (b_z + 3 * r1_z v_z) zT → (none : Option Value) = none ∧ ∃ zI' R_z', z_pI (z_up S1 I2_z) f_z 1 (nI (v_z + 1)) = z_w zS zI' R_z' ∧ z_fr (z_PS f_z b_z N_z) (z_I zS) zI' ∧ z_Rf a_z (z_R zS) R_z' ∧ z_shelf (z_pI (z_up S1 I2_z) f_z 1 (nI (v_z + 1))) f_z a_z N_z b_z (if u_z < N_z then (fun j_z => if j_z = u_z then zT else U_z j_z) else fun j_z => if j_z = N_z - 1 then zT else U_z (j_z + 1)) (if u_z < N_z then u_z + 1 else N_z)) →
      z_W g_z zX 16 [some (.ref f_z), some (.ref o)] [] 0 0 S1 := by
    intro S1 r1_z v_z hk hz1 hv hs1 hT1 fin1
    obtain ⟨k1_z, k2_z, k3_z, k4_z, k5_z, k6_z, k7_z⟩ := id hk
    have kv := k5_z v_z hv
    refine z_s 17 hB_z dX4_put_16 rfl rfl ?_
    refine z_getI 20 hB_z fX4_16 k1_z dX4_put_17 rfl rfl ?_
    refine z_b 23 70 hB_z dX4_put_20 rfl rfl (by decide) (fun c_20 => ?_) (fun c_20 => ?_)
    ·
      exact absurd c_20 (by rw [hz1]; exact nI_pos (by omega))
    ·
      refine z_s 24 hB_z dX4_put_23 rfl rfl ?_
      refine z_getI 27 hB_z fX4_16 k1_z dX4_put_24 rfl rfl ?_
      refine z_s 28 hB_z dX4_put_27 rfl rfl ?_
      refine z_getR 31 hB_z fX4_9 k1_z dX4_put_28 rfl rfl k2_z ?_
      refine z_alenQ 32 hB_z k3_z dX4_put_31 rfl ?_
      refine z_b 35 70 hB_z dX4_put_32 rfl rfl (by decide) (fun c_32 => ?_) (fun c_32 => ?_)
      ·
        exact absurd c_32 (by rw [hz1]; exact nI_ge hv (by omega))
      ·
        refine z_s 36 hB_z dX4_put_35 rfl rfl ?_
        refine z_getR 39 hB_z fX4_9 k1_z dX4_put_36 rfl rfl k2_z ?_
        refine z_s 40 hB_z dX4_put_39 rfl rfl ?_
        refine z_getI 43 hB_z fX4_16 k1_z dX4_put_40 rfl rfl ?_
        rw [hz1]
        refine z_aldQ 44 hB_z k3_z dX4_put_43 rfl (vp_in_nI hv (by omega)) (by rw [nI_clamp (by omega)]; exact k4_z v_z hv) ?_
        refine z_b 47 70 hB_z dX4_put_44 rfl rfl (by decide) (fun c_44 => ?_) (fun c_44 => ?_)
        ·
          exact c_44.elim
        ·
          refine z_s 48 hB_z dX4_put_47 rfl rfl ?_
          refine z_getR 51 hB_z fX4_9 k1_z dX4_put_48 rfl rfl k2_z ?_
          refine z_s 52 hB_z dX4_put_51 rfl rfl ?_
          refine z_getI 55 hB_z fX4_16 k1_z dX4_put_52 rfl rfl ?_
          rw [hz1]
          refine z_aldQ 56 hB_z k3_z dX4_put_55 rfl (vp_in_nI hv (by omega)) (by rw [nI_clamp (by omega)]; exact k4_z v_z hv) ?_
          refine z_s 57 hB_z dX4_put_56 rfl rfl ?_
          refine z_callV 60 hB_z hM_z.2.1 kX4_23 dX4_put_57 rfl (k7_z _ kv).1 rfl (c_X7_copy (zS := S1) (d_z := 0) (k7_z _ kv) hs1 (by omega) (by omega)) (by omega) rfl rfl (Nat.le_of_ble_eq_true rfl) ⟨Nat.le_refl _, Nat.le_refl _⟩ ?_
          rintro _ _ ⟨rfl, I2_z, rfl, hf2, hT2⟩
          refine z_s 61 hB_z dX4_put_60 rfl rfl ?_
          refine z_s 62 hB_z dX4_put_61 rfl rfl ?_
          refine z_getI 65 hB_z fX4_16 k1_z dX4_put_62 rfl rfl ?_
          refine z_s 66 hB_z dX4_put_65 rfl rfl ?_
          refine z_s 67 hB_z dX4_put_66 rfl rfl ?_
          rw [show z_I (z_up S1 I2_z) f_z 1 = nI v_z from (hf2 f_z 1 (by omega)).trans hz1, z_inc]
          refine z_putI 70 hB_z fX4_16 k1_z dX4_put_67 rfl rfl rfl ?_
          refine z_vret hM_z dX4_put_70 rfl ?_ rfl rfl
          exact fin1 I2_z hf2 (hT2 zT hT1)
  refine z_s 1 hB_z dX4_put_0 rfl rfl ?_
  refine z_getI 4 hB_z fX4_16 g1 dX4_put_1 rfl rfl ?_
  refine z_s 5 hB_z dX4_put_4 rfl rfl ?_
  refine z_getR 8 hB_z fX4_9 g1 dX4_put_5 rfl rfl g2 ?_
  refine z_alenQ 9 hB_z g3_z dX4_put_8 rfl ?_
  refine z_b 12 16 hB_z dX4_put_9 rfl rfl (by decide) (fun c_9 => ?_) (fun c_9 => ?_)
  ·
    have hv : u_z < N_z := (nI_ltI (by omega) (by omega)).mp (by rw [← hsz]; exact c_9)
    have hlt : ∀ j_z, j_z < u_z → r_z j_z ≠ r_z u_z := fun j_z hj q_z => by have := g6 j_z u_z (by omega) hv q_z; omega
    exact step zS r_z u_z hsf hsz hv hso hT_z (fun I2_z hf2 hT2 => ⟨rfl, _, _, rfl, ((hf2.mono (fun q_z hq => by
        have := g5_z u_z hv
        rcases hq with hq | hq <;> exact Or.inr (by omega))).u2 (Or.inl rfl)), fun _ _ _ => rfl, by
      rw [if_pos hv, if_pos hv]
      refine ⟨r_z, hsf, z_u2_same _ _ _ _, hv, fun j_z hj => ?_⟩
      have e_z := (z_fr.rf (P_z := fun q_z => q_z = f_z) (zI := I2_z)).u2 (o := f_z) (k_z := 1) (v_z := nI (u_z + 1)) rfl
      show z_rT (z_u2 I2_z f_z 1 (nI (u_z + 1))) (b_z + 3 * r_z j_z) (if j_z = u_z then zT else U_z j_z)
      by_cases h_z : j_z = u_z
      · rw [h_z, if_pos rfl]
        exact hT2.fr e_z ⟨by omega, by omega⟩
      · rw [if_neg h_z]
        have h2 := hlt j_z (by omega)
        exact ((hU j_z (by omega)).fr hf2 ⟨by omega, by omega⟩).fr e_z ⟨by omega, by omega⟩⟩)
  ·
    have hv : u_z = N_z := by
      have q_z := (nI_leI (by omega) (by omega)).mp (show nI N_z ≤ nI u_z by rw [← hsz]; exact c_9)
      omega
    refine z_s 13 hB_z dX4_put_12 rfl rfl ?_
    refine z_callV 16 hB_z hM_z.2.1 kX4_20 dX4_put_13 rfl g1 rfl (c_X4_dropOldest (d_z := 0) hsf (by omega) hN_z hN2) (by omega) rfl rfl (Nat.le_of_ble_eq_true rfl) ⟨Nat.le_refl _, Nat.le_refl _⟩ ?_
    rintro _ _ ⟨rfl, I1, R1, rfl, hf1, hR1, hq1, hI1⟩
    have hsf1 : z_sf (z_w zS I1 R1) f_z a_z N_z b_z (fun j_z => if j_z < N_z - 1 then r_z (j_z + 1) else r_z 0) := by
      refine ⟨g1, (hR1 f_z 0 (by omega)).trans g2, g3_z, fun j_z hj => ?_, fun j_z hj => ?_, fun i_z j_z hi_z hj hij => ?_, fun i_z hi_z => ?_⟩
      · show R1 a_z j_z = _
        rw [hq1 j_z hj]
        dsimp only
        by_cases h_z : j_z < N_z - 1
        · rw [if_pos h_z, if_pos h_z]
        · rw [if_neg h_z, if_neg h_z]
      · dsimp only
        by_cases h_z : j_z < N_z - 1
        · rw [if_pos h_z]; exact g5_z _ (by omega)
        · rw [if_neg h_z]; exact g5_z _ hN_z
      · dsimp only at hij
        by_cases h_z : i_z < N_z - 1 <;> by_cases h2 : j_z < N_z - 1
        · rw [if_pos h_z, if_pos h2] at hij
          have := g6 _ _ (by omega) (by omega) hij
          omega
        · rw [if_pos h_z, if_neg h2] at hij
          have := g6 _ _ (by omega) hN_z hij
          omega
        · rw [if_neg h_z, if_pos h2] at hij
          have := g6 _ _ hN_z (by omega) hij
          omega
        · omega
      · have k_z := g7 i_z hi_z
        exact ⟨k_z.1, (hR1 _ _ (by omega)).trans k_z.2.1, k_z.2.2.1, (hR1 _ _ (by omega)).trans k_z.2.2.2.1, k_z.2.2.2.2⟩
    have hs1 : z_st (z_w zS I1 R1) o := ⟨hso.1, (hR1 _ _ (by omega)).trans hso.2.1, hso.2.2.1, (hR1 _ _ (by omega)).trans hso.2.2.2.1, hso.2.2.2.2⟩
    have er : ∀ j_z, j_z < N_z - 1 → r_z (j_z + 1) ≠ r_z 0 := fun j_z hj q_z => by
      have := g6 (j_z + 1) 0 (by omega) hN_z q_z
      omega
    refine step (z_w zS I1 R1) _ (N_z - 1) hsf1 hI1 (by omega) hs1 (hT_z.fr hf1 ⟨by omega, by omega⟩) ?_
    intro I2_z hf2 hT2
    have g50 := g5_z 0 hN_z
    rw [show (if N_z - 1 < N_z - 1 then r_z (N_z - 1 + 1) else r_z 0) = r_z 0 from if_neg (Nat.lt_irrefl _)] at hf2 hT2
    refine ⟨rfl, _, _, rfl, (((hf1.mono (fun q_z hq => Or.inl hq)).tr (hf2.mono (fun q_z hq => by rcases hq with hq | hq <;> exact Or.inr (by omega)))).u2 (Or.inl rfl)), hR1, ?_⟩
    rw [if_neg (by omega), if_neg (by omega)]
    refine ⟨_, hsf1, (z_u2_same _ _ _ _).trans (by rw [show N_z - 1 + 1 = N_z by omega]), Nat.le_refl _, fun j_z hj => ?_⟩
    have e_z := (z_fr.rf (P_z := fun q_z => q_z = f_z) (zI := I2_z)).u2 (o := f_z) (k_z := 1) (v_z := nI (N_z - 1 + 1)) rfl
    show z_rT (z_u2 I2_z f_z 1 (nI (N_z - 1 + 1))) (b_z + 3 * (if j_z < N_z - 1 then r_z (j_z + 1) else r_z 0)) (if j_z = N_z - 1 then zT else U_z (j_z + 1))
    by_cases h_z : j_z = N_z - 1
    · rw [if_pos h_z, if_neg (by omega)]
      exact hT2.fr e_z ⟨by omega, by omega⟩
    · have h2 := er j_z (by omega)
      rw [if_neg h_z, if_pos (by omega)]
      have h3 := g5_z (j_z + 1) (by omega)
      exact (((hU (j_z + 1) (by omega)).fr hf1 ⟨by omega, by omega⟩).fr hf2 ⟨by omega, by omega⟩).fr e_z ⟨by omega, by omega⟩
end
section
/-! the whole object: what its cells tell (A), and the calls, one by one -/
/-- shop; state; undone states, how many; kept states, how many; seen: who, when, walked, how many; the text, how long -/
abbrev z_Ab : Type := z_V × (Nat → Int32) × ((Nat → Nat → Int32) × Nat) × ((Nat → Nat → Int32) × Nat) × ((Nat → Int32) × (Nat → Int32) × (Nat → Int32) × Nat) × ((Nat → Int32) × Nat)
def z_AV (A_z : z_Ab) : z_V := A_z.1
def z_AT (A_z : z_Ab) : Nat → Int32 := A_z.2.1
def z_AU (A_z : z_Ab) : (Nat → Nat → Int32) × Nat := A_z.2.2.1
def z_AK (A_z : z_Ab) : (Nat → Nat → Int32) × Nat := A_z.2.2.2.1
def z_AS (A_z : z_Ab) : (Nat → Int32) × (Nat → Int32) × (Nat → Int32) × Nat := A_z.2.2.2.2.1
def z_AX (A_z : z_Ab) : (Nat → Int32) × Nat := A_z.2.2.2.2.2
def z_rS (zI : Nat → Nat → Int32) (q_z : (Nat → Int32) × (Nat → Int32) × (Nat → Int32) × Nat) : Prop := zI 91 3 = nI q_z.2.2.2 ∧ q_z.2.2.2 ≤ 8 ∧ ∀ i_z, i_z < q_z.2.2.2 → zI 93 i_z = q_z.1 i_z ∧ zI 95 i_z = q_z.2.1 i_z ∧ zI 97 i_z = q_z.2.2.1 i_z
def z_rX (zI : Nat → Nat → Int32) (q_z : (Nat → Int32) × Nat) : Prop := zI 5 1 = nI q_z.2 ∧ q_z.2 ≤ 200 ∧ ∀ i_z, i_z < q_z.2 → zI 6 i_z = q_z.1 i_z
def z_RC (zS : z_S) (A_z : z_Ab) : Prop := z_L zS ∧ z_rV (z_I zS) 7 (z_AV A_z) ∧ z_rT (z_I zS) 51 (z_AT A_z) ∧ z_shelf zS 57 58 8 59 (z_AU A_z).1 (z_AU A_z).2 ∧ z_shelf zS 83 84 2 85 (z_AK A_z).1 (z_AK A_z).2 ∧ z_rS (z_I zS) (z_AS A_z) ∧ z_rX (z_I zS) (z_AX A_z)
/-- cells that tell nothing: draft, reader, night, trial, choice -/
def z_scr : Nat → Prop := fun q_z => (26 ≤ q_z ∧ q_z < 51) ∨ (54 ≤ q_z ∧ q_z < 57) ∨ q_z = 98
theorem z_shelf.fr {P_z : Nat → Prop} {zS : z_S} {zI' : Nat → Nat → Int32} {f_z a_z N_z b_z u_z : Nat} {U_z : Nat → Nat → Int32} (h_z : z_shelf zS f_z a_z N_z b_z U_z u_z) (hf : z_fr P_z (z_I zS) zI') (h1 : ¬ P_z f_z) (h2 : ∀ q_z, b_z ≤ q_z → q_z < b_z + 3 * N_z → ¬ P_z q_z) : z_shelf (z_up zS zI') f_z a_z N_z b_z U_z u_z := by
  obtain ⟨r_z, hs, hz, hu, hU⟩ := h_z
  refine ⟨r_z, hs, (hf f_z 1 h1).trans hz, hu, fun j_z hj => ?_⟩
  have := hs.2.2.2.2.1 j_z (by omega)
  exact (hU j_z hj).fr hf ⟨h2 _ (by omega) (by omega), h2 _ (by omega) (by omega)⟩
theorem z_rS.fr {P_z : Nat → Prop} {zI zI' : Nat → Nat → Int32} {q_z : (Nat → Int32) × (Nat → Int32) × (Nat → Int32) × Nat} (h_z : z_rS zI q_z) (hf : z_fr P_z zI zI') (hP : ∀ x_z, 91 ≤ x_z → x_z < 98 → ¬ P_z x_z) : z_rS zI' q_z :=
  ⟨(hf _ _ (hP 91 (by decide) (by decide))).trans h_z.1, h_z.2.1, fun i_z hi_z => ⟨(hf _ _ (hP 93 (by decide) (by decide))).trans (h_z.2.2 i_z hi_z).1, (hf _ _ (hP 95 (by decide) (by decide))).trans (h_z.2.2 i_z hi_z).2.1, (hf _ _ (hP 97 (by decide) (by decide))).trans (h_z.2.2 i_z hi_z).2.2⟩⟩
theorem z_rX.fr {P_z : Nat → Prop} {zI zI' : Nat → Nat → Int32} {q_z : (Nat → Int32) × Nat} (h_z : z_rX zI q_z) (hf : z_fr P_z zI zI') (h5 : ¬ P_z 5) (h6 : ¬ P_z 6) : z_rX zI' q_z :=
  ⟨(hf _ _ h5).trans h_z.1, h_z.2.1, fun i_z hi_z => (hf _ _ h6).trans (h_z.2.2 i_z hi_z)⟩
theorem z_RC.scr {zS : z_S} {A_z : z_Ab} {zI' : Nat → Nat → Int32} (h_z : z_RC zS A_z) (hf : z_fr z_scr (z_I zS) zI') : z_RC (z_up zS zI') A_z := by
  obtain ⟨h1, h2, h3, h4, h5, h6, h7⟩ := h_z
  have hn : ∀ q_z : Nat, q_z < 26 ∨ (51 ≤ q_z ∧ q_z < 54) ∨ (57 ≤ q_z ∧ q_z < 98) → ¬ z_scr q_z := fun q_z hq z_z => by
    unfold z_scr at z_z
    omega
  exact ⟨h1, h2.fr hf (fun q_z a_z b_z => hn q_z (by omega)), h3.fr hf ⟨hn _ (by omega), hn _ (by omega)⟩, h4.fr hf (hn _ (by omega)) (fun q_z a_z b_z => hn q_z (by omega)), h5.fr hf (hn _ (by omega)) (fun q_z a_z b_z => hn q_z (by omega)), h6.fr hf (fun q_z a_z b_z => hn q_z (by omega)), h7.fr hf (hn _ (by omega)) (hn _ (by omega))⟩
/-- an answer, and only such cells changed -/
def z_QP (zS : z_S) (x_z : Int32) : Option Value → z_S → Prop := fun r_z zS' => r_z = some (.int x_z) ∧ ∃ zI', z_up zS zI' = zS' ∧ z_fr z_scr (z_I zS) zI'
theorem z_scrN : ∀ q_z, z_PN q_z → z_scr q_z := fun q_z h_z => by
  unfold z_scr
  rcases h_z with h_z | h_z <;> omega
theorem z_scrG : ∀ q_z, z_PG 54 q_z → z_scr q_z := fun q_z h_z => by
  unfold z_scr
  rcases h_z with (h_z | h_z) | h_z | h_z <;> omega
theorem z_scrT : ∀ q_z, (q_z = 54 ∨ q_z = 54 + 2) → z_scr q_z := fun q_z h_z => by
  unfold z_scr
  omega
/-- what a changing call leaves to the other side -/
def z_kM (zS zS' : z_S) : Prop := z_kd zS' = z_kd zS ∧ z_nx zS' = z_nx zS ∧ (∀ q_z k_z, 99 ≤ q_z → z_I zS' q_z k_z = z_I zS q_z k_z) ∧ ∀ q_z k_z, 99 ≤ q_z → z_R zS' q_z k_z = z_R zS q_z k_z
theorem z_kM.up {zS : z_S} {zI' : Nat → Nat → Int32} {P_z : Nat → Prop} (hf : z_fr P_z (z_I zS) zI') (hP : ∀ q_z, 99 ≤ q_z → ¬ P_z q_z) : z_kM zS (z_up zS zI') := ⟨rfl, rfl, fun q_z k_z hq => hf q_z k_z (hP q_z hq), fun _ _ _ => rfl⟩
theorem z_kM.tr {zS zS' S2 : z_S} (h_z : z_kM zS zS') (h2 : z_kM zS' S2) : z_kM zS S2 := ⟨h2.1.trans h_z.1, h2.2.1.trans h_z.2.1, fun q_z k_z hq => (h2.2.2.1 q_z k_z hq).trans (h_z.2.2.1 q_z k_z hq), fun q_z k_z hq => (h2.2.2.2 q_z k_z hq).trans (h_z.2.2.2 q_z k_z hq)⟩
def z_in (s_z : Int32) (n_z : Nat) : Prop := 0 ≤ s_z ∧ s_z < nI n_z
theorem z_in.of {s_z : Int32} {n_z : Nat} (h_z : z_in s_z n_z) (hn : n_z < 2 ^ 31) : ∃ j_z, j_z < n_z ∧ s_z = nI j_z := by
  obtain ⟨j_z, hj, rfl⟩ := nI_of (z_nlt0 h_z.1)
  exact ⟨j_z, (nI_ltI hj hn).mp h_z.2, rfl⟩
theorem z_in.to {j_z n_z : Nat} (h_z : j_z < n_z) (hn : n_z < 2 ^ 31) : z_in (nI j_z) n_z := ⟨nI_pos' (by omega), (nI_ltI (by omega) hn).mpr h_z⟩
theorem c_X9_isStaff {g_z : z_U} {d_z : Nat} {zS : z_S} (hL : z_L zS) {n_z : Nat} (hn : z_I zS 7 9 = nI n_z) {s_z : Int32} : z_C g_z (d_z) 0 0 mX9_isStaff [.ref 4, .int s_z] zS (fun r_z zS' => zS = zS' ∧ ∃ v_z : Int32, r_z = some (.int v_z) ∧ (v_z = 0 ∧ ¬ z_in s_z n_z ∨ v_z = 1 ∧ z_in s_z n_z)) := by
  refine z_enter [some (.ref 4), some (.int s_z)] rfl rfl (Nat.le_of_ble_eq_true rfl) rfl (fun zX hM_z => ?_)
  have hB_z : z_B g_z zX RX9 cX9_isStaff 2 := hM_z.1
  refine z_s 1 hB_z dX9_isStaff_0 rfl rfl ?_
  refine z_b 4 19 hB_z dX9_isStaff_1 rfl rfl (by decide) (fun c_1 => ?_) (fun c_1 => ?_)
  ·
    refine z_s 20 hB_z dX9_isStaff_19 rfl rfl ?_
    refine z_zret hM_z dX9_isStaff_20 rfl (by decide) ?_ rfl rfl
    exact ⟨rfl, 0, rfl, Or.inl ⟨rfl, fun q_z => z_nlt0 q_z.1 c_1⟩⟩
  ·
    refine z_s 5 hB_z dX9_isStaff_4 rfl rfl ?_
    refine z_s 6 hB_z dX9_isStaff_5 rfl rfl ?_
    refine z_getR 9 hB_z fX9_19 (L4_z (zS := zS) hL) dX9_isStaff_6 rfl rfl (r4_1 (zS := zS) hL) ?_
    refine z_getI 12 hB_z fX9_107 (L7 (zS := zS) hL) dX9_isStaff_9 rfl rfl ?_
    refine z_b 15 19 hB_z dX9_isStaff_12 rfl rfl (by decide) (fun c_12 => ?_) (fun c_12 => ?_)
    ·
      refine z_s 20 hB_z dX9_isStaff_19 rfl rfl ?_
      refine z_zret hM_z dX9_isStaff_20 rfl (by decide) ?_ rfl rfl
      exact ⟨rfl, 0, rfl, Or.inl ⟨rfl, fun q_z => by rw [hn] at c_12; exact z_nlt0 c_12 q_z.2⟩⟩
    ·
      refine z_s 16 hB_z dX9_isStaff_15 rfl rfl ?_
      refine z_j 20 hB_z dX9_isStaff_16 (by decide) ?_
      refine z_zret hM_z dX9_isStaff_20 rfl (by decide) ?_ rfl rfl
      exact ⟨rfl, 1, rfl, Or.inr ⟨rfl, c_1, by rw [← hn]; exact c_12⟩⟩

theorem c_X9_isCustomer {g_z : z_U} {d_z : Nat} {zS : z_S} (hL : z_L zS) {n_z : Nat} (hn : z_I zS 7 10 = nI n_z) {s_z : Int32} : z_C g_z (d_z) 0 0 mX9_isCustomer [.ref 4, .int s_z] zS (fun r_z zS' => zS = zS' ∧ ∃ v_z : Int32, r_z = some (.int v_z) ∧ (v_z = 0 ∧ ¬ z_in s_z n_z ∨ v_z = 1 ∧ z_in s_z n_z)) := by
  refine z_enter [some (.ref 4), some (.int s_z)] rfl rfl (Nat.le_of_ble_eq_true rfl) rfl (fun zX hM_z => ?_)
  have hB_z : z_B g_z zX RX9 cX9_isCustomer 2 := hM_z.1
  refine z_s 1 hB_z dX9_isCustomer_0 rfl rfl ?_
  refine z_b 4 19 hB_z dX9_isCustomer_1 rfl rfl (by decide) (fun c_1 => ?_) (fun c_1 => ?_)
  ·
    refine z_s 20 hB_z dX9_isCustomer_19 rfl rfl ?_
    refine z_zret hM_z dX9_isCustomer_20 rfl (by decide) ?_ rfl rfl
    exact ⟨rfl, 0, rfl, Or.inl ⟨rfl, fun q_z => z_nlt0 q_z.1 c_1⟩⟩
  ·
    refine z_s 5 hB_z dX9_isCustomer_4 rfl rfl ?_
    refine z_s 6 hB_z dX9_isCustomer_5 rfl rfl ?_
    refine z_getR 9 hB_z fX9_19 (L4_z (zS := zS) hL) dX9_isCustomer_6 rfl rfl (r4_1 (zS := zS) hL) ?_
    refine z_getI 12 hB_z fX9_290 (L7 (zS := zS) hL) dX9_isCustomer_9 rfl rfl ?_
    refine z_b 15 19 hB_z dX9_isCustomer_12 rfl rfl (by decide) (fun c_12 => ?_) (fun c_12 => ?_)
    ·
      refine z_s 20 hB_z dX9_isCustomer_19 rfl rfl ?_
      refine z_zret hM_z dX9_isCustomer_20 rfl (by decide) ?_ rfl rfl
      exact ⟨rfl, 0, rfl, Or.inl ⟨rfl, fun q_z => by rw [hn] at c_12; exact z_nlt0 c_12 q_z.2⟩⟩
    ·
      refine z_s 16 hB_z dX9_isCustomer_15 rfl rfl ?_
      refine z_j 20 hB_z dX9_isCustomer_16 (by decide) ?_
      refine z_zret hM_z dX9_isCustomer_20 rfl (by decide) ?_ rfl rfl
      exact ⟨rfl, 1, rfl, Or.inr ⟨rfl, c_1, by rw [← hn]; exact c_12⟩⟩

theorem c_X9_areTwoStaff {g_z : z_U} {d_z : Nat} {zS : z_S} (hL : z_L zS) {n_z : Nat} (hn : z_I zS 7 9 = nI n_z) {a_z b_z : Int32} : z_C g_z (d_z + 1) 0 0 mX9_areTwoStaff [.ref 4, .int a_z, .int b_z] zS (fun r_z zS' => zS = zS' ∧ ∃ v_z : Int32, r_z = some (.int v_z) ∧ (v_z = 0 ∧ ¬ (z_in a_z n_z ∧ z_in b_z n_z ∧ a_z ≠ b_z) ∨ v_z = 1 ∧ z_in a_z n_z ∧ z_in b_z n_z ∧ a_z ≠ b_z)) := by
  refine z_enter [some (.ref 4), some (.int a_z), some (.int b_z)] rfl rfl (Nat.le_of_ble_eq_true rfl) rfl (fun zX hM_z => ?_)
  have hB_z : z_B g_z zX RX9 cX9_areTwoStaff 3 := hM_z.1
  refine z_s 1 hB_z dX9_areTwoStaff_0 rfl rfl ?_
  refine z_s 2 hB_z dX9_areTwoStaff_1 rfl rfl ?_
  refine z_callV 5 hB_z hM_z.2.1 kX9_110 dX9_areTwoStaff_2 rfl (L4_z (zS := zS) hL) rfl (c_X9_isStaff (d_z := 0) hL hn) (by omega) rfl rfl (Nat.le_of_ble_eq_true rfl) ⟨Nat.le_refl _, Nat.le_refl _⟩ ?_
  rintro _ _ ⟨rfl, v1_z, rfl, hv1⟩
  refine z_b 8 25 hB_z dX9_areTwoStaff_5 rfl rfl (by decide) (fun c_5 => ?_) (fun c_5 => ?_)
  ·
    refine z_s 26 hB_z dX9_areTwoStaff_25 rfl rfl ?_
    refine z_zret hM_z dX9_areTwoStaff_26 rfl (by decide) ?_ rfl rfl
    rcases hv1 with ⟨_, w1_z⟩ | ⟨w0_z, w1_z⟩
    · exact ⟨rfl, 0, rfl, Or.inl ⟨rfl, fun q_z => w1_z q_z.1⟩⟩
    · rw [w0_z] at c_5; exact absurd c_5 (by decide)
  ·
    refine z_s 9 hB_z dX9_areTwoStaff_8 rfl rfl ?_
    refine z_s 10 hB_z dX9_areTwoStaff_9 rfl rfl ?_
    refine z_callV 13 hB_z hM_z.2.1 kX9_110 dX9_areTwoStaff_10 rfl (L4_z (zS := zS) hL) rfl (c_X9_isStaff (d_z := 0) hL hn) (by omega) rfl rfl (Nat.le_of_ble_eq_true rfl) ⟨Nat.le_refl _, Nat.le_refl _⟩ ?_
    rintro _ _ ⟨rfl, v2, rfl, hv2⟩
    refine z_b 16 25 hB_z dX9_areTwoStaff_13 rfl rfl (by decide) (fun c_13 => ?_) (fun c_13 => ?_)
    ·
      refine z_s 26 hB_z dX9_areTwoStaff_25 rfl rfl ?_
      refine z_zret hM_z dX9_areTwoStaff_26 rfl (by decide) ?_ rfl rfl
      rcases hv2 with ⟨_, w1_z⟩ | ⟨w0_z, w1_z⟩
      · exact ⟨rfl, 0, rfl, Or.inl ⟨rfl, fun q_z => w1_z q_z.2.1⟩⟩
      · rw [w0_z] at c_13; exact absurd c_13 (by decide)
    ·
      refine z_s 17 hB_z dX9_areTwoStaff_16 rfl rfl ?_
      refine z_s 18 hB_z dX9_areTwoStaff_17 rfl rfl ?_
      refine z_b 21 25 hB_z dX9_areTwoStaff_18 rfl rfl (by decide) (fun c_18 => ?_) (fun c_18 => ?_)
      ·
        refine z_s 26 hB_z dX9_areTwoStaff_25 rfl rfl ?_
        refine z_zret hM_z dX9_areTwoStaff_26 rfl (by decide) ?_ rfl rfl
        exact ⟨rfl, 0, rfl, Or.inl ⟨rfl, fun q_z => q_z.2.2 c_18⟩⟩
      ·
        refine z_s 22 hB_z dX9_areTwoStaff_21 rfl rfl ?_
        refine z_j 26 hB_z dX9_areTwoStaff_22 (by decide) ?_
        refine z_zret hM_z dX9_areTwoStaff_26 rfl (by decide) ?_ rfl rfl
        rcases hv1 with ⟨w0_z, _⟩ | ⟨_, w1_z⟩
        · exact absurd w0_z c_5
        · rcases hv2 with ⟨w0_z, _⟩ | ⟨_, w2_z⟩
          · exact absurd w0_z c_13
          · exact ⟨rfl, 1, rfl, Or.inr ⟨rfl, w1_z, w2_z, c_18⟩⟩

theorem c_X9_woken {g_z : z_U} {d_z : Nat} {zS : z_S} {A_z : z_Ab} (hC : z_RC zS A_z) : z_C g_z (d_z + 5) 0 0 mX9_woken [.ref 4] zS (z_QP zS ((z_dayO (z_AV A_z) (z_AT A_z) (z_hasDog (z_AV A_z) (z_AT A_z 0))).1)) := by
  refine z_enter [some (.ref 4)] rfl rfl (Nat.le_of_ble_eq_true rfl) rfl (fun zX hM_z => ?_)
  have hB_z : z_B g_z zX RX9 cX9_woken 1 := hM_z.1
  obtain ⟨hL, hV, hT_z, hU, hK_z, hS_z, hX⟩ := id hC
  have hn : z_I zS 7 9 = nI (z_AV A_z).2.1 := hV.2.1
  have hm_z : z_I zS 7 10 = nI (z_AV A_z).2.2.1 := hV.2.2.1
  have hn6 := hV.2.2.2.2.1
  have hm10 := hV.2.2.2.2.2
  refine z_s 1 hB_z dX9_woken_0 rfl rfl ?_
  refine z_callV 4 hB_z hM_z.2.1 kX9_179 dX9_woken_1 rfl (L4_z (zS := zS) hL) rfl (c_X9_playTonight (d_z := 0) hL hV hT_z) (by omega) rfl rfl (Nat.le_of_ble_eq_true rfl) ⟨Nat.le_refl _, Nat.le_refl _⟩ ?_
  rintro _ _ ⟨rfl, I2_z, rfl, hf2, hN2⟩
  refine z_s 5 hB_z dX9_woken_4 rfl rfl ?_
  refine z_getR 8 hB_z fX9_40 (L4_z (zS := zS) hL) dX9_woken_5 rfl rfl (r4_4 (zS := zS) hL) ?_
  refine z_getI 11 hB_z fX9_182 (L48 (zS := zS) hL) dX9_woken_8 rfl rfl ?_
  refine z_iret hM_z dX9_woken_11 rfl ?_ rfl rfl
  exact ⟨by rw [show z_I (z_up zS I2_z) 48 3 = _ from hN2.2.1], I2_z, rfl, hf2.mono z_scrN⟩

def z_ansBehind (A_z : z_Ab) (n_z what : Int32) : Int32 := if 0 ≤ n_z ∧ n_z ≤ 28 ∧ 0 ≤ what ∧ what ≤ 2 then z_gob (z_AV A_z) n_z.toNatClampNeg (z_AT A_z) (if what = 0 then 1 else if what = 1 then 2 else 3) else -1
theorem z_le28 {n_z : Int32} (h0 : 0 ≤ n_z) {m_z : Nat} (hm_z : m_z < 2 ^ 31) (h1 : n_z ≤ nI m_z) : ∃ j_z, j_z ≤ m_z ∧ n_z = nI j_z := by
  obtain ⟨j_z, hj, rfl⟩ := nI_of (z_nlt0 h0)
  exact ⟨j_z, (nI_leI hj hm_z).mp h1, rfl⟩
set_option maxHeartbeats 1000000 in
theorem c_X9_behind {g_z : z_U} {d_z : Nat} {zS : z_S} {A_z : z_Ab} (hC : z_RC zS A_z) {n_z what : Int32} : z_C g_z (d_z + 5) 0 0 mX9_behind [.ref 4, .int n_z, .int what] zS (z_QP zS (z_ansBehind A_z n_z what)) := by
  refine z_enter [some (.ref 4), some (.int n_z), some (.int what)] rfl rfl (Nat.le_of_ble_eq_true rfl) rfl (fun zX hM_z => ?_)
  have hB_z : z_B g_z zX RX9 cX9_behind 3 := hM_z.1
  obtain ⟨hL, hV, hT_z, hU, hK_z, hS_z, hX⟩ := id hC
  have hn : z_I zS 7 9 = nI (z_AV A_z).2.1 := hV.2.1
  have hm_z : z_I zS 7 10 = nI (z_AV A_z).2.2.1 := hV.2.2.1
  have hn6 := hV.2.2.2.2.1
  have hm10 := hV.2.2.2.2.2
  refine z_s 1 hB_z dX9_behind_0 rfl rfl ?_
  refine z_b 4 19 hB_z dX9_behind_1 rfl rfl (by decide) (fun c_1 => ?_) (fun c_1 => ?_)
  ·
    refine z_s 20 hB_z dX9_behind_19 rfl rfl ?_
    refine z_iret hM_z dX9_behind_20 rfl ?_ rfl rfl
    exact ⟨by unfold z_ansBehind; rw [if_neg (fun q_z => z_nlt0 q_z.1 c_1)], z_I zS, rfl, z_fr.rf⟩
  ·
    refine z_s 5 hB_z dX9_behind_4 rfl rfl ?_
    refine z_s 7 hB_z dX9_behind_5 rfl rfl ?_
    refine z_b 10 19 hB_z dX9_behind_7 rfl rfl (by decide) (fun c_7 => ?_) (fun c_7 => ?_)
    ·
      refine z_s 20 hB_z dX9_behind_19 rfl rfl ?_
      refine z_iret hM_z dX9_behind_20 rfl ?_ rfl rfl
      exact ⟨by unfold z_ansBehind; rw [if_neg (fun q_z => z_nle0 c_7 q_z.2.1)], z_I zS, rfl, z_fr.rf⟩
    ·
      refine z_s 11 hB_z dX9_behind_10 rfl rfl ?_
      refine z_b 14 19 hB_z dX9_behind_11 rfl rfl (by decide) (fun c_11 => ?_) (fun c_11 => ?_)
      ·
        refine z_s 20 hB_z dX9_behind_19 rfl rfl ?_
        refine z_iret hM_z dX9_behind_20 rfl ?_ rfl rfl
        exact ⟨by unfold z_ansBehind; rw [if_neg (fun q_z => z_nlt0 q_z.2.2.1 c_11)], z_I zS, rfl, z_fr.rf⟩
      ·
        refine z_s 15 hB_z dX9_behind_14 rfl rfl ?_
        refine z_s 16 hB_z dX9_behind_15 rfl rfl ?_
        refine z_b 19 21 hB_z dX9_behind_16 rfl rfl (by decide) (fun c_16 => ?_) (fun c_16 => ?_)
        ·
          obtain ⟨j_z, hj, rfl⟩ := z_le28 c_1 (m_z := 28) (by decide) c_7
          refine z_s 22 hB_z dX9_behind_21 rfl rfl ?_
          refine z_getR 25 hB_z fX9_51 (L4_z (zS := zS) hL) dX9_behind_22 rfl rfl (r4_6 (zS := zS) hL) ?_
          refine z_s 26 hB_z dX9_behind_25 rfl rfl ?_
          refine z_getR 29 hB_z fX9_47 (L4_z (zS := zS) hL) dX9_behind_26 rfl rfl (r4_5 (zS := zS) hL) ?_
          refine z_callV 32 hB_z hM_z.2.1 kX9_210 dX9_behind_29 rfl (L54 (zS := zS) hL) rfl (c_X7_copy (d_z := 0) (s54 hL) (s51 hL) (by decide) (by decide)) (by omega) rfl rfl (Nat.le_of_ble_eq_true rfl) ⟨Nat.le_refl _, Nat.le_refl _⟩ ?_
          rintro _ _ ⟨rfl, I2_z, rfl, hf2, hT2⟩
          have hV2 : z_rV (z_I (z_up zS I2_z)) 7 (z_AV A_z) := hV.fr hf2 (by omega)
          have hT3 := hT2 _ hT_z
          refine z_s 33 hB_z dX9_behind_32 rfl rfl ?_
          refine z_s 34 hB_z dX9_behind_33 rfl rfl ?_
          refine z_getR 37 hB_z fX9_51 (L4_z (zS := zS) hL) dX9_behind_34 rfl rfl (r4_6 (zS := zS) hL) ?_
          refine z_s 38 hB_z dX9_behind_37 rfl rfl ?_
          refine z_callV 41 hB_z hM_z.2.1 kX9_189 dX9_behind_38 rfl (L4_z (zS := zS) hL) rfl (c_X9_goBy (zS := z_up zS I2_z) (d_z := 0) hL hV2 (by decide) (s54 hL) hT3 (by omega)) (by omega) rfl rfl (Nat.le_of_ble_eq_true rfl) ⟨Nat.le_refl _, Nat.le_refl _⟩ ?_
          rintro _ _ ⟨rfl, I3, rfl, hf3, hT4, _⟩
          refine z_s 42 hB_z dX9_behind_41 rfl rfl ?_
          refine z_b 45 55 hB_z dX9_behind_42 rfl rfl (by decide) (fun c_42 => ?_) (fun c_42 => ?_)
          ·
            refine z_s 56 hB_z dX9_behind_55 rfl rfl ?_
            refine z_s 57 hB_z dX9_behind_56 rfl rfl ?_
            refine z_b 60 70 hB_z dX9_behind_57 rfl rfl (by decide) (fun c_57 => ?_) (fun c_57 => ?_)
            ·
              refine z_s 71 hB_z dX9_behind_70 rfl rfl ?_
              refine z_getR 74 hB_z fX9_51 (L4_z (zS := zS) hL) dX9_behind_71 rfl rfl (r4_6 (zS := zS) hL) ?_
              refine z_getI 77 hB_z fX9_219 (L54 (zS := zS) hL) dX9_behind_74 rfl rfl ?_
              refine z_iret hM_z dX9_behind_77 rfl ?_ rfl rfl
              refine ⟨?_, I3, rfl, (hf2.mono z_scrT).tr (hf3.mono z_scrG)⟩
              unfold z_ansBehind
              rw [if_pos ⟨c_1, c_7, c_11, c_16⟩, nI_clamp (by omega)]
              rw [if_neg c_42, if_neg c_57]
              exact congrArg (fun q_z => some (Value.int q_z)) (hT4.1 3 (by decide))
            ·
              refine z_s 61 hB_z dX9_behind_60 rfl rfl ?_
              refine z_getR 64 hB_z fX9_51 (L4_z (zS := zS) hL) dX9_behind_61 rfl rfl (r4_6 (zS := zS) hL) ?_
              refine z_getI 67 hB_z fX9_216 (L54 (zS := zS) hL) dX9_behind_64 rfl rfl ?_
              refine z_j 77 hB_z dX9_behind_67 (by decide) ?_
              refine z_iret hM_z dX9_behind_77 rfl ?_ rfl rfl
              refine ⟨?_, I3, rfl, (hf2.mono z_scrT).tr (hf3.mono z_scrG)⟩
              unfold z_ansBehind
              rw [if_pos ⟨c_1, c_7, c_11, c_16⟩, nI_clamp (by omega)]
              rw [if_neg c_42, if_pos c_57]
              exact congrArg (fun q_z => some (Value.int q_z)) (hT4.1 2 (by decide))
          ·
            refine z_s 46 hB_z dX9_behind_45 rfl rfl ?_
            refine z_getR 49 hB_z fX9_51 (L4_z (zS := zS) hL) dX9_behind_46 rfl rfl (r4_6 (zS := zS) hL) ?_
            refine z_getI 52 hB_z fX9_213 (L54 (zS := zS) hL) dX9_behind_49 rfl rfl ?_
            refine z_j 77 hB_z dX9_behind_52 (by decide) ?_
            refine z_iret hM_z dX9_behind_77 rfl ?_ rfl rfl
            refine ⟨?_, I3, rfl, (hf2.mono z_scrT).tr (hf3.mono z_scrG)⟩
            unfold z_ansBehind
            rw [if_pos ⟨c_1, c_7, c_11, c_16⟩, nI_clamp (by omega)]
            rw [if_pos c_42]
            exact congrArg (fun q_z => some (Value.int q_z)) (hT4.1 1 (by decide))
        ·
          refine z_s 20 hB_z dX9_behind_19 rfl rfl ?_
          refine z_iret hM_z dX9_behind_20 rfl ?_ rfl rfl
          exact ⟨by unfold z_ansBehind; rw [if_neg (fun q_z => z_nle0 c_16 q_z.2.2.2)], z_I zS, rfl, z_fr.rf⟩
end
section
/-! the calls that change: the text, what is seen, and nights -/
def z_CP (zS : z_S) (q_z : z_Ab × Int32) : Option Value → z_S → Prop := fun r_z zS' => r_z = some (.int q_z.2) ∧ z_RC zS' q_z.1 ∧ z_kM zS zS'
def z_setX (A_z : z_Ab) (x_z : (Nat → Int32) × Nat) : z_Ab := (A_z.1, A_z.2.1, A_z.2.2.1, A_z.2.2.2.1, A_z.2.2.2.2.1, x_z)
def z_setS (A_z : z_Ab) (x_z : (Nat → Int32) × (Nat → Int32) × (Nat → Int32) × Nat) : z_Ab := (A_z.1, A_z.2.1, A_z.2.2.1, A_z.2.2.2.1, x_z, A_z.2.2.2.2.2)
def z_setT (A_z : z_Ab) (x_z : Nat → Int32) : z_Ab := (A_z.1, x_z, A_z.2.2)
def z_setU (A_z : z_Ab) (x_z : (Nat → Nat → Int32) × Nat) : z_Ab := (A_z.1, A_z.2.1, x_z, A_z.2.2.2)
def z_setK (A_z : z_Ab) (x_z : (Nat → Nat → Int32) × Nat) : z_Ab := (A_z.1, A_z.2.1, A_z.2.2.1, x_z, A_z.2.2.2.2)
theorem z_kM.rf {zS : z_S} : z_kM zS zS := ⟨rfl, rfl, fun _ _ _ => rfl, fun _ _ _ => rfl⟩
theorem z_RC.ofX {zS : z_S} {A_z : z_Ab} {zI' : Nat → Nat → Int32} {x_z : (Nat → Int32) × Nat} (h_z : z_RC zS A_z) (hf : z_fr (fun q_z => q_z = 5 ∨ q_z = 6) (z_I zS) zI') (hx : z_rX zI' x_z) : z_RC (z_up zS zI') (z_setX A_z x_z) := by
  obtain ⟨h1, h2, h3, h4, h5, h6, h7⟩ := h_z
  exact ⟨h1, h2.fr hf (fun q_z a_z b_z => by omega), h3.fr hf ⟨by omega, by omega⟩, h4.fr hf (by omega) (fun q_z a_z b_z => by omega), h5.fr hf (by omega) (fun q_z a_z b_z => by omega), h6.fr hf (fun q_z a_z b_z => by omega), hx⟩
theorem z_RC.ofS {zS : z_S} {A_z : z_Ab} {zI' : Nat → Nat → Int32} {x_z : (Nat → Int32) × (Nat → Int32) × (Nat → Int32) × Nat} (h_z : z_RC zS A_z) (hf : z_fr (fun q_z => 91 ≤ q_z ∧ q_z < 98) (z_I zS) zI') (hx : z_rS zI' x_z) : z_RC (z_up zS zI') (z_setS A_z x_z) := by
  obtain ⟨h1, h2, h3, h4, h5, h6, h7⟩ := h_z
  exact ⟨h1, h2.fr hf (fun q_z a_z b_z => by omega), h3.fr hf ⟨by omega, by omega⟩, h4.fr hf (by omega) (fun q_z a_z b_z => by omega), h5.fr hf (by omega) (fun q_z a_z b_z => by omega), hx, h7.fr hf (by omega) (by omega)⟩
theorem z_RC.ofT {zS : z_S} {A_z : z_Ab} {zI' : Nat → Nat → Int32} {x_z : Nat → Int32} (h_z : z_RC zS A_z) (hf : z_fr (fun q_z => z_scr q_z ∨ q_z = 51 ∨ q_z = 53) (z_I zS) zI') (hx : z_rT zI' 51 x_z) : z_RC (z_up zS zI') (z_setT A_z x_z) := by
  obtain ⟨h1, h2, h3, h4, h5, h6, h7⟩ := h_z
  have hn : ∀ q_z : Nat, q_z < 26 ∨ (57 ≤ q_z ∧ q_z < 98) → ¬ (z_scr q_z ∨ q_z = 51 ∨ q_z = 53) := fun q_z hq z_z => by
    unfold z_scr at z_z
    omega
  exact ⟨h1, h2.fr hf (fun q_z a_z b_z => hn q_z (by omega)), hx, h4.fr hf (hn _ (by omega)) (fun q_z a_z b_z => hn q_z (by omega)), h5.fr hf (hn _ (by omega)) (fun q_z a_z b_z => hn q_z (by omega)), h6.fr hf (fun q_z a_z b_z => hn q_z (by omega)), h7.fr hf (hn _ (by omega)) (hn _ (by omega))⟩
theorem z_rL_ne : ∀ t_z ∈ z_rL, t_z.1 ≠ 58 ∧ t_z.1 ≠ 84 := by decide +kernel
theorem z_L.w {zS : z_S} {zI' : Nat → Nat → Int32} {R_z' : Nat → Nat → Option Nat} (h_z : z_L zS) (hR : ∀ q_z k_z, q_z ≠ 58 → q_z ≠ 84 → R_z' q_z k_z = z_R zS q_z k_z) : z_L (z_w zS zI' R_z') :=
  ⟨h_z.1, h_z.2.1, fun t_z ht => (hR _ _ (z_rL_ne t_z ht).1 (z_rL_ne t_z ht).2).trans (h_z.2.2 t_z ht)⟩
theorem z_shelf.w {P_z : Nat → Prop} {zS : z_S} {zI' : Nat → Nat → Int32} {R_z' : Nat → Nat → Option Nat} {f_z a_z N_z b_z u_z c_z : Nat} {U_z : Nat → Nat → Int32} (h_z : z_shelf zS f_z a_z N_z b_z U_z u_z) (hf : z_fr P_z (z_I zS) zI') (h1 : ¬ P_z f_z) (h2 : ∀ q_z, b_z ≤ q_z → q_z < b_z + 3 * N_z → ¬ P_z q_z) (hR : z_Rf c_z (z_R zS) R_z') (hc_z : c_z ≠ f_z ∧ c_z ≠ a_z ∧ (c_z < b_z ∨ b_z + 3 * N_z ≤ c_z)) : z_shelf (z_w zS zI' R_z') f_z a_z N_z b_z U_z u_z := by
  obtain ⟨r_z, ⟨g1, g2, g3_z, g4, g5_z, g6, g7⟩, hz, hu, hU⟩ := h_z
  refine ⟨r_z, ⟨g1, (hR _ _ (Ne.symm hc_z.1)).trans g2, g3_z, fun j_z hj => (hR _ _ (Ne.symm hc_z.2.1)).trans (g4 j_z hj), g5_z, g6, fun i_z hi_z => ?_⟩, (hf f_z 1 h1).trans hz, hu, fun j_z hj => ?_⟩
  · have k_z := g7 i_z hi_z
    exact ⟨k_z.1, (hR _ _ (by omega)).trans k_z.2.1, k_z.2.2.1, (hR _ _ (by omega)).trans k_z.2.2.2.1, k_z.2.2.2.2⟩
  · have := g5_z j_z (by omega)
    exact (hU j_z hj).fr hf ⟨h2 _ (by omega) (by omega), h2 _ (by omega) (by omega)⟩
def z_push (q_z : (Nat → Nat → Int32) × Nat) (zT : Nat → Int32) (N_z : Nat) : (Nat → Nat → Int32) × Nat := (if q_z.2 < N_z then (fun j_z => if j_z = q_z.2 then zT else q_z.1 j_z) else fun j_z => if j_z = N_z - 1 then zT else q_z.1 (j_z + 1), if q_z.2 < N_z then q_z.2 + 1 else N_z)
theorem z_RC.ofU {zS : z_S} {A_z : z_Ab} {zI' : Nat → Nat → Int32} {R_z' : Nat → Nat → Option Nat} {x_z : (Nat → Nat → Int32) × Nat} (h_z : z_RC zS A_z) (hf : z_fr (z_PS 57 59 8) (z_I zS) zI') (hR : z_Rf 58 (z_R zS) R_z') (hx : z_shelf (z_w zS zI' R_z') 57 58 8 59 x_z.1 x_z.2) : z_RC (z_w zS zI' R_z') (z_setU A_z x_z) ∧ z_kM zS (z_w zS zI' R_z') := by
  obtain ⟨h1, h2, h3, h4, h5, h6, h7⟩ := h_z
  have hn : ∀ q_z : Nat, q_z < 57 ∨ 83 ≤ q_z → ¬ z_PS 57 59 8 q_z := fun q_z hq z_z => by
    unfold z_PS at z_z
    omega
  exact ⟨⟨h1.w (fun q_z k_z a_z _ => hR q_z k_z a_z), h2.fr hf (fun q_z a_z b_z => hn q_z (by omega)), h3.fr hf ⟨hn _ (by omega), hn _ (by omega)⟩, hx, h5.w hf (hn _ (by omega)) (fun q_z a_z b_z => hn q_z (by omega)) hR (by decide), h6.fr hf (fun q_z a_z b_z => hn q_z (by omega)), h7.fr hf (hn _ (by omega)) (hn _ (by omega))⟩, rfl, rfl, fun q_z k_z hq => hf q_z k_z (hn q_z (by omega)), fun q_z k_z hq => hR q_z k_z (by omega)⟩
theorem z_RC.ofK {zS : z_S} {A_z : z_Ab} {zI' : Nat → Nat → Int32} {R_z' : Nat → Nat → Option Nat} {x_z : (Nat → Nat → Int32) × Nat} (h_z : z_RC zS A_z) (hf : z_fr (z_PS 83 85 2) (z_I zS) zI') (hR : z_Rf 84 (z_R zS) R_z') (hx : z_shelf (z_w zS zI' R_z') 83 84 2 85 x_z.1 x_z.2) : z_RC (z_w zS zI' R_z') (z_setK A_z x_z) ∧ z_kM zS (z_w zS zI' R_z') := by
  obtain ⟨h1, h2, h3, h4, h5, h6, h7⟩ := h_z
  have hn : ∀ q_z : Nat, q_z < 83 ∨ 91 ≤ q_z → ¬ z_PS 83 85 2 q_z := fun q_z hq z_z => by
    unfold z_PS at z_z
    omega
  exact ⟨⟨h1.w (fun q_z k_z _ a_z => hR q_z k_z a_z), h2.fr hf (fun q_z a_z b_z => hn q_z (by omega)), h3.fr hf ⟨hn _ (by omega), hn _ (by omega)⟩, h4.w hf (hn _ (by omega)) (fun q_z a_z b_z => hn q_z (by omega)) hR (by decide), hx, h6.fr hf (fun q_z a_z b_z => hn q_z (by omega)), h7.fr hf (hn _ (by omega)) (hn _ (by omega))⟩, rfl, rfl, fun q_z k_z hq => hf q_z k_z (hn q_z (by omega)), fun q_z k_z hq => hR q_z k_z (by omega)⟩
theorem c_X8_add {g_z : z_U} {d_z : Nat} {zS : z_S} (hL : z_L zS) {v_z : Int32} {n_z : Nat} (hn : z_I zS 5 1 = nI n_z) (h200 : n_z < 200) : z_C g_z (d_z) 0 0 mX8_add [.ref 5, .int v_z] zS (fun r_z zS' => r_z = none ∧ z_pI (z_pI zS 6 n_z v_z) 5 1 (nI (n_z + 1)) = zS') := by
  refine z_enter [some (.ref 5), some (.int v_z)] rfl rfl (Nat.le_of_ble_eq_true rfl) rfl (fun zX hM_z => ?_)
  have hB_z : z_B g_z zX RX8 cX8_add 2 := hM_z.1
  refine z_s 1 hB_z dX8_add_0 rfl rfl ?_
  refine z_getI 4 hB_z fX8_15 (L5_z (zS := zS) hL) dX8_add_1 rfl rfl ?_
  refine z_b 7 39 hB_z dX8_add_4 rfl rfl (by decide) (fun c_4 => ?_) (fun c_4 => ?_)
  ·
    exact absurd c_4 (by rw [hn]; exact nI_pos (by omega))
  ·
    refine z_s 8 hB_z dX8_add_7 rfl rfl ?_
    refine z_getI 11 hB_z fX8_15 (L5_z (zS := zS) hL) dX8_add_8 rfl rfl ?_
    refine z_s 12 hB_z dX8_add_11 rfl rfl ?_
    refine z_getR 15 hB_z fX8_9 (L5_z (zS := zS) hL) dX8_add_12 rfl rfl (r5_0 (zS := zS) hL) ?_
    refine z_alen 16 hB_z (L6_z (zS := zS) hL) dX8_add_15 rfl ?_
    refine z_b 19 39 hB_z dX8_add_16 rfl rfl (by decide) (fun c_16 => ?_) (fun c_16 => ?_)
    ·
      exact absurd c_16 (by rw [hn]; exact nI_ge h200 (by omega))
    ·
      refine z_s 20 hB_z dX8_add_19 rfl rfl ?_
      refine z_getR 23 hB_z fX8_9 (L5_z (zS := zS) hL) dX8_add_20 rfl rfl (r5_0 (zS := zS) hL) ?_
      refine z_s 24 hB_z dX8_add_23 rfl rfl ?_
      refine z_getI 27 hB_z fX8_15 (L5_z (zS := zS) hL) dX8_add_24 rfl rfl ?_
      refine z_s 28 hB_z dX8_add_27 rfl rfl ?_
      rw [hn]
      refine z_ast 29 hB_z (L6_z (zS := zS) hL) dX8_add_28 rfl (vp_in_nI h200 (by omega)) ?_
      rw [nI_clamp (by omega)]
      refine z_s 30 hB_z dX8_add_29 rfl rfl ?_
      refine z_s 31 hB_z dX8_add_30 rfl rfl ?_
      refine z_getI 34 hB_z fX8_15 (L5_z (zS := zS) hL) dX8_add_31 rfl rfl ?_
      refine z_s 35 hB_z dX8_add_34 rfl rfl ?_
      refine z_s 36 hB_z dX8_add_35 rfl rfl ?_
      rw [show z_I (z_pI zS 6 n_z v_z) 5 1 = nI n_z from (z_Ine (Or.inl (by decide))).trans hn, z_inc]
      refine z_putI 39 hB_z fX8_15 (L5_z (zS := zS) hL) dX8_add_36 rfl rfl rfl ?_
      refine z_vret hM_z dX8_add_39 rfl ?_ rfl rfl
      exact ⟨rfl, rfl⟩

theorem c_X8_clear {g_z : z_U} {d_z : Nat} {zS : z_S} (hL : z_L zS) : z_C g_z (d_z) 0 0 mX8_clear [.ref 5] zS (fun r_z zS' => r_z = none ∧ z_pI zS 5 1 0 = zS') := by
  refine z_enter [some (.ref 5)] rfl rfl (Nat.le_of_ble_eq_true rfl) rfl (fun zX hM_z => ?_)
  have hB_z : z_B g_z zX RX8 cX8_clear 1 := hM_z.1
  refine z_s 1 hB_z dX8_clear_0 rfl rfl ?_
  refine z_s 2 hB_z dX8_clear_1 rfl rfl ?_
  refine z_putI 5 hB_z fX8_15 (L5_z (zS := zS) hL) dX8_clear_2 rfl rfl rfl ?_
  refine z_vret hM_z dX8_clear_5 rfl ?_ rfl rfl
  exact ⟨rfl, rfl⟩

def z_write (A_z : z_Ab) (l : Int32) : z_Ab × Int32 := if 32 ≤ l ∧ l ≤ 126 then (if (z_AX A_z).2 < 200 then (z_setX A_z (fun i_z => if i_z = (z_AX A_z).2 then l else (z_AX A_z).1 i_z, (z_AX A_z).2 + 1), nI ((z_AX A_z).2 + 1)) else (A_z, -3)) else (A_z, -1)
def z_wipe (A_z : z_Ab) : z_Ab × Int32 := (z_setX A_z ((z_AX A_z).1, 0), nI (z_AX A_z).2)
theorem z_CP.of {zS : z_S} {A_z : z_Ab} {x_z : Int32} {q_z : z_Ab × Int32} (hC : z_RC zS A_z) (h_z : q_z = (A_z, x_z)) : z_CP zS q_z (some (.int x_z)) zS := by
  subst h_z
  exact ⟨rfl, hC, z_kM.rf⟩
set_option maxHeartbeats 1000000 in
theorem c_X9_write {g_z : z_U} {d_z : Nat} {zS : z_S} {A_z : z_Ab} (hC : z_RC zS A_z) {l : Int32} : z_C g_z (d_z + 1) 0 0 mX9_write [.ref 4, .int l] zS (z_CP zS (z_write A_z l)) := by
  refine z_enter [some (.ref 4), some (.int l)] rfl rfl (Nat.le_of_ble_eq_true rfl) rfl (fun zX hM_z => ?_)
  have hB_z : z_B g_z zX RX9 cX9_write 2 := hM_z.1
  obtain ⟨hL, hV, hT_z, hU, hK_z, hS_z, hX⟩ := id hC
  have hn : z_I zS 7 9 = nI (z_AV A_z).2.1 := hV.2.1
  have hm_z : z_I zS 7 10 = nI (z_AV A_z).2.2.1 := hV.2.2.1
  have hn6 := hV.2.2.2.2.1
  have hm10 := hV.2.2.2.2.2
  have hx := hX.1
  have h200 := hX.2.1
  refine z_s 1 hB_z dX9_write_0 rfl rfl ?_
  refine z_s 3 hB_z dX9_write_1 rfl rfl ?_
  refine z_b 6 12 hB_z dX9_write_3 rfl rfl (by decide) (fun c_3 => ?_) (fun c_3 => ?_)
  ·
    refine z_s 13 hB_z dX9_write_12 rfl rfl ?_
    refine z_iret hM_z dX9_write_13 rfl ?_ rfl rfl
    exact z_CP.of hC (by unfold z_write; rw [if_neg (fun q_z => z_nlt0 q_z.1 c_3)])
  ·
    refine z_s 7 hB_z dX9_write_6 rfl rfl ?_
    refine z_s 9 hB_z dX9_write_7 rfl rfl ?_
    refine z_b 12 14 hB_z dX9_write_9 rfl rfl (by decide) (fun c_9 => ?_) (fun c_9 => ?_)
    ·
      refine z_s 15 hB_z dX9_write_14 rfl rfl ?_
      refine z_getR 18 hB_z fX9_12 (L4_z (zS := zS) hL) dX9_write_15 rfl rfl (r4_0 (zS := zS) hL) ?_
      refine z_getI 21 hB_z fX9_104 (L5_z (zS := zS) hL) dX9_write_18 rfl rfl ?_
      refine z_s 24 hB_z dX9_write_21 rfl rfl ?_
      refine z_b 27 30 hB_z dX9_write_24 rfl rfl (by decide) (fun c_24 => ?_) (fun c_24 => ?_)
      ·
        have h3 : (z_AX A_z).2 < 200 := (nI_ltI (by omega) (by decide)).mp (by rw [← hx]; exact c_24)
        refine z_s 31 hB_z dX9_write_30 rfl rfl ?_
        refine z_getR 34 hB_z fX9_12 (L4_z (zS := zS) hL) dX9_write_31 rfl rfl (r4_0 (zS := zS) hL) ?_
        refine z_s 35 hB_z dX9_write_34 rfl rfl ?_
        refine z_callV 38 hB_z hM_z.2.1 kX9_92 dX9_write_35 rfl (L5_z (zS := zS) hL) rfl (c_X8_add (d_z := 0) hL hx h3) (by omega) rfl rfl (Nat.le_of_ble_eq_true rfl) ⟨Nat.le_refl _, Nat.le_refl _⟩ ?_
        rintro _ _ ⟨rfl, rfl⟩
        refine z_s 39 hB_z dX9_write_38 rfl rfl ?_
        refine z_getR 42 hB_z fX9_12 (L4_z (zS := zS) hL) dX9_write_39 rfl rfl (r4_0 (zS := zS) hL) ?_
        refine z_getI 45 hB_z fX9_104 (L5_z (zS := zS) hL) dX9_write_42 rfl rfl ?_
        refine z_iret hM_z dX9_write_45 rfl ?_ rfl rfl
        unfold z_write
        rw [if_pos ⟨c_3, c_9⟩, if_pos h3]
        refine ⟨by rw [z_Ieq], hC.ofX (zI' := z_u2 (z_u2 (z_I zS) 6 (z_AX A_z).2 l) 5 1 (nI ((z_AX A_z).2 + 1))) ((z_fr.rf.u2 (Or.inr rfl)).u2 (Or.inl rfl)) ⟨z_u2_same _ _ _ _, h3, fun i_z hi_z => ?_⟩, z_kM.up (P_z := fun q_z => q_z = 5 ∨ q_z = 6) ((z_fr.rf.u2 (Or.inr rfl)).u2 (Or.inl rfl)) (fun q_z hq => by omega)⟩
        rw [z_u2_ne (Or.inl (by decide))]
        show _ = if i_z = (z_AX A_z).2 then l else (z_AX A_z).1 i_z
        by_cases h_z : i_z = (z_AX A_z).2
        · rw [if_pos h_z, h_z, z_u2_same]
        · rw [if_neg h_z, z_u2_ne (Or.inr h_z)]
          exact hX.2.2 i_z (by have : i_z < (z_AX A_z).2 + 1 := hi_z; omega)
      ·
        refine z_s 29 hB_z dX9_write_27 rfl rfl ?_
        refine z_iret hM_z dX9_write_29 rfl ?_ rfl rfl
        have h3 : ¬ (z_AX A_z).2 < 200 := fun q_z => z_nlt0 c_24 (by rw [hx]; exact (nI_ltI (by omega) (by decide)).mpr q_z)
        exact z_CP.of hC (by unfold z_write; rw [if_pos ⟨c_3, c_9⟩, if_neg h3])
    ·
      refine z_s 13 hB_z dX9_write_12 rfl rfl ?_
      refine z_iret hM_z dX9_write_13 rfl ?_ rfl rfl
      exact z_CP.of hC (by unfold z_write; rw [if_neg (fun q_z => z_nle0 c_9 q_z.2)])

theorem c_X9_wipe {g_z : z_U} {d_z : Nat} {zS : z_S} {A_z : z_Ab} (hC : z_RC zS A_z) : z_C g_z (d_z + 1) 0 0 mX9_wipe [.ref 4] zS (z_CP zS (z_wipe A_z)) := by
  refine z_enter [some (.ref 4), none] rfl rfl (Nat.le_of_ble_eq_true rfl) rfl (fun zX hM_z => ?_)
  have hB_z : z_B g_z zX RX9 cX9_wipe 2 := hM_z.1
  obtain ⟨hL, hV, hT_z, hU, hK_z, hS_z, hX⟩ := id hC
  have hn : z_I zS 7 9 = nI (z_AV A_z).2.1 := hV.2.1
  have hm_z : z_I zS 7 10 = nI (z_AV A_z).2.2.1 := hV.2.2.1
  have hn6 := hV.2.2.2.2.1
  have hm10 := hV.2.2.2.2.2
  refine z_s 1 hB_z dX9_wipe_0 rfl rfl ?_
  refine z_getR 4 hB_z fX9_12 (L4_z (zS := zS) hL) dX9_wipe_1 rfl rfl (r4_0 (zS := zS) hL) ?_
  refine z_getI 7 hB_z fX9_104 (L5_z (zS := zS) hL) dX9_wipe_4 rfl rfl ?_
  refine z_s 8 hB_z dX9_wipe_7 rfl rfl ?_
  refine z_s 9 hB_z dX9_wipe_8 rfl rfl ?_
  refine z_getR 12 hB_z fX9_12 (L4_z (zS := zS) hL) dX9_wipe_9 rfl rfl (r4_0 (zS := zS) hL) ?_
  refine z_callV 15 hB_z hM_z.2.1 kX9_101 dX9_wipe_12 rfl (L5_z (zS := zS) hL) rfl (c_X8_clear (d_z := 0) hL) (by omega) rfl rfl (Nat.le_of_ble_eq_true rfl) ⟨Nat.le_refl _, Nat.le_refl _⟩ ?_
  rintro _ _ ⟨rfl, rfl⟩
  refine z_s 16 hB_z dX9_wipe_15 rfl rfl ?_
  refine z_iret hM_z dX9_wipe_16 rfl ?_ rfl rfl
  exact ⟨by rw [hX.1]; rfl, hC.ofX (zI' := z_u2 (z_I zS) 5 1 0) (z_fr.rf.u2 (Or.inl rfl)) ⟨z_u2_same _ _ _ _, by show 0 ≤ 200; omega, fun i_z hi_z => absurd hi_z (Nat.not_lt_zero i_z)⟩, z_kM.up (P_z := fun q_z => q_z = 5 ∨ q_z = 6) (z_fr.rf.u2 (Or.inl rfl)) (fun q_z hq => by omega)⟩

def z_pass (A_z : z_Ab) (n_z : Int32) : z_Ab × Int32 := if 1 ≤ n_z ∧ n_z ≤ 14 then (z_setT (z_setU A_z (z_push (z_AU A_z) (z_AT A_z) 8)) (z_gob (z_AV A_z) n_z.toNatClampNeg (z_AT A_z)), z_gob (z_AV A_z) n_z.toNatClampNeg (z_AT A_z) 0) else (A_z, -1)
theorem z_scrG51 : ∀ q_z, z_PG 51 q_z → z_scr q_z ∨ q_z = 51 ∨ q_z = 53 := fun q_z h_z => by
  unfold z_scr
  rcases h_z with (h_z | h_z) | h_z | h_z <;> omega
set_option maxHeartbeats 1000000 in
theorem c_X9_pass {g_z : z_U} {d_z : Nat} {zS : z_S} {A_z : z_Ab} (hC : z_RC zS A_z) {n_z : Int32} : z_C g_z (d_z + 5) 0 0 mX9_pass [.ref 4, .int n_z] zS (z_CP zS (z_pass A_z n_z)) := by
  refine z_enter [some (.ref 4), some (.int n_z)] rfl rfl (Nat.le_of_ble_eq_true rfl) rfl (fun zX hM_z => ?_)
  have hB_z : z_B g_z zX RX9 cX9_pass 2 := hM_z.1
  obtain ⟨hL, hV, hT_z, hU, hK_z, hS_z, hX⟩ := id hC
  have hn : z_I zS 7 9 = nI (z_AV A_z).2.1 := hV.2.1
  have hm_z : z_I zS 7 10 = nI (z_AV A_z).2.2.1 := hV.2.2.1
  have hn6 := hV.2.2.2.2.1
  have hm10 := hV.2.2.2.2.2
  refine z_s 1 hB_z dX9_pass_0 rfl rfl ?_
  refine z_s 2 hB_z dX9_pass_1 rfl rfl ?_
  refine z_b 5 11 hB_z dX9_pass_2 rfl rfl (by decide) (fun c_2 => ?_) (fun c_2 => ?_)
  ·
    refine z_s 12 hB_z dX9_pass_11 rfl rfl ?_
    refine z_iret hM_z dX9_pass_12 rfl ?_ rfl rfl
    exact z_CP.of hC (by unfold z_pass; rw [if_neg (fun q_z => z_nlt0 q_z.1 c_2)])
  ·
    refine z_s 6 hB_z dX9_pass_5 rfl rfl ?_
    refine z_s 8 hB_z dX9_pass_6 rfl rfl ?_
    refine z_b 11 13 hB_z dX9_pass_8 rfl rfl (by decide) (fun c_8 => ?_) (fun c_8 => ?_)
    ·
      obtain ⟨j_z, hj, rfl⟩ := z_le28 (Int32.le_trans (by decide) c_2) (m_z := 14) (by decide) c_8
      refine z_s 14 hB_z dX9_pass_13 rfl rfl ?_
      refine z_getR 17 hB_z fX9_59 (L4_z (zS := zS) hL) dX9_pass_14 rfl rfl (r4_7 (zS := zS) hL) ?_
      refine z_s 18 hB_z dX9_pass_17 rfl rfl ?_
      refine z_getR 21 hB_z fX9_47 (L4_z (zS := zS) hL) dX9_pass_18 rfl rfl (r4_5 (zS := zS) hL) ?_
      refine z_callV 24 hB_z hM_z.2.1 kX9_185 dX9_pass_21 rfl (L57 (zS := zS) hL) rfl (c_X4_put (d_z := 0) hU (by decide) (by decide) (s51 hL) hT_z (by decide) (by decide) (by decide)) (by omega) rfl rfl (Nat.le_of_ble_eq_true rfl) ⟨Nat.le_refl _, Nat.le_refl _⟩ ?_
      rintro _ _ ⟨rfl, I1, R1, rfl, hf1, hR1, hsh1⟩
      obtain ⟨hC1, hkM1⟩ := hC.ofU (x_z := z_push (z_AU A_z) (z_AT A_z) 8) hf1 hR1 hsh1
      obtain ⟨hL1, hV1, hT1, hU1, hK1, hS1, hX1⟩ := id hC1
      refine z_s 25 hB_z dX9_pass_24 rfl rfl ?_
      refine z_s 26 hB_z dX9_pass_25 rfl rfl ?_
      refine z_getR 29 hB_z fX9_47 (L4_z (zS := z_w zS I1 R1) hL1) dX9_pass_26 rfl rfl (r4_5 (zS := z_w zS I1 R1) hL1) ?_
      refine z_s 30 hB_z dX9_pass_29 rfl rfl ?_
      refine z_callV 33 hB_z hM_z.2.1 kX9_189 dX9_pass_30 rfl (L4_z (zS := zS) hL) rfl (c_X9_goBy (zS := z_w zS I1 R1) (d_z := 0) hL1 hV1 (by decide) (s51 hL1) hT1 (by omega)) (by omega) rfl rfl (Nat.le_of_ble_eq_true rfl) ⟨Nat.le_refl _, Nat.le_refl _⟩ ?_
      rintro _ _ ⟨rfl, I3, rfl, hf3, hT4, _⟩
      refine z_s 34 hB_z dX9_pass_33 rfl rfl ?_
      refine z_getR 37 hB_z fX9_47 (L4_z (zS := z_w zS I1 R1) hL1) dX9_pass_34 rfl rfl (r4_5 (zS := z_w zS I1 R1) hL1) ?_
      refine z_getI 40 hB_z fX9_161 (L51 (zS := z_w zS I1 R1) hL1) dX9_pass_37 rfl rfl ?_
      refine z_iret hM_z dX9_pass_40 rfl ?_ rfl rfl
      unfold z_pass
      rw [if_pos ⟨c_2, c_8⟩, nI_clamp (by omega)]
      exact ⟨congrArg (fun q_z => some (Value.int q_z)) (hT4.1 0 (by decide)), hC1.ofT (hf3.mono z_scrG51) hT4, hkM1.tr (z_kM.up (hf3.mono z_scrG51) (fun q_z hq z_z => by unfold z_scr at z_z; omega))⟩
    ·
      refine z_s 12 hB_z dX9_pass_11 rfl rfl ?_
      refine z_iret hM_z dX9_pass_12 rfl ?_ rfl rfl
      exact z_CP.of hC (by unfold z_pass; rw [if_neg (fun q_z => z_nle0 c_8 q_z.2)])
end
