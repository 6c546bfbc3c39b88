/-- a private method of a class that the tables say can be made, by its rows of tables_1 -/
def lw_okq (q : MethodName × Nat) : Prop := (q.1.cls ≠ "java/lang/invoke/MethodHandle" ∧ q.1.cls ≠ "java/lang/invoke/VarHandle") ∧ Cond.instantiable q.1.cls q.2 ∈ tables_1 ∧ Cond.privateMethod q.1 ∈ tables_1 ∧ Cond.instanceMethod q.1 ∈ tables_1
theorem lw_p0 : lw_okq (⟨"WolfCalendar$Page", "mayStand", "(I)Z"⟩, 2) := ⟨⟨by decide +kernel, by decide +kernel⟩, List.mem_of_getElem? (i := 24) (by decide +kernel), List.mem_of_getElem? (i := 229) (by decide +kernel), List.mem_of_getElem? (i := 230) (by decide +kernel)⟩
theorem lw_p1 : lw_okq (⟨"WolfCalendar$World", "firstIn", "(II)I"⟩, 8) := ⟨⟨by decide +kernel, by decide +kernel⟩, List.mem_of_getElem? (i := 56) (by decide +kernel), List.mem_of_getElem? (i := 320) (by decide +kernel), List.mem_of_getElem? (i := 321) (by decide +kernel)⟩
theorem lw_p2 : lw_okq (⟨"WolfCalendar", "lossIn", "(I)I"⟩, 9) := ⟨⟨by decide +kernel, by decide +kernel⟩, List.mem_of_getElem? (i := 16) (by decide +kernel), List.mem_of_getElem? (i := 391) (by decide +kernel), List.mem_of_getElem? (i := 392) (by decide +kernel)⟩
theorem lw_p3 : lw_okq (⟨"WolfCalendar", "trialFromNow", "()V"⟩, 9) := ⟨⟨by decide +kernel, by decide +kernel⟩, List.mem_of_getElem? (i := 16) (by decide +kernel), List.mem_of_getElem? (i := 395) (by decide +kernel), List.mem_of_getElem? (i := 396) (by decide +kernel)⟩
theorem lw_p4 : lw_okq (⟨"WolfCalendar", "firstCellOfGrazing", "(II)I"⟩, 9) := ⟨⟨by decide +kernel, by decide +kernel⟩, List.mem_of_getElem? (i := 16) (by decide +kernel), List.mem_of_getElem? (i := 446) (by decide +kernel), List.mem_of_getElem? (i := 447) (by decide +kernel)⟩
theorem lw_p5 : lw_okq (⟨"WolfCalendar", "rowsThrough", "(III)I"⟩, 9) := ⟨⟨by decide +kernel, by decide +kernel⟩, List.mem_of_getElem? (i := 16) (by decide +kernel), List.mem_of_getElem? (i := 451) (by decide +kernel), List.mem_of_getElem? (i := 452) (by decide +kernel)⟩
theorem lw_p6 : lw_okq (⟨"WolfCalendar", "rowsBehind", "(II)I"⟩, 9) := ⟨⟨by decide +kernel, by decide +kernel⟩, List.mem_of_getElem? (i := 16) (by decide +kernel), List.mem_of_getElem? (i := 455) (by decide +kernel), List.mem_of_getElem? (i := 456) (by decide +kernel)⟩
theorem lw_p7 : lw_okq (⟨"WolfCalendar", "fastsOnEnd", "(LWolfCalendar$Pack;I)I"⟩, 9) := ⟨⟨by decide +kernel, by decide +kernel⟩, List.mem_of_getElem? (i := 16) (by decide +kernel), List.mem_of_getElem? (i := 463) (by decide +kernel), List.mem_of_getElem? (i := 464) (by decide +kernel)⟩
theorem lw_p8 : lw_okq (⟨"WolfCalendar", "fittingLags", "(LWolfCalendar$Pack;)I"⟩, 9) := ⟨⟨by decide +kernel, by decide +kernel⟩, List.mem_of_getElem? (i := 16) (by decide +kernel), List.mem_of_getElem? (i := 492) (by decide +kernel), List.mem_of_getElem? (i := 493) (by decide +kernel)⟩
theorem lw_p9 : lw_okq (⟨"WolfCalendar", "didJustSo", "(LWolfCalendar$Kind;II)Z"⟩, 9) := ⟨⟨by decide +kernel, by decide +kernel⟩, List.mem_of_getElem? (i := 16) (by decide +kernel), List.mem_of_getElem? (i := 497) (by decide +kernel), List.mem_of_getElem? (i := 498) (by decide +kernel)⟩
theorem lw_p10 : lw_okq (⟨"WolfCalendar", "fittingKinds", "(LWolfCalendar$Pack;)I"⟩, 9) := ⟨⟨by decide +kernel, by decide +kernel⟩, List.mem_of_getElem? (i := 16) (by decide +kernel), List.mem_of_getElem? (i := 505) (by decide +kernel), List.mem_of_getElem? (i := 506) (by decide +kernel)⟩
theorem lw_p11 : lw_okq (⟨"WolfCalendar", "withPacks", "(J)J"⟩, 9) := ⟨⟨by decide +kernel, by decide +kernel⟩, List.mem_of_getElem? (i := 16) (by decide +kernel), List.mem_of_getElem? (i := 547) (by decide +kernel), List.mem_of_getElem? (i := 548) (by decide +kernel)⟩
theorem lw_p12 : lw_okq (⟨"WolfCalendar", "withFlocks", "(J)J"⟩, 9) := ⟨⟨by decide +kernel, by decide +kernel⟩, List.mem_of_getElem? (i := 16) (by decide +kernel), List.mem_of_getElem? (i := 553) (by decide +kernel), List.mem_of_getElem? (i := 554) (by decide +kernel)⟩
theorem lw_p13 : lw_okq (⟨"WolfCalendarModel", "readFeasts", "()V"⟩, 43) := ⟨⟨by decide +kernel, by decide +kernel⟩, List.mem_of_getElem? (i := 560) (by decide +kernel), List.mem_of_getElem? (i := 712) (by decide +kernel), List.mem_of_getElem? (i := 713) (by decide +kernel)⟩
theorem lw_p14 : lw_okq (⟨"WolfCalendarModel", "nextState", "(II)I"⟩, 43) := ⟨⟨by decide +kernel, by decide +kernel⟩, List.mem_of_getElem? (i := 560) (by decide +kernel), List.mem_of_getElem? (i := 716) (by decide +kernel), List.mem_of_getElem? (i := 717) (by decide +kernel)⟩
theorem lw_p15 : lw_okq (⟨"WolfCalendarModel", "lastState", "(II)I"⟩, 43) := ⟨⟨by decide +kernel, by decide +kernel⟩, List.mem_of_getElem? (i := 560) (by decide +kernel), List.mem_of_getElem? (i := 720) (by decide +kernel), List.mem_of_getElem? (i := 721) (by decide +kernel)⟩
def lw_privs_1 : List (MethodName × Nat) := [(⟨"WolfCalendar$Page", "mayStand", "(I)Z"⟩, 2), (⟨"WolfCalendar$World", "firstIn", "(II)I"⟩, 8), (⟨"WolfCalendar", "lossIn", "(I)I"⟩, 9), (⟨"WolfCalendar", "trialFromNow", "()V"⟩, 9), (⟨"WolfCalendar", "firstCellOfGrazing", "(II)I"⟩, 9), (⟨"WolfCalendar", "rowsThrough", "(III)I"⟩, 9), (⟨"WolfCalendar", "rowsBehind", "(II)I"⟩, 9), (⟨"WolfCalendar", "fastsOnEnd", "(LWolfCalendar$Pack;I)I"⟩, 9), (⟨"WolfCalendar", "fittingLags", "(LWolfCalendar$Pack;)I"⟩, 9), (⟨"WolfCalendar", "didJustSo", "(LWolfCalendar$Kind;II)Z"⟩, 9), (⟨"WolfCalendar", "fittingKinds", "(LWolfCalendar$Pack;)I"⟩, 9), (⟨"WolfCalendar", "withPacks", "(J)J"⟩, 9), (⟨"WolfCalendar", "withFlocks", "(J)J"⟩, 9), (⟨"WolfCalendarModel", "readFeasts", "()V"⟩, 43), (⟨"WolfCalendarModel", "nextState", "(II)I"⟩, 43), (⟨"WolfCalendarModel", "lastState", "(II)I"⟩, 43)]
theorem lw_r1 : ∀ q ∈ lw_privs_1, lw_okq q := List.forall_mem_cons.mpr ⟨lw_p0, List.forall_mem_cons.mpr ⟨lw_p1, List.forall_mem_cons.mpr ⟨lw_p2, List.forall_mem_cons.mpr ⟨lw_p3, List.forall_mem_cons.mpr ⟨lw_p4, List.forall_mem_cons.mpr ⟨lw_p5, List.forall_mem_cons.mpr ⟨lw_p6, List.forall_mem_cons.mpr ⟨lw_p7, List.forall_mem_cons.mpr ⟨lw_p8, List.forall_mem_cons.mpr ⟨lw_p9, List.forall_mem_cons.mpr ⟨lw_p10, List.forall_mem_cons.mpr ⟨lw_p11, List.forall_mem_cons.mpr ⟨lw_p12, List.forall_mem_cons.mpr ⟨lw_p13, List.forall_mem_cons.mpr ⟨lw_p14, List.forall_mem_cons.mpr ⟨lw_p15, fun _ h => absurd h List.not_mem_nil⟩⟩⟩⟩⟩⟩⟩⟩⟩⟩⟩⟩⟩⟩⟩⟩
theorem lw_p16 : lw_okq (⟨"WolfCalendarModel", "dayTold", "(II)I"⟩, 43) := ⟨⟨by decide +kernel, by decide +kernel⟩, List.mem_of_getElem? (i := 560) (by decide +kernel), List.mem_of_getElem? (i := 732) (by decide +kernel), List.mem_of_getElem? (i := 733) (by decide +kernel)⟩
theorem lw_p17 : lw_okq (⟨"WolfCalendarModel", "isFeast", "(I)Z"⟩, 43) := ⟨⟨by decide +kernel, by decide +kernel⟩, List.mem_of_getElem? (i := 560) (by decide +kernel), List.mem_of_getElem? (i := 739) (by decide +kernel), List.mem_of_getElem? (i := 740) (by decide +kernel)⟩
theorem lw_p18 : lw_okq (⟨"WolfCalendarModel", "isPack", "(I)Z"⟩, 43) := ⟨⟨by decide +kernel, by decide +kernel⟩, List.mem_of_getElem? (i := 560) (by decide +kernel), List.mem_of_getElem? (i := 758) (by decide +kernel), List.mem_of_getElem? (i := 759) (by decide +kernel)⟩
theorem lw_p19 : lw_okq (⟨"WolfCalendarModel", "packNow", "(II)I"⟩, 43) := ⟨⟨by decide +kernel, by decide +kernel⟩, List.mem_of_getElem? (i := 560) (by decide +kernel), List.mem_of_getElem? (i := 762) (by decide +kernel), List.mem_of_getElem? (i := 763) (by decide +kernel)⟩
theorem lw_p20 : lw_okq (⟨"WolfCalendarModel", "readsNow", "(II)I"⟩, 43) := ⟨⟨by decide +kernel, by decide +kernel⟩, List.mem_of_getElem? (i := 560) (by decide +kernel), List.mem_of_getElem? (i := 766) (by decide +kernel), List.mem_of_getElem? (i := 767) (by decide +kernel)⟩
theorem lw_p21 : lw_okq (⟨"WolfCalendarModel", "fasts", "(II)Z"⟩, 43) := ⟨⟨by decide +kernel, by decide +kernel⟩, List.mem_of_getElem? (i := 560) (by decide +kernel), List.mem_of_getElem? (i := 773) (by decide +kernel), List.mem_of_getElem? (i := 774) (by decide +kernel)⟩
theorem lw_p22 : lw_okq (⟨"WolfCalendarModel", "fastsBy", "(IIII)Z"⟩, 43) := ⟨⟨by decide +kernel, by decide +kernel⟩, List.mem_of_getElem? (i := 560) (by decide +kernel), List.mem_of_getElem? (i := 777) (by decide +kernel), List.mem_of_getElem? (i := 778) (by decide +kernel)⟩
theorem lw_p23 : lw_okq (⟨"WolfCalendarModel", "prey", "(II)I"⟩, 43) := ⟨⟨by decide +kernel, by decide +kernel⟩, List.mem_of_getElem? (i := 560) (by decide +kernel), List.mem_of_getElem? (i := 781) (by decide +kernel), List.mem_of_getElem? (i := 782) (by decide +kernel)⟩
theorem lw_p24 : lw_okq (⟨"WolfCalendarModel", "preyIn", "(II)I"⟩, 43) := ⟨⟨by decide +kernel, by decide +kernel⟩, List.mem_of_getElem? (i := 560) (by decide +kernel), List.mem_of_getElem? (i := 785) (by decide +kernel), List.mem_of_getElem? (i := 786) (by decide +kernel)⟩
theorem lw_p25 : lw_okq (⟨"WolfCalendarModel", "eatenMany", "(I)I"⟩, 43) := ⟨⟨by decide +kernel, by decide +kernel⟩, List.mem_of_getElem? (i := 560) (by decide +kernel), List.mem_of_getElem? (i := 789) (by decide +kernel), List.mem_of_getElem? (i := 790) (by decide +kernel)⟩
theorem lw_p26 : lw_okq (⟨"WolfCalendarModel", "isThere", "(I)Z"⟩, 43) := ⟨⟨by decide +kernel, by decide +kernel⟩, List.mem_of_getElem? (i := 560) (by decide +kernel), List.mem_of_getElem? (i := 808) (by decide +kernel), List.mem_of_getElem? (i := 809) (by decide +kernel)⟩
theorem lw_p27 : lw_okq (⟨"WolfCalendarModel", "flockNow", "(II)I"⟩, 43) := ⟨⟨by decide +kernel, by decide +kernel⟩, List.mem_of_getElem? (i := 560) (by decide +kernel), List.mem_of_getElem? (i := 812) (by decide +kernel), List.mem_of_getElem? (i := 813) (by decide +kernel)⟩
theorem lw_p28 : lw_okq (⟨"WolfCalendarModel", "isFlock", "(I)Z"⟩, 43) := ⟨⟨by decide +kernel, by decide +kernel⟩, List.mem_of_getElem? (i := 560) (by decide +kernel), List.mem_of_getElem? (i := 820) (by decide +kernel), List.mem_of_getElem? (i := 821) (by decide +kernel)⟩
theorem lw_p29 : lw_okq (⟨"WolfCalendarModel", "goDay", "()I"⟩, 43) := ⟨⟨by decide +kernel, by decide +kernel⟩, List.mem_of_getElem? (i := 560) (by decide +kernel), List.mem_of_getElem? (i := 832) (by decide +kernel), List.mem_of_getElem? (i := 833) (by decide +kernel)⟩
theorem lw_p30 : lw_okq (⟨"WolfCalendarModel", "lossNow", "(I)I"⟩, 43) := ⟨⟨by decide +kernel, by decide +kernel⟩, List.mem_of_getElem? (i := 560) (by decide +kernel), List.mem_of_getElem? (i := 840) (by decide +kernel), List.mem_of_getElem? (i := 841) (by decide +kernel)⟩
theorem lw_p31 : lw_okq (⟨"WolfCalendarModel", "eatenAll", "()I"⟩, 43) := ⟨⟨by decide +kernel, by decide +kernel⟩, List.mem_of_getElem? (i := 560) (by decide +kernel), List.mem_of_getElem? (i := 844) (by decide +kernel), List.mem_of_getElem? (i := 845) (by decide +kernel)⟩
def lw_privs_2 : List (MethodName × Nat) := [(⟨"WolfCalendarModel", "dayTold", "(II)I"⟩, 43), (⟨"WolfCalendarModel", "isFeast", "(I)Z"⟩, 43), (⟨"WolfCalendarModel", "isPack", "(I)Z"⟩, 43), (⟨"WolfCalendarModel", "packNow", "(II)I"⟩, 43), (⟨"WolfCalendarModel", "readsNow", "(II)I"⟩, 43), (⟨"WolfCalendarModel", "fasts", "(II)Z"⟩, 43), (⟨"WolfCalendarModel", "fastsBy", "(IIII)Z"⟩, 43), (⟨"WolfCalendarModel", "prey", "(II)I"⟩, 43), (⟨"WolfCalendarModel", "preyIn", "(II)I"⟩, 43), (⟨"WolfCalendarModel", "eatenMany", "(I)I"⟩, 43), (⟨"WolfCalendarModel", "isThere", "(I)Z"⟩, 43), (⟨"WolfCalendarModel", "flockNow", "(II)I"⟩, 43), (⟨"WolfCalendarModel", "isFlock", "(I)Z"⟩, 43), (⟨"WolfCalendarModel", "goDay", "()I"⟩, 43), (⟨"WolfCalendarModel", "lossNow", "(I)I"⟩, 43), (⟨"WolfCalendarModel", "eatenAll", "()I"⟩, 43)]
theorem lw_r2 : ∀ q ∈ lw_privs_2, lw_okq q := List.forall_mem_cons.mpr ⟨lw_p16, List.forall_mem_cons.mpr ⟨lw_p17, List.forall_mem_cons.mpr ⟨lw_p18, List.forall_mem_cons.mpr ⟨lw_p19, List.forall_mem_cons.mpr ⟨lw_p20, List.forall_mem_cons.mpr ⟨lw_p21, List.forall_mem_cons.mpr ⟨lw_p22, List.forall_mem_cons.mpr ⟨lw_p23, List.forall_mem_cons.mpr ⟨lw_p24, List.forall_mem_cons.mpr ⟨lw_p25, List.forall_mem_cons.mpr ⟨lw_p26, List.forall_mem_cons.mpr ⟨lw_p27, List.forall_mem_cons.mpr ⟨lw_p28, List.forall_mem_cons.mpr ⟨lw_p29, List.forall_mem_cons.mpr ⟨lw_p30, List.forall_mem_cons.mpr ⟨lw_p31, fun _ h => absurd h List.not_mem_nil⟩⟩⟩⟩⟩⟩⟩⟩⟩⟩⟩⟩⟩⟩⟩⟩
theorem lw_p32 : lw_okq (⟨"WolfCalendarModel", "save", "()V"⟩, 43) := ⟨⟨by decide +kernel, by decide +kernel⟩, List.mem_of_getElem? (i := 560) (by decide +kernel), List.mem_of_getElem? (i := 848) (by decide +kernel), List.mem_of_getElem? (i := 849) (by decide +kernel)⟩
theorem lw_p33 : lw_okq (⟨"WolfCalendarModel", "back", "()V"⟩, 43) := ⟨⟨by decide +kernel, by decide +kernel⟩, List.mem_of_getElem? (i := 560) (by decide +kernel), List.mem_of_getElem? (i := 852) (by decide +kernel), List.mem_of_getElem? (i := 853) (by decide +kernel)⟩
theorem lw_p34 : lw_okq (⟨"WolfCalendarModel", "fallsNow", "(I)I"⟩, 43) := ⟨⟨by decide +kernel, by decide +kernel⟩, List.mem_of_getElem? (i := 560) (by decide +kernel), List.mem_of_getElem? (i := 860) (by decide +kernel), List.mem_of_getElem? (i := 861) (by decide +kernel)⟩
theorem lw_p35 : lw_okq (⟨"WolfCalendarModel", "fallsIn", "(II)I"⟩, 43) := ⟨⟨by decide +kernel, by decide +kernel⟩, List.mem_of_getElem? (i := 560) (by decide +kernel), List.mem_of_getElem? (i := 864) (by decide +kernel), List.mem_of_getElem? (i := 865) (by decide +kernel)⟩
theorem lw_p36 : lw_okq (⟨"WolfCalendarModel", "safeNow", "(II)I"⟩, 43) := ⟨⟨by decide +kernel, by decide +kernel⟩, List.mem_of_getElem? (i := 560) (by decide +kernel), List.mem_of_getElem? (i := 872) (by decide +kernel), List.mem_of_getElem? (i := 873) (by decide +kernel)⟩
theorem lw_p37 : lw_okq (⟨"WolfCalendarModel", "grazeNow", "(III)I"⟩, 43) := ⟨⟨by decide +kernel, by decide +kernel⟩, List.mem_of_getElem? (i := 560) (by decide +kernel), List.mem_of_getElem? (i := 880) (by decide +kernel), List.mem_of_getElem? (i := 881) (by decide +kernel)⟩
theorem lw_p38 : lw_okq (⟨"WolfCalendarModel", "grazesBy", "(III)Z"⟩, 43) := ⟨⟨by decide +kernel, by decide +kernel⟩, List.mem_of_getElem? (i := 560) (by decide +kernel), List.mem_of_getElem? (i := 887) (by decide +kernel), List.mem_of_getElem? (i := 888) (by decide +kernel)⟩
theorem lw_p39 : lw_okq (⟨"WolfCalendarModel", "nailNow", "(II)I"⟩, 43) := ⟨⟨by decide +kernel, by decide +kernel⟩, List.mem_of_getElem? (i := 560) (by decide +kernel), List.mem_of_getElem? (i := 895) (by decide +kernel), List.mem_of_getElem? (i := 896) (by decide +kernel)⟩
theorem lw_p40 : lw_okq (⟨"WolfCalendarModel", "fastsOn", "(II)I"⟩, 43) := ⟨⟨by decide +kernel, by decide +kernel⟩, List.mem_of_getElem? (i := 560) (by decide +kernel), List.mem_of_getElem? (i := 899) (by decide +kernel), List.mem_of_getElem? (i := 900) (by decide +kernel)⟩
theorem lw_p41 : lw_okq (⟨"WolfCalendarModel", "fitsNow", "(I)I"⟩, 43) := ⟨⟨by decide +kernel, by decide +kernel⟩, List.mem_of_getElem? (i := 560) (by decide +kernel), List.mem_of_getElem? (i := 915) (by decide +kernel), List.mem_of_getElem? (i := 916) (by decide +kernel)⟩
theorem lw_p42 : lw_okq (⟨"WolfCalendarModel", "isSeenSo", "(II)Z"⟩, 43) := ⟨⟨by decide +kernel, by decide +kernel⟩, List.mem_of_getElem? (i := 560) (by decide +kernel), List.mem_of_getElem? (i := 919) (by decide +kernel), List.mem_of_getElem? (i := 920) (by decide +kernel)⟩
theorem lw_p43 : lw_okq (⟨"WolfCalendarModel", "yearsNow", "(III)I"⟩, 43) := ⟨⟨by decide +kernel, by decide +kernel⟩, List.mem_of_getElem? (i := 560) (by decide +kernel), List.mem_of_getElem? (i := 927) (by decide +kernel), List.mem_of_getElem? (i := 928) (by decide +kernel)⟩
theorem lw_p44 : lw_okq (⟨"WolfCalendarModel", "draw", "(I)I"⟩, 43) := ⟨⟨by decide +kernel, by decide +kernel⟩, List.mem_of_getElem? (i := 560) (by decide +kernel), List.mem_of_getElem? (i := 931) (by decide +kernel), List.mem_of_getElem? (i := 932) (by decide +kernel)⟩
theorem lw_p45 : lw_okq (⟨"WolfCalendarModel", "howMany", "(I)I"⟩, 43) := ⟨⟨by decide +kernel, by decide +kernel⟩, List.mem_of_getElem? (i := 560) (by decide +kernel), List.mem_of_getElem? (i := 951) (by decide +kernel), List.mem_of_getElem? (i := 952) (by decide +kernel)⟩
theorem lw_p46 : lw_okq (⟨"WolfCalendarModel", "forgedMany", "()I"⟩, 43) := ⟨⟨by decide +kernel, by decide +kernel⟩, List.mem_of_getElem? (i := 560) (by decide +kernel), List.mem_of_getElem? (i := 955) (by decide +kernel), List.mem_of_getElem? (i := 956) (by decide +kernel)⟩
theorem lw_p47 : lw_okq (⟨"WolfCalendarModel", "mix", "(J)V"⟩, 43) := ⟨⟨by decide +kernel, by decide +kernel⟩, List.mem_of_getElem? (i := 560) (by decide +kernel), List.mem_of_getElem? (i := 964) (by decide +kernel), List.mem_of_getElem? (i := 965) (by decide +kernel)⟩
def lw_privs_3 : List (MethodName × Nat) := [(⟨"WolfCalendarModel", "save", "()V"⟩, 43), (⟨"WolfCalendarModel", "back", "()V"⟩, 43), (⟨"WolfCalendarModel", "fallsNow", "(I)I"⟩, 43), (⟨"WolfCalendarModel", "fallsIn", "(II)I"⟩, 43), (⟨"WolfCalendarModel", "safeNow", "(II)I"⟩, 43), (⟨"WolfCalendarModel", "grazeNow", "(III)I"⟩, 43), (⟨"WolfCalendarModel", "grazesBy", "(III)Z"⟩, 43), (⟨"WolfCalendarModel", "nailNow", "(II)I"⟩, 43), (⟨"WolfCalendarModel", "fastsOn", "(II)I"⟩, 43), (⟨"WolfCalendarModel", "fitsNow", "(I)I"⟩, 43), (⟨"WolfCalendarModel", "isSeenSo", "(II)Z"⟩, 43), (⟨"WolfCalendarModel", "yearsNow", "(III)I"⟩, 43), (⟨"WolfCalendarModel", "draw", "(I)I"⟩, 43), (⟨"WolfCalendarModel", "howMany", "(I)I"⟩, 43), (⟨"WolfCalendarModel", "forgedMany", "()I"⟩, 43), (⟨"WolfCalendarModel", "mix", "(J)V"⟩, 43)]
theorem lw_r3 : ∀ q ∈ lw_privs_3, lw_okq q := List.forall_mem_cons.mpr ⟨lw_p32, List.forall_mem_cons.mpr ⟨lw_p33, List.forall_mem_cons.mpr ⟨lw_p34, List.forall_mem_cons.mpr ⟨lw_p35, List.forall_mem_cons.mpr ⟨lw_p36, List.forall_mem_cons.mpr ⟨lw_p37, List.forall_mem_cons.mpr ⟨lw_p38, List.forall_mem_cons.mpr ⟨lw_p39, List.forall_mem_cons.mpr ⟨lw_p40, List.forall_mem_cons.mpr ⟨lw_p41, List.forall_mem_cons.mpr ⟨lw_p42, List.forall_mem_cons.mpr ⟨lw_p43, List.forall_mem_cons.mpr ⟨lw_p44, List.forall_mem_cons.mpr ⟨lw_p45, List.forall_mem_cons.mpr ⟨lw_p46, List.forall_mem_cons.mpr ⟨lw_p47, fun _ h => absurd h List.not_mem_nil⟩⟩⟩⟩⟩⟩⟩⟩⟩⟩⟩⟩⟩⟩⟩⟩
theorem lw_p48 : lw_okq (⟨"WolfCalendarModel", "mixFlock", "(I)V"⟩, 43) := ⟨⟨by decide +kernel, by decide +kernel⟩, List.mem_of_getElem? (i := 560) (by decide +kernel), List.mem_of_getElem? (i := 969) (by decide +kernel), List.mem_of_getElem? (i := 970) (by decide +kernel)⟩
def lw_privs_4 : List (MethodName × Nat) := [(⟨"WolfCalendarModel", "mixFlock", "(I)V"⟩, 43)]
theorem lw_r4 : ∀ q ∈ lw_privs_4, lw_okq q := List.forall_mem_cons.mpr ⟨lw_p48, fun _ h => absurd h List.not_mem_nil⟩
def lw_privs : List (MethodName × Nat) := lw_privs_1 ++ (lw_privs_2 ++ (lw_privs_3 ++ (lw_privs_4)))
def lw_tbl : List Cond := k2_sels lw_privs ++ tables_1
theorem lw_privs_ok : ∀ q ∈ lw_privs, lw_okq q := by
  show ∀ q ∈ lw_privs_1 ++ (lw_privs_2 ++ (lw_privs_3 ++ (lw_privs_4))), lw_okq q
  exact List.forall_mem_append.mpr ⟨lw_r1, List.forall_mem_append.mpr ⟨lw_r2, List.forall_mem_append.mpr ⟨lw_r3, lw_r4⟩⟩⟩
def RX0 : String := "WolfCalendar$Draws"
def TX0 : u_T := fun k => match k with
  | _ => ("WolfCalendar$Draws", "seed", "J", false)
def tyX0 : Nat → FieldType := fun k => match k with
  | _ => .long
theorem nmX0 : ∀ a, a < 1 → ∀ b, b < 1 → a ≠ b → (TX0 a).2.1 ≠ (TX0 b).2.1 := by decide +kernel
theorem tyX0_ok : ∀ k, k < 1 → parseFieldDescriptor (TX0 k).2.2.1 = some (tyX0 k) := by decide +kernel
abbrev cX0_init : ByteArray := prog_2_method_1_code
def yX0_init : MethodName := ⟨RX0, "<init>", "()V"⟩
abbrev cX0_next : ByteArray := prog_2_method_2_code
def yX0_next : MethodName := ⟨RX0, "next", "()I"⟩
def RX1 : String := "WolfCalendar$Feasts"
def TX1 : u_T := fun k => match k with
  | 0 => ("WolfCalendar$Feasts", "marks", "[Z", true)
  | _ => ("WolfCalendar$Feasts", "number", "I", false)
def tyX1 : Nat → FieldType := fun k => match k with
  | 0 => .array .boolean
  | _ => .int
theorem nmX1 : ∀ a, a < 2 → ∀ b, b < 2 → a ≠ b → (TX1 a).2.1 ≠ (TX1 b).2.1 := by decide +kernel
theorem tyX1_ok : ∀ k, k < 2 → parseFieldDescriptor (TX1 k).2.2.1 = some (tyX1 k) := by decide +kernel
abbrev cX1_init : ByteArray := prog_3_method_1_code
def yX1_init : MethodName := ⟨RX1, "<init>", "()V"⟩
abbrev cX1_isFeast : ByteArray := prog_3_method_2_code
def yX1_isFeast : MethodName := ⟨RX1, "isFeast", "(I)Z"⟩
abbrev cX1_readFrom : ByteArray := prog_3_method_3_code
def yX1_readFrom : MethodName := ⟨RX1, "readFrom", "(LWolfCalendar$Page;)V"⟩
abbrev cX1_placeOfWeekday : ByteArray := prog_3_method_4_code
def yX1_placeOfWeekday : MethodName := ⟨RX1, "placeOfWeekday", "(III)I"⟩
def RX2 : String := "WolfCalendar$Flock"
def TX2 : u_T := fun k => match k with
  | 0 => ("WolfCalendar$Flock", "called", "I", false)
  | 1 => ("WolfCalendar$Flock", "cell", "I", false)
  | _ => ("WolfCalendar$Flock", "eater", "I", false)
def tyX2 : Nat → FieldType := fun k => match k with
  | 0 => .int
  | 1 => .int
  | _ => .int
theorem nmX2 : ∀ a, a < 3 → ∀ b, b < 3 → a ≠ b → (TX2 a).2.1 ≠ (TX2 b).2.1 := by decide +kernel
theorem tyX2_ok : ∀ k, k < 3 → parseFieldDescriptor (TX2 k).2.2.1 = some (tyX2 k) := by decide +kernel
abbrev cX2_init : ByteArray := prog_4_method_1_code
def yX2_init : MethodName := ⟨RX2, "<init>", "()V"⟩
abbrev cX2_become : ByteArray := prog_4_method_2_code
def yX2_become : MethodName := ⟨RX2, "become", "(II)V"⟩
abbrev cX2_copyFrom : ByteArray := prog_4_method_3_code
def yX2_copyFrom : MethodName := ⟨RX2, "copyFrom", "(LWolfCalendar$Flock;)V"⟩
def RX3 : String := "WolfCalendar$Kind"
def TX3 : u_T := fun k => match k with
  | _ => ("", "", "", false)
def tyX3 : Nat → FieldType := fun k => match k with
  | _ => .int
theorem nmX3 : ∀ a, a < 0 → ∀ b, b < 0 → a ≠ b → (TX3 a).2.1 ≠ (TX3 b).2.1 := by decide +kernel
theorem tyX3_ok : ∀ k, k < 0 → parseFieldDescriptor (TX3 k).2.2.1 = some (tyX3 k) := by decide +kernel
abbrev cX3_isSuch : ByteArray := prog_5_method_4_code
def yX3_isSuch : MethodName := ⟨RX3, "isSuch", "(LWolfCalendar$Kind;)Z"⟩
abbrev cX3_reads : ByteArray := prog_5_method_5_code
def yX3_reads : MethodName := ⟨RX3, "reads", "(III)I"⟩
abbrev cX3_fastsOn : ByteArray := prog_5_method_6_code
def yX3_fastsOn : MethodName := ⟨RX3, "fastsOn", "(ILWolfCalendar$Feasts;)Z"⟩
def RX4 : String := "WolfCalendar$Pack"
def TX4 : u_T := fun k => match k with
  | 0 => ("WolfCalendar$Pack", "kind", "LWolfCalendar$Kind;", false)
  | 1 => ("WolfCalendar$Pack", "cell", "I", false)
  | _ => ("WolfCalendar$Pack", "lag", "I", false)
def tyX4 : Nat → FieldType := fun k => match k with
  | 0 => .object "WolfCalendar$Kind"
  | 1 => .int
  | _ => .int
theorem nmX4 : ∀ a, a < 3 → ∀ b, b < 3 → a ≠ b → (TX4 a).2.1 ≠ (TX4 b).2.1 := by decide +kernel
theorem tyX4_ok : ∀ k, k < 3 → parseFieldDescriptor (TX4 k).2.2.1 = some (tyX4 k) := by decide +kernel
abbrev cX4_init : ByteArray := prog_6_method_1_code
def yX4_init : MethodName := ⟨RX4, "<init>", "()V"⟩
abbrev cX4_become : ByteArray := prog_6_method_2_code
def yX4_become : MethodName := ⟨RX4, "become", "(LWolfCalendar$Kind;II)V"⟩
def RX5 : String := "WolfCalendar$Page"
def TX5 : u_T := fun k => match k with
  | 0 => ("WolfCalendar$Page", "letters", "[C", true)
  | _ => ("WolfCalendar$Page", "length", "I", false)
def tyX5 : Nat → FieldType := fun k => match k with
  | 0 => .array .char
  | _ => .int
theorem nmX5 : ∀ a, a < 2 → ∀ b, b < 2 → a ≠ b → (TX5 a).2.1 ≠ (TX5 b).2.1 := by decide +kernel
theorem tyX5_ok : ∀ k, k < 2 → parseFieldDescriptor (TX5 k).2.2.1 = some (tyX5 k) := by decide +kernel
abbrev cX5_init : ByteArray := prog_7_method_1_code
def yX5_init : MethodName := ⟨RX5, "<init>", "()V"⟩
abbrev cX5_put : ByteArray := prog_7_method_2_code
def yX5_put : MethodName := ⟨RX5, "put", "(C)Z"⟩
abbrev cX5_clear : ByteArray := prog_7_method_3_code
def yX5_clear : MethodName := ⟨RX5, "clear", "()V"⟩
abbrev cX5_firstFault : ByteArray := prog_7_method_4_code
def yX5_firstFault : MethodName := ⟨RX5, "firstFault", "()I"⟩
abbrev cX5_isWhole : ByteArray := prog_7_method_5_code
def yX5_isWhole : MethodName := ⟨RX5, "isWhole", "()Z"⟩
abbrev cX5_mayStand : ByteArray := prog_7_method_6_code
def yX5_mayStand : MethodName := ⟨RX5, "mayStand", "(I)Z"⟩
abbrev cX5_staysAt : ByteArray := prog_7_method_7_code
def yX5_staysAt : MethodName := ⟨RX5, "staysAt", "(I)Z"⟩
abbrev cX5_digitAt : ByteArray := prog_7_method_8_code
def yX5_digitAt : MethodName := ⟨RX5, "digitAt", "(I)I"⟩
def RX6 : String := "WolfCalendar$Sight"
def TX6 : u_T := fun k => match k with
  | 0 => ("WolfCalendar$Sight", "pack", "I", false)
  | 1 => ("WolfCalendar$Sight", "from", "I", false)
  | 2 => ("WolfCalendar$Sight", "days", "I", false)
  | _ => ("WolfCalendar$Sight", "hunts", "I", false)
def tyX6 : Nat → FieldType := fun k => match k with
  | 0 => .int
  | 1 => .int
  | 2 => .int
  | _ => .int
theorem nmX6 : ∀ a, a < 4 → ∀ b, b < 4 → a ≠ b → (TX6 a).2.1 ≠ (TX6 b).2.1 := by decide +kernel
theorem tyX6_ok : ∀ k, k < 4 → parseFieldDescriptor (TX6 k).2.2.1 = some (tyX6 k) := by decide +kernel
abbrev cX6_init : ByteArray := prog_8_method_1_code
def yX6_init : MethodName := ⟨RX6, "<init>", "()V"⟩
abbrev cX6_hasBegun : ByteArray := prog_8_method_2_code
def yX6_hasBegun : MethodName := ⟨RX6, "hasBegun", "()Z"⟩
abbrev cX6_beginWith : ByteArray := prog_8_method_3_code
def yX6_beginWith : MethodName := ⟨RX6, "beginWith", "(II)V"⟩
abbrev cX6_put : ByteArray := prog_8_method_4_code
def yX6_put : MethodName := ⟨RX6, "put", "(Z)V"⟩
abbrev cX6_huntedAt : ByteArray := prog_8_method_5_code
def yX6_huntedAt : MethodName := ⟨RX6, "huntedAt", "(I)Z"⟩
abbrev cX6_copyFrom : ByteArray := prog_8_method_6_code
def yX6_copyFrom : MethodName := ⟨RX6, "copyFrom", "(LWolfCalendar$Sight;)V"⟩
def RX7 : String := "WolfCalendar$World"
def TX7 : u_T := fun k => match k with
  | 0 => ("WolfCalendar$World", "packs", "[LWolfCalendar$Pack;", true)
  | 1 => ("WolfCalendar$World", "flocks", "[LWolfCalendar$Flock;", true)
  | 2 => ("WolfCalendar$World", "forged", "[I", true)
  | 3 => ("WolfCalendar$World", "sight", "LWolfCalendar$Sight;", true)
  | 4 => ("WolfCalendar$World", "packCount", "I", false)
  | 5 => ("WolfCalendar$World", "flockCount", "I", false)
  | 6 => ("WolfCalendar$World", "today", "I", false)
  | _ => ("WolfCalendar$World", "eaten", "I", false)
def tyX7 : Nat → FieldType := fun k => match k with
  | 0 => .array (.object "WolfCalendar$Pack")
  | 1 => .array (.object "WolfCalendar$Flock")
  | 2 => .array .int
  | 3 => .object "WolfCalendar$Sight"
  | 4 => .int
  | 5 => .int
  | 6 => .int
  | _ => .int
theorem nmX7 : ∀ a, a < 8 → ∀ b, b < 8 → a ≠ b → (TX7 a).2.1 ≠ (TX7 b).2.1 := by decide +kernel
theorem tyX7_ok : ∀ k, k < 8 → parseFieldDescriptor (TX7 k).2.2.1 = some (tyX7 k) := by decide +kernel
abbrev cX7_init : ByteArray := prog_9_method_1_code
def yX7_init : MethodName := ⟨RX7, "<init>", "()V"⟩
abbrev cX7_copyFrom : ByteArray := prog_9_method_2_code
def yX7_copyFrom : MethodName := ⟨RX7, "copyFrom", "(LWolfCalendar$World;)V"⟩
abbrev cX7_goBackTo : ByteArray := prog_9_method_3_code
def yX7_goBackTo : MethodName := ⟨RX7, "goBackTo", "(II)V"⟩
abbrev cX7_hasPack : ByteArray := prog_9_method_4_code
def yX7_hasPack : MethodName := ⟨RX7, "hasPack", "(I)Z"⟩
abbrev cX7_hasFlock : ByteArray := prog_9_method_5_code
def yX7_hasFlock : MethodName := ⟨RX7, "hasFlock", "(I)Z"⟩
abbrev cX7_isEaten : ByteArray := prog_9_method_6_code
def yX7_isEaten : MethodName := ⟨RX7, "isEaten", "(I)Z"⟩
abbrev cX7_isGrazing : ByteArray := prog_9_method_7_code
def yX7_isGrazing : MethodName := ⟨RX7, "isGrazing", "(I)Z"⟩
abbrev cX7_eatenInAll : ByteArray := prog_9_method_8_code
def yX7_eatenInAll : MethodName := ⟨RX7, "eatenInAll", "()I"⟩
abbrev cX7_eatenBy : ByteArray := prog_9_method_9_code
def yX7_eatenBy : MethodName := ⟨RX7, "eatenBy", "(I)I"⟩
abbrev cX7_forgedCells : ByteArray := prog_9_method_10_code
def yX7_forgedCells : MethodName := ⟨RX7, "forgedCells", "()I"⟩
abbrev cX7_readBy : ByteArray := prog_9_method_11_code
def yX7_readBy : MethodName := ⟨RX7, "readBy", "(LWolfCalendar$Pack;)I"⟩
abbrev cX7_preyOf : ByteArray := prog_9_method_12_code
def yX7_preyOf : MethodName := ⟨RX7, "preyOf", "(LWolfCalendar$Pack;LWolfCalendar$Feasts;)I"⟩
abbrev cX7_firstIn : ByteArray := prog_9_method_13_code
def yX7_firstIn : MethodName := ⟨RX7, "firstIn", "(II)I"⟩
abbrev cX7_passDay : ByteArray := prog_9_method_14_code
def yX7_passDay : MethodName := ⟨RX7, "passDay", "(LWolfCalendar$Feasts;)I"⟩
abbrev cX7_daysUntilEaten : ByteArray := prog_9_method_15_code
def yX7_daysUntilEaten : MethodName := ⟨RX7, "daysUntilEaten", "(IILWolfCalendar$Feasts;)I"⟩
def RX8 : String := "WolfCalendar"
def TX8 : u_T := fun k => match k with
  | 0 => ("WolfCalendar", "page", "LWolfCalendar$Page;", true)
  | 1 => ("WolfCalendar", "calendar", "LWolfCalendar$Feasts;", true)
  | 2 => ("WolfCalendar", "now", "LWolfCalendar$World;", true)
  | 3 => ("WolfCalendar", "kept", "LWolfCalendar$World;", true)
  | 4 => ("WolfCalendar", "trial", "LWolfCalendar$World;", true)
  | 5 => ("WolfCalendar", "draws", "LWolfCalendar$Draws;", true)
  | 6 => ("WolfCalendar", "imageKept", "Z", false)
  | 7 => ("WolfCalendar", "timesRead", "I", false)
  | _ => ("WolfCalendar", "timesGrazed", "I", false)
def tyX8 : Nat → FieldType := fun k => match k with
  | 0 => .object "WolfCalendar$Page"
  | 1 => .object "WolfCalendar$Feasts"
  | 2 => .object "WolfCalendar$World"
  | 3 => .object "WolfCalendar$World"
  | 4 => .object "WolfCalendar$World"
  | 5 => .object "WolfCalendar$Draws"
  | 6 => .boolean
  | 7 => .int
  | _ => .int
theorem nmX8 : ∀ a, a < 9 → ∀ b, b < 9 → a ≠ b → (TX8 a).2.1 ≠ (TX8 b).2.1 := by decide +kernel
theorem tyX8_ok : ∀ k, k < 9 → parseFieldDescriptor (TX8 k).2.2.1 = some (tyX8 k) := by decide +kernel
abbrev cX8_init : ByteArray := prog_1_method_1_code
def yX8_init : MethodName := ⟨RX8, "<init>", "()V"⟩
abbrev cX8_letter : ByteArray := prog_1_method_2_code
def yX8_letter : MethodName := ⟨RX8, "letter", "(I)I"⟩
abbrev cX8_blank : ByteArray := prog_1_method_3_code
def yX8_blank : MethodName := ⟨RX8, "blank", "()I"⟩
abbrev cX8_fault : ByteArray := prog_1_method_4_code
def yX8_fault : MethodName := ⟨RX8, "fault", "()I"⟩
abbrev cX8_feasts : ByteArray := prog_1_method_5_code
def yX8_feasts : MethodName := ⟨RX8, "feasts", "()I"⟩
abbrev cX8_dayOf : ByteArray := prog_1_method_6_code
def yX8_dayOf : MethodName := ⟨RX8, "dayOf", "(II)I"⟩
abbrev cX8_forge : ByteArray := prog_1_method_7_code
def yX8_forge : MethodName := ⟨RX8, "forge", "(II)I"⟩
abbrev cX8_pack : ByteArray := prog_1_method_8_code
def yX8_pack : MethodName := ⟨RX8, "pack", "(III)I"⟩
abbrev cX8_about : ByteArray := prog_1_method_9_code
def yX8_about : MethodName := ⟨RX8, "about", "(II)I"⟩
abbrev cX8_as : ByteArray := prog_1_method_10_code
def yX8_as : MethodName := ⟨RX8, "as", "(II)I"⟩
abbrev cX8_flock : ByteArray := prog_1_method_11_code
def yX8_flock : MethodName := ⟨RX8, "flock", "(II)I"⟩
abbrev cX8_flockOf : ByteArray := prog_1_method_12_code
def yX8_flockOf : MethodName := ⟨RX8, "flockOf", "(II)I"⟩
abbrev cX8_name : ByteArray := prog_1_method_13_code
def yX8_name : MethodName := ⟨RX8, "name", "(II)I"⟩
abbrev cX8_move : ByteArray := prog_1_method_14_code
def yX8_move : MethodName := ⟨RX8, "move", "(II)I"⟩
abbrev cX8_day : ByteArray := prog_1_method_15_code
def yX8_day : MethodName := ⟨RX8, "day", "()I"⟩
abbrev cX8_loss : ByteArray := prog_1_method_16_code
def yX8_loss : MethodName := ⟨RX8, "loss", "(I)I"⟩
abbrev cX8_falls : ByteArray := prog_1_method_17_code
def yX8_falls : MethodName := ⟨RX8, "falls", "(I)I"⟩
abbrev cX8_safe : ByteArray := prog_1_method_18_code
def yX8_safe : MethodName := ⟨RX8, "safe", "(II)I"⟩
abbrev cX8_graze : ByteArray := prog_1_method_19_code
def yX8_graze : MethodName := ⟨RX8, "graze", "(III)I"⟩
abbrev cX8_nail : ByteArray := prog_1_method_20_code
def yX8_nail : MethodName := ⟨RX8, "nail", "(II)I"⟩
abbrev cX8_watch : ByteArray := prog_1_method_21_code
def yX8_watch : MethodName := ⟨RX8, "watch", "(I)I"⟩
abbrev cX8_seen : ByteArray := prog_1_method_22_code
def yX8_seen : MethodName := ⟨RX8, "seen", "(Z)I"⟩
abbrev cX8_fits : ByteArray := prog_1_method_23_code
def yX8_fits : MethodName := ⟨RX8, "fits", "(I)I"⟩
abbrev cX8_years : ByteArray := prog_1_method_24_code
def yX8_years : MethodName := ⟨RX8, "years", "(III)I"⟩
abbrev cX8_image : ByteArray := prog_1_method_25_code
def yX8_image : MethodName := ⟨RX8, "image", "()I"⟩
abbrev cX8_restore : ByteArray := prog_1_method_26_code
def yX8_restore : MethodName := ⟨RX8, "restore", "()I"⟩
abbrev cX8_count : ByteArray := prog_1_method_27_code
def yX8_count : MethodName := ⟨RX8, "count", "(I)I"⟩
abbrev cX8_digest : ByteArray := prog_1_method_28_code
def yX8_digest : MethodName := ⟨RX8, "digest", "()J"⟩
abbrev cX8_isCell : ByteArray := prog_1_method_29_code
def yX8_isCell : MethodName := ⟨RX8, "isCell", "(I)Z"⟩
abbrev cX8_isName : ByteArray := prog_1_method_30_code
def yX8_isName : MethodName := ⟨RX8, "isName", "(I)Z"⟩
abbrev cX8_isKind : ByteArray := prog_1_method_31_code
def yX8_isKind : MethodName := ⟨RX8, "isKind", "(I)Z"⟩
abbrev cX8_nameOfDay : ByteArray := prog_1_method_32_code
def yX8_nameOfDay : MethodName := ⟨RX8, "nameOfDay", "(I)I"⟩
abbrev cX8_trialFromNow : ByteArray := prog_1_method_33_code
def yX8_trialFromNow : MethodName := ⟨RX8, "trialFromNow", "()V"⟩
abbrev cX8_lossIn : ByteArray := prog_1_method_34_code
def yX8_lossIn : MethodName := ⟨RX8, "lossIn", "(I)I"⟩
abbrev cX8_firstCellOfGrazing : ByteArray := prog_1_method_35_code
def yX8_firstCellOfGrazing : MethodName := ⟨RX8, "firstCellOfGrazing", "(II)I"⟩
abbrev cX8_rowsBehind : ByteArray := prog_1_method_36_code
def yX8_rowsBehind : MethodName := ⟨RX8, "rowsBehind", "(II)I"⟩
abbrev cX8_rowsThrough : ByteArray := prog_1_method_37_code
def yX8_rowsThrough : MethodName := ⟨RX8, "rowsThrough", "(III)I"⟩
abbrev cX8_fastsOnEnd : ByteArray := prog_1_method_38_code
def yX8_fastsOnEnd : MethodName := ⟨RX8, "fastsOnEnd", "(LWolfCalendar$Pack;I)I"⟩
abbrev cX8_fittingLags : ByteArray := prog_1_method_39_code
def yX8_fittingLags : MethodName := ⟨RX8, "fittingLags", "(LWolfCalendar$Pack;)I"⟩
abbrev cX8_fittingKinds : ByteArray := prog_1_method_40_code
def yX8_fittingKinds : MethodName := ⟨RX8, "fittingKinds", "(LWolfCalendar$Pack;)I"⟩
abbrev cX8_didJustSo : ByteArray := prog_1_method_41_code
def yX8_didJustSo : MethodName := ⟨RX8, "didJustSo", "(LWolfCalendar$Kind;II)Z"⟩
abbrev cX8_mixed : ByteArray := prog_1_method_42_code
def yX8_mixed : MethodName := ⟨RX8, "mixed", "(JJ)J"⟩
abbrev cX8_withPacks : ByteArray := prog_1_method_43_code
def yX8_withPacks : MethodName := ⟨RX8, "withPacks", "(J)J"⟩
abbrev cX8_withFlocks : ByteArray := prog_1_method_44_code
def yX8_withFlocks : MethodName := ⟨RX8, "withFlocks", "(J)J"⟩
def RX9 : String := "WolfCalendarModel"
def TX9 : u_T := fun k => match k with
  | 0 => ("WolfCalendarModel", "reads", "I", false)
  | 1 => ("WolfCalendarModel", "feasts", "I", false)
  | 2 => ("WolfCalendarModel", "feastOf", "[I", true)
  | 3 => ("WolfCalendarModel", "day", "I", false)
  | 4 => ("WolfCalendarModel", "forgedOf", "[I", true)
  | 5 => ("WolfCalendarModel", "packs", "I", false)
  | 6 => ("WolfCalendarModel", "kindOf", "[I", true)
  | 7 => ("WolfCalendarModel", "cellOf", "[I", true)
  | 8 => ("WolfCalendarModel", "lagOf", "[I", true)
  | 9 => ("WolfCalendarModel", "flocks", "I", false)
  | 10 => ("WolfCalendarModel", "nameOf", "[I", true)
  | 11 => ("WolfCalendarModel", "flockCell", "[I", true)
  | 12 => ("WolfCalendarModel", "eatenBy", "[I", true)
  | 13 => ("WolfCalendarModel", "watched", "I", false)
  | 14 => ("WolfCalendarModel", "watchedFrom", "I", false)
  | 15 => ("WolfCalendarModel", "seen", "I", false)
  | 16 => ("WolfCalendarModel", "seenOf", "[I", true)
  | 17 => ("WolfCalendarModel", "asks", "I", false)
  | 18 => ("WolfCalendarModel", "pageLength", "I", false)
  | 19 => ("WolfCalendarModel", "page", "[B", true)
  | 20 => ("WolfCalendarModel", "faultAt", "I", false)
  | 21 => ("WolfCalendarModel", "isWhole", "Z", false)
  | 22 => ("WolfCalendarModel", "newFeasts", "I", false)
  | 23 => ("WolfCalendarModel", "newFeast", "[I", true)
  | 24 => ("WolfCalendarModel", "savedDay", "I", false)
  | 25 => ("WolfCalendarModel", "savedForged", "[I", true)
  | 26 => ("WolfCalendarModel", "savedName", "[I", true)
  | 27 => ("WolfCalendarModel", "savedCell", "[I", true)
  | 28 => ("WolfCalendarModel", "savedBy", "[I", true)
  | 29 => ("WolfCalendarModel", "seedNow", "J", false)
  | 30 => ("WolfCalendarModel", "isKept", "Z", false)
  | 31 => ("WolfCalendarModel", "keptDay", "I", false)
  | 32 => ("WolfCalendarModel", "keptPacks", "I", false)
  | 33 => ("WolfCalendarModel", "keptFlocks", "I", false)
  | 34 => ("WolfCalendarModel", "keptWatched", "I", false)
  | 35 => ("WolfCalendarModel", "keptFrom", "I", false)
  | 36 => ("WolfCalendarModel", "keptSeen", "I", false)
  | 37 => ("WolfCalendarModel", "keptSeenOf", "[I", true)
  | 38 => ("WolfCalendarModel", "keptForged", "[I", true)
  | 39 => ("WolfCalendarModel", "keptName", "[I", true)
  | 40 => ("WolfCalendarModel", "keptCell", "[I", true)
  | 41 => ("WolfCalendarModel", "keptBy", "[I", true)
  | _ => ("WolfCalendarModel", "h", "J", false)
def tyX9 : Nat → FieldType := fun k => match k with
  | 0 => .int
  | 1 => .int
  | 2 => .array .int
  | 3 => .int
  | 4 => .array .int
  | 5 => .int
  | 6 => .array .int
  | 7 => .array .int
  | 8 => .array .int
  | 9 => .int
  | 10 => .array .int
  | 11 => .array .int
  | 12 => .array .int
  | 13 => .int
  | 14 => .int
  | 15 => .int
  | 16 => .array .int
  | 17 => .int
  | 18 => .int
  | 19 => .array .byte
  | 20 => .int
  | 21 => .boolean
  | 22 => .int
  | 23 => .array .int
  | 24 => .int
  | 25 => .array .int
  | 26 => .array .int
  | 27 => .array .int
  | 28 => .array .int
  | 29 => .long
  | 30 => .boolean
  | 31 => .int
  | 32 => .int
  | 33 => .int
  | 34 => .int
  | 35 => .int
  | 36 => .int
  | 37 => .array .int
  | 38 => .array .int
  | 39 => .array .int
  | 40 => .array .int
  | 41 => .array .int
  | _ => .long
theorem nmX9 : ∀ a, a < 43 → ∀ b, b < 43 → a ≠ b → (TX9 a).2.1 ≠ (TX9 b).2.1 := by decide +kernel
theorem tyX9_ok : ∀ k, k < 43 → parseFieldDescriptor (TX9 k).2.2.1 = some (tyX9 k) := by decide +kernel
abbrev cX9_init : ByteArray := prog_11_method_1_code
def yX9_init : MethodName := ⟨RX9, "<init>", "()V"⟩
abbrev cX9_within : ByteArray := prog_11_method_3_code
def yX9_within : MethodName := ⟨RX9, "within", "(III)Z"⟩
abbrev cX9_letter : ByteArray := prog_11_method_4_code
def yX9_letter : MethodName := ⟨RX9, "letter", "(I)I"⟩
abbrev cX9_blank : ByteArray := prog_11_method_5_code
def yX9_blank : MethodName := ⟨RX9, "blank", "()I"⟩
abbrev cX9_nextState : ByteArray := prog_11_method_6_code
def yX9_nextState : MethodName := ⟨RX9, "nextState", "(II)I"⟩
abbrev cX9_lastState : ByteArray := prog_11_method_7_code
def yX9_lastState : MethodName := ⟨RX9, "lastState", "(II)I"⟩
abbrev cX9_readFeasts : ByteArray := prog_11_method_8_code
def yX9_readFeasts : MethodName := ⟨RX9, "readFeasts", "()V"⟩
abbrev cX9_fault : ByteArray := prog_11_method_9_code
def yX9_fault : MethodName := ⟨RX9, "fault", "()I"⟩
abbrev cX9_feasts : ByteArray := prog_11_method_10_code
def yX9_feasts : MethodName := ⟨RX9, "feasts", "()I"⟩
abbrev cX9_isFeast : ByteArray := prog_11_method_11_code
def yX9_isFeast : MethodName := ⟨RX9, "isFeast", "(I)Z"⟩
abbrev cX9_nameOn : ByteArray := prog_11_method_12_code
def yX9_nameOn : MethodName := ⟨RX9, "nameOn", "(I)I"⟩
abbrev cX9_dayTold : ByteArray := prog_11_method_13_code
def yX9_dayTold : MethodName := ⟨RX9, "dayTold", "(II)I"⟩
abbrev cX9_dayOf : ByteArray := prog_11_method_14_code
def yX9_dayOf : MethodName := ⟨RX9, "dayOf", "(II)I"⟩
abbrev cX9_isCell : ByteArray := prog_11_method_15_code
def yX9_isCell : MethodName := ⟨RX9, "isCell", "(I)Z"⟩
abbrev cX9_forge : ByteArray := prog_11_method_16_code
def yX9_forge : MethodName := ⟨RX9, "forge", "(II)I"⟩
abbrev cX9_isPack : ByteArray := prog_11_method_17_code
def yX9_isPack : MethodName := ⟨RX9, "isPack", "(I)Z"⟩
abbrev cX9_pack : ByteArray := prog_11_method_18_code
def yX9_pack : MethodName := ⟨RX9, "pack", "(III)I"⟩
abbrev cX9_readsBy : ByteArray := prog_11_method_19_code
def yX9_readsBy : MethodName := ⟨RX9, "readsBy", "(IIII)I"⟩
abbrev cX9_fastsBy : ByteArray := prog_11_method_20_code
def yX9_fastsBy : MethodName := ⟨RX9, "fastsBy", "(IIII)Z"⟩
abbrev cX9_fasts : ByteArray := prog_11_method_21_code
def yX9_fasts : MethodName := ⟨RX9, "fasts", "(II)Z"⟩
abbrev cX9_readsNow : ByteArray := prog_11_method_22_code
def yX9_readsNow : MethodName := ⟨RX9, "readsNow", "(II)I"⟩
abbrev cX9_preyIn : ByteArray := prog_11_method_23_code
def yX9_preyIn : MethodName := ⟨RX9, "preyIn", "(II)I"⟩
abbrev cX9_prey : ByteArray := prog_11_method_24_code
def yX9_prey : MethodName := ⟨RX9, "prey", "(II)I"⟩
abbrev cX9_eatenMany : ByteArray := prog_11_method_25_code
def yX9_eatenMany : MethodName := ⟨RX9, "eatenMany", "(I)I"⟩
abbrev cX9_packNow : ByteArray := prog_11_method_26_code
def yX9_packNow : MethodName := ⟨RX9, "packNow", "(II)I"⟩
abbrev cX9_about : ByteArray := prog_11_method_27_code
def yX9_about : MethodName := ⟨RX9, "about", "(II)I"⟩
abbrev cX9_as : ByteArray := prog_11_method_28_code
def yX9_as : MethodName := ⟨RX9, "as", "(II)I"⟩
abbrev cX9_isThere : ByteArray := prog_11_method_29_code
def yX9_isThere : MethodName := ⟨RX9, "isThere", "(I)Z"⟩
abbrev cX9_isFlock : ByteArray := prog_11_method_30_code
def yX9_isFlock : MethodName := ⟨RX9, "isFlock", "(I)Z"⟩
abbrev cX9_isName : ByteArray := prog_11_method_31_code
def yX9_isName : MethodName := ⟨RX9, "isName", "(I)Z"⟩
abbrev cX9_flock : ByteArray := prog_11_method_32_code
def yX9_flock : MethodName := ⟨RX9, "flock", "(II)I"⟩
abbrev cX9_flockNow : ByteArray := prog_11_method_33_code
def yX9_flockNow : MethodName := ⟨RX9, "flockNow", "(II)I"⟩
abbrev cX9_flockOf : ByteArray := prog_11_method_34_code
def yX9_flockOf : MethodName := ⟨RX9, "flockOf", "(II)I"⟩
abbrev cX9_name : ByteArray := prog_11_method_35_code
def yX9_name : MethodName := ⟨RX9, "name", "(II)I"⟩
abbrev cX9_move : ByteArray := prog_11_method_36_code
def yX9_move : MethodName := ⟨RX9, "move", "(II)I"⟩
abbrev cX9_goDay : ByteArray := prog_11_method_37_code
def yX9_goDay : MethodName := ⟨RX9, "goDay", "()I"⟩
abbrev cX9_day : ByteArray := prog_11_method_38_code
def yX9_day : MethodName := ⟨RX9, "day", "()I"⟩
abbrev cX9_save : ByteArray := prog_11_method_39_code
def yX9_save : MethodName := ⟨RX9, "save", "()V"⟩
abbrev cX9_back : ByteArray := prog_11_method_40_code
def yX9_back : MethodName := ⟨RX9, "back", "()V"⟩
abbrev cX9_eatenAll : ByteArray := prog_11_method_41_code
def yX9_eatenAll : MethodName := ⟨RX9, "eatenAll", "()I"⟩
abbrev cX9_lossNow : ByteArray := prog_11_method_42_code
def yX9_lossNow : MethodName := ⟨RX9, "lossNow", "(I)I"⟩
abbrev cX9_loss : ByteArray := prog_11_method_43_code
def yX9_loss : MethodName := ⟨RX9, "loss", "(I)I"⟩
abbrev cX9_fallsIn : ByteArray := prog_11_method_44_code
def yX9_fallsIn : MethodName := ⟨RX9, "fallsIn", "(II)I"⟩
abbrev cX9_fallsNow : ByteArray := prog_11_method_45_code
def yX9_fallsNow : MethodName := ⟨RX9, "fallsNow", "(I)I"⟩
abbrev cX9_falls : ByteArray := prog_11_method_46_code
def yX9_falls : MethodName := ⟨RX9, "falls", "(I)I"⟩
abbrev cX9_safeNow : ByteArray := prog_11_method_47_code
def yX9_safeNow : MethodName := ⟨RX9, "safeNow", "(II)I"⟩
abbrev cX9_safe : ByteArray := prog_11_method_48_code
def yX9_safe : MethodName := ⟨RX9, "safe", "(II)I"⟩
abbrev cX9_power : ByteArray := prog_11_method_49_code
def yX9_power : MethodName := ⟨RX9, "power", "(I)I"⟩
abbrev cX9_grazesBy : ByteArray := prog_11_method_50_code
def yX9_grazesBy : MethodName := ⟨RX9, "grazesBy", "(III)Z"⟩
abbrev cX9_grazeNow : ByteArray := prog_11_method_51_code
def yX9_grazeNow : MethodName := ⟨RX9, "grazeNow", "(III)I"⟩
abbrev cX9_graze : ByteArray := prog_11_method_52_code
def yX9_graze : MethodName := ⟨RX9, "graze", "(III)I"⟩
abbrev cX9_fastsOn : ByteArray := prog_11_method_53_code
def yX9_fastsOn : MethodName := ⟨RX9, "fastsOn", "(II)I"⟩
abbrev cX9_nailNow : ByteArray := prog_11_method_54_code
def yX9_nailNow : MethodName := ⟨RX9, "nailNow", "(II)I"⟩
abbrev cX9_nail : ByteArray := prog_11_method_55_code
def yX9_nail : MethodName := ⟨RX9, "nail", "(II)I"⟩
abbrev cX9_watch : ByteArray := prog_11_method_56_code
def yX9_watch : MethodName := ⟨RX9, "watch", "(I)I"⟩
abbrev cX9_seen : ByteArray := prog_11_method_57_code
def yX9_seen : MethodName := ⟨RX9, "seen", "(Z)I"⟩
abbrev cX9_isSeenSo : ByteArray := prog_11_method_58_code
def yX9_isSeenSo : MethodName := ⟨RX9, "isSeenSo", "(II)Z"⟩
abbrev cX9_fitsNow : ByteArray := prog_11_method_59_code
def yX9_fitsNow : MethodName := ⟨RX9, "fitsNow", "(I)I"⟩
abbrev cX9_fits : ByteArray := prog_11_method_60_code
def yX9_fits : MethodName := ⟨RX9, "fits", "(I)I"⟩
abbrev cX9_draw : ByteArray := prog_11_method_61_code
def yX9_draw : MethodName := ⟨RX9, "draw", "(I)I"⟩
abbrev cX9_yearsNow : ByteArray := prog_11_method_62_code
def yX9_yearsNow : MethodName := ⟨RX9, "yearsNow", "(III)I"⟩
abbrev cX9_years : ByteArray := prog_11_method_63_code
def yX9_years : MethodName := ⟨RX9, "years", "(III)I"⟩
abbrev cX9_image : ByteArray := prog_11_method_64_code
def yX9_image : MethodName := ⟨RX9, "image", "()I"⟩
abbrev cX9_restore : ByteArray := prog_11_method_65_code
def yX9_restore : MethodName := ⟨RX9, "restore", "()I"⟩
abbrev cX9_forgedMany : ByteArray := prog_11_method_66_code
def yX9_forgedMany : MethodName := ⟨RX9, "forgedMany", "()I"⟩
abbrev cX9_howMany : ByteArray := prog_11_method_67_code
def yX9_howMany : MethodName := ⟨RX9, "howMany", "(I)I"⟩
abbrev cX9_count : ByteArray := prog_11_method_68_code
def yX9_count : MethodName := ⟨RX9, "count", "(I)I"⟩
abbrev cX9_mix : ByteArray := prog_11_method_69_code
def yX9_mix : MethodName := ⟨RX9, "mix", "(J)V"⟩
abbrev cX9_digest : ByteArray := prog_11_method_70_code
def yX9_digest : MethodName := ⟨RX9, "digest", "()J"⟩
abbrev cX9_mixFlock : ByteArray := prog_11_method_71_code
def yX9_mixFlock : MethodName := ⟨RX9, "mixFlock", "(I)V"⟩
def RJx29ce0 : String := "java/lang/Enum"
def RJ6 : String := "java/lang/Integer"
abbrev cJ6_bitCount_0f7a4 : ByteArray := prog_13_method_49_code
def yJ6_bitCount_0f7a4 : MethodName := ⟨RJ6, "bitCount", "(I)I"⟩
def RJ9 : String := "java/lang/Math"
abbrev cJ9_floorMod_7cf53 : ByteArray := prog_14_method_50_code
def yJ9_floorMod_7cf53 : MethodName := ⟨RJ9, "floorMod", "(II)I"⟩
def RJ10 : String := "java/lang/System"
def RL : String := "WolfCalendarLaw"
abbrev cL_law : ByteArray := code
def yL_law : MethodName := ⟨RL, "law", "([I)Z"⟩
abbrev vwCl : List vw_C := [(RX0, TX0, 1), (RX1, TX1, 2), (RX2, TX2, 3), (RX4, TX4, 3), (RX5, TX5, 2), (RX6, TX6, 4), (RX7, TX7, 8), (RX8, TX8, 9), (RX9, TX9, 43)]
