section
/-- a private method of a class that the tables say can be made, by its rows of tables_1 -/
def lw_okq (q : MethodName × Nat) : Prop := (q.1.cls ≠ "java/lang/invoke/MethodHandle" ∧ q.1.cls ≠ "java/lang/invoke/VarHandle") ∧ Cond.instantiable q.1.cls q.2 ∈ tables_1 ∧ Cond.privateMethod q.1 ∈ tables_1 ∧ Cond.instanceMethod q.1 ∈ tables_1
theorem lw_p0 : lw_okq (⟨"WolfCalendar$Page", "mayStand", "(I)Z"⟩, 2) := ⟨⟨by decide +kernel, by decide +kernel⟩, List.mem_of_getElem? (i := 24) (by decide +kernel), List.mem_of_getElem? (i := 229) (by decide +kernel), List.mem_of_getElem? (i := 230) (by decide +kernel)⟩
theorem lw_p1 : lw_okq (⟨"WolfCalendar$World", "firstIn", "(II)I"⟩, 8) := ⟨⟨by decide +kernel, by decide +kernel⟩, List.mem_of_getElem? (i := 56) (by decide +kernel), List.mem_of_getElem? (i := 320) (by decide +kernel), List.mem_of_getElem? (i := 321) (by decide +kernel)⟩
theorem lw_p2 : lw_okq (⟨"WolfCalendar", "lossIn", "(I)I"⟩, 9) := ⟨⟨by decide +kernel, by decide +kernel⟩, List.mem_of_getElem? (i := 16) (by decide +kernel), List.mem_of_getElem? (i := 391) (by decide +kernel), List.mem_of_getElem? (i := 392) (by decide +kernel)⟩
theorem lw_p3 : lw_okq (⟨"WolfCalendar", "trialFromNow", "()V"⟩, 9) := ⟨⟨by decide +kernel, by decide +kernel⟩, List.mem_of_getElem? (i := 16) (by decide +kernel), List.mem_of_getElem? (i := 395) (by decide +kernel), List.mem_of_getElem? (i := 396) (by decide +kernel)⟩
theorem lw_p4 : lw_okq (⟨"WolfCalendar", "firstCellOfGrazing", "(II)I"⟩, 9) := ⟨⟨by decide +kernel, by decide +kernel⟩, List.mem_of_getElem? (i := 16) (by decide +kernel), List.mem_of_getElem? (i := 446) (by decide +kernel), List.mem_of_getElem? (i := 447) (by decide +kernel)⟩
theorem lw_p5 : lw_okq (⟨"WolfCalendar", "rowsThrough", "(III)I"⟩, 9) := ⟨⟨by decide +kernel, by decide +kernel⟩, List.mem_of_getElem? (i := 16) (by decide +kernel), List.mem_of_getElem? (i := 451) (by decide +kernel), List.mem_of_getElem? (i := 452) (by decide +kernel)⟩
theorem lw_p6 : lw_okq (⟨"WolfCalendar", "rowsBehind", "(II)I"⟩, 9) := ⟨⟨by decide +kernel, by decide +kernel⟩, List.mem_of_getElem? (i := 16) (by decide +kernel), List.mem_of_getElem? (i := 455) (by decide +kernel), List.mem_of_getElem? (i := 456) (by decide +kernel)⟩
theorem lw_p7 : lw_okq (⟨"WolfCalendar", "fastsOnEnd", "(LWolfCalendar$Pack;I)I"⟩, 9) := ⟨⟨by decide +kernel, by decide +kernel⟩, List.mem_of_getElem? (i := 16) (by decide +kernel), List.mem_of_getElem? (i := 463) (by decide +kernel), List.mem_of_getElem? (i := 464) (by decide +kernel)⟩
theorem lw_p8 : lw_okq (⟨"WolfCalendar", "fittingLags", "(LWolfCalendar$Pack;)I"⟩, 9) := ⟨⟨by decide +kernel, by decide +kernel⟩, List.mem_of_getElem? (i := 16) (by decide +kernel), List.mem_of_getElem? (i := 492) (by decide +kernel), List.mem_of_getElem? (i := 493) (by decide +kernel)⟩
theorem lw_p9 : lw_okq (⟨"WolfCalendar", "didJustSo", "(LWolfCalendar$Kind;II)Z"⟩, 9) := ⟨⟨by decide +kernel, by decide +kernel⟩, List.mem_of_getElem? (i := 16) (by decide +kernel), List.mem_of_getElem? (i := 497) (by decide +kernel), List.mem_of_getElem? (i := 498) (by decide +kernel)⟩
theorem lw_p10 : lw_okq (⟨"WolfCalendar", "fittingKinds", "(LWolfCalendar$Pack;)I"⟩, 9) := ⟨⟨by decide +kernel, by decide +kernel⟩, List.mem_of_getElem? (i := 16) (by decide +kernel), List.mem_of_getElem? (i := 505) (by decide +kernel), List.mem_of_getElem? (i := 506) (by decide +kernel)⟩
theorem lw_p11 : lw_okq (⟨"WolfCalendar", "withPacks", "(J)J"⟩, 9) := ⟨⟨by decide +kernel, by decide +kernel⟩, List.mem_of_getElem? (i := 16) (by decide +kernel), List.mem_of_getElem? (i := 547) (by decide +kernel), List.mem_of_getElem? (i := 548) (by decide +kernel)⟩
theorem lw_p12 : lw_okq (⟨"WolfCalendar", "withFlocks", "(J)J"⟩, 9) := ⟨⟨by decide +kernel, by decide +kernel⟩, List.mem_of_getElem? (i := 16) (by decide +kernel), List.mem_of_getElem? (i := 553) (by decide +kernel), List.mem_of_getElem? (i := 554) (by decide +kernel)⟩
theorem lw_p13 : lw_okq (⟨"WolfCalendarModel", "readFeasts", "()V"⟩, 43) := ⟨⟨by decide +kernel, by decide +kernel⟩, List.mem_of_getElem? (i := 560) (by decide +kernel), List.mem_of_getElem? (i := 712) (by decide +kernel), List.mem_of_getElem? (i := 713) (by decide +kernel)⟩
theorem lw_p14 : lw_okq (⟨"WolfCalendarModel", "nextState", "(II)I"⟩, 43) := ⟨⟨by decide +kernel, by decide +kernel⟩, List.mem_of_getElem? (i := 560) (by decide +kernel), List.mem_of_getElem? (i := 716) (by decide +kernel), List.mem_of_getElem? (i := 717) (by decide +kernel)⟩
theorem lw_p15 : lw_okq (⟨"WolfCalendarModel", "lastState", "(II)I"⟩, 43) := ⟨⟨by decide +kernel, by decide +kernel⟩, List.mem_of_getElem? (i := 560) (by decide +kernel), List.mem_of_getElem? (i := 720) (by decide +kernel), List.mem_of_getElem? (i := 721) (by decide +kernel)⟩
def lw_privs_1 : List (MethodName × Nat) := [(⟨"WolfCalendar$Page", "mayStand", "(I)Z"⟩, 2), (⟨"WolfCalendar$World", "firstIn", "(II)I"⟩, 8), (⟨"WolfCalendar", "lossIn", "(I)I"⟩, 9), (⟨"WolfCalendar", "trialFromNow", "()V"⟩, 9), (⟨"WolfCalendar", "firstCellOfGrazing", "(II)I"⟩, 9), (⟨"WolfCalendar", "rowsThrough", "(III)I"⟩, 9), (⟨"WolfCalendar", "rowsBehind", "(II)I"⟩, 9), (⟨"WolfCalendar", "fastsOnEnd", "(LWolfCalendar$Pack;I)I"⟩, 9), (⟨"WolfCalendar", "fittingLags", "(LWolfCalendar$Pack;)I"⟩, 9), (⟨"WolfCalendar", "didJustSo", "(LWolfCalendar$Kind;II)Z"⟩, 9), (⟨"WolfCalendar", "fittingKinds", "(LWolfCalendar$Pack;)I"⟩, 9), (⟨"WolfCalendar", "withPacks", "(J)J"⟩, 9), (⟨"WolfCalendar", "withFlocks", "(J)J"⟩, 9), (⟨"WolfCalendarModel", "readFeasts", "()V"⟩, 43), (⟨"WolfCalendarModel", "nextState", "(II)I"⟩, 43), (⟨"WolfCalendarModel", "lastState", "(II)I"⟩, 43)]
theorem lw_r1 : ∀ q ∈ lw_privs_1, lw_okq q := List.forall_mem_cons.mpr ⟨lw_p0, List.forall_mem_cons.mpr ⟨lw_p1, List.forall_mem_cons.mpr ⟨lw_p2, List.forall_mem_cons.mpr ⟨lw_p3, List.forall_mem_cons.mpr ⟨lw_p4, List.forall_mem_cons.mpr ⟨lw_p5, List.forall_mem_cons.mpr ⟨lw_p6, List.forall_mem_cons.mpr ⟨lw_p7, List.forall_mem_cons.mpr ⟨lw_p8, List.forall_mem_cons.mpr ⟨lw_p9, List.forall_mem_cons.mpr ⟨lw_p10, List.forall_mem_cons.mpr ⟨lw_p11, List.forall_mem_cons.mpr ⟨lw_p12, List.forall_mem_cons.mpr ⟨lw_p13, List.forall_mem_cons.mpr ⟨lw_p14, List.forall_mem_cons.mpr ⟨lw_p15, fun _ h => absurd h List.not_mem_nil⟩⟩⟩⟩⟩⟩⟩⟩⟩⟩⟩⟩⟩⟩⟩⟩
theorem lw_p16 : lw_okq (⟨"WolfCalendarModel", "dayTold", "(II)I"⟩, 43) := ⟨⟨by decide +kernel, by decide +kernel⟩, List.mem_of_getElem? (i := 560) (by decide +kernel), List.mem_of_getElem? (i := 732) (by decide +kernel), List.mem_of_getElem? (i := 733) (by decide +kernel)⟩
theorem lw_p17 : lw_okq (⟨"WolfCalendarModel", "isFeast", "(I)Z"⟩, 43) := ⟨⟨by decide +kernel, by decide +kernel⟩, List.mem_of_getElem? (i := 560) (by decide +kernel), List.mem_of_getElem? (i := 739) (by decide +kernel), List.mem_of_getElem? (i := 740) (by decide +kernel)⟩
theorem lw_p18 : lw_okq (⟨"WolfCalendarModel", "isPack", "(I)Z"⟩, 43) := ⟨⟨by decide +kernel, by decide +kernel⟩, List.mem_of_getElem? (i := 560) (by decide +kernel), List.mem_of_getElem? (i := 758) (by decide +kernel), List.mem_of_getElem? (i := 759) (by decide +kernel)⟩
theorem lw_p19 : lw_okq (⟨"WolfCalendarModel", "packNow", "(II)I"⟩, 43) := ⟨⟨by decide +kernel, by decide +kernel⟩, List.mem_of_getElem? (i := 560) (by decide +kernel), List.mem_of_getElem? (i := 762) (by decide +kernel), List.mem_of_getElem? (i := 763) (by decide +kernel)⟩
theorem lw_p20 : lw_okq (⟨"WolfCalendarModel", "readsNow", "(II)I"⟩, 43) := ⟨⟨by decide +kernel, by decide +kernel⟩, List.mem_of_getElem? (i := 560) (by decide +kernel), List.mem_of_getElem? (i := 766) (by decide +kernel), List.mem_of_getElem? (i := 767) (by decide +kernel)⟩
theorem lw_p21 : lw_okq (⟨"WolfCalendarModel", "fasts", "(II)Z"⟩, 43) := ⟨⟨by decide +kernel, by decide +kernel⟩, List.mem_of_getElem? (i := 560) (by decide +kernel), List.mem_of_getElem? (i := 773) (by decide +kernel), List.mem_of_getElem? (i := 774) (by decide +kernel)⟩
theorem lw_p22 : lw_okq (⟨"WolfCalendarModel", "fastsBy", "(IIII)Z"⟩, 43) := ⟨⟨by decide +kernel, by decide +kernel⟩, List.mem_of_getElem? (i := 560) (by decide +kernel), List.mem_of_getElem? (i := 777) (by decide +kernel), List.mem_of_getElem? (i := 778) (by decide +kernel)⟩
theorem lw_p23 : lw_okq (⟨"WolfCalendarModel", "prey", "(II)I"⟩, 43) := ⟨⟨by decide +kernel, by decide +kernel⟩, List.mem_of_getElem? (i := 560) (by decide +kernel), List.mem_of_getElem? (i := 781) (by decide +kernel), List.mem_of_getElem? (i := 782) (by decide +kernel)⟩
theorem lw_p24 : lw_okq (⟨"WolfCalendarModel", "preyIn", "(II)I"⟩, 43) := ⟨⟨by decide +kernel, by decide +kernel⟩, List.mem_of_getElem? (i := 560) (by decide +kernel), List.mem_of_getElem? (i := 785) (by decide +kernel), List.mem_of_getElem? (i := 786) (by decide +kernel)⟩
theorem lw_p25 : lw_okq (⟨"WolfCalendarModel", "eatenMany", "(I)I"⟩, 43) := ⟨⟨by decide +kernel, by decide +kernel⟩, List.mem_of_getElem? (i := 560) (by decide +kernel), List.mem_of_getElem? (i := 789) (by decide +kernel), List.mem_of_getElem? (i := 790) (by decide +kernel)⟩
theorem lw_p26 : lw_okq (⟨"WolfCalendarModel", "isThere", "(I)Z"⟩, 43) := ⟨⟨by decide +kernel, by decide +kernel⟩, List.mem_of_getElem? (i := 560) (by decide +kernel), List.mem_of_getElem? (i := 808) (by decide +kernel), List.mem_of_getElem? (i := 809) (by decide +kernel)⟩
theorem lw_p27 : lw_okq (⟨"WolfCalendarModel", "flockNow", "(II)I"⟩, 43) := ⟨⟨by decide +kernel, by decide +kernel⟩, List.mem_of_getElem? (i := 560) (by decide +kernel), List.mem_of_getElem? (i := 812) (by decide +kernel), List.mem_of_getElem? (i := 813) (by decide +kernel)⟩
theorem lw_p28 : lw_okq (⟨"WolfCalendarModel", "isFlock", "(I)Z"⟩, 43) := ⟨⟨by decide +kernel, by decide +kernel⟩, List.mem_of_getElem? (i := 560) (by decide +kernel), List.mem_of_getElem? (i := 820) (by decide +kernel), List.mem_of_getElem? (i := 821) (by decide +kernel)⟩
theorem lw_p29 : lw_okq (⟨"WolfCalendarModel", "goDay", "()I"⟩, 43) := ⟨⟨by decide +kernel, by decide +kernel⟩, List.mem_of_getElem? (i := 560) (by decide +kernel), List.mem_of_getElem? (i := 832) (by decide +kernel), List.mem_of_getElem? (i := 833) (by decide +kernel)⟩
theorem lw_p30 : lw_okq (⟨"WolfCalendarModel", "lossNow", "(I)I"⟩, 43) := ⟨⟨by decide +kernel, by decide +kernel⟩, List.mem_of_getElem? (i := 560) (by decide +kernel), List.mem_of_getElem? (i := 840) (by decide +kernel), List.mem_of_getElem? (i := 841) (by decide +kernel)⟩
theorem lw_p31 : lw_okq (⟨"WolfCalendarModel", "eatenAll", "()I"⟩, 43) := ⟨⟨by decide +kernel, by decide +kernel⟩, List.mem_of_getElem? (i := 560) (by decide +kernel), List.mem_of_getElem? (i := 844) (by decide +kernel), List.mem_of_getElem? (i := 845) (by decide +kernel)⟩
def lw_privs_2 : List (MethodName × Nat) := [(⟨"WolfCalendarModel", "dayTold", "(II)I"⟩, 43), (⟨"WolfCalendarModel", "isFeast", "(I)Z"⟩, 43), (⟨"WolfCalendarModel", "isPack", "(I)Z"⟩, 43), (⟨"WolfCalendarModel", "packNow", "(II)I"⟩, 43), (⟨"WolfCalendarModel", "readsNow", "(II)I"⟩, 43), (⟨"WolfCalendarModel", "fasts", "(II)Z"⟩, 43), (⟨"WolfCalendarModel", "fastsBy", "(IIII)Z"⟩, 43), (⟨"WolfCalendarModel", "prey", "(II)I"⟩, 43), (⟨"WolfCalendarModel", "preyIn", "(II)I"⟩, 43), (⟨"WolfCalendarModel", "eatenMany", "(I)I"⟩, 43), (⟨"WolfCalendarModel", "isThere", "(I)Z"⟩, 43), (⟨"WolfCalendarModel", "flockNow", "(II)I"⟩, 43), (⟨"WolfCalendarModel", "isFlock", "(I)Z"⟩, 43), (⟨"WolfCalendarModel", "goDay", "()I"⟩, 43), (⟨"WolfCalendarModel", "lossNow", "(I)I"⟩, 43), (⟨"WolfCalendarModel", "eatenAll", "()I"⟩, 43)]
theorem lw_r2 : ∀ q ∈ lw_privs_2, lw_okq q := List.forall_mem_cons.mpr ⟨lw_p16, List.forall_mem_cons.mpr ⟨lw_p17, List.forall_mem_cons.mpr ⟨lw_p18, List.forall_mem_cons.mpr ⟨lw_p19, List.forall_mem_cons.mpr ⟨lw_p20, List.forall_mem_cons.mpr ⟨lw_p21, List.forall_mem_cons.mpr ⟨lw_p22, List.forall_mem_cons.mpr ⟨lw_p23, List.forall_mem_cons.mpr ⟨lw_p24, List.forall_mem_cons.mpr ⟨lw_p25, List.forall_mem_cons.mpr ⟨lw_p26, List.forall_mem_cons.mpr ⟨lw_p27, List.forall_mem_cons.mpr ⟨lw_p28, List.forall_mem_cons.mpr ⟨lw_p29, List.forall_mem_cons.mpr ⟨lw_p30, List.forall_mem_cons.mpr ⟨lw_p31, fun _ h => absurd h List.not_mem_nil⟩⟩⟩⟩⟩⟩⟩⟩⟩⟩⟩⟩⟩⟩⟩⟩
theorem lw_p32 : lw_okq (⟨"WolfCalendarModel", "save", "()V"⟩, 43) := ⟨⟨by decide +kernel, by decide +kernel⟩, List.mem_of_getElem? (i := 560) (by decide +kernel), List.mem_of_getElem? (i := 848) (by decide +kernel), List.mem_of_getElem? (i := 849) (by decide +kernel)⟩
theorem lw_p33 : lw_okq (⟨"WolfCalendarModel", "back", "()V"⟩, 43) := ⟨⟨by decide +kernel, by decide +kernel⟩, List.mem_of_getElem? (i := 560) (by decide +kernel), List.mem_of_getElem? (i := 852) (by decide +kernel), List.mem_of_getElem? (i := 853) (by decide +kernel)⟩
theorem lw_p34 : lw_okq (⟨"WolfCalendarModel", "fallsNow", "(I)I"⟩, 43) := ⟨⟨by decide +kernel, by decide +kernel⟩, List.mem_of_getElem? (i := 560) (by decide +kernel), List.mem_of_getElem? (i := 860) (by decide +kernel), List.mem_of_getElem? (i := 861) (by decide +kernel)⟩
theorem lw_p35 : lw_okq (⟨"WolfCalendarModel", "fallsIn", "(II)I"⟩, 43) := ⟨⟨by decide +kernel, by decide +kernel⟩, List.mem_of_getElem? (i := 560) (by decide +kernel), List.mem_of_getElem? (i := 864) (by decide +kernel), List.mem_of_getElem? (i := 865) (by decide +kernel)⟩
theorem lw_p36 : lw_okq (⟨"WolfCalendarModel", "safeNow", "(II)I"⟩, 43) := ⟨⟨by decide +kernel, by decide +kernel⟩, List.mem_of_getElem? (i := 560) (by decide +kernel), List.mem_of_getElem? (i := 872) (by decide +kernel), List.mem_of_getElem? (i := 873) (by decide +kernel)⟩
theorem lw_p37 : lw_okq (⟨"WolfCalendarModel", "grazeNow", "(III)I"⟩, 43) := ⟨⟨by decide +kernel, by decide +kernel⟩, List.mem_of_getElem? (i := 560) (by decide +kernel), List.mem_of_getElem? (i := 880) (by decide +kernel), List.mem_of_getElem? (i := 881) (by decide +kernel)⟩
theorem lw_p38 : lw_okq (⟨"WolfCalendarModel", "grazesBy", "(III)Z"⟩, 43) := ⟨⟨by decide +kernel, by decide +kernel⟩, List.mem_of_getElem? (i := 560) (by decide +kernel), List.mem_of_getElem? (i := 887) (by decide +kernel), List.mem_of_getElem? (i := 888) (by decide +kernel)⟩
theorem lw_p39 : lw_okq (⟨"WolfCalendarModel", "nailNow", "(II)I"⟩, 43) := ⟨⟨by decide +kernel, by decide +kernel⟩, List.mem_of_getElem? (i := 560) (by decide +kernel), List.mem_of_getElem? (i := 895) (by decide +kernel), List.mem_of_getElem? (i := 896) (by decide +kernel)⟩
theorem lw_p40 : lw_okq (⟨"WolfCalendarModel", "fastsOn", "(II)I"⟩, 43) := ⟨⟨by decide +kernel, by decide +kernel⟩, List.mem_of_getElem? (i := 560) (by decide +kernel), List.mem_of_getElem? (i := 899) (by decide +kernel), List.mem_of_getElem? (i := 900) (by decide +kernel)⟩
theorem lw_p41 : lw_okq (⟨"WolfCalendarModel", "fitsNow", "(I)I"⟩, 43) := ⟨⟨by decide +kernel, by decide +kernel⟩, List.mem_of_getElem? (i := 560) (by decide +kernel), List.mem_of_getElem? (i := 915) (by decide +kernel), List.mem_of_getElem? (i := 916) (by decide +kernel)⟩
theorem lw_p42 : lw_okq (⟨"WolfCalendarModel", "isSeenSo", "(II)Z"⟩, 43) := ⟨⟨by decide +kernel, by decide +kernel⟩, List.mem_of_getElem? (i := 560) (by decide +kernel), List.mem_of_getElem? (i := 919) (by decide +kernel), List.mem_of_getElem? (i := 920) (by decide +kernel)⟩
theorem lw_p43 : lw_okq (⟨"WolfCalendarModel", "yearsNow", "(III)I"⟩, 43) := ⟨⟨by decide +kernel, by decide +kernel⟩, List.mem_of_getElem? (i := 560) (by decide +kernel), List.mem_of_getElem? (i := 927) (by decide +kernel), List.mem_of_getElem? (i := 928) (by decide +kernel)⟩
theorem lw_p44 : lw_okq (⟨"WolfCalendarModel", "draw", "(I)I"⟩, 43) := ⟨⟨by decide +kernel, by decide +kernel⟩, List.mem_of_getElem? (i := 560) (by decide +kernel), List.mem_of_getElem? (i := 931) (by decide +kernel), List.mem_of_getElem? (i := 932) (by decide +kernel)⟩
theorem lw_p45 : lw_okq (⟨"WolfCalendarModel", "howMany", "(I)I"⟩, 43) := ⟨⟨by decide +kernel, by decide +kernel⟩, List.mem_of_getElem? (i := 560) (by decide +kernel), List.mem_of_getElem? (i := 951) (by decide +kernel), List.mem_of_getElem? (i := 952) (by decide +kernel)⟩
theorem lw_p46 : lw_okq (⟨"WolfCalendarModel", "forgedMany", "()I"⟩, 43) := ⟨⟨by decide +kernel, by decide +kernel⟩, List.mem_of_getElem? (i := 560) (by decide +kernel), List.mem_of_getElem? (i := 955) (by decide +kernel), List.mem_of_getElem? (i := 956) (by decide +kernel)⟩
theorem lw_p47 : lw_okq (⟨"WolfCalendarModel", "mix", "(J)V"⟩, 43) := ⟨⟨by decide +kernel, by decide +kernel⟩, List.mem_of_getElem? (i := 560) (by decide +kernel), List.mem_of_getElem? (i := 964) (by decide +kernel), List.mem_of_getElem? (i := 965) (by decide +kernel)⟩
def lw_privs_3 : List (MethodName × Nat) := [(⟨"WolfCalendarModel", "save", "()V"⟩, 43), (⟨"WolfCalendarModel", "back", "()V"⟩, 43), (⟨"WolfCalendarModel", "fallsNow", "(I)I"⟩, 43), (⟨"WolfCalendarModel", "fallsIn", "(II)I"⟩, 43), (⟨"WolfCalendarModel", "safeNow", "(II)I"⟩, 43), (⟨"WolfCalendarModel", "grazeNow", "(III)I"⟩, 43), (⟨"WolfCalendarModel", "grazesBy", "(III)Z"⟩, 43), (⟨"WolfCalendarModel", "nailNow", "(II)I"⟩, 43), (⟨"WolfCalendarModel", "fastsOn", "(II)I"⟩, 43), (⟨"WolfCalendarModel", "fitsNow", "(I)I"⟩, 43), (⟨"WolfCalendarModel", "isSeenSo", "(II)Z"⟩, 43), (⟨"WolfCalendarModel", "yearsNow", "(III)I"⟩, 43), (⟨"WolfCalendarModel", "draw", "(I)I"⟩, 43), (⟨"WolfCalendarModel", "howMany", "(I)I"⟩, 43), (⟨"WolfCalendarModel", "forgedMany", "()I"⟩, 43), (⟨"WolfCalendarModel", "mix", "(J)V"⟩, 43)]
theorem lw_r3 : ∀ q ∈ lw_privs_3, lw_okq q := List.forall_mem_cons.mpr ⟨lw_p32, List.forall_mem_cons.mpr ⟨lw_p33, List.forall_mem_cons.mpr ⟨lw_p34, List.forall_mem_cons.mpr ⟨lw_p35, List.forall_mem_cons.mpr ⟨lw_p36, List.forall_mem_cons.mpr ⟨lw_p37, List.forall_mem_cons.mpr ⟨lw_p38, List.forall_mem_cons.mpr ⟨lw_p39, List.forall_mem_cons.mpr ⟨lw_p40, List.forall_mem_cons.mpr ⟨lw_p41, List.forall_mem_cons.mpr ⟨lw_p42, List.forall_mem_cons.mpr ⟨lw_p43, List.forall_mem_cons.mpr ⟨lw_p44, List.forall_mem_cons.mpr ⟨lw_p45, List.forall_mem_cons.mpr ⟨lw_p46, List.forall_mem_cons.mpr ⟨lw_p47, fun _ h => absurd h List.not_mem_nil⟩⟩⟩⟩⟩⟩⟩⟩⟩⟩⟩⟩⟩⟩⟩⟩
theorem lw_p48 : lw_okq (⟨"WolfCalendarModel", "mixFlock", "(I)V"⟩, 43) := ⟨⟨by decide +kernel, by decide +kernel⟩, List.mem_of_getElem? (i := 560) (by decide +kernel), List.mem_of_getElem? (i := 969) (by decide +kernel), List.mem_of_getElem? (i := 970) (by decide +kernel)⟩
def lw_privs_4 : List (MethodName × Nat) := [(⟨"WolfCalendarModel", "mixFlock", "(I)V"⟩, 43)]
theorem lw_r4 : ∀ q ∈ lw_privs_4, lw_okq q := List.forall_mem_cons.mpr ⟨lw_p48, fun _ h => absurd h List.not_mem_nil⟩
def lw_privs : List (MethodName × Nat) := lw_privs_1 ++ (lw_privs_2 ++ (lw_privs_3 ++ (lw_privs_4)))
def lw_tbl : List Cond := k2_sels lw_privs ++ tables_1
theorem lw_privs_ok : ∀ q ∈ lw_privs, lw_okq q := by
  show ∀ q ∈ lw_privs_1 ++ (lw_privs_2 ++ (lw_privs_3 ++ (lw_privs_4))), lw_okq q
  exact List.forall_mem_append.mpr ⟨lw_r1, List.forall_mem_append.mpr ⟨lw_r2, List.forall_mem_append.mpr ⟨lw_r3, lw_r4⟩⟩⟩
def RX0 : String := "WolfCalendar$Draws"
def TX0 : u_T := fun k => match k with
  | _ => ("WolfCalendar$Draws", "seed", "J", false)
def tyX0 : Nat → FieldType := fun k => match k with
  | _ => .long
theorem nmX0 : ∀ a, a < 1 → ∀ b, b < 1 → a ≠ b → (TX0 a).2.1 ≠ (TX0 b).2.1 := by decide +kernel
theorem tyX0_ok : ∀ k, k < 1 → parseFieldDescriptor (TX0 k).2.2.1 = some (tyX0 k) := by decide +kernel
abbrev cX0_init : ByteArray := prog_2_method_1_code
def yX0_init : MethodName := ⟨RX0, "<init>", "()V"⟩
abbrev cX0_next : ByteArray := prog_2_method_2_code
def yX0_next : MethodName := ⟨RX0, "next", "()I"⟩
def RX1 : String := "WolfCalendar$Feasts"
def TX1 : u_T := fun k => match k with
  | 0 => ("WolfCalendar$Feasts", "marks", "[Z", true)
  | _ => ("WolfCalendar$Feasts", "number", "I", false)
def tyX1 : Nat → FieldType := fun k => match k with
  | 0 => .array .boolean
  | _ => .int
theorem nmX1 : ∀ a, a < 2 → ∀ b, b < 2 → a ≠ b → (TX1 a).2.1 ≠ (TX1 b).2.1 := by decide +kernel
theorem tyX1_ok : ∀ k, k < 2 → parseFieldDescriptor (TX1 k).2.2.1 = some (tyX1 k) := by decide +kernel
abbrev cX1_init : ByteArray := prog_3_method_1_code
def yX1_init : MethodName := ⟨RX1, "<init>", "()V"⟩
abbrev cX1_isFeast : ByteArray := prog_3_method_2_code
def yX1_isFeast : MethodName := ⟨RX1, "isFeast", "(I)Z"⟩
abbrev cX1_readFrom : ByteArray := prog_3_method_3_code
def yX1_readFrom : MethodName := ⟨RX1, "readFrom", "(LWolfCalendar$Page;)V"⟩
abbrev cX1_placeOfWeekday : ByteArray := prog_3_method_4_code
def yX1_placeOfWeekday : MethodName := ⟨RX1, "placeOfWeekday", "(III)I"⟩
def RX2 : String := "WolfCalendar$Flock"
def TX2 : u_T := fun k => match k with
  | 0 => ("WolfCalendar$Flock", "called", "I", false)
  | 1 => ("WolfCalendar$Flock", "cell", "I", false)
  | _ => ("WolfCalendar$Flock", "eater", "I", false)
def tyX2 : Nat → FieldType := fun k => match k with
  | 0 => .int
  | 1 => .int
  | _ => .int
theorem nmX2 : ∀ a, a < 3 → ∀ b, b < 3 → a ≠ b → (TX2 a).2.1 ≠ (TX2 b).2.1 := by decide +kernel
theorem tyX2_ok : ∀ k, k < 3 → parseFieldDescriptor (TX2 k).2.2.1 = some (tyX2 k) := by decide +kernel
abbrev cX2_init : ByteArray := prog_4_method_1_code
def yX2_init : MethodName := ⟨RX2, "<init>", "()V"⟩
abbrev cX2_become : ByteArray := prog_4_method_2_code
def yX2_become : MethodName := ⟨RX2, "become", "(II)V"⟩
abbrev cX2_copyFrom : ByteArray := prog_4_method_3_code
def yX2_copyFrom : MethodName := ⟨RX2, "copyFrom", "(LWolfCalendar$Flock;)V"⟩
def RX3 : String := "WolfCalendar$Kind"
def TX3 : u_T := fun k => match k with
  | _ => ("", "", "", false)
def tyX3 : Nat → FieldType := fun k => match k with
  | _ => .int
theorem nmX3 : ∀ a, a < 0 → ∀ b, b < 0 → a ≠ b → (TX3 a).2.1 ≠ (TX3 b).2.1 := by decide +kernel
theorem tyX3_ok : ∀ k, k < 0 → parseFieldDescriptor (TX3 k).2.2.1 = some (tyX3 k) := by decide +kernel
abbrev cX3_isSuch : ByteArray := prog_5_method_4_code
def yX3_isSuch : MethodName := ⟨RX3, "isSuch", "(LWolfCalendar$Kind;)Z"⟩
abbrev cX3_reads : ByteArray := prog_5_method_5_code
def yX3_reads : MethodName := ⟨RX3, "reads", "(III)I"⟩
abbrev cX3_fastsOn : ByteArray := prog_5_method_6_code
def yX3_fastsOn : MethodName := ⟨RX3, "fastsOn", "(ILWolfCalendar$Feasts;)Z"⟩
def RX4 : String := "WolfCalendar$Pack"
def TX4 : u_T := fun k => match k with
  | 0 => ("WolfCalendar$Pack", "kind", "LWolfCalendar$Kind;", false)
  | 1 => ("WolfCalendar$Pack", "cell", "I", false)
  | _ => ("WolfCalendar$Pack", "lag", "I", false)
def tyX4 : Nat → FieldType := fun k => match k with
  | 0 => .object "WolfCalendar$Kind"
  | 1 => .int
  | _ => .int
theorem nmX4 : ∀ a, a < 3 → ∀ b, b < 3 → a ≠ b → (TX4 a).2.1 ≠ (TX4 b).2.1 := by decide +kernel
theorem tyX4_ok : ∀ k, k < 3 → parseFieldDescriptor (TX4 k).2.2.1 = some (tyX4 k) := by decide +kernel
abbrev cX4_init : ByteArray := prog_6_method_1_code
def yX4_init : MethodName := ⟨RX4, "<init>", "()V"⟩
abbrev cX4_become : ByteArray := prog_6_method_2_code
def yX4_become : MethodName := ⟨RX4, "become", "(LWolfCalendar$Kind;II)V"⟩
def RX5 : String := "WolfCalendar$Page"
def TX5 : u_T := fun k => match k with
  | 0 => ("WolfCalendar$Page", "letters", "[C", true)
  | _ => ("WolfCalendar$Page", "length", "I", false)
def tyX5 : Nat → FieldType := fun k => match k with
  | 0 => .array .char
  | _ => .int
theorem nmX5 : ∀ a, a < 2 → ∀ b, b < 2 → a ≠ b → (TX5 a).2.1 ≠ (TX5 b).2.1 := by decide +kernel
theorem tyX5_ok : ∀ k, k < 2 → parseFieldDescriptor (TX5 k).2.2.1 = some (tyX5 k) := by decide +kernel
abbrev cX5_init : ByteArray := prog_7_method_1_code
def yX5_init : MethodName := ⟨RX5, "<init>", "()V"⟩
abbrev cX5_put : ByteArray := prog_7_method_2_code
def yX5_put : MethodName := ⟨RX5, "put", "(C)Z"⟩
abbrev cX5_clear : ByteArray := prog_7_method_3_code
def yX5_clear : MethodName := ⟨RX5, "clear", "()V"⟩
abbrev cX5_firstFault : ByteArray := prog_7_method_4_code
def yX5_firstFault : MethodName := ⟨RX5, "firstFault", "()I"⟩
abbrev cX5_isWhole : ByteArray := prog_7_method_5_code
def yX5_isWhole : MethodName := ⟨RX5, "isWhole", "()Z"⟩
abbrev cX5_mayStand : ByteArray := prog_7_method_6_code
def yX5_mayStand : MethodName := ⟨RX5, "mayStand", "(I)Z"⟩
abbrev cX5_staysAt : ByteArray := prog_7_method_7_code
def yX5_staysAt : MethodName := ⟨RX5, "staysAt", "(I)Z"⟩
abbrev cX5_digitAt : ByteArray := prog_7_method_8_code
def yX5_digitAt : MethodName := ⟨RX5, "digitAt", "(I)I"⟩
def RX6 : String := "WolfCalendar$Sight"
def TX6 : u_T := fun k => match k with
  | 0 => ("WolfCalendar$Sight", "pack", "I", false)
  | 1 => ("WolfCalendar$Sight", "from", "I", false)
  | 2 => ("WolfCalendar$Sight", "days", "I", false)
  | _ => ("WolfCalendar$Sight", "hunts", "I", false)
def tyX6 : Nat → FieldType := fun k => match k with
  | 0 => .int
  | 1 => .int
  | 2 => .int
  | _ => .int
theorem nmX6 : ∀ a, a < 4 → ∀ b, b < 4 → a ≠ b → (TX6 a).2.1 ≠ (TX6 b).2.1 := by decide +kernel
theorem tyX6_ok : ∀ k, k < 4 → parseFieldDescriptor (TX6 k).2.2.1 = some (tyX6 k) := by decide +kernel
abbrev cX6_init : ByteArray := prog_8_method_1_code
def yX6_init : MethodName := ⟨RX6, "<init>", "()V"⟩
abbrev cX6_hasBegun : ByteArray := prog_8_method_2_code
def yX6_hasBegun : MethodName := ⟨RX6, "hasBegun", "()Z"⟩
abbrev cX6_beginWith : ByteArray := prog_8_method_3_code
def yX6_beginWith : MethodName := ⟨RX6, "beginWith", "(II)V"⟩
abbrev cX6_put : ByteArray := prog_8_method_4_code
def yX6_put : MethodName := ⟨RX6, "put", "(Z)V"⟩
abbrev cX6_huntedAt : ByteArray := prog_8_method_5_code
def yX6_huntedAt : MethodName := ⟨RX6, "huntedAt", "(I)Z"⟩
abbrev cX6_copyFrom : ByteArray := prog_8_method_6_code
def yX6_copyFrom : MethodName := ⟨RX6, "copyFrom", "(LWolfCalendar$Sight;)V"⟩
def RX7 : String := "WolfCalendar$World"
def TX7 : u_T := fun k => match k with
  | 0 => ("WolfCalendar$World", "packs", "[LWolfCalendar$Pack;", true)
  | 1 => ("WolfCalendar$World", "flocks", "[LWolfCalendar$Flock;", true)
  | 2 => ("WolfCalendar$World", "forged", "[I", true)
  | 3 => ("WolfCalendar$World", "sight", "LWolfCalendar$Sight;", true)
  | 4 => ("WolfCalendar$World", "packCount", "I", false)
  | 5 => ("WolfCalendar$World", "flockCount", "I", false)
  | 6 => ("WolfCalendar$World", "today", "I", false)
  | _ => ("WolfCalendar$World", "eaten", "I", false)
def tyX7 : Nat → FieldType := fun k => match k with
  | 0 => .array (.object "WolfCalendar$Pack")
  | 1 => .array (.object "WolfCalendar$Flock")
  | 2 => .array .int
  | 3 => .object "WolfCalendar$Sight"
  | 4 => .int
  | 5 => .int
  | 6 => .int
  | _ => .int
theorem nmX7 : ∀ a, a < 8 → ∀ b, b < 8 → a ≠ b → (TX7 a).2.1 ≠ (TX7 b).2.1 := by decide +kernel
theorem tyX7_ok : ∀ k, k < 8 → parseFieldDescriptor (TX7 k).2.2.1 = some (tyX7 k) := by decide +kernel
abbrev cX7_init : ByteArray := prog_9_method_1_code
def yX7_init : MethodName := ⟨RX7, "<init>", "()V"⟩
abbrev cX7_copyFrom : ByteArray := prog_9_method_2_code
def yX7_copyFrom : MethodName := ⟨RX7, "copyFrom", "(LWolfCalendar$World;)V"⟩
abbrev cX7_goBackTo : ByteArray := prog_9_method_3_code
def yX7_goBackTo : MethodName := ⟨RX7, "goBackTo", "(II)V"⟩
abbrev cX7_hasPack : ByteArray := prog_9_method_4_code
def yX7_hasPack : MethodName := ⟨RX7, "hasPack", "(I)Z"⟩
abbrev cX7_hasFlock : ByteArray := prog_9_method_5_code
def yX7_hasFlock : MethodName := ⟨RX7, "hasFlock", "(I)Z"⟩
abbrev cX7_isEaten : ByteArray := prog_9_method_6_code
def yX7_isEaten : MethodName := ⟨RX7, "isEaten", "(I)Z"⟩
abbrev cX7_isGrazing : ByteArray := prog_9_method_7_code
def yX7_isGrazing : MethodName := ⟨RX7, "isGrazing", "(I)Z"⟩
abbrev cX7_eatenInAll : ByteArray := prog_9_method_8_code
def yX7_eatenInAll : MethodName := ⟨RX7, "eatenInAll", "()I"⟩
abbrev cX7_eatenBy : ByteArray := prog_9_method_9_code
def yX7_eatenBy : MethodName := ⟨RX7, "eatenBy", "(I)I"⟩
abbrev cX7_forgedCells : ByteArray := prog_9_method_10_code
def yX7_forgedCells : MethodName := ⟨RX7, "forgedCells", "()I"⟩
abbrev cX7_readBy : ByteArray := prog_9_method_11_code
def yX7_readBy : MethodName := ⟨RX7, "readBy", "(LWolfCalendar$Pack;)I"⟩
abbrev cX7_preyOf : ByteArray := prog_9_method_12_code
def yX7_preyOf : MethodName := ⟨RX7, "preyOf", "(LWolfCalendar$Pack;LWolfCalendar$Feasts;)I"⟩
abbrev cX7_firstIn : ByteArray := prog_9_method_13_code
def yX7_firstIn : MethodName := ⟨RX7, "firstIn", "(II)I"⟩
abbrev cX7_passDay : ByteArray := prog_9_method_14_code
def yX7_passDay : MethodName := ⟨RX7, "passDay", "(LWolfCalendar$Feasts;)I"⟩
abbrev cX7_daysUntilEaten : ByteArray := prog_9_method_15_code
def yX7_daysUntilEaten : MethodName := ⟨RX7, "daysUntilEaten", "(IILWolfCalendar$Feasts;)I"⟩
def RX8 : String := "WolfCalendar"
def TX8 : u_T := fun k => match k with
  | 0 => ("WolfCalendar", "page", "LWolfCalendar$Page;", true)
  | 1 => ("WolfCalendar", "calendar", "LWolfCalendar$Feasts;", true)
  | 2 => ("WolfCalendar", "now", "LWolfCalendar$World;", true)
  | 3 => ("WolfCalendar", "kept", "LWolfCalendar$World;", true)
  | 4 => ("WolfCalendar", "trial", "LWolfCalendar$World;", true)
  | 5 => ("WolfCalendar", "draws", "LWolfCalendar$Draws;", true)
  | 6 => ("WolfCalendar", "imageKept", "Z", false)
  | 7 => ("WolfCalendar", "timesRead", "I", false)
  | _ => ("WolfCalendar", "timesGrazed", "I", false)
def tyX8 : Nat → FieldType := fun k => match k with
  | 0 => .object "WolfCalendar$Page"
  | 1 => .object "WolfCalendar$Feasts"
  | 2 => .object "WolfCalendar$World"
  | 3 => .object "WolfCalendar$World"
  | 4 => .object "WolfCalendar$World"
  | 5 => .object "WolfCalendar$Draws"
  | 6 => .boolean
  | 7 => .int
  | _ => .int
theorem nmX8 : ∀ a, a < 9 → ∀ b, b < 9 → a ≠ b → (TX8 a).2.1 ≠ (TX8 b).2.1 := by decide +kernel
theorem tyX8_ok : ∀ k, k < 9 → parseFieldDescriptor (TX8 k).2.2.1 = some (tyX8 k) := by decide +kernel
abbrev cX8_init : ByteArray := prog_1_method_1_code
def yX8_init : MethodName := ⟨RX8, "<init>", "()V"⟩
abbrev cX8_letter : ByteArray := prog_1_method_2_code
def yX8_letter : MethodName := ⟨RX8, "letter", "(I)I"⟩
abbrev cX8_blank : ByteArray := prog_1_method_3_code
def yX8_blank : MethodName := ⟨RX8, "blank", "()I"⟩
abbrev cX8_fault : ByteArray := prog_1_method_4_code
def yX8_fault : MethodName := ⟨RX8, "fault", "()I"⟩
abbrev cX8_feasts : ByteArray := prog_1_method_5_code
def yX8_feasts : MethodName := ⟨RX8, "feasts", "()I"⟩
abbrev cX8_dayOf : ByteArray := prog_1_method_6_code
def yX8_dayOf : MethodName := ⟨RX8, "dayOf", "(II)I"⟩
abbrev cX8_forge : ByteArray := prog_1_method_7_code
def yX8_forge : MethodName := ⟨RX8, "forge", "(II)I"⟩
abbrev cX8_pack : ByteArray := prog_1_method_8_code
def yX8_pack : MethodName := ⟨RX8, "pack", "(III)I"⟩
abbrev cX8_about : ByteArray := prog_1_method_9_code
def yX8_about : MethodName := ⟨RX8, "about", "(II)I"⟩
abbrev cX8_as : ByteArray := prog_1_method_10_code
def yX8_as : MethodName := ⟨RX8, "as", "(II)I"⟩
abbrev cX8_flock : ByteArray := prog_1_method_11_code
def yX8_flock : MethodName := ⟨RX8, "flock", "(II)I"⟩
abbrev cX8_flockOf : ByteArray := prog_1_method_12_code
def yX8_flockOf : MethodName := ⟨RX8, "flockOf", "(II)I"⟩
abbrev cX8_name : ByteArray := prog_1_method_13_code
def yX8_name : MethodName := ⟨RX8, "name", "(II)I"⟩
abbrev cX8_move : ByteArray := prog_1_method_14_code
def yX8_move : MethodName := ⟨RX8, "move", "(II)I"⟩
abbrev cX8_day : ByteArray := prog_1_method_15_code
def yX8_day : MethodName := ⟨RX8, "day", "()I"⟩
abbrev cX8_loss : ByteArray := prog_1_method_16_code
def yX8_loss : MethodName := ⟨RX8, "loss", "(I)I"⟩
abbrev cX8_falls : ByteArray := prog_1_method_17_code
def yX8_falls : MethodName := ⟨RX8, "falls", "(I)I"⟩
abbrev cX8_safe : ByteArray := prog_1_method_18_code
def yX8_safe : MethodName := ⟨RX8, "safe", "(II)I"⟩
abbrev cX8_graze : ByteArray := prog_1_method_19_code
def yX8_graze : MethodName := ⟨RX8, "graze", "(III)I"⟩
abbrev cX8_nail : ByteArray := prog_1_method_20_code
def yX8_nail : MethodName := ⟨RX8, "nail", "(II)I"⟩
abbrev cX8_watch : ByteArray := prog_1_method_21_code
def yX8_watch : MethodName := ⟨RX8, "watch", "(I)I"⟩
abbrev cX8_seen : ByteArray := prog_1_method_22_code
def yX8_seen : MethodName := ⟨RX8, "seen", "(Z)I"⟩
abbrev cX8_fits : ByteArray := prog_1_method_23_code
def yX8_fits : MethodName := ⟨RX8, "fits", "(I)I"⟩
abbrev cX8_years : ByteArray := prog_1_method_24_code
def yX8_years : MethodName := ⟨RX8, "years", "(III)I"⟩
abbrev cX8_image : ByteArray := prog_1_method_25_code
def yX8_image : MethodName := ⟨RX8, "image", "()I"⟩
abbrev cX8_restore : ByteArray := prog_1_method_26_code
def yX8_restore : MethodName := ⟨RX8, "restore", "()I"⟩
abbrev cX8_count : ByteArray := prog_1_method_27_code
def yX8_count : MethodName := ⟨RX8, "count", "(I)I"⟩
abbrev cX8_digest : ByteArray := prog_1_method_28_code
def yX8_digest : MethodName := ⟨RX8, "digest", "()J"⟩
abbrev cX8_isCell : ByteArray := prog_1_method_29_code
def yX8_isCell : MethodName := ⟨RX8, "isCell", "(I)Z"⟩
abbrev cX8_isName : ByteArray := prog_1_method_30_code
def yX8_isName : MethodName := ⟨RX8, "isName", "(I)Z"⟩
abbrev cX8_isKind : ByteArray := prog_1_method_31_code
def yX8_isKind : MethodName := ⟨RX8, "isKind", "(I)Z"⟩
abbrev cX8_nameOfDay : ByteArray := prog_1_method_32_code
def yX8_nameOfDay : MethodName := ⟨RX8, "nameOfDay", "(I)I"⟩
abbrev cX8_trialFromNow : ByteArray := prog_1_method_33_code
def yX8_trialFromNow : MethodName := ⟨RX8, "trialFromNow", "()V"⟩
abbrev cX8_lossIn : ByteArray := prog_1_method_34_code
def yX8_lossIn : MethodName := ⟨RX8, "lossIn", "(I)I"⟩
abbrev cX8_firstCellOfGrazing : ByteArray := prog_1_method_35_code
def yX8_firstCellOfGrazing : MethodName := ⟨RX8, "firstCellOfGrazing", "(II)I"⟩
abbrev cX8_rowsBehind : ByteArray := prog_1_method_36_code
def yX8_rowsBehind : MethodName := ⟨RX8, "rowsBehind", "(II)I"⟩
abbrev cX8_rowsThrough : ByteArray := prog_1_method_37_code
def yX8_rowsThrough : MethodName := ⟨RX8, "rowsThrough", "(III)I"⟩
abbrev cX8_fastsOnEnd : ByteArray := prog_1_method_38_code
def yX8_fastsOnEnd : MethodName := ⟨RX8, "fastsOnEnd", "(LWolfCalendar$Pack;I)I"⟩
abbrev cX8_fittingLags : ByteArray := prog_1_method_39_code
def yX8_fittingLags : MethodName := ⟨RX8, "fittingLags", "(LWolfCalendar$Pack;)I"⟩
abbrev cX8_fittingKinds : ByteArray := prog_1_method_40_code
def yX8_fittingKinds : MethodName := ⟨RX8, "fittingKinds", "(LWolfCalendar$Pack;)I"⟩
abbrev cX8_didJustSo : ByteArray := prog_1_method_41_code
def yX8_didJustSo : MethodName := ⟨RX8, "didJustSo", "(LWolfCalendar$Kind;II)Z"⟩
abbrev cX8_mixed : ByteArray := prog_1_method_42_code
def yX8_mixed : MethodName := ⟨RX8, "mixed", "(JJ)J"⟩
abbrev cX8_withPacks : ByteArray := prog_1_method_43_code
def yX8_withPacks : MethodName := ⟨RX8, "withPacks", "(J)J"⟩
abbrev cX8_withFlocks : ByteArray := prog_1_method_44_code
def yX8_withFlocks : MethodName := ⟨RX8, "withFlocks", "(J)J"⟩
def RX9 : String := "WolfCalendarModel"
def TX9 : u_T := fun k => match k with
  | 0 => ("WolfCalendarModel", "reads", "I", false)
  | 1 => ("WolfCalendarModel", "feasts", "I", false)
  | 2 => ("WolfCalendarModel", "feastOf", "[I", true)
  | 3 => ("WolfCalendarModel", "day", "I", false)
  | 4 => ("WolfCalendarModel", "forgedOf", "[I", true)
  | 5 => ("WolfCalendarModel", "packs", "I", false)
  | 6 => ("WolfCalendarModel", "kindOf", "[I", true)
  | 7 => ("WolfCalendarModel", "cellOf", "[I", true)
  | 8 => ("WolfCalendarModel", "lagOf", "[I", true)
  | 9 => ("WolfCalendarModel", "flocks", "I", false)
  | 10 => ("WolfCalendarModel", "nameOf", "[I", true)
  | 11 => ("WolfCalendarModel", "flockCell", "[I", true)
  | 12 => ("WolfCalendarModel", "eatenBy", "[I", true)
  | 13 => ("WolfCalendarModel", "watched", "I", false)
  | 14 => ("WolfCalendarModel", "watchedFrom", "I", false)
  | 15 => ("WolfCalendarModel", "seen", "I", false)
  | 16 => ("WolfCalendarModel", "seenOf", "[I", true)
  | 17 => ("WolfCalendarModel", "asks", "I", false)
  | 18 => ("WolfCalendarModel", "pageLength", "I", false)
  | 19 => ("WolfCalendarModel", "page", "[B", true)
  | 20 => ("WolfCalendarModel", "faultAt", "I", false)
  | 21 => ("WolfCalendarModel", "isWhole", "Z", false)
  | 22 => ("WolfCalendarModel", "newFeasts", "I", false)
  | 23 => ("WolfCalendarModel", "newFeast", "[I", true)
  | 24 => ("WolfCalendarModel", "savedDay", "I", false)
  | 25 => ("WolfCalendarModel", "savedForged", "[I", true)
  | 26 => ("WolfCalendarModel", "savedName", "[I", true)
  | 27 => ("WolfCalendarModel", "savedCell", "[I", true)
  | 28 => ("WolfCalendarModel", "savedBy", "[I", true)
  | 29 => ("WolfCalendarModel", "seedNow", "J", false)
  | 30 => ("WolfCalendarModel", "isKept", "Z", false)
  | 31 => ("WolfCalendarModel", "keptDay", "I", false)
  | 32 => ("WolfCalendarModel", "keptPacks", "I", false)
  | 33 => ("WolfCalendarModel", "keptFlocks", "I", false)
  | 34 => ("WolfCalendarModel", "keptWatched", "I", false)
  | 35 => ("WolfCalendarModel", "keptFrom", "I", false)
  | 36 => ("WolfCalendarModel", "keptSeen", "I", false)
  | 37 => ("WolfCalendarModel", "keptSeenOf", "[I", true)
  | 38 => ("WolfCalendarModel", "keptForged", "[I", true)
  | 39 => ("WolfCalendarModel", "keptName", "[I", true)
  | 40 => ("WolfCalendarModel", "keptCell", "[I", true)
  | 41 => ("WolfCalendarModel", "keptBy", "[I", true)
  | _ => ("WolfCalendarModel", "h", "J", false)
def tyX9 : Nat → FieldType := fun k => match k with
  | 0 => .int
  | 1 => .int
  | 2 => .array .int
  | 3 => .int
  | 4 => .array .int
  | 5 => .int
  | 6 => .array .int
  | 7 => .array .int
  | 8 => .array .int
  | 9 => .int
  | 10 => .array .int
  | 11 => .array .int
  | 12 => .array .int
  | 13 => .int
  | 14 => .int
  | 15 => .int
  | 16 => .array .int
  | 17 => .int
  | 18 => .int
  | 19 => .array .byte
  | 20 => .int
  | 21 => .boolean
  | 22 => .int
  | 23 => .array .int
  | 24 => .int
  | 25 => .array .int
  | 26 => .array .int
  | 27 => .array .int
  | 28 => .array .int
  | 29 => .long
  | 30 => .boolean
  | 31 => .int
  | 32 => .int
  | 33 => .int
  | 34 => .int
  | 35 => .int
  | 36 => .int
  | 37 => .array .int
  | 38 => .array .int
  | 39 => .array .int
  | 40 => .array .int
  | 41 => .array .int
  | _ => .long
theorem nmX9 : ∀ a, a < 43 → ∀ b, b < 43 → a ≠ b → (TX9 a).2.1 ≠ (TX9 b).2.1 := by decide +kernel
theorem tyX9_ok : ∀ k, k < 43 → parseFieldDescriptor (TX9 k).2.2.1 = some (tyX9 k) := by decide +kernel
abbrev cX9_init : ByteArray := prog_11_method_1_code
def yX9_init : MethodName := ⟨RX9, "<init>", "()V"⟩
abbrev cX9_within : ByteArray := prog_11_method_3_code
def yX9_within : MethodName := ⟨RX9, "within", "(III)Z"⟩
abbrev cX9_letter : ByteArray := prog_11_method_4_code
def yX9_letter : MethodName := ⟨RX9, "letter", "(I)I"⟩
abbrev cX9_blank : ByteArray := prog_11_method_5_code
def yX9_blank : MethodName := ⟨RX9, "blank", "()I"⟩
abbrev cX9_nextState : ByteArray := prog_11_method_6_code
def yX9_nextState : MethodName := ⟨RX9, "nextState", "(II)I"⟩
abbrev cX9_lastState : ByteArray := prog_11_method_7_code
def yX9_lastState : MethodName := ⟨RX9, "lastState", "(II)I"⟩
abbrev cX9_readFeasts : ByteArray := prog_11_method_8_code
def yX9_readFeasts : MethodName := ⟨RX9, "readFeasts", "()V"⟩
abbrev cX9_fault : ByteArray := prog_11_method_9_code
def yX9_fault : MethodName := ⟨RX9, "fault", "()I"⟩
abbrev cX9_feasts : ByteArray := prog_11_method_10_code
def yX9_feasts : MethodName := ⟨RX9, "feasts", "()I"⟩
abbrev cX9_isFeast : ByteArray := prog_11_method_11_code
def yX9_isFeast : MethodName := ⟨RX9, "isFeast", "(I)Z"⟩
abbrev cX9_nameOn : ByteArray := prog_11_method_12_code
def yX9_nameOn : MethodName := ⟨RX9, "nameOn", "(I)I"⟩
abbrev cX9_dayTold : ByteArray := prog_11_method_13_code
def yX9_dayTold : MethodName := ⟨RX9, "dayTold", "(II)I"⟩
abbrev cX9_dayOf : ByteArray := prog_11_method_14_code
def yX9_dayOf : MethodName := ⟨RX9, "dayOf", "(II)I"⟩
abbrev cX9_isCell : ByteArray := prog_11_method_15_code
def yX9_isCell : MethodName := ⟨RX9, "isCell", "(I)Z"⟩
abbrev cX9_forge : ByteArray := prog_11_method_16_code
def yX9_forge : MethodName := ⟨RX9, "forge", "(II)I"⟩
abbrev cX9_isPack : ByteArray := prog_11_method_17_code
def yX9_isPack : MethodName := ⟨RX9, "isPack", "(I)Z"⟩
abbrev cX9_pack : ByteArray := prog_11_method_18_code
def yX9_pack : MethodName := ⟨RX9, "pack", "(III)I"⟩
abbrev cX9_readsBy : ByteArray := prog_11_method_19_code
def yX9_readsBy : MethodName := ⟨RX9, "readsBy", "(IIII)I"⟩
abbrev cX9_fastsBy : ByteArray := prog_11_method_20_code
def yX9_fastsBy : MethodName := ⟨RX9, "fastsBy", "(IIII)Z"⟩
abbrev cX9_fasts : ByteArray := prog_11_method_21_code
def yX9_fasts : MethodName := ⟨RX9, "fasts", "(II)Z"⟩
abbrev cX9_readsNow : ByteArray := prog_11_method_22_code
def yX9_readsNow : MethodName := ⟨RX9, "readsNow", "(II)I"⟩
abbrev cX9_preyIn : ByteArray := prog_11_method_23_code
def yX9_preyIn : MethodName := ⟨RX9, "preyIn", "(II)I"⟩
abbrev cX9_prey : ByteArray := prog_11_method_24_code
def yX9_prey : MethodName := ⟨RX9, "prey", "(II)I"⟩
abbrev cX9_eatenMany : ByteArray := prog_11_method_25_code
def yX9_eatenMany : MethodName := ⟨RX9, "eatenMany", "(I)I"⟩
abbrev cX9_packNow : ByteArray := prog_11_method_26_code
def yX9_packNow : MethodName := ⟨RX9, "packNow", "(II)I"⟩
abbrev cX9_about : ByteArray := prog_11_method_27_code
def yX9_about : MethodName := ⟨RX9, "about", "(II)I"⟩
abbrev cX9_as : ByteArray := prog_11_method_28_code
def yX9_as : MethodName := ⟨RX9, "as", "(II)I"⟩
abbrev cX9_isThere : ByteArray := prog_11_method_29_code
def yX9_isThere : MethodName := ⟨RX9, "isThere", "(I)Z"⟩
abbrev cX9_isFlock : ByteArray := prog_11_method_30_code
def yX9_isFlock : MethodName := ⟨RX9, "isFlock", "(I)Z"⟩
abbrev cX9_isName : ByteArray := prog_11_method_31_code
def yX9_isName : MethodName := ⟨RX9, "isName", "(I)Z"⟩
abbrev cX9_flock : ByteArray := prog_11_method_32_code
def yX9_flock : MethodName := ⟨RX9, "flock", "(II)I"⟩
abbrev cX9_flockNow : ByteArray := prog_11_method_33_code
def yX9_flockNow : MethodName := ⟨RX9, "flockNow", "(II)I"⟩
abbrev cX9_flockOf : ByteArray := prog_11_method_34_code
def yX9_flockOf : MethodName := ⟨RX9, "flockOf", "(II)I"⟩
abbrev cX9_name : ByteArray := prog_11_method_35_code
def yX9_name : MethodName := ⟨RX9, "name", "(II)I"⟩
abbrev cX9_move : ByteArray := prog_11_method_36_code
def yX9_move : MethodName := ⟨RX9, "move", "(II)I"⟩
abbrev cX9_goDay : ByteArray := prog_11_method_37_code
def yX9_goDay : MethodName := ⟨RX9, "goDay", "()I"⟩
abbrev cX9_day : ByteArray := prog_11_method_38_code
def yX9_day : MethodName := ⟨RX9, "day", "()I"⟩
abbrev cX9_save : ByteArray := prog_11_method_39_code
def yX9_save : MethodName := ⟨RX9, "save", "()V"⟩
abbrev cX9_back : ByteArray := prog_11_method_40_code
def yX9_back : MethodName := ⟨RX9, "back", "()V"⟩
abbrev cX9_eatenAll : ByteArray := prog_11_method_41_code
def yX9_eatenAll : MethodName := ⟨RX9, "eatenAll", "()I"⟩
abbrev cX9_lossNow : ByteArray := prog_11_method_42_code
def yX9_lossNow : MethodName := ⟨RX9, "lossNow", "(I)I"⟩
abbrev cX9_loss : ByteArray := prog_11_method_43_code
def yX9_loss : MethodName := ⟨RX9, "loss", "(I)I"⟩
abbrev cX9_fallsIn : ByteArray := prog_11_method_44_code
def yX9_fallsIn : MethodName := ⟨RX9, "fallsIn", "(II)I"⟩
abbrev cX9_fallsNow : ByteArray := prog_11_method_45_code
def yX9_fallsNow : MethodName := ⟨RX9, "fallsNow", "(I)I"⟩
abbrev cX9_falls : ByteArray := prog_11_method_46_code
def yX9_falls : MethodName := ⟨RX9, "falls", "(I)I"⟩
abbrev cX9_safeNow : ByteArray := prog_11_method_47_code
def yX9_safeNow : MethodName := ⟨RX9, "safeNow", "(II)I"⟩
abbrev cX9_safe : ByteArray := prog_11_method_48_code
def yX9_safe : MethodName := ⟨RX9, "safe", "(II)I"⟩
abbrev cX9_power : ByteArray := prog_11_method_49_code
def yX9_power : MethodName := ⟨RX9, "power", "(I)I"⟩
abbrev cX9_grazesBy : ByteArray := prog_11_method_50_code
def yX9_grazesBy : MethodName := ⟨RX9, "grazesBy", "(III)Z"⟩
abbrev cX9_grazeNow : ByteArray := prog_11_method_51_code
def yX9_grazeNow : MethodName := ⟨RX9, "grazeNow", "(III)I"⟩
abbrev cX9_graze : ByteArray := prog_11_method_52_code
def yX9_graze : MethodName := ⟨RX9, "graze", "(III)I"⟩
abbrev cX9_fastsOn : ByteArray := prog_11_method_53_code
def yX9_fastsOn : MethodName := ⟨RX9, "fastsOn", "(II)I"⟩
abbrev cX9_nailNow : ByteArray := prog_11_method_54_code
def yX9_nailNow : MethodName := ⟨RX9, "nailNow", "(II)I"⟩
abbrev cX9_nail : ByteArray := prog_11_method_55_code
def yX9_nail : MethodName := ⟨RX9, "nail", "(II)I"⟩
abbrev cX9_watch : ByteArray := prog_11_method_56_code
def yX9_watch : MethodName := ⟨RX9, "watch", "(I)I"⟩
abbrev cX9_seen : ByteArray := prog_11_method_57_code
def yX9_seen : MethodName := ⟨RX9, "seen", "(Z)I"⟩
abbrev cX9_isSeenSo : ByteArray := prog_11_method_58_code
def yX9_isSeenSo : MethodName := ⟨RX9, "isSeenSo", "(II)Z"⟩
abbrev cX9_fitsNow : ByteArray := prog_11_method_59_code
def yX9_fitsNow : MethodName := ⟨RX9, "fitsNow", "(I)I"⟩
abbrev cX9_fits : ByteArray := prog_11_method_60_code
def yX9_fits : MethodName := ⟨RX9, "fits", "(I)I"⟩
abbrev cX9_draw : ByteArray := prog_11_method_61_code
def yX9_draw : MethodName := ⟨RX9, "draw", "(I)I"⟩
abbrev cX9_yearsNow : ByteArray := prog_11_method_62_code
def yX9_yearsNow : MethodName := ⟨RX9, "yearsNow", "(III)I"⟩
abbrev cX9_years : ByteArray := prog_11_method_63_code
def yX9_years : MethodName := ⟨RX9, "years", "(III)I"⟩
abbrev cX9_image : ByteArray := prog_11_method_64_code
def yX9_image : MethodName := ⟨RX9, "image", "()I"⟩
abbrev cX9_restore : ByteArray := prog_11_method_65_code
def yX9_restore : MethodName := ⟨RX9, "restore", "()I"⟩
abbrev cX9_forgedMany : ByteArray := prog_11_method_66_code
def yX9_forgedMany : MethodName := ⟨RX9, "forgedMany", "()I"⟩
abbrev cX9_howMany : ByteArray := prog_11_method_67_code
def yX9_howMany : MethodName := ⟨RX9, "howMany", "(I)I"⟩
abbrev cX9_count : ByteArray := prog_11_method_68_code
def yX9_count : MethodName := ⟨RX9, "count", "(I)I"⟩
abbrev cX9_mix : ByteArray := prog_11_method_69_code
def yX9_mix : MethodName := ⟨RX9, "mix", "(J)V"⟩
abbrev cX9_digest : ByteArray := prog_11_method_70_code
def yX9_digest : MethodName := ⟨RX9, "digest", "()J"⟩
abbrev cX9_mixFlock : ByteArray := prog_11_method_71_code
def yX9_mixFlock : MethodName := ⟨RX9, "mixFlock", "(I)V"⟩
def RJx29ce0 : String := "java/lang/Enum"
def RJ6 : String := "java/lang/Integer"
abbrev cJ6_bitCount_0f7a4 : ByteArray := prog_13_method_49_code
def yJ6_bitCount_0f7a4 : MethodName := ⟨RJ6, "bitCount", "(I)I"⟩
def RJ9 : String := "java/lang/Math"
abbrev cJ9_floorMod_7cf53 : ByteArray := prog_14_method_50_code
def yJ9_floorMod_7cf53 : MethodName := ⟨RJ9, "floorMod", "(II)I"⟩
def RJ10 : String := "java/lang/System"
def RL : String := "WolfCalendarLaw"
abbrev cL_law : ByteArray := code
def yL_law : MethodName := ⟨RL, "law", "([I)Z"⟩
abbrev vwCl : List vw_C := [(RX0, TX0, 1), (RX1, TX1, 2), (RX2, TX2, 3), (RX4, TX4, 3), (RX5, TX5, 2), (RX6, TX6, 4), (RX7, TX7, 8), (RX8, TX8, 9), (RX9, TX9, 43)]
end
section
theorem dX0_init_0 : decode cX0_init 0 = .ok (.aload_n 0, 1) := by decide +kernel
theorem dX0_init_1 : decode cX0_init 1 = .ok (.invokespecial 1, 3) := by decide +kernel
theorem dX0_init_4 : decode cX0_init 4 = .ok (.return_, 1) := by decide +kernel
theorem dX0_next_0 : decode cX0_next 0 = .ok (.aload_n 0, 1) := by decide +kernel
theorem dX0_next_1 : decode cX0_next 1 = .ok (.ldc2_w 7, 3) := by decide +kernel
theorem dX0_next_4 : decode cX0_next 4 = .ok (.aload_n 0, 1) := by decide +kernel
theorem dX0_next_5 : decode cX0_next 5 = .ok (.getfield 9, 3) := by decide +kernel
theorem dX0_next_8 : decode cX0_next 8 = .ok (.lmul, 1) := by decide +kernel
theorem dX0_next_9 : decode cX0_next 9 = .ok (.ldc2_w 15, 3) := by decide +kernel
theorem dX0_next_12 : decode cX0_next 12 = .ok (.ladd, 1) := by decide +kernel
theorem dX0_next_13 : decode cX0_next 13 = .ok (.ldc2_w 17, 3) := by decide +kernel
theorem dX0_next_16 : decode cX0_next 16 = .ok (.lrem, 1) := by decide +kernel
theorem dX0_next_17 : decode cX0_next 17 = .ok (.putfield 9, 3) := by decide +kernel
theorem dX0_next_20 : decode cX0_next 20 = .ok (.aload_n 0, 1) := by decide +kernel
theorem dX0_next_21 : decode cX0_next 21 = .ok (.getfield 9, 3) := by decide +kernel
theorem dX0_next_24 : decode cX0_next 24 = .ok (.ldc2_w 19, 3) := by decide +kernel
theorem dX0_next_27 : decode cX0_next 27 = .ok (.ldiv, 1) := by decide +kernel
theorem dX0_next_28 : decode cX0_next 28 = .ok (.l2i, 1) := by decide +kernel
theorem dX0_next_29 : decode cX0_next 29 = .ok (.ireturn, 1) := by decide +kernel
theorem dX1_init_0 : decode cX1_init 0 = .ok (.aload_n 0, 1) := by decide +kernel
theorem dX1_init_1 : decode cX1_init 1 = .ok (.invokespecial 3, 3) := by decide +kernel
theorem dX1_init_4 : decode cX1_init 4 = .ok (.aload_n 0, 1) := by decide +kernel
theorem dX1_init_5 : decode cX1_init 5 = .ok (.sipush 210, 3) := by decide +kernel
theorem dX1_init_8 : decode cX1_init 8 = .ok (.newarray .boolean, 2) := by decide +kernel
theorem dX1_init_10 : decode cX1_init 10 = .ok (.putfield 9, 3) := by decide +kernel
theorem dX1_init_13 : decode cX1_init 13 = .ok (.return_, 1) := by decide +kernel
theorem dX1_isFeast_0 : decode cX1_isFeast 0 = .ok (.iload_n 1, 1) := by decide +kernel
theorem dX1_isFeast_1 : decode cX1_isFeast 1 = .ok (.ifCond .lt 20, 3) := by decide +kernel
theorem dX1_isFeast_4 : decode cX1_isFeast 4 = .ok (.aload_n 0, 1) := by decide +kernel
theorem dX1_isFeast_5 : decode cX1_isFeast 5 = .ok (.getfield 9, 3) := by decide +kernel
theorem dX1_isFeast_8 : decode cX1_isFeast 8 = .ok (.iload_n 1, 1) := by decide +kernel
theorem dX1_isFeast_9 : decode cX1_isFeast 9 = .ok (.sipush 210, 3) := by decide +kernel
theorem dX1_isFeast_12 : decode cX1_isFeast 12 = .ok (.irem, 1) := by decide +kernel
theorem dX1_isFeast_13 : decode cX1_isFeast 13 = .ok (.baload, 1) := by decide +kernel
theorem dX1_isFeast_14 : decode cX1_isFeast 14 = .ok (.ifCond .eq 7, 3) := by decide +kernel
theorem dX1_isFeast_17 : decode cX1_isFeast 17 = .ok (.iconst 1, 1) := by decide +kernel
theorem dX1_isFeast_18 : decode cX1_isFeast 18 = .ok (.goto 4, 3) := by decide +kernel
theorem dX1_isFeast_21 : decode cX1_isFeast 21 = .ok (.iconst 0, 1) := by decide +kernel
theorem dX1_isFeast_22 : decode cX1_isFeast 22 = .ok (.ireturn, 1) := by decide +kernel
theorem dX1_readFrom_0 : decode cX1_readFrom 0 = .ok (.aload_n 0, 1) := by decide +kernel
theorem dX1_readFrom_1 : decode cX1_readFrom 1 = .ok (.aload_n 1, 1) := by decide +kernel
theorem dX1_readFrom_2 : decode cX1_readFrom 2 = .ok (.getfield 15, 3) := by decide +kernel
theorem dX1_readFrom_5 : decode cX1_readFrom 5 = .ok (.iconst 1, 1) := by decide +kernel
theorem dX1_readFrom_6 : decode cX1_readFrom 6 = .ok (.iadd, 1) := by decide +kernel
theorem dX1_readFrom_7 : decode cX1_readFrom 7 = .ok (.iconst 4, 1) := by decide +kernel
theorem dX1_readFrom_8 : decode cX1_readFrom 8 = .ok (.idiv, 1) := by decide +kernel
theorem dX1_readFrom_9 : decode cX1_readFrom 9 = .ok (.putfield 21, 3) := by decide +kernel
theorem dX1_readFrom_12 : decode cX1_readFrom 12 = .ok (.iconst 0, 1) := by decide +kernel
theorem dX1_readFrom_13 : decode cX1_readFrom 13 = .ok (.istore_n 2, 1) := by decide +kernel
theorem dX1_readFrom_14 : decode cX1_readFrom 14 = .ok (.iload_n 2, 1) := by decide +kernel
theorem dX1_readFrom_15 : decode cX1_readFrom 15 = .ok (.sipush 210, 3) := by decide +kernel
theorem dX1_readFrom_18 : decode cX1_readFrom 18 = .ok (.if_icmp .ge 16, 3) := by decide +kernel
theorem dX1_readFrom_21 : decode cX1_readFrom 21 = .ok (.aload_n 0, 1) := by decide +kernel
theorem dX1_readFrom_22 : decode cX1_readFrom 22 = .ok (.getfield 9, 3) := by decide +kernel
theorem dX1_readFrom_25 : decode cX1_readFrom 25 = .ok (.iload_n 2, 1) := by decide +kernel
theorem dX1_readFrom_26 : decode cX1_readFrom 26 = .ok (.iconst 0, 1) := by decide +kernel
theorem dX1_readFrom_27 : decode cX1_readFrom 27 = .ok (.bastore, 1) := by decide +kernel
theorem dX1_readFrom_28 : decode cX1_readFrom 28 = .ok (.iinc 2 1, 3) := by decide +kernel
theorem dX1_readFrom_31 : decode cX1_readFrom 31 = .ok (.goto (-17), 3) := by decide +kernel
theorem dX1_readFrom_34 : decode cX1_readFrom 34 = .ok (.iconst 0, 1) := by decide +kernel
theorem dX1_readFrom_35 : decode cX1_readFrom 35 = .ok (.istore_n 2, 1) := by decide +kernel
theorem dX1_readFrom_36 : decode cX1_readFrom 36 = .ok (.iload_n 2, 1) := by decide +kernel
theorem dX1_readFrom_37 : decode cX1_readFrom 37 = .ok (.aload_n 0, 1) := by decide +kernel
theorem dX1_readFrom_38 : decode cX1_readFrom 38 = .ok (.getfield 21, 3) := by decide +kernel
theorem dX1_readFrom_41 : decode cX1_readFrom 41 = .ok (.if_icmp .ge 89, 3) := by decide +kernel
theorem dX1_readFrom_44 : decode cX1_readFrom 44 = .ok (.iconst 4, 1) := by decide +kernel
theorem dX1_readFrom_45 : decode cX1_readFrom 45 = .ok (.iload_n 2, 1) := by decide +kernel
theorem dX1_readFrom_46 : decode cX1_readFrom 46 = .ok (.imul, 1) := by decide +kernel
theorem dX1_readFrom_47 : decode cX1_readFrom 47 = .ok (.istore_n 3, 1) := by decide +kernel
theorem dX1_readFrom_48 : decode cX1_readFrom 48 = .ok (.aload_n 1, 1) := by decide +kernel
theorem dX1_readFrom_49 : decode cX1_readFrom 49 = .ok (.iload_n 3, 1) := by decide +kernel
theorem dX1_readFrom_50 : decode cX1_readFrom 50 = .ok (.iconst 1, 1) := by decide +kernel
theorem dX1_readFrom_51 : decode cX1_readFrom 51 = .ok (.iadd, 1) := by decide +kernel
theorem dX1_readFrom_52 : decode cX1_readFrom 52 = .ok (.invokevirtual 24, 3) := by decide +kernel
theorem dX1_readFrom_55 : decode cX1_readFrom 55 = .ok (.istore 4, 2) := by decide +kernel
theorem dX1_readFrom_57 : decode cX1_readFrom 57 = .ok (.aload_n 1, 1) := by decide +kernel
theorem dX1_readFrom_58 : decode cX1_readFrom 58 = .ok (.iload_n 3, 1) := by decide +kernel
theorem dX1_readFrom_59 : decode cX1_readFrom 59 = .ok (.iconst 2, 1) := by decide +kernel
theorem dX1_readFrom_60 : decode cX1_readFrom 60 = .ok (.iadd, 1) := by decide +kernel
theorem dX1_readFrom_61 : decode cX1_readFrom 61 = .ok (.invokevirtual 24, 3) := by decide +kernel
theorem dX1_readFrom_64 : decode cX1_readFrom 64 = .ok (.istore 5, 2) := by decide +kernel
theorem dX1_readFrom_66 : decode cX1_readFrom 66 = .ok (.iconst 0, 1) := by decide +kernel
theorem dX1_readFrom_67 : decode cX1_readFrom 67 = .ok (.istore 6, 2) := by decide +kernel
theorem dX1_readFrom_69 : decode cX1_readFrom 69 = .ok (.iload 6, 2) := by decide +kernel
theorem dX1_readFrom_71 : decode cX1_readFrom 71 = .ok (.sipush 210, 3) := by decide +kernel
theorem dX1_readFrom_74 : decode cX1_readFrom 74 = .ok (.if_icmp .ge 50, 3) := by decide +kernel
theorem dX1_readFrom_77 : decode cX1_readFrom 77 = .ok (.aload_n 1, 1) := by decide +kernel
theorem dX1_readFrom_78 : decode cX1_readFrom 78 = .ok (.iload_n 3, 1) := by decide +kernel
theorem dX1_readFrom_79 : decode cX1_readFrom 79 = .ok (.invokevirtual 28, 3) := by decide +kernel
theorem dX1_readFrom_82 : decode cX1_readFrom 82 = .ok (.ifCond .eq 14, 3) := by decide +kernel
theorem dX1_readFrom_85 : decode cX1_readFrom 85 = .ok (.bipush 10, 2) := by decide +kernel
theorem dX1_readFrom_87 : decode cX1_readFrom 87 = .ok (.iload 4, 2) := by decide +kernel
theorem dX1_readFrom_89 : decode cX1_readFrom 89 = .ok (.imul, 1) := by decide +kernel
theorem dX1_readFrom_90 : decode cX1_readFrom 90 = .ok (.iload 5, 2) := by decide +kernel
theorem dX1_readFrom_92 : decode cX1_readFrom 92 = .ok (.iadd, 1) := by decide +kernel
theorem dX1_readFrom_93 : decode cX1_readFrom 93 = .ok (.goto 12, 3) := by decide +kernel
theorem dX1_readFrom_96 : decode cX1_readFrom 96 = .ok (.iload 6, 2) := by decide +kernel
theorem dX1_readFrom_98 : decode cX1_readFrom 98 = .ok (.iload 4, 2) := by decide +kernel
theorem dX1_readFrom_100 : decode cX1_readFrom 100 = .ok (.iload 5, 2) := by decide +kernel
theorem dX1_readFrom_102 : decode cX1_readFrom 102 = .ok (.invokestatic 32, 3) := by decide +kernel
theorem dX1_readFrom_105 : decode cX1_readFrom 105 = .ok (.istore 7, 2) := by decide +kernel
theorem dX1_readFrom_107 : decode cX1_readFrom 107 = .ok (.aload_n 0, 1) := by decide +kernel
theorem dX1_readFrom_108 : decode cX1_readFrom 108 = .ok (.getfield 9, 3) := by decide +kernel
theorem dX1_readFrom_111 : decode cX1_readFrom 111 = .ok (.iload 6, 2) := by decide +kernel
theorem dX1_readFrom_113 : decode cX1_readFrom 113 = .ok (.iload 7, 2) := by decide +kernel
theorem dX1_readFrom_115 : decode cX1_readFrom 115 = .ok (.iadd, 1) := by decide +kernel
theorem dX1_readFrom_116 : decode cX1_readFrom 116 = .ok (.iconst 1, 1) := by decide +kernel
theorem dX1_readFrom_117 : decode cX1_readFrom 117 = .ok (.bastore, 1) := by decide +kernel
theorem dX1_readFrom_118 : decode cX1_readFrom 118 = .ok (.iinc 6 30, 3) := by decide +kernel
theorem dX1_readFrom_121 : decode cX1_readFrom 121 = .ok (.goto (-52), 3) := by decide +kernel
theorem dX1_readFrom_124 : decode cX1_readFrom 124 = .ok (.iinc 2 1, 3) := by decide +kernel
theorem dX1_readFrom_127 : decode cX1_readFrom 127 = .ok (.goto (-91), 3) := by decide +kernel
theorem dX1_readFrom_130 : decode cX1_readFrom 130 = .ok (.return_, 1) := by decide +kernel
theorem dX1_placeOfWeekday_0 : decode cX1_placeOfWeekday 0 = .ok (.iload_n 1, 1) := by decide +kernel
theorem dX1_placeOfWeekday_1 : decode cX1_placeOfWeekday 1 = .ok (.iload_n 0, 1) := by decide +kernel
theorem dX1_placeOfWeekday_2 : decode cX1_placeOfWeekday 2 = .ok (.isub, 1) := by decide +kernel
theorem dX1_placeOfWeekday_3 : decode cX1_placeOfWeekday 3 = .ok (.bipush 7, 2) := by decide +kernel
theorem dX1_placeOfWeekday_5 : decode cX1_placeOfWeekday 5 = .ok (.invokestatic 36, 3) := by decide +kernel
theorem dX1_placeOfWeekday_8 : decode cX1_placeOfWeekday 8 = .ok (.bipush 7, 2) := by decide +kernel
theorem dX1_placeOfWeekday_10 : decode cX1_placeOfWeekday 10 = .ok (.iload_n 2, 1) := by decide +kernel
theorem dX1_placeOfWeekday_11 : decode cX1_placeOfWeekday 11 = .ok (.iconst 1, 1) := by decide +kernel
theorem dX1_placeOfWeekday_12 : decode cX1_placeOfWeekday 12 = .ok (.isub, 1) := by decide +kernel
theorem dX1_placeOfWeekday_13 : decode cX1_placeOfWeekday 13 = .ok (.imul, 1) := by decide +kernel
theorem dX1_placeOfWeekday_14 : decode cX1_placeOfWeekday 14 = .ok (.iadd, 1) := by decide +kernel
theorem dX1_placeOfWeekday_15 : decode cX1_placeOfWeekday 15 = .ok (.ireturn, 1) := by decide +kernel
theorem dX2_init_0 : decode cX2_init 0 = .ok (.aload_n 0, 1) := by decide +kernel
theorem dX2_init_1 : decode cX2_init 1 = .ok (.invokespecial 1, 3) := by decide +kernel
theorem dX2_init_4 : decode cX2_init 4 = .ok (.return_, 1) := by decide +kernel
theorem dX2_become_0 : decode cX2_become 0 = .ok (.aload_n 0, 1) := by decide +kernel
theorem dX2_become_1 : decode cX2_become 1 = .ok (.iload_n 1, 1) := by decide +kernel
theorem dX2_become_2 : decode cX2_become 2 = .ok (.putfield 7, 3) := by decide +kernel
theorem dX2_become_5 : decode cX2_become 5 = .ok (.aload_n 0, 1) := by decide +kernel
theorem dX2_become_6 : decode cX2_become 6 = .ok (.iload_n 2, 1) := by decide +kernel
theorem dX2_become_7 : decode cX2_become 7 = .ok (.putfield 13, 3) := by decide +kernel
theorem dX2_become_10 : decode cX2_become 10 = .ok (.return_, 1) := by decide +kernel
theorem dX2_copyFrom_0 : decode cX2_copyFrom 0 = .ok (.aload_n 0, 1) := by decide +kernel
theorem dX2_copyFrom_1 : decode cX2_copyFrom 1 = .ok (.aload_n 1, 1) := by decide +kernel
theorem dX2_copyFrom_2 : decode cX2_copyFrom 2 = .ok (.getfield 7, 3) := by decide +kernel
theorem dX2_copyFrom_5 : decode cX2_copyFrom 5 = .ok (.putfield 7, 3) := by decide +kernel
theorem dX2_copyFrom_8 : decode cX2_copyFrom 8 = .ok (.aload_n 0, 1) := by decide +kernel
theorem dX2_copyFrom_9 : decode cX2_copyFrom 9 = .ok (.aload_n 1, 1) := by decide +kernel
theorem dX2_copyFrom_10 : decode cX2_copyFrom 10 = .ok (.getfield 13, 3) := by decide +kernel
theorem dX2_copyFrom_13 : decode cX2_copyFrom 13 = .ok (.putfield 13, 3) := by decide +kernel
theorem dX2_copyFrom_16 : decode cX2_copyFrom 16 = .ok (.aload_n 0, 1) := by decide +kernel
theorem dX2_copyFrom_17 : decode cX2_copyFrom 17 = .ok (.aload_n 1, 1) := by decide +kernel
theorem dX2_copyFrom_18 : decode cX2_copyFrom 18 = .ok (.getfield 16, 3) := by decide +kernel
theorem dX2_copyFrom_21 : decode cX2_copyFrom 21 = .ok (.putfield 16, 3) := by decide +kernel
theorem dX2_copyFrom_24 : decode cX2_copyFrom 24 = .ok (.return_, 1) := by decide +kernel
theorem dX3_isSuch_0 : decode cX3_isSuch 0 = .ok (.aload_n 1, 1) := by decide +kernel
theorem dX3_isSuch_1 : decode cX3_isSuch 1 = .ok (.getstatic 5, 3) := by decide +kernel
theorem dX3_isSuch_4 : decode cX3_isSuch 4 = .ok (.if_acmp .eq 22, 3) := by decide +kernel
theorem dX3_isSuch_7 : decode cX3_isSuch 7 = .ok (.aload_n 0, 1) := by decide +kernel
theorem dX3_isSuch_8 : decode cX3_isSuch 8 = .ok (.aload_n 1, 1) := by decide +kernel
theorem dX3_isSuch_9 : decode cX3_isSuch 9 = .ok (.if_acmp .eq 17, 3) := by decide +kernel
theorem dX3_isSuch_12 : decode cX3_isSuch 12 = .ok (.aload_n 0, 1) := by decide +kernel
theorem dX3_isSuch_13 : decode cX3_isSuch 13 = .ok (.getstatic 18, 3) := by decide +kernel
theorem dX3_isSuch_16 : decode cX3_isSuch 16 = .ok (.if_acmp .ne 14, 3) := by decide +kernel
theorem dX3_isSuch_19 : decode cX3_isSuch 19 = .ok (.aload_n 1, 1) := by decide +kernel
theorem dX3_isSuch_20 : decode cX3_isSuch 20 = .ok (.getstatic 15, 3) := by decide +kernel
theorem dX3_isSuch_23 : decode cX3_isSuch 23 = .ok (.if_acmp .ne 7, 3) := by decide +kernel
theorem dX3_isSuch_26 : decode cX3_isSuch 26 = .ok (.iconst 1, 1) := by decide +kernel
theorem dX3_isSuch_27 : decode cX3_isSuch 27 = .ok (.goto 4, 3) := by decide +kernel
theorem dX3_isSuch_30 : decode cX3_isSuch 30 = .ok (.iconst 0, 1) := by decide +kernel
theorem dX3_isSuch_31 : decode cX3_isSuch 31 = .ok (.ireturn, 1) := by decide +kernel
theorem dX3_reads_0 : decode cX3_reads 0 = .ok (.iload_n 1, 1) := by decide +kernel
theorem dX3_reads_1 : decode cX3_reads 1 = .ok (.iload_n 2, 1) := by decide +kernel
theorem dX3_reads_2 : decode cX3_reads 2 = .ok (.iadd, 1) := by decide +kernel
theorem dX3_reads_3 : decode cX3_reads 3 = .ok (.sipush 210, 3) := by decide +kernel
theorem dX3_reads_6 : decode cX3_reads 6 = .ok (.iadd, 1) := by decide +kernel
theorem dX3_reads_7 : decode cX3_reads 7 = .ok (.aload_n 0, 1) := by decide +kernel
theorem dX3_reads_8 : decode cX3_reads 8 = .ok (.getfield 51, 3) := by decide +kernel
theorem dX3_reads_11 : decode cX3_reads 11 = .ok (.ifCond .eq 7, 3) := by decide +kernel
theorem dX3_reads_14 : decode cX3_reads 14 = .ok (.iload_n 3, 1) := by decide +kernel
theorem dX3_reads_15 : decode cX3_reads 15 = .ok (.goto 4, 3) := by decide +kernel
theorem dX3_reads_18 : decode cX3_reads 18 = .ok (.iconst 0, 1) := by decide +kernel
theorem dX3_reads_19 : decode cX3_reads 19 = .ok (.isub, 1) := by decide +kernel
theorem dX3_reads_20 : decode cX3_reads 20 = .ok (.ireturn, 1) := by decide +kernel
theorem dX3_fastsOn_0 : decode cX3_fastsOn 0 = .ok (.aload_n 0, 1) := by decide +kernel
theorem dX3_fastsOn_1 : decode cX3_fastsOn 1 = .ok (.getfield 44, 3) := by decide +kernel
theorem dX3_fastsOn_4 : decode cX3_fastsOn 4 = .ok (.ifCond .eq 11, 3) := by decide +kernel
theorem dX3_fastsOn_7 : decode cX3_fastsOn 7 = .ok (.iload_n 1, 1) := by decide +kernel
theorem dX3_fastsOn_8 : decode cX3_fastsOn 8 = .ok (.bipush 7, 2) := by decide +kernel
theorem dX3_fastsOn_10 : decode cX3_fastsOn 10 = .ok (.irem, 1) := by decide +kernel
theorem dX3_fastsOn_11 : decode cX3_fastsOn 11 = .ok (.iconst 5, 1) := by decide +kernel
theorem dX3_fastsOn_12 : decode cX3_fastsOn 12 = .ok (.if_icmp .eq 35, 3) := by decide +kernel
theorem dX3_fastsOn_15 : decode cX3_fastsOn 15 = .ok (.aload_n 0, 1) := by decide +kernel
theorem dX3_fastsOn_16 : decode cX3_fastsOn 16 = .ok (.getfield 48, 3) := by decide +kernel
theorem dX3_fastsOn_19 : decode cX3_fastsOn 19 = .ok (.ifCond .eq 11, 3) := by decide +kernel
theorem dX3_fastsOn_22 : decode cX3_fastsOn 22 = .ok (.aload_n 2, 1) := by decide +kernel
theorem dX3_fastsOn_23 : decode cX3_fastsOn 23 = .ok (.iload_n 1, 1) := by decide +kernel
theorem dX3_fastsOn_24 : decode cX3_fastsOn 24 = .ok (.invokevirtual 57, 3) := by decide +kernel
theorem dX3_fastsOn_27 : decode cX3_fastsOn 27 = .ok (.ifCond .ne 20, 3) := by decide +kernel
theorem dX3_fastsOn_30 : decode cX3_fastsOn 30 = .ok (.aload_n 0, 1) := by decide +kernel
theorem dX3_fastsOn_31 : decode cX3_fastsOn 31 = .ok (.getfield 54, 3) := by decide +kernel
theorem dX3_fastsOn_34 : decode cX3_fastsOn 34 = .ok (.ifCond .eq 17, 3) := by decide +kernel
theorem dX3_fastsOn_37 : decode cX3_fastsOn 37 = .ok (.aload_n 2, 1) := by decide +kernel
theorem dX3_fastsOn_38 : decode cX3_fastsOn 38 = .ok (.iload_n 1, 1) := by decide +kernel
theorem dX3_fastsOn_39 : decode cX3_fastsOn 39 = .ok (.iconst 1, 1) := by decide +kernel
theorem dX3_fastsOn_40 : decode cX3_fastsOn 40 = .ok (.iadd, 1) := by decide +kernel
theorem dX3_fastsOn_41 : decode cX3_fastsOn 41 = .ok (.invokevirtual 57, 3) := by decide +kernel
theorem dX3_fastsOn_44 : decode cX3_fastsOn 44 = .ok (.ifCond .eq 7, 3) := by decide +kernel
theorem dX3_fastsOn_47 : decode cX3_fastsOn 47 = .ok (.iconst 1, 1) := by decide +kernel
theorem dX3_fastsOn_48 : decode cX3_fastsOn 48 = .ok (.goto 4, 3) := by decide +kernel
theorem dX3_fastsOn_51 : decode cX3_fastsOn 51 = .ok (.iconst 0, 1) := by decide +kernel
theorem dX3_fastsOn_52 : decode cX3_fastsOn 52 = .ok (.ireturn, 1) := by decide +kernel
theorem dX4_init_0 : decode cX4_init 0 = .ok (.aload_n 0, 1) := by decide +kernel
theorem dX4_init_1 : decode cX4_init 1 = .ok (.invokespecial 1, 3) := by decide +kernel
theorem dX4_init_4 : decode cX4_init 4 = .ok (.aload_n 0, 1) := by decide +kernel
theorem dX4_init_5 : decode cX4_init 5 = .ok (.getstatic 7, 3) := by decide +kernel
theorem dX4_init_8 : decode cX4_init 8 = .ok (.putfield 13, 3) := by decide +kernel
theorem dX4_init_11 : decode cX4_init 11 = .ok (.return_, 1) := by decide +kernel
theorem dX4_become_0 : decode cX4_become 0 = .ok (.aload_n 0, 1) := by decide +kernel
theorem dX4_become_1 : decode cX4_become 1 = .ok (.aload_n 1, 1) := by decide +kernel
theorem dX4_become_2 : decode cX4_become 2 = .ok (.putfield 13, 3) := by decide +kernel
theorem dX4_become_5 : decode cX4_become 5 = .ok (.aload_n 0, 1) := by decide +kernel
theorem dX4_become_6 : decode cX4_become 6 = .ok (.iload_n 2, 1) := by decide +kernel
theorem dX4_become_7 : decode cX4_become 7 = .ok (.putfield 18, 3) := by decide +kernel
theorem dX4_become_10 : decode cX4_become 10 = .ok (.aload_n 0, 1) := by decide +kernel
theorem dX4_become_11 : decode cX4_become 11 = .ok (.iload_n 3, 1) := by decide +kernel
theorem dX4_become_12 : decode cX4_become 12 = .ok (.putfield 22, 3) := by decide +kernel
theorem dX4_become_15 : decode cX4_become 15 = .ok (.return_, 1) := by decide +kernel
theorem dX5_init_0 : decode cX5_init 0 = .ok (.aload_n 0, 1) := by decide +kernel
theorem dX5_init_1 : decode cX5_init 1 = .ok (.invokespecial 3, 3) := by decide +kernel
theorem dX5_init_4 : decode cX5_init 4 = .ok (.aload_n 0, 1) := by decide +kernel
theorem dX5_init_5 : decode cX5_init 5 = .ok (.bipush 24, 2) := by decide +kernel
theorem dX5_init_7 : decode cX5_init 7 = .ok (.newarray .char, 2) := by decide +kernel
theorem dX5_init_9 : decode cX5_init 9 = .ok (.putfield 9, 3) := by decide +kernel
theorem dX5_init_12 : decode cX5_init 12 = .ok (.return_, 1) := by decide +kernel
theorem dX5_put_0 : decode cX5_put 0 = .ok (.aload_n 0, 1) := by decide +kernel
theorem dX5_put_1 : decode cX5_put 1 = .ok (.getfield 15, 3) := by decide +kernel
theorem dX5_put_4 : decode cX5_put 4 = .ok (.aload_n 0, 1) := by decide +kernel
theorem dX5_put_5 : decode cX5_put 5 = .ok (.getfield 9, 3) := by decide +kernel
theorem dX5_put_8 : decode cX5_put 8 = .ok (.arraylength, 1) := by decide +kernel
theorem dX5_put_9 : decode cX5_put 9 = .ok (.if_icmp .lt 5, 3) := by decide +kernel
theorem dX5_put_12 : decode cX5_put 12 = .ok (.iconst 0, 1) := by decide +kernel
theorem dX5_put_13 : decode cX5_put 13 = .ok (.ireturn, 1) := by decide +kernel
theorem dX5_put_14 : decode cX5_put 14 = .ok (.aload_n 0, 1) := by decide +kernel
theorem dX5_put_15 : decode cX5_put 15 = .ok (.getfield 9, 3) := by decide +kernel
theorem dX5_put_18 : decode cX5_put 18 = .ok (.aload_n 0, 1) := by decide +kernel
theorem dX5_put_19 : decode cX5_put 19 = .ok (.getfield 15, 3) := by decide +kernel
theorem dX5_put_22 : decode cX5_put 22 = .ok (.iload_n 1, 1) := by decide +kernel
theorem dX5_put_23 : decode cX5_put 23 = .ok (.castore, 1) := by decide +kernel
theorem dX5_put_24 : decode cX5_put 24 = .ok (.aload_n 0, 1) := by decide +kernel
theorem dX5_put_25 : decode cX5_put 25 = .ok (.dup, 1) := by decide +kernel
theorem dX5_put_26 : decode cX5_put 26 = .ok (.getfield 15, 3) := by decide +kernel
theorem dX5_put_29 : decode cX5_put 29 = .ok (.iconst 1, 1) := by decide +kernel
theorem dX5_put_30 : decode cX5_put 30 = .ok (.iadd, 1) := by decide +kernel
theorem dX5_put_31 : decode cX5_put 31 = .ok (.putfield 15, 3) := by decide +kernel
theorem dX5_put_34 : decode cX5_put 34 = .ok (.iconst 1, 1) := by decide +kernel
theorem dX5_put_35 : decode cX5_put 35 = .ok (.ireturn, 1) := by decide +kernel
theorem dX5_clear_0 : decode cX5_clear 0 = .ok (.aload_n 0, 1) := by decide +kernel
theorem dX5_clear_1 : decode cX5_clear 1 = .ok (.iconst 0, 1) := by decide +kernel
theorem dX5_clear_2 : decode cX5_clear 2 = .ok (.putfield 15, 3) := by decide +kernel
theorem dX5_clear_5 : decode cX5_clear 5 = .ok (.return_, 1) := by decide +kernel
theorem dX5_firstFault_0 : decode cX5_firstFault 0 = .ok (.iconst 0, 1) := by decide +kernel
theorem dX5_firstFault_1 : decode cX5_firstFault 1 = .ok (.istore_n 1, 1) := by decide +kernel
theorem dX5_firstFault_2 : decode cX5_firstFault 2 = .ok (.iload_n 1, 1) := by decide +kernel
theorem dX5_firstFault_3 : decode cX5_firstFault 3 = .ok (.aload_n 0, 1) := by decide +kernel
theorem dX5_firstFault_4 : decode cX5_firstFault 4 = .ok (.getfield 15, 3) := by decide +kernel
theorem dX5_firstFault_7 : decode cX5_firstFault 7 = .ok (.if_icmp .ge 19, 3) := by decide +kernel
theorem dX5_firstFault_10 : decode cX5_firstFault 10 = .ok (.aload_n 0, 1) := by decide +kernel
theorem dX5_firstFault_11 : decode cX5_firstFault 11 = .ok (.iload_n 1, 1) := by decide +kernel
theorem dX5_firstFault_12 : decode cX5_firstFault 12 = .ok (.invokevirtual 19, 3) := by decide +kernel
theorem dX5_firstFault_15 : decode cX5_firstFault 15 = .ok (.ifCond .ne 5, 3) := by decide +kernel
theorem dX5_firstFault_18 : decode cX5_firstFault 18 = .ok (.iload_n 1, 1) := by decide +kernel
theorem dX5_firstFault_19 : decode cX5_firstFault 19 = .ok (.ireturn, 1) := by decide +kernel
theorem dX5_firstFault_20 : decode cX5_firstFault 20 = .ok (.iinc 1 1, 3) := by decide +kernel
theorem dX5_firstFault_23 : decode cX5_firstFault 23 = .ok (.goto (-21), 3) := by decide +kernel
theorem dX5_firstFault_26 : decode cX5_firstFault 26 = .ok (.aload_n 0, 1) := by decide +kernel
theorem dX5_firstFault_27 : decode cX5_firstFault 27 = .ok (.getfield 15, 3) := by decide +kernel
theorem dX5_firstFault_30 : decode cX5_firstFault 30 = .ok (.ireturn, 1) := by decide +kernel
theorem dX5_isWhole_0 : decode cX5_isWhole 0 = .ok (.aload_n 0, 1) := by decide +kernel
theorem dX5_isWhole_1 : decode cX5_isWhole 1 = .ok (.getfield 15, 3) := by decide +kernel
theorem dX5_isWhole_4 : decode cX5_isWhole 4 = .ok (.iconst 4, 1) := by decide +kernel
theorem dX5_isWhole_5 : decode cX5_isWhole 5 = .ok (.irem, 1) := by decide +kernel
theorem dX5_isWhole_6 : decode cX5_isWhole 6 = .ok (.iconst 3, 1) := by decide +kernel
theorem dX5_isWhole_7 : decode cX5_isWhole 7 = .ok (.if_icmp .ne 18, 3) := by decide +kernel
theorem dX5_isWhole_10 : decode cX5_isWhole 10 = .ok (.aload_n 0, 1) := by decide +kernel
theorem dX5_isWhole_11 : decode cX5_isWhole 11 = .ok (.invokevirtual 23, 3) := by decide +kernel
theorem dX5_isWhole_14 : decode cX5_isWhole 14 = .ok (.aload_n 0, 1) := by decide +kernel
theorem dX5_isWhole_15 : decode cX5_isWhole 15 = .ok (.getfield 15, 3) := by decide +kernel
theorem dX5_isWhole_18 : decode cX5_isWhole 18 = .ok (.if_icmp .ne 7, 3) := by decide +kernel
theorem dX5_isWhole_21 : decode cX5_isWhole 21 = .ok (.iconst 1, 1) := by decide +kernel
theorem dX5_isWhole_22 : decode cX5_isWhole 22 = .ok (.goto 4, 3) := by decide +kernel
theorem dX5_isWhole_25 : decode cX5_isWhole 25 = .ok (.iconst 0, 1) := by decide +kernel
theorem dX5_isWhole_26 : decode cX5_isWhole 26 = .ok (.ireturn, 1) := by decide +kernel
theorem dX5_mayStand_0 : decode cX5_mayStand 0 = .ok (.iload_n 1, 1) := by decide +kernel
theorem dX5_mayStand_1 : decode cX5_mayStand 1 = .ok (.bipush 23, 2) := by decide +kernel
theorem dX5_mayStand_3 : decode cX5_mayStand 3 = .ok (.if_icmp .lt 5, 3) := by decide +kernel
theorem dX5_mayStand_6 : decode cX5_mayStand 6 = .ok (.iconst 0, 1) := by decide +kernel
theorem dX5_mayStand_7 : decode cX5_mayStand 7 = .ok (.ireturn, 1) := by decide +kernel
theorem dX5_mayStand_8 : decode cX5_mayStand 8 = .ok (.aload_n 0, 1) := by decide +kernel
theorem dX5_mayStand_9 : decode cX5_mayStand 9 = .ok (.getfield 9, 3) := by decide +kernel
theorem dX5_mayStand_12 : decode cX5_mayStand 12 = .ok (.iload_n 1, 1) := by decide +kernel
theorem dX5_mayStand_13 : decode cX5_mayStand 13 = .ok (.caload, 1) := by decide +kernel
theorem dX5_mayStand_14 : decode cX5_mayStand 14 = .ok (.istore_n 2, 1) := by decide +kernel
theorem dX5_mayStand_15 : decode cX5_mayStand 15 = .ok (.aload_n 0, 1) := by decide +kernel
theorem dX5_mayStand_16 : decode cX5_mayStand 16 = .ok (.iload_n 1, 1) := by decide +kernel
theorem dX5_mayStand_17 : decode cX5_mayStand 17 = .ok (.iload_n 1, 1) := by decide +kernel
theorem dX5_mayStand_18 : decode cX5_mayStand 18 = .ok (.iconst 4, 1) := by decide +kernel
theorem dX5_mayStand_19 : decode cX5_mayStand 19 = .ok (.irem, 1) := by decide +kernel
theorem dX5_mayStand_20 : decode cX5_mayStand 20 = .ok (.isub, 1) := by decide +kernel
theorem dX5_mayStand_21 : decode cX5_mayStand 21 = .ok (.invokevirtual 27, 3) := by decide +kernel
theorem dX5_mayStand_24 : decode cX5_mayStand 24 = .ok (.istore_n 3, 1) := by decide +kernel
theorem dX5_mayStand_25 : decode cX5_mayStand 25 = .ok (.iload_n 1, 1) := by decide +kernel
theorem dX5_mayStand_26 : decode cX5_mayStand 26 = .ok (.iconst 4, 1) := by decide +kernel
theorem dX5_mayStand_27 : decode cX5_mayStand 27 = .ok (.irem, 1) := by decide +kernel
theorem dX5_mayStand_28 : decode cX5_mayStand 28 = .ok (.tableswitch 109 0 2 #[28, 46, 73], 28) := by decide +kernel
theorem dX5_mayStand_56 : decode cX5_mayStand 56 = .ok (.iload_n 2, 1) := by decide +kernel
theorem dX5_mayStand_57 : decode cX5_mayStand 57 = .ok (.bipush 102, 2) := by decide +kernel
theorem dX5_mayStand_59 : decode cX5_mayStand 59 = .ok (.if_icmp .eq 9, 3) := by decide +kernel
theorem dX5_mayStand_62 : decode cX5_mayStand 62 = .ok (.iload_n 2, 1) := by decide +kernel
theorem dX5_mayStand_63 : decode cX5_mayStand 63 = .ok (.bipush 109, 2) := by decide +kernel
theorem dX5_mayStand_65 : decode cX5_mayStand 65 = .ok (.if_icmp .ne 7, 3) := by decide +kernel
theorem dX5_mayStand_68 : decode cX5_mayStand 68 = .ok (.iconst 1, 1) := by decide +kernel
theorem dX5_mayStand_69 : decode cX5_mayStand 69 = .ok (.goto 4, 3) := by decide +kernel
theorem dX5_mayStand_72 : decode cX5_mayStand 72 = .ok (.iconst 0, 1) := by decide +kernel
theorem dX5_mayStand_73 : decode cX5_mayStand 73 = .ok (.ireturn, 1) := by decide +kernel
theorem dX5_mayStand_74 : decode cX5_mayStand 74 = .ok (.iload_n 2, 1) := by decide +kernel
theorem dX5_mayStand_75 : decode cX5_mayStand 75 = .ok (.bipush 48, 2) := by decide +kernel
theorem dX5_mayStand_77 : decode cX5_mayStand 77 = .ok (.if_icmp .lt 22, 3) := by decide +kernel
theorem dX5_mayStand_80 : decode cX5_mayStand 80 = .ok (.iload_n 2, 1) := by decide +kernel
theorem dX5_mayStand_81 : decode cX5_mayStand 81 = .ok (.iload_n 3, 1) := by decide +kernel
theorem dX5_mayStand_82 : decode cX5_mayStand 82 = .ok (.ifCond .eq 8, 3) := by decide +kernel
theorem dX5_mayStand_85 : decode cX5_mayStand 85 = .ok (.bipush 50, 2) := by decide +kernel
theorem dX5_mayStand_87 : decode cX5_mayStand 87 = .ok (.goto 5, 3) := by decide +kernel
theorem dX5_mayStand_90 : decode cX5_mayStand 90 = .ok (.bipush 54, 2) := by decide +kernel
theorem dX5_mayStand_92 : decode cX5_mayStand 92 = .ok (.if_icmp .gt 7, 3) := by decide +kernel
theorem dX5_mayStand_95 : decode cX5_mayStand 95 = .ok (.iconst 1, 1) := by decide +kernel
theorem dX5_mayStand_96 : decode cX5_mayStand 96 = .ok (.goto 4, 3) := by decide +kernel
theorem dX5_mayStand_99 : decode cX5_mayStand 99 = .ok (.iconst 0, 1) := by decide +kernel
theorem dX5_mayStand_100 : decode cX5_mayStand 100 = .ok (.ireturn, 1) := by decide +kernel
theorem dX5_mayStand_101 : decode cX5_mayStand 101 = .ok (.iload_n 2, 1) := by decide +kernel
theorem dX5_mayStand_102 : decode cX5_mayStand 102 = .ok (.iload_n 3, 1) := by decide +kernel
theorem dX5_mayStand_103 : decode cX5_mayStand 103 = .ok (.ifCond .eq 8, 3) := by decide +kernel
theorem dX5_mayStand_106 : decode cX5_mayStand 106 = .ok (.bipush 48, 2) := by decide +kernel
theorem dX5_mayStand_108 : decode cX5_mayStand 108 = .ok (.goto 5, 3) := by decide +kernel
theorem dX5_mayStand_111 : decode cX5_mayStand 111 = .ok (.bipush 49, 2) := by decide +kernel
theorem dX5_mayStand_113 : decode cX5_mayStand 113 = .ok (.if_icmp .lt 22, 3) := by decide +kernel
theorem dX5_mayStand_116 : decode cX5_mayStand 116 = .ok (.iload_n 2, 1) := by decide +kernel
theorem dX5_mayStand_117 : decode cX5_mayStand 117 = .ok (.iload_n 3, 1) := by decide +kernel
theorem dX5_mayStand_118 : decode cX5_mayStand 118 = .ok (.ifCond .eq 8, 3) := by decide +kernel
theorem dX5_mayStand_121 : decode cX5_mayStand 121 = .ok (.bipush 57, 2) := by decide +kernel
theorem dX5_mayStand_123 : decode cX5_mayStand 123 = .ok (.goto 5, 3) := by decide +kernel
theorem dX5_mayStand_126 : decode cX5_mayStand 126 = .ok (.bipush 52, 2) := by decide +kernel
theorem dX5_mayStand_128 : decode cX5_mayStand 128 = .ok (.if_icmp .gt 7, 3) := by decide +kernel
theorem dX5_mayStand_131 : decode cX5_mayStand 131 = .ok (.iconst 1, 1) := by decide +kernel
theorem dX5_mayStand_132 : decode cX5_mayStand 132 = .ok (.goto 4, 3) := by decide +kernel
theorem dX5_mayStand_135 : decode cX5_mayStand 135 = .ok (.iconst 0, 1) := by decide +kernel
theorem dX5_mayStand_136 : decode cX5_mayStand 136 = .ok (.ireturn, 1) := by decide +kernel
theorem dX5_mayStand_137 : decode cX5_mayStand 137 = .ok (.iload_n 2, 1) := by decide +kernel
theorem dX5_mayStand_138 : decode cX5_mayStand 138 = .ok (.bipush 44, 2) := by decide +kernel
theorem dX5_mayStand_140 : decode cX5_mayStand 140 = .ok (.if_icmp .ne 7, 3) := by decide +kernel
theorem dX5_mayStand_143 : decode cX5_mayStand 143 = .ok (.iconst 1, 1) := by decide +kernel
theorem dX5_mayStand_144 : decode cX5_mayStand 144 = .ok (.goto 4, 3) := by decide +kernel
theorem dX5_mayStand_147 : decode cX5_mayStand 147 = .ok (.iconst 0, 1) := by decide +kernel
theorem dX5_mayStand_148 : decode cX5_mayStand 148 = .ok (.ireturn, 1) := by decide +kernel
theorem dX5_staysAt_0 : decode cX5_staysAt 0 = .ok (.aload_n 0, 1) := by decide +kernel
theorem dX5_staysAt_1 : decode cX5_staysAt 1 = .ok (.getfield 9, 3) := by decide +kernel
theorem dX5_staysAt_4 : decode cX5_staysAt 4 = .ok (.iload_n 1, 1) := by decide +kernel
theorem dX5_staysAt_5 : decode cX5_staysAt 5 = .ok (.caload, 1) := by decide +kernel
theorem dX5_staysAt_6 : decode cX5_staysAt 6 = .ok (.bipush 102, 2) := by decide +kernel
theorem dX5_staysAt_8 : decode cX5_staysAt 8 = .ok (.if_icmp .ne 7, 3) := by decide +kernel
theorem dX5_staysAt_11 : decode cX5_staysAt 11 = .ok (.iconst 1, 1) := by decide +kernel
theorem dX5_staysAt_12 : decode cX5_staysAt 12 = .ok (.goto 4, 3) := by decide +kernel
theorem dX5_staysAt_15 : decode cX5_staysAt 15 = .ok (.iconst 0, 1) := by decide +kernel
theorem dX5_staysAt_16 : decode cX5_staysAt 16 = .ok (.ireturn, 1) := by decide +kernel
theorem dX5_digitAt_0 : decode cX5_digitAt 0 = .ok (.aload_n 0, 1) := by decide +kernel
theorem dX5_digitAt_1 : decode cX5_digitAt 1 = .ok (.getfield 9, 3) := by decide +kernel
theorem dX5_digitAt_4 : decode cX5_digitAt 4 = .ok (.iload_n 1, 1) := by decide +kernel
theorem dX5_digitAt_5 : decode cX5_digitAt 5 = .ok (.caload, 1) := by decide +kernel
theorem dX5_digitAt_6 : decode cX5_digitAt 6 = .ok (.bipush 48, 2) := by decide +kernel
theorem dX5_digitAt_8 : decode cX5_digitAt 8 = .ok (.isub, 1) := by decide +kernel
theorem dX5_digitAt_9 : decode cX5_digitAt 9 = .ok (.ireturn, 1) := by decide +kernel
theorem dX6_init_0 : decode cX6_init 0 = .ok (.aload_n 0, 1) := by decide +kernel
theorem dX6_init_1 : decode cX6_init 1 = .ok (.invokespecial 3, 3) := by decide +kernel
theorem dX6_init_4 : decode cX6_init 4 = .ok (.aload_n 0, 1) := by decide +kernel
theorem dX6_init_5 : decode cX6_init 5 = .ok (.iconst (-1), 1) := by decide +kernel
theorem dX6_init_6 : decode cX6_init 6 = .ok (.putfield 9, 3) := by decide +kernel
theorem dX6_init_9 : decode cX6_init 9 = .ok (.return_, 1) := by decide +kernel
theorem dX6_hasBegun_0 : decode cX6_hasBegun 0 = .ok (.aload_n 0, 1) := by decide +kernel
theorem dX6_hasBegun_1 : decode cX6_hasBegun 1 = .ok (.getfield 9, 3) := by decide +kernel
theorem dX6_hasBegun_4 : decode cX6_hasBegun 4 = .ok (.iconst (-1), 1) := by decide +kernel
theorem dX6_hasBegun_5 : decode cX6_hasBegun 5 = .ok (.if_icmp .eq 7, 3) := by decide +kernel
theorem dX6_hasBegun_8 : decode cX6_hasBegun 8 = .ok (.iconst 1, 1) := by decide +kernel
theorem dX6_hasBegun_9 : decode cX6_hasBegun 9 = .ok (.goto 4, 3) := by decide +kernel
theorem dX6_hasBegun_12 : decode cX6_hasBegun 12 = .ok (.iconst 0, 1) := by decide +kernel
theorem dX6_hasBegun_13 : decode cX6_hasBegun 13 = .ok (.ireturn, 1) := by decide +kernel
theorem dX6_beginWith_0 : decode cX6_beginWith 0 = .ok (.aload_n 0, 1) := by decide +kernel
theorem dX6_beginWith_1 : decode cX6_beginWith 1 = .ok (.iload_n 1, 1) := by decide +kernel
theorem dX6_beginWith_2 : decode cX6_beginWith 2 = .ok (.putfield 9, 3) := by decide +kernel
theorem dX6_beginWith_5 : decode cX6_beginWith 5 = .ok (.aload_n 0, 1) := by decide +kernel
theorem dX6_beginWith_6 : decode cX6_beginWith 6 = .ok (.iload_n 2, 1) := by decide +kernel
theorem dX6_beginWith_7 : decode cX6_beginWith 7 = .ok (.putfield 15, 3) := by decide +kernel
theorem dX6_beginWith_10 : decode cX6_beginWith 10 = .ok (.aload_n 0, 1) := by decide +kernel
theorem dX6_beginWith_11 : decode cX6_beginWith 11 = .ok (.iconst 0, 1) := by decide +kernel
theorem dX6_beginWith_12 : decode cX6_beginWith 12 = .ok (.putfield 18, 3) := by decide +kernel
theorem dX6_beginWith_15 : decode cX6_beginWith 15 = .ok (.aload_n 0, 1) := by decide +kernel
theorem dX6_beginWith_16 : decode cX6_beginWith 16 = .ok (.iconst 0, 1) := by decide +kernel
theorem dX6_beginWith_17 : decode cX6_beginWith 17 = .ok (.putfield 21, 3) := by decide +kernel
theorem dX6_beginWith_20 : decode cX6_beginWith 20 = .ok (.return_, 1) := by decide +kernel
theorem dX6_put_0 : decode cX6_put 0 = .ok (.iload_n 1, 1) := by decide +kernel
theorem dX6_put_1 : decode cX6_put 1 = .ok (.ifCond .eq 18, 3) := by decide +kernel
theorem dX6_put_4 : decode cX6_put 4 = .ok (.aload_n 0, 1) := by decide +kernel
theorem dX6_put_5 : decode cX6_put 5 = .ok (.dup, 1) := by decide +kernel
theorem dX6_put_6 : decode cX6_put 6 = .ok (.getfield 21, 3) := by decide +kernel
theorem dX6_put_9 : decode cX6_put 9 = .ok (.iconst 1, 1) := by decide +kernel
theorem dX6_put_10 : decode cX6_put 10 = .ok (.aload_n 0, 1) := by decide +kernel
theorem dX6_put_11 : decode cX6_put 11 = .ok (.getfield 18, 3) := by decide +kernel
theorem dX6_put_14 : decode cX6_put 14 = .ok (.ishl, 1) := by decide +kernel
theorem dX6_put_15 : decode cX6_put 15 = .ok (.ior, 1) := by decide +kernel
theorem dX6_put_16 : decode cX6_put 16 = .ok (.putfield 21, 3) := by decide +kernel
theorem dX6_put_19 : decode cX6_put 19 = .ok (.aload_n 0, 1) := by decide +kernel
theorem dX6_put_20 : decode cX6_put 20 = .ok (.dup, 1) := by decide +kernel
theorem dX6_put_21 : decode cX6_put 21 = .ok (.getfield 18, 3) := by decide +kernel
theorem dX6_put_24 : decode cX6_put 24 = .ok (.iconst 1, 1) := by decide +kernel
theorem dX6_put_25 : decode cX6_put 25 = .ok (.iadd, 1) := by decide +kernel
theorem dX6_put_26 : decode cX6_put 26 = .ok (.putfield 18, 3) := by decide +kernel
theorem dX6_put_29 : decode cX6_put 29 = .ok (.return_, 1) := by decide +kernel
theorem dX6_huntedAt_0 : decode cX6_huntedAt 0 = .ok (.aload_n 0, 1) := by decide +kernel
theorem dX6_huntedAt_1 : decode cX6_huntedAt 1 = .ok (.getfield 21, 3) := by decide +kernel
theorem dX6_huntedAt_4 : decode cX6_huntedAt 4 = .ok (.iload_n 1, 1) := by decide +kernel
theorem dX6_huntedAt_5 : decode cX6_huntedAt 5 = .ok (.ishr, 1) := by decide +kernel
theorem dX6_huntedAt_6 : decode cX6_huntedAt 6 = .ok (.iconst 1, 1) := by decide +kernel
theorem dX6_huntedAt_7 : decode cX6_huntedAt 7 = .ok (.iand, 1) := by decide +kernel
theorem dX6_huntedAt_8 : decode cX6_huntedAt 8 = .ok (.iconst 1, 1) := by decide +kernel
theorem dX6_huntedAt_9 : decode cX6_huntedAt 9 = .ok (.if_icmp .ne 7, 3) := by decide +kernel
theorem dX6_huntedAt_12 : decode cX6_huntedAt 12 = .ok (.iconst 1, 1) := by decide +kernel
theorem dX6_huntedAt_13 : decode cX6_huntedAt 13 = .ok (.goto 4, 3) := by decide +kernel
theorem dX6_huntedAt_16 : decode cX6_huntedAt 16 = .ok (.iconst 0, 1) := by decide +kernel
theorem dX6_huntedAt_17 : decode cX6_huntedAt 17 = .ok (.ireturn, 1) := by decide +kernel
theorem dX6_copyFrom_0 : decode cX6_copyFrom 0 = .ok (.aload_n 0, 1) := by decide +kernel
theorem dX6_copyFrom_1 : decode cX6_copyFrom 1 = .ok (.aload_n 1, 1) := by decide +kernel
theorem dX6_copyFrom_2 : decode cX6_copyFrom 2 = .ok (.getfield 9, 3) := by decide +kernel
theorem dX6_copyFrom_5 : decode cX6_copyFrom 5 = .ok (.putfield 9, 3) := by decide +kernel
theorem dX6_copyFrom_8 : decode cX6_copyFrom 8 = .ok (.aload_n 0, 1) := by decide +kernel
theorem dX6_copyFrom_9 : decode cX6_copyFrom 9 = .ok (.aload_n 1, 1) := by decide +kernel
theorem dX6_copyFrom_10 : decode cX6_copyFrom 10 = .ok (.getfield 15, 3) := by decide +kernel
theorem dX6_copyFrom_13 : decode cX6_copyFrom 13 = .ok (.putfield 15, 3) := by decide +kernel
theorem dX6_copyFrom_16 : decode cX6_copyFrom 16 = .ok (.aload_n 0, 1) := by decide +kernel
theorem dX6_copyFrom_17 : decode cX6_copyFrom 17 = .ok (.aload_n 1, 1) := by decide +kernel
theorem dX6_copyFrom_18 : decode cX6_copyFrom 18 = .ok (.getfield 18, 3) := by decide +kernel
theorem dX6_copyFrom_21 : decode cX6_copyFrom 21 = .ok (.putfield 18, 3) := by decide +kernel
theorem dX6_copyFrom_24 : decode cX6_copyFrom 24 = .ok (.aload_n 0, 1) := by decide +kernel
theorem dX6_copyFrom_25 : decode cX6_copyFrom 25 = .ok (.aload_n 1, 1) := by decide +kernel
theorem dX6_copyFrom_26 : decode cX6_copyFrom 26 = .ok (.getfield 21, 3) := by decide +kernel
theorem dX6_copyFrom_29 : decode cX6_copyFrom 29 = .ok (.putfield 21, 3) := by decide +kernel
theorem dX6_copyFrom_32 : decode cX6_copyFrom 32 = .ok (.return_, 1) := by decide +kernel
theorem dX7_init_0 : decode cX7_init 0 = .ok (.aload_n 0, 1) := by decide +kernel
theorem dX7_init_1 : decode cX7_init 1 = .ok (.invokespecial 3, 3) := by decide +kernel
theorem dX7_init_4 : decode cX7_init 4 = .ok (.aload_n 0, 1) := by decide +kernel
theorem dX7_init_5 : decode cX7_init 5 = .ok (.iconst 4, 1) := by decide +kernel
theorem dX7_init_6 : decode cX7_init 6 = .ok (.anewarray 9, 3) := by decide +kernel
theorem dX7_init_9 : decode cX7_init 9 = .ok (.putfield 11, 3) := by decide +kernel
theorem dX7_init_12 : decode cX7_init 12 = .ok (.aload_n 0, 1) := by decide +kernel
theorem dX7_init_13 : decode cX7_init 13 = .ok (.iconst 5, 1) := by decide +kernel
theorem dX7_init_14 : decode cX7_init 14 = .ok (.anewarray 17, 3) := by decide +kernel
theorem dX7_init_17 : decode cX7_init 17 = .ok (.putfield 19, 3) := by decide +kernel
theorem dX7_init_20 : decode cX7_init 20 = .ok (.aload_n 0, 1) := by decide +kernel
theorem dX7_init_21 : decode cX7_init 21 = .ok (.bipush 8, 2) := by decide +kernel
theorem dX7_init_23 : decode cX7_init 23 = .ok (.newarray .int, 2) := by decide +kernel
theorem dX7_init_25 : decode cX7_init 25 = .ok (.putfield 23, 3) := by decide +kernel
theorem dX7_init_28 : decode cX7_init 28 = .ok (.aload_n 0, 1) := by decide +kernel
theorem dX7_init_29 : decode cX7_init 29 = .ok (.new 27, 3) := by decide +kernel
theorem dX7_init_32 : decode cX7_init 32 = .ok (.dup, 1) := by decide +kernel
theorem dX7_init_33 : decode cX7_init 33 = .ok (.invokespecial 29, 3) := by decide +kernel
theorem dX7_init_36 : decode cX7_init 36 = .ok (.putfield 30, 3) := by decide +kernel
theorem dX7_init_39 : decode cX7_init 39 = .ok (.iconst 0, 1) := by decide +kernel
theorem dX7_init_40 : decode cX7_init 40 = .ok (.istore_n 1, 1) := by decide +kernel
theorem dX7_init_41 : decode cX7_init 41 = .ok (.iload_n 1, 1) := by decide +kernel
theorem dX7_init_42 : decode cX7_init 42 = .ok (.iconst 4, 1) := by decide +kernel
theorem dX7_init_43 : decode cX7_init 43 = .ok (.if_icmp .ge 22, 3) := by decide +kernel
theorem dX7_init_46 : decode cX7_init 46 = .ok (.aload_n 0, 1) := by decide +kernel
theorem dX7_init_47 : decode cX7_init 47 = .ok (.getfield 11, 3) := by decide +kernel
theorem dX7_init_50 : decode cX7_init 50 = .ok (.iload_n 1, 1) := by decide +kernel
theorem dX7_init_51 : decode cX7_init 51 = .ok (.new 9, 3) := by decide +kernel
theorem dX7_init_54 : decode cX7_init 54 = .ok (.dup, 1) := by decide +kernel
theorem dX7_init_55 : decode cX7_init 55 = .ok (.invokespecial 34, 3) := by decide +kernel
theorem dX7_init_58 : decode cX7_init 58 = .ok (.aastore, 1) := by decide +kernel
theorem dX7_init_59 : decode cX7_init 59 = .ok (.iinc 1 1, 3) := by decide +kernel
theorem dX7_init_62 : decode cX7_init 62 = .ok (.goto (-21), 3) := by decide +kernel
theorem dX7_init_65 : decode cX7_init 65 = .ok (.iconst 0, 1) := by decide +kernel
theorem dX7_init_66 : decode cX7_init 66 = .ok (.istore_n 1, 1) := by decide +kernel
theorem dX7_init_67 : decode cX7_init 67 = .ok (.iload_n 1, 1) := by decide +kernel
theorem dX7_init_68 : decode cX7_init 68 = .ok (.iconst 5, 1) := by decide +kernel
theorem dX7_init_69 : decode cX7_init 69 = .ok (.if_icmp .ge 22, 3) := by decide +kernel
theorem dX7_init_72 : decode cX7_init 72 = .ok (.aload_n 0, 1) := by decide +kernel
theorem dX7_init_73 : decode cX7_init 73 = .ok (.getfield 19, 3) := by decide +kernel
theorem dX7_init_76 : decode cX7_init 76 = .ok (.iload_n 1, 1) := by decide +kernel
theorem dX7_init_77 : decode cX7_init 77 = .ok (.new 17, 3) := by decide +kernel
theorem dX7_init_80 : decode cX7_init 80 = .ok (.dup, 1) := by decide +kernel
theorem dX7_init_81 : decode cX7_init 81 = .ok (.invokespecial 35, 3) := by decide +kernel
theorem dX7_init_84 : decode cX7_init 84 = .ok (.aastore, 1) := by decide +kernel
theorem dX7_init_85 : decode cX7_init 85 = .ok (.iinc 1 1, 3) := by decide +kernel
theorem dX7_init_88 : decode cX7_init 88 = .ok (.goto (-21), 3) := by decide +kernel
theorem dX7_init_91 : decode cX7_init 91 = .ok (.return_, 1) := by decide +kernel
theorem dX7_copyFrom_0 : decode cX7_copyFrom 0 = .ok (.iconst 0, 1) := by decide +kernel
theorem dX7_copyFrom_1 : decode cX7_copyFrom 1 = .ok (.istore_n 2, 1) := by decide +kernel
theorem dX7_copyFrom_2 : decode cX7_copyFrom 2 = .ok (.iload_n 2, 1) := by decide +kernel
theorem dX7_copyFrom_3 : decode cX7_copyFrom 3 = .ok (.aload_n 1, 1) := by decide +kernel
theorem dX7_copyFrom_4 : decode cX7_copyFrom 4 = .ok (.getfield 36, 3) := by decide +kernel
theorem dX7_copyFrom_7 : decode cX7_copyFrom 7 = .ok (.if_icmp .ge 37, 3) := by decide +kernel
theorem dX7_copyFrom_10 : decode cX7_copyFrom 10 = .ok (.aload_n 1, 1) := by decide +kernel
theorem dX7_copyFrom_11 : decode cX7_copyFrom 11 = .ok (.getfield 11, 3) := by decide +kernel
theorem dX7_copyFrom_14 : decode cX7_copyFrom 14 = .ok (.iload_n 2, 1) := by decide +kernel
theorem dX7_copyFrom_15 : decode cX7_copyFrom 15 = .ok (.aaload, 1) := by decide +kernel
theorem dX7_copyFrom_16 : decode cX7_copyFrom 16 = .ok (.astore_n 3, 1) := by decide +kernel
theorem dX7_copyFrom_17 : decode cX7_copyFrom 17 = .ok (.aload_n 0, 1) := by decide +kernel
theorem dX7_copyFrom_18 : decode cX7_copyFrom 18 = .ok (.getfield 11, 3) := by decide +kernel
theorem dX7_copyFrom_21 : decode cX7_copyFrom 21 = .ok (.iload_n 2, 1) := by decide +kernel
theorem dX7_copyFrom_22 : decode cX7_copyFrom 22 = .ok (.aaload, 1) := by decide +kernel
theorem dX7_copyFrom_23 : decode cX7_copyFrom 23 = .ok (.aload_n 3, 1) := by decide +kernel
theorem dX7_copyFrom_24 : decode cX7_copyFrom 24 = .ok (.getfield 40, 3) := by decide +kernel
theorem dX7_copyFrom_27 : decode cX7_copyFrom 27 = .ok (.aload_n 3, 1) := by decide +kernel
theorem dX7_copyFrom_28 : decode cX7_copyFrom 28 = .ok (.getfield 44, 3) := by decide +kernel
theorem dX7_copyFrom_31 : decode cX7_copyFrom 31 = .ok (.aload_n 3, 1) := by decide +kernel
theorem dX7_copyFrom_32 : decode cX7_copyFrom 32 = .ok (.getfield 47, 3) := by decide +kernel
theorem dX7_copyFrom_35 : decode cX7_copyFrom 35 = .ok (.invokevirtual 50, 3) := by decide +kernel
theorem dX7_copyFrom_38 : decode cX7_copyFrom 38 = .ok (.iinc 2 1, 3) := by decide +kernel
theorem dX7_copyFrom_41 : decode cX7_copyFrom 41 = .ok (.goto (-39), 3) := by decide +kernel
theorem dX7_copyFrom_44 : decode cX7_copyFrom 44 = .ok (.iconst 0, 1) := by decide +kernel
theorem dX7_copyFrom_45 : decode cX7_copyFrom 45 = .ok (.istore_n 2, 1) := by decide +kernel
theorem dX7_copyFrom_46 : decode cX7_copyFrom 46 = .ok (.iload_n 2, 1) := by decide +kernel
theorem dX7_copyFrom_47 : decode cX7_copyFrom 47 = .ok (.aload_n 1, 1) := by decide +kernel
theorem dX7_copyFrom_48 : decode cX7_copyFrom 48 = .ok (.getfield 54, 3) := by decide +kernel
theorem dX7_copyFrom_51 : decode cX7_copyFrom 51 = .ok (.if_icmp .ge 24, 3) := by decide +kernel
theorem dX7_copyFrom_54 : decode cX7_copyFrom 54 = .ok (.aload_n 0, 1) := by decide +kernel
theorem dX7_copyFrom_55 : decode cX7_copyFrom 55 = .ok (.getfield 19, 3) := by decide +kernel
theorem dX7_copyFrom_58 : decode cX7_copyFrom 58 = .ok (.iload_n 2, 1) := by decide +kernel
theorem dX7_copyFrom_59 : decode cX7_copyFrom 59 = .ok (.aaload, 1) := by decide +kernel
theorem dX7_copyFrom_60 : decode cX7_copyFrom 60 = .ok (.aload_n 1, 1) := by decide +kernel
theorem dX7_copyFrom_61 : decode cX7_copyFrom 61 = .ok (.getfield 19, 3) := by decide +kernel
theorem dX7_copyFrom_64 : decode cX7_copyFrom 64 = .ok (.iload_n 2, 1) := by decide +kernel
theorem dX7_copyFrom_65 : decode cX7_copyFrom 65 = .ok (.aaload, 1) := by decide +kernel
theorem dX7_copyFrom_66 : decode cX7_copyFrom 66 = .ok (.invokevirtual 57, 3) := by decide +kernel
theorem dX7_copyFrom_69 : decode cX7_copyFrom 69 = .ok (.iinc 2 1, 3) := by decide +kernel
theorem dX7_copyFrom_72 : decode cX7_copyFrom 72 = .ok (.goto (-26), 3) := by decide +kernel
theorem dX7_copyFrom_75 : decode cX7_copyFrom 75 = .ok (.aload_n 1, 1) := by decide +kernel
theorem dX7_copyFrom_76 : decode cX7_copyFrom 76 = .ok (.getfield 23, 3) := by decide +kernel
theorem dX7_copyFrom_79 : decode cX7_copyFrom 79 = .ok (.iconst 0, 1) := by decide +kernel
theorem dX7_copyFrom_80 : decode cX7_copyFrom 80 = .ok (.aload_n 0, 1) := by decide +kernel
theorem dX7_copyFrom_81 : decode cX7_copyFrom 81 = .ok (.getfield 23, 3) := by decide +kernel
theorem dX7_copyFrom_84 : decode cX7_copyFrom 84 = .ok (.iconst 0, 1) := by decide +kernel
theorem dX7_copyFrom_85 : decode cX7_copyFrom 85 = .ok (.bipush 8, 2) := by decide +kernel
theorem dX7_copyFrom_87 : decode cX7_copyFrom 87 = .ok (.invokestatic 61, 3) := by decide +kernel
theorem dX7_copyFrom_90 : decode cX7_copyFrom 90 = .ok (.aload_n 0, 1) := by decide +kernel
theorem dX7_copyFrom_91 : decode cX7_copyFrom 91 = .ok (.getfield 30, 3) := by decide +kernel
theorem dX7_copyFrom_94 : decode cX7_copyFrom 94 = .ok (.aload_n 1, 1) := by decide +kernel
theorem dX7_copyFrom_95 : decode cX7_copyFrom 95 = .ok (.getfield 30, 3) := by decide +kernel
theorem dX7_copyFrom_98 : decode cX7_copyFrom 98 = .ok (.invokevirtual 67, 3) := by decide +kernel
theorem dX7_copyFrom_101 : decode cX7_copyFrom 101 = .ok (.aload_n 0, 1) := by decide +kernel
theorem dX7_copyFrom_102 : decode cX7_copyFrom 102 = .ok (.aload_n 1, 1) := by decide +kernel
theorem dX7_copyFrom_103 : decode cX7_copyFrom 103 = .ok (.getfield 36, 3) := by decide +kernel
theorem dX7_copyFrom_106 : decode cX7_copyFrom 106 = .ok (.putfield 36, 3) := by decide +kernel
theorem dX7_copyFrom_109 : decode cX7_copyFrom 109 = .ok (.aload_n 0, 1) := by decide +kernel
theorem dX7_copyFrom_110 : decode cX7_copyFrom 110 = .ok (.aload_n 1, 1) := by decide +kernel
theorem dX7_copyFrom_111 : decode cX7_copyFrom 111 = .ok (.getfield 54, 3) := by decide +kernel
theorem dX7_copyFrom_114 : decode cX7_copyFrom 114 = .ok (.putfield 54, 3) := by decide +kernel
theorem dX7_copyFrom_117 : decode cX7_copyFrom 117 = .ok (.aload_n 0, 1) := by decide +kernel
theorem dX7_copyFrom_118 : decode cX7_copyFrom 118 = .ok (.aload_n 1, 1) := by decide +kernel
theorem dX7_copyFrom_119 : decode cX7_copyFrom 119 = .ok (.getfield 70, 3) := by decide +kernel
theorem dX7_copyFrom_122 : decode cX7_copyFrom 122 = .ok (.aload_n 1, 1) := by decide +kernel
theorem dX7_copyFrom_123 : decode cX7_copyFrom 123 = .ok (.getfield 73, 3) := by decide +kernel
theorem dX7_copyFrom_126 : decode cX7_copyFrom 126 = .ok (.invokevirtual 76, 3) := by decide +kernel
theorem dX7_copyFrom_129 : decode cX7_copyFrom 129 = .ok (.return_, 1) := by decide +kernel
theorem dX7_goBackTo_0 : decode cX7_goBackTo 0 = .ok (.aload_n 0, 1) := by decide +kernel
theorem dX7_goBackTo_1 : decode cX7_goBackTo 1 = .ok (.iload_n 1, 1) := by decide +kernel
theorem dX7_goBackTo_2 : decode cX7_goBackTo 2 = .ok (.putfield 70, 3) := by decide +kernel
theorem dX7_goBackTo_5 : decode cX7_goBackTo 5 = .ok (.aload_n 0, 1) := by decide +kernel
theorem dX7_goBackTo_6 : decode cX7_goBackTo 6 = .ok (.iload_n 2, 1) := by decide +kernel
theorem dX7_goBackTo_7 : decode cX7_goBackTo 7 = .ok (.putfield 73, 3) := by decide +kernel
theorem dX7_goBackTo_10 : decode cX7_goBackTo 10 = .ok (.return_, 1) := by decide +kernel
theorem dX7_hasPack_0 : decode cX7_hasPack 0 = .ok (.iload_n 1, 1) := by decide +kernel
theorem dX7_hasPack_1 : decode cX7_hasPack 1 = .ok (.ifCond .lt 15, 3) := by decide +kernel
theorem dX7_hasPack_4 : decode cX7_hasPack 4 = .ok (.iload_n 1, 1) := by decide +kernel
theorem dX7_hasPack_5 : decode cX7_hasPack 5 = .ok (.aload_n 0, 1) := by decide +kernel
theorem dX7_hasPack_6 : decode cX7_hasPack 6 = .ok (.getfield 36, 3) := by decide +kernel
theorem dX7_hasPack_9 : decode cX7_hasPack 9 = .ok (.if_icmp .ge 7, 3) := by decide +kernel
theorem dX7_hasPack_12 : decode cX7_hasPack 12 = .ok (.iconst 1, 1) := by decide +kernel
theorem dX7_hasPack_13 : decode cX7_hasPack 13 = .ok (.goto 4, 3) := by decide +kernel
theorem dX7_hasPack_16 : decode cX7_hasPack 16 = .ok (.iconst 0, 1) := by decide +kernel
theorem dX7_hasPack_17 : decode cX7_hasPack 17 = .ok (.ireturn, 1) := by decide +kernel
theorem dX7_hasFlock_0 : decode cX7_hasFlock 0 = .ok (.iload_n 1, 1) := by decide +kernel
theorem dX7_hasFlock_1 : decode cX7_hasFlock 1 = .ok (.ifCond .lt 15, 3) := by decide +kernel
theorem dX7_hasFlock_4 : decode cX7_hasFlock 4 = .ok (.iload_n 1, 1) := by decide +kernel
theorem dX7_hasFlock_5 : decode cX7_hasFlock 5 = .ok (.aload_n 0, 1) := by decide +kernel
theorem dX7_hasFlock_6 : decode cX7_hasFlock 6 = .ok (.getfield 54, 3) := by decide +kernel
theorem dX7_hasFlock_9 : decode cX7_hasFlock 9 = .ok (.if_icmp .ge 7, 3) := by decide +kernel
theorem dX7_hasFlock_12 : decode cX7_hasFlock 12 = .ok (.iconst 1, 1) := by decide +kernel
theorem dX7_hasFlock_13 : decode cX7_hasFlock 13 = .ok (.goto 4, 3) := by decide +kernel
theorem dX7_hasFlock_16 : decode cX7_hasFlock 16 = .ok (.iconst 0, 1) := by decide +kernel
theorem dX7_hasFlock_17 : decode cX7_hasFlock 17 = .ok (.ireturn, 1) := by decide +kernel
theorem dX7_isEaten_0 : decode cX7_isEaten 0 = .ok (.aload_n 0, 1) := by decide +kernel
theorem dX7_isEaten_1 : decode cX7_isEaten 1 = .ok (.getfield 73, 3) := by decide +kernel
theorem dX7_isEaten_4 : decode cX7_isEaten 4 = .ok (.iload_n 1, 1) := by decide +kernel
theorem dX7_isEaten_5 : decode cX7_isEaten 5 = .ok (.ishr, 1) := by decide +kernel
theorem dX7_isEaten_6 : decode cX7_isEaten 6 = .ok (.iconst 1, 1) := by decide +kernel
theorem dX7_isEaten_7 : decode cX7_isEaten 7 = .ok (.iand, 1) := by decide +kernel
theorem dX7_isEaten_8 : decode cX7_isEaten 8 = .ok (.iconst 1, 1) := by decide +kernel
theorem dX7_isEaten_9 : decode cX7_isEaten 9 = .ok (.if_icmp .ne 7, 3) := by decide +kernel
theorem dX7_isEaten_12 : decode cX7_isEaten 12 = .ok (.iconst 1, 1) := by decide +kernel
theorem dX7_isEaten_13 : decode cX7_isEaten 13 = .ok (.goto 4, 3) := by decide +kernel
theorem dX7_isEaten_16 : decode cX7_isEaten 16 = .ok (.iconst 0, 1) := by decide +kernel
theorem dX7_isEaten_17 : decode cX7_isEaten 17 = .ok (.ireturn, 1) := by decide +kernel
theorem dX7_isGrazing_0 : decode cX7_isGrazing 0 = .ok (.aload_n 0, 1) := by decide +kernel
theorem dX7_isGrazing_1 : decode cX7_isGrazing 1 = .ok (.iload_n 1, 1) := by decide +kernel
theorem dX7_isGrazing_2 : decode cX7_isGrazing 2 = .ok (.invokevirtual 80, 3) := by decide +kernel
theorem dX7_isGrazing_5 : decode cX7_isGrazing 5 = .ok (.ifCond .eq 15, 3) := by decide +kernel
theorem dX7_isGrazing_8 : decode cX7_isGrazing 8 = .ok (.aload_n 0, 1) := by decide +kernel
theorem dX7_isGrazing_9 : decode cX7_isGrazing 9 = .ok (.iload_n 1, 1) := by decide +kernel
theorem dX7_isGrazing_10 : decode cX7_isGrazing 10 = .ok (.invokevirtual 84, 3) := by decide +kernel
theorem dX7_isGrazing_13 : decode cX7_isGrazing 13 = .ok (.ifCond .ne 7, 3) := by decide +kernel
theorem dX7_isGrazing_16 : decode cX7_isGrazing 16 = .ok (.iconst 1, 1) := by decide +kernel
theorem dX7_isGrazing_17 : decode cX7_isGrazing 17 = .ok (.goto 4, 3) := by decide +kernel
theorem dX7_isGrazing_20 : decode cX7_isGrazing 20 = .ok (.iconst 0, 1) := by decide +kernel
theorem dX7_isGrazing_21 : decode cX7_isGrazing 21 = .ok (.ireturn, 1) := by decide +kernel
theorem dX7_eatenInAll_0 : decode cX7_eatenInAll 0 = .ok (.aload_n 0, 1) := by decide +kernel
theorem dX7_eatenInAll_1 : decode cX7_eatenInAll 1 = .ok (.getfield 73, 3) := by decide +kernel
theorem dX7_eatenInAll_4 : decode cX7_eatenInAll 4 = .ok (.invokestatic 87, 3) := by decide +kernel
theorem dX7_eatenInAll_7 : decode cX7_eatenInAll 7 = .ok (.ireturn, 1) := by decide +kernel
theorem dX7_eatenBy_0 : decode cX7_eatenBy 0 = .ok (.iconst 0, 1) := by decide +kernel
theorem dX7_eatenBy_1 : decode cX7_eatenBy 1 = .ok (.istore_n 2, 1) := by decide +kernel
theorem dX7_eatenBy_2 : decode cX7_eatenBy 2 = .ok (.iconst 0, 1) := by decide +kernel
theorem dX7_eatenBy_3 : decode cX7_eatenBy 3 = .ok (.istore_n 3, 1) := by decide +kernel
theorem dX7_eatenBy_4 : decode cX7_eatenBy 4 = .ok (.iload_n 3, 1) := by decide +kernel
theorem dX7_eatenBy_5 : decode cX7_eatenBy 5 = .ok (.aload_n 0, 1) := by decide +kernel
theorem dX7_eatenBy_6 : decode cX7_eatenBy 6 = .ok (.getfield 54, 3) := by decide +kernel
theorem dX7_eatenBy_9 : decode cX7_eatenBy 9 = .ok (.if_icmp .ge 33, 3) := by decide +kernel
theorem dX7_eatenBy_12 : decode cX7_eatenBy 12 = .ok (.aload_n 0, 1) := by decide +kernel
theorem dX7_eatenBy_13 : decode cX7_eatenBy 13 = .ok (.iload_n 3, 1) := by decide +kernel
theorem dX7_eatenBy_14 : decode cX7_eatenBy 14 = .ok (.invokevirtual 84, 3) := by decide +kernel
theorem dX7_eatenBy_17 : decode cX7_eatenBy 17 = .ok (.ifCond .eq 19, 3) := by decide +kernel
theorem dX7_eatenBy_20 : decode cX7_eatenBy 20 = .ok (.aload_n 0, 1) := by decide +kernel
theorem dX7_eatenBy_21 : decode cX7_eatenBy 21 = .ok (.getfield 19, 3) := by decide +kernel
theorem dX7_eatenBy_24 : decode cX7_eatenBy 24 = .ok (.iload_n 3, 1) := by decide +kernel
theorem dX7_eatenBy_25 : decode cX7_eatenBy 25 = .ok (.aaload, 1) := by decide +kernel
theorem dX7_eatenBy_26 : decode cX7_eatenBy 26 = .ok (.getfield 93, 3) := by decide +kernel
theorem dX7_eatenBy_29 : decode cX7_eatenBy 29 = .ok (.iload_n 1, 1) := by decide +kernel
theorem dX7_eatenBy_30 : decode cX7_eatenBy 30 = .ok (.if_icmp .ne 6, 3) := by decide +kernel
theorem dX7_eatenBy_33 : decode cX7_eatenBy 33 = .ok (.iinc 2 1, 3) := by decide +kernel
theorem dX7_eatenBy_36 : decode cX7_eatenBy 36 = .ok (.iinc 3 1, 3) := by decide +kernel
theorem dX7_eatenBy_39 : decode cX7_eatenBy 39 = .ok (.goto (-35), 3) := by decide +kernel
theorem dX7_eatenBy_42 : decode cX7_eatenBy 42 = .ok (.iload_n 2, 1) := by decide +kernel
theorem dX7_eatenBy_43 : decode cX7_eatenBy 43 = .ok (.ireturn, 1) := by decide +kernel
theorem dX7_forgedCells_0 : decode cX7_forgedCells 0 = .ok (.iconst 0, 1) := by decide +kernel
theorem dX7_forgedCells_1 : decode cX7_forgedCells 1 = .ok (.istore_n 1, 1) := by decide +kernel
theorem dX7_forgedCells_2 : decode cX7_forgedCells 2 = .ok (.iconst 0, 1) := by decide +kernel
theorem dX7_forgedCells_3 : decode cX7_forgedCells 3 = .ok (.istore_n 2, 1) := by decide +kernel
theorem dX7_forgedCells_4 : decode cX7_forgedCells 4 = .ok (.iload_n 2, 1) := by decide +kernel
theorem dX7_forgedCells_5 : decode cX7_forgedCells 5 = .ok (.bipush 8, 2) := by decide +kernel
theorem dX7_forgedCells_7 : decode cX7_forgedCells 7 = .ok (.if_icmp .ge 21, 3) := by decide +kernel
theorem dX7_forgedCells_10 : decode cX7_forgedCells 10 = .ok (.aload_n 0, 1) := by decide +kernel
theorem dX7_forgedCells_11 : decode cX7_forgedCells 11 = .ok (.getfield 23, 3) := by decide +kernel
theorem dX7_forgedCells_14 : decode cX7_forgedCells 14 = .ok (.iload_n 2, 1) := by decide +kernel
theorem dX7_forgedCells_15 : decode cX7_forgedCells 15 = .ok (.iaload, 1) := by decide +kernel
theorem dX7_forgedCells_16 : decode cX7_forgedCells 16 = .ok (.ifCond .eq 6, 3) := by decide +kernel
theorem dX7_forgedCells_19 : decode cX7_forgedCells 19 = .ok (.iinc 1 1, 3) := by decide +kernel
theorem dX7_forgedCells_22 : decode cX7_forgedCells 22 = .ok (.iinc 2 1, 3) := by decide +kernel
theorem dX7_forgedCells_25 : decode cX7_forgedCells 25 = .ok (.goto (-21), 3) := by decide +kernel
theorem dX7_forgedCells_28 : decode cX7_forgedCells 28 = .ok (.iload_n 1, 1) := by decide +kernel
theorem dX7_forgedCells_29 : decode cX7_forgedCells 29 = .ok (.ireturn, 1) := by decide +kernel
theorem dX7_readBy_0 : decode cX7_readBy 0 = .ok (.aload_n 1, 1) := by decide +kernel
theorem dX7_readBy_1 : decode cX7_readBy 1 = .ok (.getfield 40, 3) := by decide +kernel
theorem dX7_readBy_4 : decode cX7_readBy 4 = .ok (.aload_n 0, 1) := by decide +kernel
theorem dX7_readBy_5 : decode cX7_readBy 5 = .ok (.getfield 70, 3) := by decide +kernel
theorem dX7_readBy_8 : decode cX7_readBy 8 = .ok (.aload_n 0, 1) := by decide +kernel
theorem dX7_readBy_9 : decode cX7_readBy 9 = .ok (.getfield 23, 3) := by decide +kernel
theorem dX7_readBy_12 : decode cX7_readBy 12 = .ok (.aload_n 1, 1) := by decide +kernel
theorem dX7_readBy_13 : decode cX7_readBy 13 = .ok (.getfield 44, 3) := by decide +kernel
theorem dX7_readBy_16 : decode cX7_readBy 16 = .ok (.iaload, 1) := by decide +kernel
theorem dX7_readBy_17 : decode cX7_readBy 17 = .ok (.aload_n 1, 1) := by decide +kernel
theorem dX7_readBy_18 : decode cX7_readBy 18 = .ok (.getfield 47, 3) := by decide +kernel
theorem dX7_readBy_21 : decode cX7_readBy 21 = .ok (.invokevirtual 96, 3) := by decide +kernel
theorem dX7_readBy_24 : decode cX7_readBy 24 = .ok (.ireturn, 1) := by decide +kernel
theorem dX7_preyOf_0 : decode cX7_preyOf 0 = .ok (.aload_n 0, 1) := by decide +kernel
theorem dX7_preyOf_1 : decode cX7_preyOf 1 = .ok (.aload_n 1, 1) := by decide +kernel
theorem dX7_preyOf_2 : decode cX7_preyOf 2 = .ok (.invokevirtual 102, 3) := by decide +kernel
theorem dX7_preyOf_5 : decode cX7_preyOf 5 = .ok (.istore_n 3, 1) := by decide +kernel
theorem dX7_preyOf_6 : decode cX7_preyOf 6 = .ok (.aload_n 1, 1) := by decide +kernel
theorem dX7_preyOf_7 : decode cX7_preyOf 7 = .ok (.getfield 40, 3) := by decide +kernel
theorem dX7_preyOf_10 : decode cX7_preyOf 10 = .ok (.iload_n 3, 1) := by decide +kernel
theorem dX7_preyOf_11 : decode cX7_preyOf 11 = .ok (.aload_n 2, 1) := by decide +kernel
theorem dX7_preyOf_12 : decode cX7_preyOf 12 = .ok (.invokevirtual 106, 3) := by decide +kernel
theorem dX7_preyOf_15 : decode cX7_preyOf 15 = .ok (.ifCond .eq 5, 3) := by decide +kernel
theorem dX7_preyOf_18 : decode cX7_preyOf 18 = .ok (.iconst (-1), 1) := by decide +kernel
theorem dX7_preyOf_19 : decode cX7_preyOf 19 = .ok (.ireturn, 1) := by decide +kernel
theorem dX7_preyOf_20 : decode cX7_preyOf 20 = .ok (.iload_n 3, 1) := by decide +kernel
theorem dX7_preyOf_21 : decode cX7_preyOf 21 = .ok (.invokestatic 110, 3) := by decide +kernel
theorem dX7_preyOf_24 : decode cX7_preyOf 24 = .ok (.istore 4, 2) := by decide +kernel
theorem dX7_preyOf_26 : decode cX7_preyOf 26 = .ok (.aload_n 0, 1) := by decide +kernel
theorem dX7_preyOf_27 : decode cX7_preyOf 27 = .ok (.aload_n 1, 1) := by decide +kernel
theorem dX7_preyOf_28 : decode cX7_preyOf 28 = .ok (.getfield 44, 3) := by decide +kernel
theorem dX7_preyOf_31 : decode cX7_preyOf 31 = .ok (.iload 4, 2) := by decide +kernel
theorem dX7_preyOf_33 : decode cX7_preyOf 33 = .ok (.invokevirtual 113, 3) := by decide +kernel
theorem dX7_preyOf_36 : decode cX7_preyOf 36 = .ok (.istore 5, 2) := by decide +kernel
theorem dX7_preyOf_38 : decode cX7_preyOf 38 = .ok (.iload 5, 2) := by decide +kernel
theorem dX7_preyOf_40 : decode cX7_preyOf 40 = .ok (.iconst (-1), 1) := by decide +kernel
theorem dX7_preyOf_41 : decode cX7_preyOf 41 = .ok (.if_icmp .ne 17, 3) := by decide +kernel
theorem dX7_preyOf_44 : decode cX7_preyOf 44 = .ok (.aload_n 0, 1) := by decide +kernel
theorem dX7_preyOf_45 : decode cX7_preyOf 45 = .ok (.aload_n 1, 1) := by decide +kernel
theorem dX7_preyOf_46 : decode cX7_preyOf 46 = .ok (.getfield 44, 3) := by decide +kernel
theorem dX7_preyOf_49 : decode cX7_preyOf 49 = .ok (.iconst 1, 1) := by decide +kernel
theorem dX7_preyOf_50 : decode cX7_preyOf 50 = .ok (.isub, 1) := by decide +kernel
theorem dX7_preyOf_51 : decode cX7_preyOf 51 = .ok (.iload 4, 2) := by decide +kernel
theorem dX7_preyOf_53 : decode cX7_preyOf 53 = .ok (.invokevirtual 113, 3) := by decide +kernel
theorem dX7_preyOf_56 : decode cX7_preyOf 56 = .ok (.istore 5, 2) := by decide +kernel
theorem dX7_preyOf_58 : decode cX7_preyOf 58 = .ok (.iload 5, 2) := by decide +kernel
theorem dX7_preyOf_60 : decode cX7_preyOf 60 = .ok (.iconst (-1), 1) := by decide +kernel
theorem dX7_preyOf_61 : decode cX7_preyOf 61 = .ok (.if_icmp .ne 17, 3) := by decide +kernel
theorem dX7_preyOf_64 : decode cX7_preyOf 64 = .ok (.aload_n 0, 1) := by decide +kernel
theorem dX7_preyOf_65 : decode cX7_preyOf 65 = .ok (.aload_n 1, 1) := by decide +kernel
theorem dX7_preyOf_66 : decode cX7_preyOf 66 = .ok (.getfield 44, 3) := by decide +kernel
theorem dX7_preyOf_69 : decode cX7_preyOf 69 = .ok (.iconst 1, 1) := by decide +kernel
theorem dX7_preyOf_70 : decode cX7_preyOf 70 = .ok (.iadd, 1) := by decide +kernel
theorem dX7_preyOf_71 : decode cX7_preyOf 71 = .ok (.iload 4, 2) := by decide +kernel
theorem dX7_preyOf_73 : decode cX7_preyOf 73 = .ok (.invokevirtual 113, 3) := by decide +kernel
theorem dX7_preyOf_76 : decode cX7_preyOf 76 = .ok (.istore 5, 2) := by decide +kernel
theorem dX7_preyOf_78 : decode cX7_preyOf 78 = .ok (.iload 5, 2) := by decide +kernel
theorem dX7_preyOf_80 : decode cX7_preyOf 80 = .ok (.ireturn, 1) := by decide +kernel
theorem dX7_firstIn_0 : decode cX7_firstIn 0 = .ok (.iconst 0, 1) := by decide +kernel
theorem dX7_firstIn_1 : decode cX7_firstIn 1 = .ok (.istore_n 3, 1) := by decide +kernel
theorem dX7_firstIn_2 : decode cX7_firstIn 2 = .ok (.iload_n 3, 1) := by decide +kernel
theorem dX7_firstIn_3 : decode cX7_firstIn 3 = .ok (.aload_n 0, 1) := by decide +kernel
theorem dX7_firstIn_4 : decode cX7_firstIn 4 = .ok (.getfield 54, 3) := by decide +kernel
theorem dX7_firstIn_7 : decode cX7_firstIn 7 = .ok (.if_icmp .ge 45, 3) := by decide +kernel
theorem dX7_firstIn_10 : decode cX7_firstIn 10 = .ok (.aload_n 0, 1) := by decide +kernel
theorem dX7_firstIn_11 : decode cX7_firstIn 11 = .ok (.getfield 19, 3) := by decide +kernel
theorem dX7_firstIn_14 : decode cX7_firstIn 14 = .ok (.iload_n 3, 1) := by decide +kernel
theorem dX7_firstIn_15 : decode cX7_firstIn 15 = .ok (.aaload, 1) := by decide +kernel
theorem dX7_firstIn_16 : decode cX7_firstIn 16 = .ok (.astore 4, 2) := by decide +kernel
theorem dX7_firstIn_18 : decode cX7_firstIn 18 = .ok (.aload_n 0, 1) := by decide +kernel
theorem dX7_firstIn_19 : decode cX7_firstIn 19 = .ok (.iload_n 3, 1) := by decide +kernel
theorem dX7_firstIn_20 : decode cX7_firstIn 20 = .ok (.invokevirtual 84, 3) := by decide +kernel
theorem dX7_firstIn_23 : decode cX7_firstIn 23 = .ok (.ifCond .ne 23, 3) := by decide +kernel
theorem dX7_firstIn_26 : decode cX7_firstIn 26 = .ok (.aload 4, 2) := by decide +kernel
theorem dX7_firstIn_28 : decode cX7_firstIn 28 = .ok (.getfield 117, 3) := by decide +kernel
theorem dX7_firstIn_31 : decode cX7_firstIn 31 = .ok (.iload_n 1, 1) := by decide +kernel
theorem dX7_firstIn_32 : decode cX7_firstIn 32 = .ok (.if_icmp .ne 14, 3) := by decide +kernel
theorem dX7_firstIn_35 : decode cX7_firstIn 35 = .ok (.aload 4, 2) := by decide +kernel
theorem dX7_firstIn_37 : decode cX7_firstIn 37 = .ok (.getfield 118, 3) := by decide +kernel
theorem dX7_firstIn_40 : decode cX7_firstIn 40 = .ok (.iload_n 2, 1) := by decide +kernel
theorem dX7_firstIn_41 : decode cX7_firstIn 41 = .ok (.if_icmp .eq 5, 3) := by decide +kernel
theorem dX7_firstIn_44 : decode cX7_firstIn 44 = .ok (.iload_n 3, 1) := by decide +kernel
theorem dX7_firstIn_45 : decode cX7_firstIn 45 = .ok (.ireturn, 1) := by decide +kernel
theorem dX7_firstIn_46 : decode cX7_firstIn 46 = .ok (.iinc 3 1, 3) := by decide +kernel
theorem dX7_firstIn_49 : decode cX7_firstIn 49 = .ok (.goto (-47), 3) := by decide +kernel
theorem dX7_firstIn_52 : decode cX7_firstIn 52 = .ok (.iconst (-1), 1) := by decide +kernel
theorem dX7_firstIn_53 : decode cX7_firstIn 53 = .ok (.ireturn, 1) := by decide +kernel
theorem dX7_passDay_0 : decode cX7_passDay 0 = .ok (.aload_n 0, 1) := by decide +kernel
theorem dX7_passDay_1 : decode cX7_passDay 1 = .ok (.getfield 73, 3) := by decide +kernel
theorem dX7_passDay_4 : decode cX7_passDay 4 = .ok (.istore_n 2, 1) := by decide +kernel
theorem dX7_passDay_5 : decode cX7_passDay 5 = .ok (.iconst 0, 1) := by decide +kernel
theorem dX7_passDay_6 : decode cX7_passDay 6 = .ok (.istore_n 3, 1) := by decide +kernel
theorem dX7_passDay_7 : decode cX7_passDay 7 = .ok (.iload_n 3, 1) := by decide +kernel
theorem dX7_passDay_8 : decode cX7_passDay 8 = .ok (.aload_n 0, 1) := by decide +kernel
theorem dX7_passDay_9 : decode cX7_passDay 9 = .ok (.getfield 36, 3) := by decide +kernel
theorem dX7_passDay_12 : decode cX7_passDay 12 = .ok (.if_icmp .ge 52, 3) := by decide +kernel
theorem dX7_passDay_15 : decode cX7_passDay 15 = .ok (.aload_n 0, 1) := by decide +kernel
theorem dX7_passDay_16 : decode cX7_passDay 16 = .ok (.aload_n 0, 1) := by decide +kernel
theorem dX7_passDay_17 : decode cX7_passDay 17 = .ok (.getfield 11, 3) := by decide +kernel
theorem dX7_passDay_20 : decode cX7_passDay 20 = .ok (.iload_n 3, 1) := by decide +kernel
theorem dX7_passDay_21 : decode cX7_passDay 21 = .ok (.aaload, 1) := by decide +kernel
theorem dX7_passDay_22 : decode cX7_passDay 22 = .ok (.aload_n 1, 1) := by decide +kernel
theorem dX7_passDay_23 : decode cX7_passDay 23 = .ok (.invokevirtual 121, 3) := by decide +kernel
theorem dX7_passDay_26 : decode cX7_passDay 26 = .ok (.istore 4, 2) := by decide +kernel
theorem dX7_passDay_28 : decode cX7_passDay 28 = .ok (.iload 4, 2) := by decide +kernel
theorem dX7_passDay_30 : decode cX7_passDay 30 = .ok (.iconst (-1), 1) := by decide +kernel
theorem dX7_passDay_31 : decode cX7_passDay 31 = .ok (.if_icmp .eq 27, 3) := by decide +kernel
theorem dX7_passDay_34 : decode cX7_passDay 34 = .ok (.aload_n 0, 1) := by decide +kernel
theorem dX7_passDay_35 : decode cX7_passDay 35 = .ok (.dup, 1) := by decide +kernel
theorem dX7_passDay_36 : decode cX7_passDay 36 = .ok (.getfield 73, 3) := by decide +kernel
theorem dX7_passDay_39 : decode cX7_passDay 39 = .ok (.iconst 1, 1) := by decide +kernel
theorem dX7_passDay_40 : decode cX7_passDay 40 = .ok (.iload 4, 2) := by decide +kernel
theorem dX7_passDay_42 : decode cX7_passDay 42 = .ok (.ishl, 1) := by decide +kernel
theorem dX7_passDay_43 : decode cX7_passDay 43 = .ok (.ior, 1) := by decide +kernel
theorem dX7_passDay_44 : decode cX7_passDay 44 = .ok (.putfield 73, 3) := by decide +kernel
theorem dX7_passDay_47 : decode cX7_passDay 47 = .ok (.aload_n 0, 1) := by decide +kernel
theorem dX7_passDay_48 : decode cX7_passDay 48 = .ok (.getfield 19, 3) := by decide +kernel
theorem dX7_passDay_51 : decode cX7_passDay 51 = .ok (.iload 4, 2) := by decide +kernel
theorem dX7_passDay_53 : decode cX7_passDay 53 = .ok (.aaload, 1) := by decide +kernel
theorem dX7_passDay_54 : decode cX7_passDay 54 = .ok (.iload_n 3, 1) := by decide +kernel
theorem dX7_passDay_55 : decode cX7_passDay 55 = .ok (.putfield 93, 3) := by decide +kernel
theorem dX7_passDay_58 : decode cX7_passDay 58 = .ok (.iinc 3 1, 3) := by decide +kernel
theorem dX7_passDay_61 : decode cX7_passDay 61 = .ok (.goto (-54), 3) := by decide +kernel
theorem dX7_passDay_64 : decode cX7_passDay 64 = .ok (.aload_n 0, 1) := by decide +kernel
theorem dX7_passDay_65 : decode cX7_passDay 65 = .ok (.dup, 1) := by decide +kernel
theorem dX7_passDay_66 : decode cX7_passDay 66 = .ok (.getfield 70, 3) := by decide +kernel
theorem dX7_passDay_69 : decode cX7_passDay 69 = .ok (.iconst 1, 1) := by decide +kernel
theorem dX7_passDay_70 : decode cX7_passDay 70 = .ok (.iadd, 1) := by decide +kernel
theorem dX7_passDay_71 : decode cX7_passDay 71 = .ok (.putfield 70, 3) := by decide +kernel
theorem dX7_passDay_74 : decode cX7_passDay 74 = .ok (.aload_n 0, 1) := by decide +kernel
theorem dX7_passDay_75 : decode cX7_passDay 75 = .ok (.getfield 73, 3) := by decide +kernel
theorem dX7_passDay_78 : decode cX7_passDay 78 = .ok (.iload_n 2, 1) := by decide +kernel
theorem dX7_passDay_79 : decode cX7_passDay 79 = .ok (.iconst (-1), 1) := by decide +kernel
theorem dX7_passDay_80 : decode cX7_passDay 80 = .ok (.ixor, 1) := by decide +kernel
theorem dX7_passDay_81 : decode cX7_passDay 81 = .ok (.iand, 1) := by decide +kernel
theorem dX7_passDay_82 : decode cX7_passDay 82 = .ok (.ireturn, 1) := by decide +kernel
theorem dX7_daysUntilEaten_0 : decode cX7_daysUntilEaten 0 = .ok (.iconst 1, 1) := by decide +kernel
theorem dX7_daysUntilEaten_1 : decode cX7_daysUntilEaten 1 = .ok (.istore 4, 2) := by decide +kernel
theorem dX7_daysUntilEaten_3 : decode cX7_daysUntilEaten 3 = .ok (.iload 4, 2) := by decide +kernel
theorem dX7_daysUntilEaten_5 : decode cX7_daysUntilEaten 5 = .ok (.iload_n 2, 1) := by decide +kernel
theorem dX7_daysUntilEaten_6 : decode cX7_daysUntilEaten 6 = .ok (.if_icmp .gt 26, 3) := by decide +kernel
theorem dX7_daysUntilEaten_9 : decode cX7_daysUntilEaten 9 = .ok (.aload_n 0, 1) := by decide +kernel
theorem dX7_daysUntilEaten_10 : decode cX7_daysUntilEaten 10 = .ok (.aload_n 3, 1) := by decide +kernel
theorem dX7_daysUntilEaten_11 : decode cX7_daysUntilEaten 11 = .ok (.invokevirtual 125, 3) := by decide +kernel
theorem dX7_daysUntilEaten_14 : decode cX7_daysUntilEaten 14 = .ok (.pop, 1) := by decide +kernel
theorem dX7_daysUntilEaten_15 : decode cX7_daysUntilEaten 15 = .ok (.aload_n 0, 1) := by decide +kernel
theorem dX7_daysUntilEaten_16 : decode cX7_daysUntilEaten 16 = .ok (.iload_n 1, 1) := by decide +kernel
theorem dX7_daysUntilEaten_17 : decode cX7_daysUntilEaten 17 = .ok (.invokevirtual 84, 3) := by decide +kernel
theorem dX7_daysUntilEaten_20 : decode cX7_daysUntilEaten 20 = .ok (.ifCond .eq 6, 3) := by decide +kernel
theorem dX7_daysUntilEaten_23 : decode cX7_daysUntilEaten 23 = .ok (.iload 4, 2) := by decide +kernel
theorem dX7_daysUntilEaten_25 : decode cX7_daysUntilEaten 25 = .ok (.ireturn, 1) := by decide +kernel
theorem dX7_daysUntilEaten_26 : decode cX7_daysUntilEaten 26 = .ok (.iinc 4 1, 3) := by decide +kernel
theorem dX7_daysUntilEaten_29 : decode cX7_daysUntilEaten 29 = .ok (.goto (-26), 3) := by decide +kernel
theorem dX7_daysUntilEaten_32 : decode cX7_daysUntilEaten 32 = .ok (.iconst (-1), 1) := by decide +kernel
theorem dX7_daysUntilEaten_33 : decode cX7_daysUntilEaten 33 = .ok (.ireturn, 1) := by decide +kernel
theorem dX8_init_0 : decode cX8_init 0 = .ok (.aload_n 0, 1) := by decide +kernel
theorem dX8_init_1 : decode cX8_init 1 = .ok (.invokespecial 3, 3) := by decide +kernel
theorem dX8_init_4 : decode cX8_init 4 = .ok (.aload_n 0, 1) := by decide +kernel
theorem dX8_init_5 : decode cX8_init 5 = .ok (.new 9, 3) := by decide +kernel
theorem dX8_init_8 : decode cX8_init 8 = .ok (.dup, 1) := by decide +kernel
theorem dX8_init_9 : decode cX8_init 9 = .ok (.invokespecial 11, 3) := by decide +kernel
theorem dX8_init_12 : decode cX8_init 12 = .ok (.putfield 12, 3) := by decide +kernel
theorem dX8_init_15 : decode cX8_init 15 = .ok (.aload_n 0, 1) := by decide +kernel
theorem dX8_init_16 : decode cX8_init 16 = .ok (.new 16, 3) := by decide +kernel
theorem dX8_init_19 : decode cX8_init 19 = .ok (.dup, 1) := by decide +kernel
theorem dX8_init_20 : decode cX8_init 20 = .ok (.invokespecial 18, 3) := by decide +kernel
theorem dX8_init_23 : decode cX8_init 23 = .ok (.putfield 19, 3) := by decide +kernel
theorem dX8_init_26 : decode cX8_init 26 = .ok (.aload_n 0, 1) := by decide +kernel
theorem dX8_init_27 : decode cX8_init 27 = .ok (.new 23, 3) := by decide +kernel
theorem dX8_init_30 : decode cX8_init 30 = .ok (.dup, 1) := by decide +kernel
theorem dX8_init_31 : decode cX8_init 31 = .ok (.invokespecial 25, 3) := by decide +kernel
theorem dX8_init_34 : decode cX8_init 34 = .ok (.putfield 26, 3) := by decide +kernel
theorem dX8_init_37 : decode cX8_init 37 = .ok (.aload_n 0, 1) := by decide +kernel
theorem dX8_init_38 : decode cX8_init 38 = .ok (.new 23, 3) := by decide +kernel
theorem dX8_init_41 : decode cX8_init 41 = .ok (.dup, 1) := by decide +kernel
theorem dX8_init_42 : decode cX8_init 42 = .ok (.invokespecial 25, 3) := by decide +kernel
theorem dX8_init_45 : decode cX8_init 45 = .ok (.putfield 30, 3) := by decide +kernel
theorem dX8_init_48 : decode cX8_init 48 = .ok (.aload_n 0, 1) := by decide +kernel
theorem dX8_init_49 : decode cX8_init 49 = .ok (.new 23, 3) := by decide +kernel
theorem dX8_init_52 : decode cX8_init 52 = .ok (.dup, 1) := by decide +kernel
theorem dX8_init_53 : decode cX8_init 53 = .ok (.invokespecial 25, 3) := by decide +kernel
theorem dX8_init_56 : decode cX8_init 56 = .ok (.putfield 33, 3) := by decide +kernel
theorem dX8_init_59 : decode cX8_init 59 = .ok (.aload_n 0, 1) := by decide +kernel
theorem dX8_init_60 : decode cX8_init 60 = .ok (.new 36, 3) := by decide +kernel
theorem dX8_init_63 : decode cX8_init 63 = .ok (.dup, 1) := by decide +kernel
theorem dX8_init_64 : decode cX8_init 64 = .ok (.invokespecial 38, 3) := by decide +kernel
theorem dX8_init_67 : decode cX8_init 67 = .ok (.putfield 39, 3) := by decide +kernel
theorem dX8_init_70 : decode cX8_init 70 = .ok (.return_, 1) := by decide +kernel
theorem dX8_letter_0 : decode cX8_letter 0 = .ok (.iload_n 1, 1) := by decide +kernel
theorem dX8_letter_1 : decode cX8_letter 1 = .ok (.bipush 32, 2) := by decide +kernel
theorem dX8_letter_3 : decode cX8_letter 3 = .ok (.if_icmp .lt 9, 3) := by decide +kernel
theorem dX8_letter_6 : decode cX8_letter 6 = .ok (.iload_n 1, 1) := by decide +kernel
theorem dX8_letter_7 : decode cX8_letter 7 = .ok (.bipush 126, 2) := by decide +kernel
theorem dX8_letter_9 : decode cX8_letter 9 = .ok (.if_icmp .le 6, 3) := by decide +kernel
theorem dX8_letter_12 : decode cX8_letter 12 = .ok (.bipush (-102), 2) := by decide +kernel
theorem dX8_letter_14 : decode cX8_letter 14 = .ok (.ireturn, 1) := by decide +kernel
theorem dX8_letter_15 : decode cX8_letter 15 = .ok (.aload_n 0, 1) := by decide +kernel
theorem dX8_letter_16 : decode cX8_letter 16 = .ok (.getfield 12, 3) := by decide +kernel
theorem dX8_letter_19 : decode cX8_letter 19 = .ok (.iload_n 1, 1) := by decide +kernel
theorem dX8_letter_20 : decode cX8_letter 20 = .ok (.i2c, 1) := by decide +kernel
theorem dX8_letter_21 : decode cX8_letter 21 = .ok (.invokevirtual 43, 3) := by decide +kernel
theorem dX8_letter_24 : decode cX8_letter 24 = .ok (.ifCond .ne 6, 3) := by decide +kernel
theorem dX8_letter_27 : decode cX8_letter 27 = .ok (.bipush (-104), 2) := by decide +kernel
theorem dX8_letter_29 : decode cX8_letter 29 = .ok (.ireturn, 1) := by decide +kernel
theorem dX8_letter_30 : decode cX8_letter 30 = .ok (.aload_n 0, 1) := by decide +kernel
theorem dX8_letter_31 : decode cX8_letter 31 = .ok (.getfield 12, 3) := by decide +kernel
theorem dX8_letter_34 : decode cX8_letter 34 = .ok (.getfield 47, 3) := by decide +kernel
theorem dX8_letter_37 : decode cX8_letter 37 = .ok (.ireturn, 1) := by decide +kernel
theorem dX8_blank_0 : decode cX8_blank 0 = .ok (.aload_n 0, 1) := by decide +kernel
theorem dX8_blank_1 : decode cX8_blank 1 = .ok (.getfield 12, 3) := by decide +kernel
theorem dX8_blank_4 : decode cX8_blank 4 = .ok (.getfield 47, 3) := by decide +kernel
theorem dX8_blank_7 : decode cX8_blank 7 = .ok (.istore_n 1, 1) := by decide +kernel
theorem dX8_blank_8 : decode cX8_blank 8 = .ok (.aload_n 0, 1) := by decide +kernel
theorem dX8_blank_9 : decode cX8_blank 9 = .ok (.getfield 12, 3) := by decide +kernel
theorem dX8_blank_12 : decode cX8_blank 12 = .ok (.invokevirtual 51, 3) := by decide +kernel
theorem dX8_blank_15 : decode cX8_blank 15 = .ok (.iload_n 1, 1) := by decide +kernel
theorem dX8_blank_16 : decode cX8_blank 16 = .ok (.ireturn, 1) := by decide +kernel
theorem dX8_fault_0 : decode cX8_fault 0 = .ok (.aload_n 0, 1) := by decide +kernel
theorem dX8_fault_1 : decode cX8_fault 1 = .ok (.getfield 12, 3) := by decide +kernel
theorem dX8_fault_4 : decode cX8_fault 4 = .ok (.invokevirtual 54, 3) := by decide +kernel
theorem dX8_fault_7 : decode cX8_fault 7 = .ok (.ireturn, 1) := by decide +kernel
theorem dX8_feasts_0 : decode cX8_feasts 0 = .ok (.aload_n 0, 1) := by decide +kernel
theorem dX8_feasts_1 : decode cX8_feasts 1 = .ok (.getfield 12, 3) := by decide +kernel
theorem dX8_feasts_4 : decode cX8_feasts 4 = .ok (.invokevirtual 58, 3) := by decide +kernel
theorem dX8_feasts_7 : decode cX8_feasts 7 = .ok (.ifCond .ne 6, 3) := by decide +kernel
theorem dX8_feasts_10 : decode cX8_feasts 10 = .ok (.bipush (-103), 2) := by decide +kernel
theorem dX8_feasts_12 : decode cX8_feasts 12 = .ok (.ireturn, 1) := by decide +kernel
theorem dX8_feasts_13 : decode cX8_feasts 13 = .ok (.aload_n 0, 1) := by decide +kernel
theorem dX8_feasts_14 : decode cX8_feasts 14 = .ok (.getfield 19, 3) := by decide +kernel
theorem dX8_feasts_17 : decode cX8_feasts 17 = .ok (.aload_n 0, 1) := by decide +kernel
theorem dX8_feasts_18 : decode cX8_feasts 18 = .ok (.getfield 12, 3) := by decide +kernel
theorem dX8_feasts_21 : decode cX8_feasts 21 = .ok (.invokevirtual 62, 3) := by decide +kernel
theorem dX8_feasts_24 : decode cX8_feasts 24 = .ok (.aload_n 0, 1) := by decide +kernel
theorem dX8_feasts_25 : decode cX8_feasts 25 = .ok (.getfield 12, 3) := by decide +kernel
theorem dX8_feasts_28 : decode cX8_feasts 28 = .ok (.invokevirtual 51, 3) := by decide +kernel
theorem dX8_feasts_31 : decode cX8_feasts 31 = .ok (.aload_n 0, 1) := by decide +kernel
theorem dX8_feasts_32 : decode cX8_feasts 32 = .ok (.dup, 1) := by decide +kernel
theorem dX8_feasts_33 : decode cX8_feasts 33 = .ok (.getfield 66, 3) := by decide +kernel
theorem dX8_feasts_36 : decode cX8_feasts 36 = .ok (.iconst 1, 1) := by decide +kernel
theorem dX8_feasts_37 : decode cX8_feasts 37 = .ok (.iadd, 1) := by decide +kernel
theorem dX8_feasts_38 : decode cX8_feasts 38 = .ok (.putfield 66, 3) := by decide +kernel
theorem dX8_feasts_41 : decode cX8_feasts 41 = .ok (.aload_n 0, 1) := by decide +kernel
theorem dX8_feasts_42 : decode cX8_feasts 42 = .ok (.getfield 19, 3) := by decide +kernel
theorem dX8_feasts_45 : decode cX8_feasts 45 = .ok (.getfield 69, 3) := by decide +kernel
theorem dX8_feasts_48 : decode cX8_feasts 48 = .ok (.ireturn, 1) := by decide +kernel
theorem dX8_dayOf_0 : decode cX8_dayOf 0 = .ok (.iload_n 1, 1) := by decide +kernel
theorem dX8_dayOf_1 : decode cX8_dayOf 1 = .ok (.ifCond .lt 10, 3) := by decide +kernel
theorem dX8_dayOf_4 : decode cX8_dayOf 4 = .ok (.iload_n 1, 1) := by decide +kernel
theorem dX8_dayOf_5 : decode cX8_dayOf 5 = .ok (.sipush 9999, 3) := by decide +kernel
theorem dX8_dayOf_8 : decode cX8_dayOf 8 = .ok (.if_icmp .le 6, 3) := by decide +kernel
theorem dX8_dayOf_11 : decode cX8_dayOf 11 = .ok (.bipush (-101), 2) := by decide +kernel
theorem dX8_dayOf_13 : decode cX8_dayOf 13 = .ok (.ireturn, 1) := by decide +kernel
theorem dX8_dayOf_14 : decode cX8_dayOf 14 = .ok (.iload_n 2, 1) := by decide +kernel
theorem dX8_dayOf_15 : decode cX8_dayOf 15 = .ok (.tableswitch 61 0 3 #[29, 34, 39, 56], 29) := by decide +kernel
theorem dX8_dayOf_44 : decode cX8_dayOf 44 = .ok (.iload_n 1, 1) := by decide +kernel
theorem dX8_dayOf_45 : decode cX8_dayOf 45 = .ok (.bipush 7, 2) := by decide +kernel
theorem dX8_dayOf_47 : decode cX8_dayOf 47 = .ok (.irem, 1) := by decide +kernel
theorem dX8_dayOf_48 : decode cX8_dayOf 48 = .ok (.ireturn, 1) := by decide +kernel
theorem dX8_dayOf_49 : decode cX8_dayOf 49 = .ok (.iload_n 1, 1) := by decide +kernel
theorem dX8_dayOf_50 : decode cX8_dayOf 50 = .ok (.invokestatic 72, 3) := by decide +kernel
theorem dX8_dayOf_53 : decode cX8_dayOf 53 = .ok (.ireturn, 1) := by decide +kernel
theorem dX8_dayOf_54 : decode cX8_dayOf 54 = .ok (.aload_n 0, 1) := by decide +kernel
theorem dX8_dayOf_55 : decode cX8_dayOf 55 = .ok (.getfield 19, 3) := by decide +kernel
theorem dX8_dayOf_58 : decode cX8_dayOf 58 = .ok (.iload_n 1, 1) := by decide +kernel
theorem dX8_dayOf_59 : decode cX8_dayOf 59 = .ok (.invokevirtual 76, 3) := by decide +kernel
theorem dX8_dayOf_62 : decode cX8_dayOf 62 = .ok (.ifCond .eq 7, 3) := by decide +kernel
theorem dX8_dayOf_65 : decode cX8_dayOf 65 = .ok (.iconst 1, 1) := by decide +kernel
theorem dX8_dayOf_66 : decode cX8_dayOf 66 = .ok (.goto 4, 3) := by decide +kernel
theorem dX8_dayOf_69 : decode cX8_dayOf 69 = .ok (.iconst 0, 1) := by decide +kernel
theorem dX8_dayOf_70 : decode cX8_dayOf 70 = .ok (.ireturn, 1) := by decide +kernel
theorem dX8_dayOf_71 : decode cX8_dayOf 71 = .ok (.iload_n 1, 1) := by decide +kernel
theorem dX8_dayOf_72 : decode cX8_dayOf 72 = .ok (.bipush 30, 2) := by decide +kernel
theorem dX8_dayOf_74 : decode cX8_dayOf 74 = .ok (.idiv, 1) := by decide +kernel
theorem dX8_dayOf_75 : decode cX8_dayOf 75 = .ok (.ireturn, 1) := by decide +kernel
theorem dX8_dayOf_76 : decode cX8_dayOf 76 = .ok (.bipush (-102), 2) := by decide +kernel
theorem dX8_dayOf_78 : decode cX8_dayOf 78 = .ok (.ireturn, 1) := by decide +kernel
theorem dX8_forge_0 : decode cX8_forge 0 = .ok (.iload_n 1, 1) := by decide +kernel
theorem dX8_forge_1 : decode cX8_forge 1 = .ok (.invokestatic 80, 3) := by decide +kernel
theorem dX8_forge_4 : decode cX8_forge 4 = .ok (.ifCond .ne 6, 3) := by decide +kernel
theorem dX8_forge_7 : decode cX8_forge 7 = .ok (.bipush (-101), 2) := by decide +kernel
theorem dX8_forge_9 : decode cX8_forge 9 = .ok (.ireturn, 1) := by decide +kernel
theorem dX8_forge_10 : decode cX8_forge 10 = .ok (.iload_n 2, 1) := by decide +kernel
theorem dX8_forge_11 : decode cX8_forge 11 = .ok (.ifCond .lt 9, 3) := by decide +kernel
theorem dX8_forge_14 : decode cX8_forge 14 = .ok (.iload_n 2, 1) := by decide +kernel
theorem dX8_forge_15 : decode cX8_forge 15 = .ok (.bipush 30, 2) := by decide +kernel
theorem dX8_forge_17 : decode cX8_forge 17 = .ok (.if_icmp .lt 6, 3) := by decide +kernel
theorem dX8_forge_20 : decode cX8_forge 20 = .ok (.bipush (-102), 2) := by decide +kernel
theorem dX8_forge_22 : decode cX8_forge 22 = .ok (.ireturn, 1) := by decide +kernel
theorem dX8_forge_23 : decode cX8_forge 23 = .ok (.aload_n 0, 1) := by decide +kernel
theorem dX8_forge_24 : decode cX8_forge 24 = .ok (.getfield 26, 3) := by decide +kernel
theorem dX8_forge_27 : decode cX8_forge 27 = .ok (.getfield 83, 3) := by decide +kernel
theorem dX8_forge_30 : decode cX8_forge 30 = .ok (.iload_n 1, 1) := by decide +kernel
theorem dX8_forge_31 : decode cX8_forge 31 = .ok (.iaload, 1) := by decide +kernel
theorem dX8_forge_32 : decode cX8_forge 32 = .ok (.istore_n 3, 1) := by decide +kernel
theorem dX8_forge_33 : decode cX8_forge 33 = .ok (.aload_n 0, 1) := by decide +kernel
theorem dX8_forge_34 : decode cX8_forge 34 = .ok (.getfield 26, 3) := by decide +kernel
theorem dX8_forge_37 : decode cX8_forge 37 = .ok (.getfield 83, 3) := by decide +kernel
theorem dX8_forge_40 : decode cX8_forge 40 = .ok (.iload_n 1, 1) := by decide +kernel
theorem dX8_forge_41 : decode cX8_forge 41 = .ok (.iload_n 2, 1) := by decide +kernel
theorem dX8_forge_42 : decode cX8_forge 42 = .ok (.iastore, 1) := by decide +kernel
theorem dX8_forge_43 : decode cX8_forge 43 = .ok (.iload_n 3, 1) := by decide +kernel
theorem dX8_forge_44 : decode cX8_forge 44 = .ok (.ireturn, 1) := by decide +kernel
theorem dX8_pack_0 : decode cX8_pack 0 = .ok (.iload_n 2, 1) := by decide +kernel
theorem dX8_pack_1 : decode cX8_pack 1 = .ok (.invokestatic 80, 3) := by decide +kernel
theorem dX8_pack_4 : decode cX8_pack 4 = .ok (.ifCond .ne 6, 3) := by decide +kernel
theorem dX8_pack_7 : decode cX8_pack 7 = .ok (.bipush (-101), 2) := by decide +kernel
theorem dX8_pack_9 : decode cX8_pack 9 = .ok (.ireturn, 1) := by decide +kernel
theorem dX8_pack_10 : decode cX8_pack 10 = .ok (.iload_n 1, 1) := by decide +kernel
theorem dX8_pack_11 : decode cX8_pack 11 = .ok (.invokestatic 87, 3) := by decide +kernel
theorem dX8_pack_14 : decode cX8_pack 14 = .ok (.ifCond .eq 13, 3) := by decide +kernel
theorem dX8_pack_17 : decode cX8_pack 17 = .ok (.iload_n 3, 1) := by decide +kernel
theorem dX8_pack_18 : decode cX8_pack 18 = .ok (.ifCond .lt 9, 3) := by decide +kernel
theorem dX8_pack_21 : decode cX8_pack 21 = .ok (.iload_n 3, 1) := by decide +kernel
theorem dX8_pack_22 : decode cX8_pack 22 = .ok (.bipush 10, 2) := by decide +kernel
theorem dX8_pack_24 : decode cX8_pack 24 = .ok (.if_icmp .lt 6, 3) := by decide +kernel
theorem dX8_pack_27 : decode cX8_pack 27 = .ok (.bipush (-102), 2) := by decide +kernel
theorem dX8_pack_29 : decode cX8_pack 29 = .ok (.ireturn, 1) := by decide +kernel
theorem dX8_pack_30 : decode cX8_pack 30 = .ok (.aload_n 0, 1) := by decide +kernel
theorem dX8_pack_31 : decode cX8_pack 31 = .ok (.getfield 26, 3) := by decide +kernel
theorem dX8_pack_34 : decode cX8_pack 34 = .ok (.getfield 90, 3) := by decide +kernel
theorem dX8_pack_37 : decode cX8_pack 37 = .ok (.iconst 4, 1) := by decide +kernel
theorem dX8_pack_38 : decode cX8_pack 38 = .ok (.if_icmp .lt 6, 3) := by decide +kernel
theorem dX8_pack_41 : decode cX8_pack 41 = .ok (.bipush (-104), 2) := by decide +kernel
theorem dX8_pack_43 : decode cX8_pack 43 = .ok (.ireturn, 1) := by decide +kernel
theorem dX8_pack_44 : decode cX8_pack 44 = .ok (.aload_n 0, 1) := by decide +kernel
theorem dX8_pack_45 : decode cX8_pack 45 = .ok (.getfield 26, 3) := by decide +kernel
theorem dX8_pack_48 : decode cX8_pack 48 = .ok (.getfield 93, 3) := by decide +kernel
theorem dX8_pack_51 : decode cX8_pack 51 = .ok (.aload_n 0, 1) := by decide +kernel
theorem dX8_pack_52 : decode cX8_pack 52 = .ok (.getfield 26, 3) := by decide +kernel
theorem dX8_pack_55 : decode cX8_pack 55 = .ok (.getfield 90, 3) := by decide +kernel
theorem dX8_pack_58 : decode cX8_pack 58 = .ok (.aaload, 1) := by decide +kernel
theorem dX8_pack_59 : decode cX8_pack 59 = .ok (.getstatic 97, 3) := by decide +kernel
theorem dX8_pack_62 : decode cX8_pack 62 = .ok (.iload_n 1, 1) := by decide +kernel
theorem dX8_pack_63 : decode cX8_pack 63 = .ok (.aaload, 1) := by decide +kernel
theorem dX8_pack_64 : decode cX8_pack 64 = .ok (.iload_n 2, 1) := by decide +kernel
theorem dX8_pack_65 : decode cX8_pack 65 = .ok (.iload_n 3, 1) := by decide +kernel
theorem dX8_pack_66 : decode cX8_pack 66 = .ok (.invokevirtual 101, 3) := by decide +kernel
theorem dX8_pack_69 : decode cX8_pack 69 = .ok (.aload_n 0, 1) := by decide +kernel
theorem dX8_pack_70 : decode cX8_pack 70 = .ok (.getfield 26, 3) := by decide +kernel
theorem dX8_pack_73 : decode cX8_pack 73 = .ok (.dup, 1) := by decide +kernel
theorem dX8_pack_74 : decode cX8_pack 74 = .ok (.getfield 90, 3) := by decide +kernel
theorem dX8_pack_77 : decode cX8_pack 77 = .ok (.dup_x1, 1) := by decide +kernel
theorem dX8_pack_78 : decode cX8_pack 78 = .ok (.iconst 1, 1) := by decide +kernel
theorem dX8_pack_79 : decode cX8_pack 79 = .ok (.iadd, 1) := by decide +kernel
theorem dX8_pack_80 : decode cX8_pack 80 = .ok (.putfield 90, 3) := by decide +kernel
theorem dX8_pack_83 : decode cX8_pack 83 = .ok (.ireturn, 1) := by decide +kernel
theorem dX8_about_0 : decode cX8_about 0 = .ok (.aload_n 0, 1) := by decide +kernel
theorem dX8_about_1 : decode cX8_about 1 = .ok (.getfield 26, 3) := by decide +kernel
theorem dX8_about_4 : decode cX8_about 4 = .ok (.iload_n 1, 1) := by decide +kernel
theorem dX8_about_5 : decode cX8_about 5 = .ok (.invokevirtual 107, 3) := by decide +kernel
theorem dX8_about_8 : decode cX8_about 8 = .ok (.ifCond .ne 6, 3) := by decide +kernel
theorem dX8_about_11 : decode cX8_about 11 = .ok (.bipush (-101), 2) := by decide +kernel
theorem dX8_about_13 : decode cX8_about 13 = .ok (.ireturn, 1) := by decide +kernel
theorem dX8_about_14 : decode cX8_about 14 = .ok (.aload_n 0, 1) := by decide +kernel
theorem dX8_about_15 : decode cX8_about 15 = .ok (.getfield 26, 3) := by decide +kernel
theorem dX8_about_18 : decode cX8_about 18 = .ok (.getfield 93, 3) := by decide +kernel
theorem dX8_about_21 : decode cX8_about 21 = .ok (.iload_n 1, 1) := by decide +kernel
theorem dX8_about_22 : decode cX8_about 22 = .ok (.aaload, 1) := by decide +kernel
theorem dX8_about_23 : decode cX8_about 23 = .ok (.astore_n 3, 1) := by decide +kernel
theorem dX8_about_24 : decode cX8_about 24 = .ok (.iload_n 2, 1) := by decide +kernel
theorem dX8_about_25 : decode cX8_about 25 = .ok (.tableswitch 120 0 6 #[43, 51, 56, 61, 70, 98, 111], 43) := by decide +kernel
theorem dX8_about_68 : decode cX8_about 68 = .ok (.aload_n 3, 1) := by decide +kernel
theorem dX8_about_69 : decode cX8_about 69 = .ok (.getfield 110, 3) := by decide +kernel
theorem dX8_about_72 : decode cX8_about 72 = .ok (.getfield 114, 3) := by decide +kernel
theorem dX8_about_75 : decode cX8_about 75 = .ok (.ireturn, 1) := by decide +kernel
theorem dX8_about_76 : decode cX8_about 76 = .ok (.aload_n 3, 1) := by decide +kernel
theorem dX8_about_77 : decode cX8_about 77 = .ok (.getfield 117, 3) := by decide +kernel
theorem dX8_about_80 : decode cX8_about 80 = .ok (.ireturn, 1) := by decide +kernel
theorem dX8_about_81 : decode cX8_about 81 = .ok (.aload_n 3, 1) := by decide +kernel
theorem dX8_about_82 : decode cX8_about 82 = .ok (.getfield 120, 3) := by decide +kernel
theorem dX8_about_85 : decode cX8_about 85 = .ok (.ireturn, 1) := by decide +kernel
theorem dX8_about_86 : decode cX8_about 86 = .ok (.aload_n 0, 1) := by decide +kernel
theorem dX8_about_87 : decode cX8_about 87 = .ok (.getfield 26, 3) := by decide +kernel
theorem dX8_about_90 : decode cX8_about 90 = .ok (.aload_n 3, 1) := by decide +kernel
theorem dX8_about_91 : decode cX8_about 91 = .ok (.invokevirtual 123, 3) := by decide +kernel
theorem dX8_about_94 : decode cX8_about 94 = .ok (.ireturn, 1) := by decide +kernel
theorem dX8_about_95 : decode cX8_about 95 = .ok (.aload_n 3, 1) := by decide +kernel
theorem dX8_about_96 : decode cX8_about 96 = .ok (.getfield 110, 3) := by decide +kernel
theorem dX8_about_99 : decode cX8_about 99 = .ok (.aload_n 0, 1) := by decide +kernel
theorem dX8_about_100 : decode cX8_about 100 = .ok (.getfield 26, 3) := by decide +kernel
theorem dX8_about_103 : decode cX8_about 103 = .ok (.aload_n 3, 1) := by decide +kernel
theorem dX8_about_104 : decode cX8_about 104 = .ok (.invokevirtual 123, 3) := by decide +kernel
theorem dX8_about_107 : decode cX8_about 107 = .ok (.aload_n 0, 1) := by decide +kernel
theorem dX8_about_108 : decode cX8_about 108 = .ok (.getfield 19, 3) := by decide +kernel
theorem dX8_about_111 : decode cX8_about 111 = .ok (.invokevirtual 127, 3) := by decide +kernel
theorem dX8_about_114 : decode cX8_about 114 = .ok (.ifCond .eq 7, 3) := by decide +kernel
theorem dX8_about_117 : decode cX8_about 117 = .ok (.iconst 1, 1) := by decide +kernel
theorem dX8_about_118 : decode cX8_about 118 = .ok (.goto 4, 3) := by decide +kernel
theorem dX8_about_121 : decode cX8_about 121 = .ok (.iconst 0, 1) := by decide +kernel
theorem dX8_about_122 : decode cX8_about 122 = .ok (.ireturn, 1) := by decide +kernel
theorem dX8_about_123 : decode cX8_about 123 = .ok (.aload_n 0, 1) := by decide +kernel
theorem dX8_about_124 : decode cX8_about 124 = .ok (.getfield 26, 3) := by decide +kernel
theorem dX8_about_127 : decode cX8_about 127 = .ok (.aload_n 3, 1) := by decide +kernel
theorem dX8_about_128 : decode cX8_about 128 = .ok (.aload_n 0, 1) := by decide +kernel
theorem dX8_about_129 : decode cX8_about 129 = .ok (.getfield 19, 3) := by decide +kernel
theorem dX8_about_132 : decode cX8_about 132 = .ok (.invokevirtual 131, 3) := by decide +kernel
theorem dX8_about_135 : decode cX8_about 135 = .ok (.ireturn, 1) := by decide +kernel
theorem dX8_about_136 : decode cX8_about 136 = .ok (.aload_n 0, 1) := by decide +kernel
theorem dX8_about_137 : decode cX8_about 137 = .ok (.getfield 26, 3) := by decide +kernel
theorem dX8_about_140 : decode cX8_about 140 = .ok (.iload_n 1, 1) := by decide +kernel
theorem dX8_about_141 : decode cX8_about 141 = .ok (.invokevirtual 135, 3) := by decide +kernel
theorem dX8_about_144 : decode cX8_about 144 = .ok (.ireturn, 1) := by decide +kernel
theorem dX8_about_145 : decode cX8_about 145 = .ok (.bipush (-102), 2) := by decide +kernel
theorem dX8_about_147 : decode cX8_about 147 = .ok (.ireturn, 1) := by decide +kernel
theorem dX8_as_0 : decode cX8_as 0 = .ok (.aload_n 0, 1) := by decide +kernel
theorem dX8_as_1 : decode cX8_as 1 = .ok (.getfield 26, 3) := by decide +kernel
theorem dX8_as_4 : decode cX8_as 4 = .ok (.iload_n 1, 1) := by decide +kernel
theorem dX8_as_5 : decode cX8_as 5 = .ok (.invokevirtual 107, 3) := by decide +kernel
theorem dX8_as_8 : decode cX8_as 8 = .ok (.ifCond .ne 6, 3) := by decide +kernel
theorem dX8_as_11 : decode cX8_as 11 = .ok (.bipush (-101), 2) := by decide +kernel
theorem dX8_as_13 : decode cX8_as 13 = .ok (.ireturn, 1) := by decide +kernel
theorem dX8_as_14 : decode cX8_as 14 = .ok (.iload_n 2, 1) := by decide +kernel
theorem dX8_as_15 : decode cX8_as 15 = .ok (.invokestatic 87, 3) := by decide +kernel
theorem dX8_as_18 : decode cX8_as 18 = .ok (.ifCond .ne 6, 3) := by decide +kernel
theorem dX8_as_21 : decode cX8_as 21 = .ok (.bipush (-102), 2) := by decide +kernel
theorem dX8_as_23 : decode cX8_as 23 = .ok (.ireturn, 1) := by decide +kernel
theorem dX8_as_24 : decode cX8_as 24 = .ok (.aload_n 0, 1) := by decide +kernel
theorem dX8_as_25 : decode cX8_as 25 = .ok (.getfield 26, 3) := by decide +kernel
theorem dX8_as_28 : decode cX8_as 28 = .ok (.getfield 93, 3) := by decide +kernel
theorem dX8_as_31 : decode cX8_as 31 = .ok (.iload_n 1, 1) := by decide +kernel
theorem dX8_as_32 : decode cX8_as 32 = .ok (.aaload, 1) := by decide +kernel
theorem dX8_as_33 : decode cX8_as 33 = .ok (.getfield 110, 3) := by decide +kernel
theorem dX8_as_36 : decode cX8_as 36 = .ok (.getstatic 97, 3) := by decide +kernel
theorem dX8_as_39 : decode cX8_as 39 = .ok (.iload_n 2, 1) := by decide +kernel
theorem dX8_as_40 : decode cX8_as 40 = .ok (.aaload, 1) := by decide +kernel
theorem dX8_as_41 : decode cX8_as 41 = .ok (.invokevirtual 138, 3) := by decide +kernel
theorem dX8_as_44 : decode cX8_as 44 = .ok (.ifCond .eq 7, 3) := by decide +kernel
theorem dX8_as_47 : decode cX8_as 47 = .ok (.iload_n 1, 1) := by decide +kernel
theorem dX8_as_48 : decode cX8_as 48 = .ok (.goto 4, 3) := by decide +kernel
theorem dX8_as_51 : decode cX8_as 51 = .ok (.iconst (-1), 1) := by decide +kernel
theorem dX8_as_52 : decode cX8_as 52 = .ok (.ireturn, 1) := by decide +kernel
theorem dX8_flock_0 : decode cX8_flock 0 = .ok (.iload_n 1, 1) := by decide +kernel
theorem dX8_flock_1 : decode cX8_flock 1 = .ok (.invokestatic 142, 3) := by decide +kernel
theorem dX8_flock_4 : decode cX8_flock 4 = .ok (.ifCond .ne 6, 3) := by decide +kernel
theorem dX8_flock_7 : decode cX8_flock 7 = .ok (.bipush (-102), 2) := by decide +kernel
theorem dX8_flock_9 : decode cX8_flock 9 = .ok (.ireturn, 1) := by decide +kernel
theorem dX8_flock_10 : decode cX8_flock 10 = .ok (.iload_n 2, 1) := by decide +kernel
theorem dX8_flock_11 : decode cX8_flock 11 = .ok (.invokestatic 80, 3) := by decide +kernel
theorem dX8_flock_14 : decode cX8_flock 14 = .ok (.ifCond .ne 6, 3) := by decide +kernel
theorem dX8_flock_17 : decode cX8_flock 17 = .ok (.bipush (-101), 2) := by decide +kernel
theorem dX8_flock_19 : decode cX8_flock 19 = .ok (.ireturn, 1) := by decide +kernel
theorem dX8_flock_20 : decode cX8_flock 20 = .ok (.aload_n 0, 1) := by decide +kernel
theorem dX8_flock_21 : decode cX8_flock 21 = .ok (.getfield 26, 3) := by decide +kernel
theorem dX8_flock_24 : decode cX8_flock 24 = .ok (.getfield 145, 3) := by decide +kernel
theorem dX8_flock_27 : decode cX8_flock 27 = .ok (.iconst 5, 1) := by decide +kernel
theorem dX8_flock_28 : decode cX8_flock 28 = .ok (.if_icmp .lt 6, 3) := by decide +kernel
theorem dX8_flock_31 : decode cX8_flock 31 = .ok (.bipush (-104), 2) := by decide +kernel
theorem dX8_flock_33 : decode cX8_flock 33 = .ok (.ireturn, 1) := by decide +kernel
theorem dX8_flock_34 : decode cX8_flock 34 = .ok (.aload_n 0, 1) := by decide +kernel
theorem dX8_flock_35 : decode cX8_flock 35 = .ok (.getfield 26, 3) := by decide +kernel
theorem dX8_flock_38 : decode cX8_flock 38 = .ok (.getfield 148, 3) := by decide +kernel
theorem dX8_flock_41 : decode cX8_flock 41 = .ok (.aload_n 0, 1) := by decide +kernel
theorem dX8_flock_42 : decode cX8_flock 42 = .ok (.getfield 26, 3) := by decide +kernel
theorem dX8_flock_45 : decode cX8_flock 45 = .ok (.getfield 145, 3) := by decide +kernel
theorem dX8_flock_48 : decode cX8_flock 48 = .ok (.aaload, 1) := by decide +kernel
theorem dX8_flock_49 : decode cX8_flock 49 = .ok (.iload_n 1, 1) := by decide +kernel
theorem dX8_flock_50 : decode cX8_flock 50 = .ok (.iload_n 2, 1) := by decide +kernel
theorem dX8_flock_51 : decode cX8_flock 51 = .ok (.invokevirtual 152, 3) := by decide +kernel
theorem dX8_flock_54 : decode cX8_flock 54 = .ok (.aload_n 0, 1) := by decide +kernel
theorem dX8_flock_55 : decode cX8_flock 55 = .ok (.getfield 26, 3) := by decide +kernel
theorem dX8_flock_58 : decode cX8_flock 58 = .ok (.dup, 1) := by decide +kernel
theorem dX8_flock_59 : decode cX8_flock 59 = .ok (.getfield 145, 3) := by decide +kernel
theorem dX8_flock_62 : decode cX8_flock 62 = .ok (.dup_x1, 1) := by decide +kernel
theorem dX8_flock_63 : decode cX8_flock 63 = .ok (.iconst 1, 1) := by decide +kernel
theorem dX8_flock_64 : decode cX8_flock 64 = .ok (.iadd, 1) := by decide +kernel
theorem dX8_flock_65 : decode cX8_flock 65 = .ok (.putfield 145, 3) := by decide +kernel
theorem dX8_flock_68 : decode cX8_flock 68 = .ok (.ireturn, 1) := by decide +kernel
theorem dX8_flockOf_0 : decode cX8_flockOf 0 = .ok (.aload_n 0, 1) := by decide +kernel
theorem dX8_flockOf_1 : decode cX8_flockOf 1 = .ok (.getfield 26, 3) := by decide +kernel
theorem dX8_flockOf_4 : decode cX8_flockOf 4 = .ok (.iload_n 1, 1) := by decide +kernel
theorem dX8_flockOf_5 : decode cX8_flockOf 5 = .ok (.invokevirtual 157, 3) := by decide +kernel
theorem dX8_flockOf_8 : decode cX8_flockOf 8 = .ok (.ifCond .ne 6, 3) := by decide +kernel
theorem dX8_flockOf_11 : decode cX8_flockOf 11 = .ok (.bipush (-101), 2) := by decide +kernel
theorem dX8_flockOf_13 : decode cX8_flockOf 13 = .ok (.ireturn, 1) := by decide +kernel
theorem dX8_flockOf_14 : decode cX8_flockOf 14 = .ok (.aload_n 0, 1) := by decide +kernel
theorem dX8_flockOf_15 : decode cX8_flockOf 15 = .ok (.getfield 26, 3) := by decide +kernel
theorem dX8_flockOf_18 : decode cX8_flockOf 18 = .ok (.getfield 148, 3) := by decide +kernel
theorem dX8_flockOf_21 : decode cX8_flockOf 21 = .ok (.iload_n 1, 1) := by decide +kernel
theorem dX8_flockOf_22 : decode cX8_flockOf 22 = .ok (.aaload, 1) := by decide +kernel
theorem dX8_flockOf_23 : decode cX8_flockOf 23 = .ok (.astore_n 3, 1) := by decide +kernel
theorem dX8_flockOf_24 : decode cX8_flockOf 24 = .ok (.iload_n 2, 1) := by decide +kernel
theorem dX8_flockOf_25 : decode cX8_flockOf 25 = .ok (.tableswitch 78 0 3 #[31, 36, 41, 58], 31) := by decide +kernel
theorem dX8_flockOf_56 : decode cX8_flockOf 56 = .ok (.aload_n 3, 1) := by decide +kernel
theorem dX8_flockOf_57 : decode cX8_flockOf 57 = .ok (.getfield 160, 3) := by decide +kernel
theorem dX8_flockOf_60 : decode cX8_flockOf 60 = .ok (.ireturn, 1) := by decide +kernel
theorem dX8_flockOf_61 : decode cX8_flockOf 61 = .ok (.aload_n 3, 1) := by decide +kernel
theorem dX8_flockOf_62 : decode cX8_flockOf 62 = .ok (.getfield 163, 3) := by decide +kernel
theorem dX8_flockOf_65 : decode cX8_flockOf 65 = .ok (.ireturn, 1) := by decide +kernel
theorem dX8_flockOf_66 : decode cX8_flockOf 66 = .ok (.aload_n 0, 1) := by decide +kernel
theorem dX8_flockOf_67 : decode cX8_flockOf 67 = .ok (.getfield 26, 3) := by decide +kernel
theorem dX8_flockOf_70 : decode cX8_flockOf 70 = .ok (.iload_n 1, 1) := by decide +kernel
theorem dX8_flockOf_71 : decode cX8_flockOf 71 = .ok (.invokevirtual 164, 3) := by decide +kernel
theorem dX8_flockOf_74 : decode cX8_flockOf 74 = .ok (.ifCond .eq 7, 3) := by decide +kernel
theorem dX8_flockOf_77 : decode cX8_flockOf 77 = .ok (.iconst 1, 1) := by decide +kernel
theorem dX8_flockOf_78 : decode cX8_flockOf 78 = .ok (.goto 4, 3) := by decide +kernel
theorem dX8_flockOf_81 : decode cX8_flockOf 81 = .ok (.iconst 0, 1) := by decide +kernel
theorem dX8_flockOf_82 : decode cX8_flockOf 82 = .ok (.ireturn, 1) := by decide +kernel
theorem dX8_flockOf_83 : decode cX8_flockOf 83 = .ok (.aload_n 0, 1) := by decide +kernel
theorem dX8_flockOf_84 : decode cX8_flockOf 84 = .ok (.getfield 26, 3) := by decide +kernel
theorem dX8_flockOf_87 : decode cX8_flockOf 87 = .ok (.iload_n 1, 1) := by decide +kernel
theorem dX8_flockOf_88 : decode cX8_flockOf 88 = .ok (.invokevirtual 164, 3) := by decide +kernel
theorem dX8_flockOf_91 : decode cX8_flockOf 91 = .ok (.ifCond .eq 10, 3) := by decide +kernel
theorem dX8_flockOf_94 : decode cX8_flockOf 94 = .ok (.aload_n 3, 1) := by decide +kernel
theorem dX8_flockOf_95 : decode cX8_flockOf 95 = .ok (.getfield 167, 3) := by decide +kernel
theorem dX8_flockOf_98 : decode cX8_flockOf 98 = .ok (.goto 4, 3) := by decide +kernel
theorem dX8_flockOf_101 : decode cX8_flockOf 101 = .ok (.iconst (-1), 1) := by decide +kernel
theorem dX8_flockOf_102 : decode cX8_flockOf 102 = .ok (.ireturn, 1) := by decide +kernel
theorem dX8_flockOf_103 : decode cX8_flockOf 103 = .ok (.bipush (-102), 2) := by decide +kernel
theorem dX8_flockOf_105 : decode cX8_flockOf 105 = .ok (.ireturn, 1) := by decide +kernel
theorem dX8_name_0 : decode cX8_name 0 = .ok (.aload_n 0, 1) := by decide +kernel
theorem dX8_name_1 : decode cX8_name 1 = .ok (.getfield 26, 3) := by decide +kernel
theorem dX8_name_4 : decode cX8_name 4 = .ok (.iload_n 1, 1) := by decide +kernel
theorem dX8_name_5 : decode cX8_name 5 = .ok (.invokevirtual 170, 3) := by decide +kernel
theorem dX8_name_8 : decode cX8_name 8 = .ok (.ifCond .ne 6, 3) := by decide +kernel
theorem dX8_name_11 : decode cX8_name 11 = .ok (.bipush (-101), 2) := by decide +kernel
theorem dX8_name_13 : decode cX8_name 13 = .ok (.ireturn, 1) := by decide +kernel
theorem dX8_name_14 : decode cX8_name 14 = .ok (.iload_n 2, 1) := by decide +kernel
theorem dX8_name_15 : decode cX8_name 15 = .ok (.invokestatic 142, 3) := by decide +kernel
theorem dX8_name_18 : decode cX8_name 18 = .ok (.ifCond .ne 6, 3) := by decide +kernel
theorem dX8_name_21 : decode cX8_name 21 = .ok (.bipush (-102), 2) := by decide +kernel
theorem dX8_name_23 : decode cX8_name 23 = .ok (.ireturn, 1) := by decide +kernel
theorem dX8_name_24 : decode cX8_name 24 = .ok (.aload_n 0, 1) := by decide +kernel
theorem dX8_name_25 : decode cX8_name 25 = .ok (.getfield 26, 3) := by decide +kernel
theorem dX8_name_28 : decode cX8_name 28 = .ok (.getfield 148, 3) := by decide +kernel
theorem dX8_name_31 : decode cX8_name 31 = .ok (.iload_n 1, 1) := by decide +kernel
theorem dX8_name_32 : decode cX8_name 32 = .ok (.aaload, 1) := by decide +kernel
theorem dX8_name_33 : decode cX8_name 33 = .ok (.getfield 160, 3) := by decide +kernel
theorem dX8_name_36 : decode cX8_name 36 = .ok (.istore_n 3, 1) := by decide +kernel
theorem dX8_name_37 : decode cX8_name 37 = .ok (.aload_n 0, 1) := by decide +kernel
theorem dX8_name_38 : decode cX8_name 38 = .ok (.getfield 26, 3) := by decide +kernel
theorem dX8_name_41 : decode cX8_name 41 = .ok (.getfield 148, 3) := by decide +kernel
theorem dX8_name_44 : decode cX8_name 44 = .ok (.iload_n 1, 1) := by decide +kernel
theorem dX8_name_45 : decode cX8_name 45 = .ok (.aaload, 1) := by decide +kernel
theorem dX8_name_46 : decode cX8_name 46 = .ok (.iload_n 2, 1) := by decide +kernel
theorem dX8_name_47 : decode cX8_name 47 = .ok (.putfield 160, 3) := by decide +kernel
theorem dX8_name_50 : decode cX8_name 50 = .ok (.iload_n 3, 1) := by decide +kernel
theorem dX8_name_51 : decode cX8_name 51 = .ok (.ireturn, 1) := by decide +kernel
theorem dX8_move_0 : decode cX8_move 0 = .ok (.aload_n 0, 1) := by decide +kernel
theorem dX8_move_1 : decode cX8_move 1 = .ok (.getfield 26, 3) := by decide +kernel
theorem dX8_move_4 : decode cX8_move 4 = .ok (.iload_n 1, 1) := by decide +kernel
theorem dX8_move_5 : decode cX8_move 5 = .ok (.invokevirtual 170, 3) := by decide +kernel
theorem dX8_move_8 : decode cX8_move 8 = .ok (.ifCond .eq 10, 3) := by decide +kernel
theorem dX8_move_11 : decode cX8_move 11 = .ok (.iload_n 2, 1) := by decide +kernel
theorem dX8_move_12 : decode cX8_move 12 = .ok (.invokestatic 80, 3) := by decide +kernel
theorem dX8_move_15 : decode cX8_move 15 = .ok (.ifCond .ne 6, 3) := by decide +kernel
theorem dX8_move_18 : decode cX8_move 18 = .ok (.bipush (-101), 2) := by decide +kernel
theorem dX8_move_20 : decode cX8_move 20 = .ok (.ireturn, 1) := by decide +kernel
theorem dX8_move_21 : decode cX8_move 21 = .ok (.aload_n 0, 1) := by decide +kernel
theorem dX8_move_22 : decode cX8_move 22 = .ok (.getfield 26, 3) := by decide +kernel
theorem dX8_move_25 : decode cX8_move 25 = .ok (.getfield 148, 3) := by decide +kernel
theorem dX8_move_28 : decode cX8_move 28 = .ok (.iload_n 1, 1) := by decide +kernel
theorem dX8_move_29 : decode cX8_move 29 = .ok (.aaload, 1) := by decide +kernel
theorem dX8_move_30 : decode cX8_move 30 = .ok (.getfield 163, 3) := by decide +kernel
theorem dX8_move_33 : decode cX8_move 33 = .ok (.istore_n 3, 1) := by decide +kernel
theorem dX8_move_34 : decode cX8_move 34 = .ok (.aload_n 0, 1) := by decide +kernel
theorem dX8_move_35 : decode cX8_move 35 = .ok (.getfield 26, 3) := by decide +kernel
theorem dX8_move_38 : decode cX8_move 38 = .ok (.getfield 148, 3) := by decide +kernel
theorem dX8_move_41 : decode cX8_move 41 = .ok (.iload_n 1, 1) := by decide +kernel
theorem dX8_move_42 : decode cX8_move 42 = .ok (.aaload, 1) := by decide +kernel
theorem dX8_move_43 : decode cX8_move 43 = .ok (.iload_n 2, 1) := by decide +kernel
theorem dX8_move_44 : decode cX8_move 44 = .ok (.putfield 163, 3) := by decide +kernel
theorem dX8_move_47 : decode cX8_move 47 = .ok (.iload_n 3, 1) := by decide +kernel
theorem dX8_move_48 : decode cX8_move 48 = .ok (.ireturn, 1) := by decide +kernel
theorem dX8_day_0 : decode cX8_day 0 = .ok (.aload_n 0, 1) := by decide +kernel
theorem dX8_day_1 : decode cX8_day 1 = .ok (.getfield 26, 3) := by decide +kernel
theorem dX8_day_4 : decode cX8_day 4 = .ok (.aload_n 0, 1) := by decide +kernel
theorem dX8_day_5 : decode cX8_day 5 = .ok (.getfield 19, 3) := by decide +kernel
theorem dX8_day_8 : decode cX8_day 8 = .ok (.invokevirtual 173, 3) := by decide +kernel
theorem dX8_day_11 : decode cX8_day 11 = .ok (.ireturn, 1) := by decide +kernel
theorem dX8_loss_0 : decode cX8_loss 0 = .ok (.iload_n 1, 1) := by decide +kernel
theorem dX8_loss_1 : decode cX8_loss 1 = .ok (.ifCond .lt 9, 3) := by decide +kernel
theorem dX8_loss_4 : decode cX8_loss 4 = .ok (.iload_n 1, 1) := by decide +kernel
theorem dX8_loss_5 : decode cX8_loss 5 = .ok (.bipush 60, 2) := by decide +kernel
theorem dX8_loss_7 : decode cX8_loss 7 = .ok (.if_icmp .le 6, 3) := by decide +kernel
theorem dX8_loss_10 : decode cX8_loss 10 = .ok (.bipush (-102), 2) := by decide +kernel
theorem dX8_loss_12 : decode cX8_loss 12 = .ok (.ireturn, 1) := by decide +kernel
theorem dX8_loss_13 : decode cX8_loss 13 = .ok (.aload_n 0, 1) := by decide +kernel
theorem dX8_loss_14 : decode cX8_loss 14 = .ok (.iload_n 1, 1) := by decide +kernel
theorem dX8_loss_15 : decode cX8_loss 15 = .ok (.invokevirtual 177, 3) := by decide +kernel
theorem dX8_loss_18 : decode cX8_loss 18 = .ok (.ireturn, 1) := by decide +kernel
theorem dX8_falls_0 : decode cX8_falls 0 = .ok (.aload_n 0, 1) := by decide +kernel
theorem dX8_falls_1 : decode cX8_falls 1 = .ok (.getfield 26, 3) := by decide +kernel
theorem dX8_falls_4 : decode cX8_falls 4 = .ok (.iload_n 1, 1) := by decide +kernel
theorem dX8_falls_5 : decode cX8_falls 5 = .ok (.invokevirtual 170, 3) := by decide +kernel
theorem dX8_falls_8 : decode cX8_falls 8 = .ok (.ifCond .ne 6, 3) := by decide +kernel
theorem dX8_falls_11 : decode cX8_falls 11 = .ok (.bipush (-101), 2) := by decide +kernel
theorem dX8_falls_13 : decode cX8_falls 13 = .ok (.ireturn, 1) := by decide +kernel
theorem dX8_falls_14 : decode cX8_falls 14 = .ok (.aload_n 0, 1) := by decide +kernel
theorem dX8_falls_15 : decode cX8_falls 15 = .ok (.invokevirtual 180, 3) := by decide +kernel
theorem dX8_falls_18 : decode cX8_falls 18 = .ok (.aload_n 0, 1) := by decide +kernel
theorem dX8_falls_19 : decode cX8_falls 19 = .ok (.getfield 33, 3) := by decide +kernel
theorem dX8_falls_22 : decode cX8_falls 22 = .ok (.iload_n 1, 1) := by decide +kernel
theorem dX8_falls_23 : decode cX8_falls 23 = .ok (.bipush 60, 2) := by decide +kernel
theorem dX8_falls_25 : decode cX8_falls 25 = .ok (.aload_n 0, 1) := by decide +kernel
theorem dX8_falls_26 : decode cX8_falls 26 = .ok (.getfield 19, 3) := by decide +kernel
theorem dX8_falls_29 : decode cX8_falls 29 = .ok (.invokevirtual 183, 3) := by decide +kernel
theorem dX8_falls_32 : decode cX8_falls 32 = .ok (.ireturn, 1) := by decide +kernel
theorem dX8_safe_0 : decode cX8_safe 0 = .ok (.aload_n 0, 1) := by decide +kernel
theorem dX8_safe_1 : decode cX8_safe 1 = .ok (.getfield 26, 3) := by decide +kernel
theorem dX8_safe_4 : decode cX8_safe 4 = .ok (.iload_n 1, 1) := by decide +kernel
theorem dX8_safe_5 : decode cX8_safe 5 = .ok (.invokevirtual 170, 3) := by decide +kernel
theorem dX8_safe_8 : decode cX8_safe 8 = .ok (.ifCond .ne 6, 3) := by decide +kernel
theorem dX8_safe_11 : decode cX8_safe 11 = .ok (.bipush (-101), 2) := by decide +kernel
theorem dX8_safe_13 : decode cX8_safe 13 = .ok (.ireturn, 1) := by decide +kernel
theorem dX8_safe_14 : decode cX8_safe 14 = .ok (.iload_n 2, 1) := by decide +kernel
theorem dX8_safe_15 : decode cX8_safe 15 = .ok (.iconst 1, 1) := by decide +kernel
theorem dX8_safe_16 : decode cX8_safe 16 = .ok (.if_icmp .lt 9, 3) := by decide +kernel
theorem dX8_safe_19 : decode cX8_safe 19 = .ok (.iload_n 2, 1) := by decide +kernel
theorem dX8_safe_20 : decode cX8_safe 20 = .ok (.bipush 30, 2) := by decide +kernel
theorem dX8_safe_22 : decode cX8_safe 22 = .ok (.if_icmp .le 6, 3) := by decide +kernel
theorem dX8_safe_25 : decode cX8_safe 25 = .ok (.bipush (-102), 2) := by decide +kernel
theorem dX8_safe_27 : decode cX8_safe 27 = .ok (.ireturn, 1) := by decide +kernel
theorem dX8_safe_28 : decode cX8_safe 28 = .ok (.iconst 0, 1) := by decide +kernel
theorem dX8_safe_29 : decode cX8_safe 29 = .ok (.istore_n 3, 1) := by decide +kernel
theorem dX8_safe_30 : decode cX8_safe 30 = .ok (.iload_n 3, 1) := by decide +kernel
theorem dX8_safe_31 : decode cX8_safe 31 = .ok (.bipush 10, 2) := by decide +kernel
theorem dX8_safe_33 : decode cX8_safe 33 = .ok (.if_icmp .ge 45, 3) := by decide +kernel
theorem dX8_safe_36 : decode cX8_safe 36 = .ok (.aload_n 0, 1) := by decide +kernel
theorem dX8_safe_37 : decode cX8_safe 37 = .ok (.invokevirtual 180, 3) := by decide +kernel
theorem dX8_safe_40 : decode cX8_safe 40 = .ok (.aload_n 0, 1) := by decide +kernel
theorem dX8_safe_41 : decode cX8_safe 41 = .ok (.getfield 33, 3) := by decide +kernel
theorem dX8_safe_44 : decode cX8_safe 44 = .ok (.getfield 148, 3) := by decide +kernel
theorem dX8_safe_47 : decode cX8_safe 47 = .ok (.iload_n 1, 1) := by decide +kernel
theorem dX8_safe_48 : decode cX8_safe 48 = .ok (.aaload, 1) := by decide +kernel
theorem dX8_safe_49 : decode cX8_safe 49 = .ok (.iload_n 3, 1) := by decide +kernel
theorem dX8_safe_50 : decode cX8_safe 50 = .ok (.putfield 160, 3) := by decide +kernel
theorem dX8_safe_53 : decode cX8_safe 53 = .ok (.aload_n 0, 1) := by decide +kernel
theorem dX8_safe_54 : decode cX8_safe 54 = .ok (.getfield 33, 3) := by decide +kernel
theorem dX8_safe_57 : decode cX8_safe 57 = .ok (.iload_n 1, 1) := by decide +kernel
theorem dX8_safe_58 : decode cX8_safe 58 = .ok (.iload_n 2, 1) := by decide +kernel
theorem dX8_safe_59 : decode cX8_safe 59 = .ok (.aload_n 0, 1) := by decide +kernel
theorem dX8_safe_60 : decode cX8_safe 60 = .ok (.getfield 19, 3) := by decide +kernel
theorem dX8_safe_63 : decode cX8_safe 63 = .ok (.invokevirtual 183, 3) := by decide +kernel
theorem dX8_safe_66 : decode cX8_safe 66 = .ok (.iconst (-1), 1) := by decide +kernel
theorem dX8_safe_67 : decode cX8_safe 67 = .ok (.if_icmp .ne 5, 3) := by decide +kernel
theorem dX8_safe_70 : decode cX8_safe 70 = .ok (.iload_n 3, 1) := by decide +kernel
theorem dX8_safe_71 : decode cX8_safe 71 = .ok (.ireturn, 1) := by decide +kernel
theorem dX8_safe_72 : decode cX8_safe 72 = .ok (.iinc 3 1, 3) := by decide +kernel
theorem dX8_safe_75 : decode cX8_safe 75 = .ok (.goto (-45), 3) := by decide +kernel
theorem dX8_safe_78 : decode cX8_safe 78 = .ok (.iconst (-1), 1) := by decide +kernel
theorem dX8_safe_79 : decode cX8_safe 79 = .ok (.ireturn, 1) := by decide +kernel
theorem dX8_graze_0 : decode cX8_graze 0 = .ok (.aload_n 0, 1) := by decide +kernel
theorem dX8_graze_1 : decode cX8_graze 1 = .ok (.getfield 26, 3) := by decide +kernel
theorem dX8_graze_4 : decode cX8_graze 4 = .ok (.iload_n 1, 1) := by decide +kernel
theorem dX8_graze_5 : decode cX8_graze 5 = .ok (.invokevirtual 170, 3) := by decide +kernel
theorem dX8_graze_8 : decode cX8_graze 8 = .ok (.ifCond .ne 6, 3) := by decide +kernel
theorem dX8_graze_11 : decode cX8_graze 11 = .ok (.bipush (-101), 2) := by decide +kernel
theorem dX8_graze_13 : decode cX8_graze 13 = .ok (.ireturn, 1) := by decide +kernel
theorem dX8_graze_14 : decode cX8_graze 14 = .ok (.iload_n 2, 1) := by decide +kernel
theorem dX8_graze_15 : decode cX8_graze 15 = .ok (.iconst 1, 1) := by decide +kernel
theorem dX8_graze_16 : decode cX8_graze 16 = .ok (.if_icmp .lt 18, 3) := by decide +kernel
theorem dX8_graze_19 : decode cX8_graze 19 = .ok (.iload_n 2, 1) := by decide +kernel
theorem dX8_graze_20 : decode cX8_graze 20 = .ok (.bipush 6, 2) := by decide +kernel
theorem dX8_graze_22 : decode cX8_graze 22 = .ok (.if_icmp .gt 12, 3) := by decide +kernel
theorem dX8_graze_25 : decode cX8_graze 25 = .ok (.iload_n 3, 1) := by decide +kernel
theorem dX8_graze_26 : decode cX8_graze 26 = .ok (.ifCond .lt 8, 3) := by decide +kernel
theorem dX8_graze_29 : decode cX8_graze 29 = .ok (.iload_n 3, 1) := by decide +kernel
theorem dX8_graze_30 : decode cX8_graze 30 = .ok (.iconst 1, 1) := by decide +kernel
theorem dX8_graze_31 : decode cX8_graze 31 = .ok (.if_icmp .le 6, 3) := by decide +kernel
theorem dX8_graze_34 : decode cX8_graze 34 = .ok (.bipush (-102), 2) := by decide +kernel
theorem dX8_graze_36 : decode cX8_graze 36 = .ok (.ireturn, 1) := by decide +kernel
theorem dX8_graze_37 : decode cX8_graze 37 = .ok (.aload_n 0, 1) := by decide +kernel
theorem dX8_graze_38 : decode cX8_graze 38 = .ok (.getfield 187, 3) := by decide +kernel
theorem dX8_graze_41 : decode cX8_graze 41 = .ok (.bipush 60, 2) := by decide +kernel
theorem dX8_graze_43 : decode cX8_graze 43 = .ok (.if_icmp .lt 6, 3) := by decide +kernel
theorem dX8_graze_46 : decode cX8_graze 46 = .ok (.bipush (-103), 2) := by decide +kernel
theorem dX8_graze_48 : decode cX8_graze 48 = .ok (.ireturn, 1) := by decide +kernel
theorem dX8_graze_49 : decode cX8_graze 49 = .ok (.aload_n 0, 1) := by decide +kernel
theorem dX8_graze_50 : decode cX8_graze 50 = .ok (.dup, 1) := by decide +kernel
theorem dX8_graze_51 : decode cX8_graze 51 = .ok (.getfield 187, 3) := by decide +kernel
theorem dX8_graze_54 : decode cX8_graze 54 = .ok (.iconst 1, 1) := by decide +kernel
theorem dX8_graze_55 : decode cX8_graze 55 = .ok (.iadd, 1) := by decide +kernel
theorem dX8_graze_56 : decode cX8_graze 56 = .ok (.putfield 187, 3) := by decide +kernel
theorem dX8_graze_59 : decode cX8_graze 59 = .ok (.aload_n 0, 1) := by decide +kernel
theorem dX8_graze_60 : decode cX8_graze 60 = .ok (.invokevirtual 180, 3) := by decide +kernel
theorem dX8_graze_63 : decode cX8_graze 63 = .ok (.iload_n 3, 1) := by decide +kernel
theorem dX8_graze_64 : decode cX8_graze 64 = .ok (.ifCond .ne 12, 3) := by decide +kernel
theorem dX8_graze_67 : decode cX8_graze 67 = .ok (.aload_n 0, 1) := by decide +kernel
theorem dX8_graze_68 : decode cX8_graze 68 = .ok (.iload_n 1, 1) := by decide +kernel
theorem dX8_graze_69 : decode cX8_graze 69 = .ok (.iload_n 2, 1) := by decide +kernel
theorem dX8_graze_70 : decode cX8_graze 70 = .ok (.invokevirtual 190, 3) := by decide +kernel
theorem dX8_graze_73 : decode cX8_graze 73 = .ok (.goto 9, 3) := by decide +kernel
theorem dX8_graze_76 : decode cX8_graze 76 = .ok (.aload_n 0, 1) := by decide +kernel
theorem dX8_graze_77 : decode cX8_graze 77 = .ok (.iload_n 1, 1) := by decide +kernel
theorem dX8_graze_78 : decode cX8_graze 78 = .ok (.iload_n 2, 1) := by decide +kernel
theorem dX8_graze_79 : decode cX8_graze 79 = .ok (.invokevirtual 194, 3) := by decide +kernel
theorem dX8_graze_82 : decode cX8_graze 82 = .ok (.ireturn, 1) := by decide +kernel
theorem dX8_nail_0 : decode cX8_nail 0 = .ok (.aload_n 0, 1) := by decide +kernel
theorem dX8_nail_1 : decode cX8_nail 1 = .ok (.getfield 26, 3) := by decide +kernel
theorem dX8_nail_4 : decode cX8_nail 4 = .ok (.iload_n 1, 1) := by decide +kernel
theorem dX8_nail_5 : decode cX8_nail 5 = .ok (.invokevirtual 107, 3) := by decide +kernel
theorem dX8_nail_8 : decode cX8_nail 8 = .ok (.ifCond .ne 6, 3) := by decide +kernel
theorem dX8_nail_11 : decode cX8_nail 11 = .ok (.bipush (-101), 2) := by decide +kernel
theorem dX8_nail_13 : decode cX8_nail 13 = .ok (.ireturn, 1) := by decide +kernel
theorem dX8_nail_14 : decode cX8_nail 14 = .ok (.iload_n 2, 1) := by decide +kernel
theorem dX8_nail_15 : decode cX8_nail 15 = .ok (.ifCond .lt 8, 3) := by decide +kernel
theorem dX8_nail_18 : decode cX8_nail 18 = .ok (.iload_n 2, 1) := by decide +kernel
theorem dX8_nail_19 : decode cX8_nail 19 = .ok (.iconst 1, 1) := by decide +kernel
theorem dX8_nail_20 : decode cX8_nail 20 = .ok (.if_icmp .le 6, 3) := by decide +kernel
theorem dX8_nail_23 : decode cX8_nail 23 = .ok (.bipush (-102), 2) := by decide +kernel
theorem dX8_nail_25 : decode cX8_nail 25 = .ok (.ireturn, 1) := by decide +kernel
theorem dX8_nail_26 : decode cX8_nail 26 = .ok (.iconst (-1), 1) := by decide +kernel
theorem dX8_nail_27 : decode cX8_nail 27 = .ok (.istore_n 3, 1) := by decide +kernel
theorem dX8_nail_28 : decode cX8_nail 28 = .ok (.iconst 0, 1) := by decide +kernel
theorem dX8_nail_29 : decode cX8_nail 29 = .ok (.istore 4, 2) := by decide +kernel
theorem dX8_nail_31 : decode cX8_nail 31 = .ok (.iconst 0, 1) := by decide +kernel
theorem dX8_nail_32 : decode cX8_nail 32 = .ok (.istore 5, 2) := by decide +kernel
theorem dX8_nail_34 : decode cX8_nail 34 = .ok (.iload 5, 2) := by decide +kernel
theorem dX8_nail_36 : decode cX8_nail 36 = .ok (.bipush 30, 2) := by decide +kernel
theorem dX8_nail_38 : decode cX8_nail 38 = .ok (.if_icmp .ge 40, 3) := by decide +kernel
theorem dX8_nail_41 : decode cX8_nail 41 = .ok (.aload_n 0, 1) := by decide +kernel
theorem dX8_nail_42 : decode cX8_nail 42 = .ok (.aload_n 0, 1) := by decide +kernel
theorem dX8_nail_43 : decode cX8_nail 43 = .ok (.getfield 26, 3) := by decide +kernel
theorem dX8_nail_46 : decode cX8_nail 46 = .ok (.getfield 93, 3) := by decide +kernel
theorem dX8_nail_49 : decode cX8_nail 49 = .ok (.iload_n 1, 1) := by decide +kernel
theorem dX8_nail_50 : decode cX8_nail 50 = .ok (.aaload, 1) := by decide +kernel
theorem dX8_nail_51 : decode cX8_nail 51 = .ok (.iload 5, 2) := by decide +kernel
theorem dX8_nail_53 : decode cX8_nail 53 = .ok (.invokevirtual 197, 3) := by decide +kernel
theorem dX8_nail_56 : decode cX8_nail 56 = .ok (.istore 6, 2) := by decide +kernel
theorem dX8_nail_58 : decode cX8_nail 58 = .ok (.iload 6, 2) := by decide +kernel
theorem dX8_nail_60 : decode cX8_nail 60 = .ok (.iload 4, 2) := by decide +kernel
theorem dX8_nail_62 : decode cX8_nail 62 = .ok (.if_icmp .le 10, 3) := by decide +kernel
theorem dX8_nail_65 : decode cX8_nail 65 = .ok (.iload 6, 2) := by decide +kernel
theorem dX8_nail_67 : decode cX8_nail 67 = .ok (.istore 4, 2) := by decide +kernel
theorem dX8_nail_69 : decode cX8_nail 69 = .ok (.iload 5, 2) := by decide +kernel
theorem dX8_nail_71 : decode cX8_nail 71 = .ok (.istore_n 3, 1) := by decide +kernel
theorem dX8_nail_72 : decode cX8_nail 72 = .ok (.iinc 5 1, 3) := by decide +kernel
theorem dX8_nail_75 : decode cX8_nail 75 = .ok (.goto (-41), 3) := by decide +kernel
theorem dX8_nail_78 : decode cX8_nail 78 = .ok (.iload_n 3, 1) := by decide +kernel
theorem dX8_nail_79 : decode cX8_nail 79 = .ok (.iconst (-1), 1) := by decide +kernel
theorem dX8_nail_80 : decode cX8_nail 80 = .ok (.if_icmp .ne 5, 3) := by decide +kernel
theorem dX8_nail_83 : decode cX8_nail 83 = .ok (.iconst (-1), 1) := by decide +kernel
theorem dX8_nail_84 : decode cX8_nail 84 = .ok (.ireturn, 1) := by decide +kernel
theorem dX8_nail_85 : decode cX8_nail 85 = .ok (.iload_n 2, 1) := by decide +kernel
theorem dX8_nail_86 : decode cX8_nail 86 = .ok (.ifCond .ne 7, 3) := by decide +kernel
theorem dX8_nail_89 : decode cX8_nail 89 = .ok (.iload_n 3, 1) := by decide +kernel
theorem dX8_nail_90 : decode cX8_nail 90 = .ok (.goto 5, 3) := by decide +kernel
theorem dX8_nail_93 : decode cX8_nail 93 = .ok (.iload 4, 2) := by decide +kernel
theorem dX8_nail_95 : decode cX8_nail 95 = .ok (.ireturn, 1) := by decide +kernel
theorem dX8_watch_0 : decode cX8_watch 0 = .ok (.aload_n 0, 1) := by decide +kernel
theorem dX8_watch_1 : decode cX8_watch 1 = .ok (.getfield 26, 3) := by decide +kernel
theorem dX8_watch_4 : decode cX8_watch 4 = .ok (.iload_n 1, 1) := by decide +kernel
theorem dX8_watch_5 : decode cX8_watch 5 = .ok (.invokevirtual 107, 3) := by decide +kernel
theorem dX8_watch_8 : decode cX8_watch 8 = .ok (.ifCond .ne 6, 3) := by decide +kernel
theorem dX8_watch_11 : decode cX8_watch 11 = .ok (.bipush (-101), 2) := by decide +kernel
theorem dX8_watch_13 : decode cX8_watch 13 = .ok (.ireturn, 1) := by decide +kernel
theorem dX8_watch_14 : decode cX8_watch 14 = .ok (.aload_n 0, 1) := by decide +kernel
theorem dX8_watch_15 : decode cX8_watch 15 = .ok (.getfield 26, 3) := by decide +kernel
theorem dX8_watch_18 : decode cX8_watch 18 = .ok (.getfield 201, 3) := by decide +kernel
theorem dX8_watch_21 : decode cX8_watch 21 = .ok (.getfield 205, 3) := by decide +kernel
theorem dX8_watch_24 : decode cX8_watch 24 = .ok (.istore_n 2, 1) := by decide +kernel
theorem dX8_watch_25 : decode cX8_watch 25 = .ok (.aload_n 0, 1) := by decide +kernel
theorem dX8_watch_26 : decode cX8_watch 26 = .ok (.getfield 26, 3) := by decide +kernel
theorem dX8_watch_29 : decode cX8_watch 29 = .ok (.getfield 201, 3) := by decide +kernel
theorem dX8_watch_32 : decode cX8_watch 32 = .ok (.iload_n 1, 1) := by decide +kernel
theorem dX8_watch_33 : decode cX8_watch 33 = .ok (.aload_n 0, 1) := by decide +kernel
theorem dX8_watch_34 : decode cX8_watch 34 = .ok (.getfield 26, 3) := by decide +kernel
theorem dX8_watch_37 : decode cX8_watch 37 = .ok (.getfield 210, 3) := by decide +kernel
theorem dX8_watch_40 : decode cX8_watch 40 = .ok (.invokevirtual 213, 3) := by decide +kernel
theorem dX8_watch_43 : decode cX8_watch 43 = .ok (.iload_n 2, 1) := by decide +kernel
theorem dX8_watch_44 : decode cX8_watch 44 = .ok (.ireturn, 1) := by decide +kernel
theorem dX8_seen_0 : decode cX8_seen 0 = .ok (.aload_n 0, 1) := by decide +kernel
theorem dX8_seen_1 : decode cX8_seen 1 = .ok (.getfield 26, 3) := by decide +kernel
theorem dX8_seen_4 : decode cX8_seen 4 = .ok (.getfield 201, 3) := by decide +kernel
theorem dX8_seen_7 : decode cX8_seen 7 = .ok (.invokevirtual 216, 3) := by decide +kernel
theorem dX8_seen_10 : decode cX8_seen 10 = .ok (.ifCond .ne 6, 3) := by decide +kernel
theorem dX8_seen_13 : decode cX8_seen 13 = .ok (.bipush (-103), 2) := by decide +kernel
theorem dX8_seen_15 : decode cX8_seen 15 = .ok (.ireturn, 1) := by decide +kernel
theorem dX8_seen_16 : decode cX8_seen 16 = .ok (.aload_n 0, 1) := by decide +kernel
theorem dX8_seen_17 : decode cX8_seen 17 = .ok (.getfield 26, 3) := by decide +kernel
theorem dX8_seen_20 : decode cX8_seen 20 = .ok (.getfield 201, 3) := by decide +kernel
theorem dX8_seen_23 : decode cX8_seen 23 = .ok (.getfield 205, 3) := by decide +kernel
theorem dX8_seen_26 : decode cX8_seen 26 = .ok (.bipush 8, 2) := by decide +kernel
theorem dX8_seen_28 : decode cX8_seen 28 = .ok (.if_icmp .lt 6, 3) := by decide +kernel
theorem dX8_seen_31 : decode cX8_seen 31 = .ok (.bipush (-104), 2) := by decide +kernel
theorem dX8_seen_33 : decode cX8_seen 33 = .ok (.ireturn, 1) := by decide +kernel
theorem dX8_seen_34 : decode cX8_seen 34 = .ok (.aload_n 0, 1) := by decide +kernel
theorem dX8_seen_35 : decode cX8_seen 35 = .ok (.getfield 26, 3) := by decide +kernel
theorem dX8_seen_38 : decode cX8_seen 38 = .ok (.getfield 201, 3) := by decide +kernel
theorem dX8_seen_41 : decode cX8_seen 41 = .ok (.iload_n 1, 1) := by decide +kernel
theorem dX8_seen_42 : decode cX8_seen 42 = .ok (.invokevirtual 219, 3) := by decide +kernel
theorem dX8_seen_45 : decode cX8_seen 45 = .ok (.aload_n 0, 1) := by decide +kernel
theorem dX8_seen_46 : decode cX8_seen 46 = .ok (.getfield 26, 3) := by decide +kernel
theorem dX8_seen_49 : decode cX8_seen 49 = .ok (.getfield 201, 3) := by decide +kernel
theorem dX8_seen_52 : decode cX8_seen 52 = .ok (.getfield 205, 3) := by decide +kernel
theorem dX8_seen_55 : decode cX8_seen 55 = .ok (.ireturn, 1) := by decide +kernel
theorem dX8_fits_0 : decode cX8_fits 0 = .ok (.iload_n 1, 1) := by decide +kernel
theorem dX8_fits_1 : decode cX8_fits 1 = .ok (.ifCond .lt 8, 3) := by decide +kernel
theorem dX8_fits_4 : decode cX8_fits 4 = .ok (.iload_n 1, 1) := by decide +kernel
theorem dX8_fits_5 : decode cX8_fits 5 = .ok (.iconst 1, 1) := by decide +kernel
theorem dX8_fits_6 : decode cX8_fits 6 = .ok (.if_icmp .le 6, 3) := by decide +kernel
theorem dX8_fits_9 : decode cX8_fits 9 = .ok (.bipush (-102), 2) := by decide +kernel
theorem dX8_fits_11 : decode cX8_fits 11 = .ok (.ireturn, 1) := by decide +kernel
theorem dX8_fits_12 : decode cX8_fits 12 = .ok (.aload_n 0, 1) := by decide +kernel
theorem dX8_fits_13 : decode cX8_fits 13 = .ok (.getfield 26, 3) := by decide +kernel
theorem dX8_fits_16 : decode cX8_fits 16 = .ok (.getfield 201, 3) := by decide +kernel
theorem dX8_fits_19 : decode cX8_fits 19 = .ok (.invokevirtual 216, 3) := by decide +kernel
theorem dX8_fits_22 : decode cX8_fits 22 = .ok (.ifCond .eq 23, 3) := by decide +kernel
theorem dX8_fits_25 : decode cX8_fits 25 = .ok (.aload_n 0, 1) := by decide +kernel
theorem dX8_fits_26 : decode cX8_fits 26 = .ok (.getfield 26, 3) := by decide +kernel
theorem dX8_fits_29 : decode cX8_fits 29 = .ok (.aload_n 0, 1) := by decide +kernel
theorem dX8_fits_30 : decode cX8_fits 30 = .ok (.getfield 26, 3) := by decide +kernel
theorem dX8_fits_33 : decode cX8_fits 33 = .ok (.getfield 201, 3) := by decide +kernel
theorem dX8_fits_36 : decode cX8_fits 36 = .ok (.getfield 222, 3) := by decide +kernel
theorem dX8_fits_39 : decode cX8_fits 39 = .ok (.invokevirtual 107, 3) := by decide +kernel
theorem dX8_fits_42 : decode cX8_fits 42 = .ok (.ifCond .ne 6, 3) := by decide +kernel
theorem dX8_fits_45 : decode cX8_fits 45 = .ok (.bipush (-103), 2) := by decide +kernel
theorem dX8_fits_47 : decode cX8_fits 47 = .ok (.ireturn, 1) := by decide +kernel
theorem dX8_fits_48 : decode cX8_fits 48 = .ok (.aload_n 0, 1) := by decide +kernel
theorem dX8_fits_49 : decode cX8_fits 49 = .ok (.getfield 26, 3) := by decide +kernel
theorem dX8_fits_52 : decode cX8_fits 52 = .ok (.getfield 93, 3) := by decide +kernel
theorem dX8_fits_55 : decode cX8_fits 55 = .ok (.aload_n 0, 1) := by decide +kernel
theorem dX8_fits_56 : decode cX8_fits 56 = .ok (.getfield 26, 3) := by decide +kernel
theorem dX8_fits_59 : decode cX8_fits 59 = .ok (.getfield 201, 3) := by decide +kernel
theorem dX8_fits_62 : decode cX8_fits 62 = .ok (.getfield 222, 3) := by decide +kernel
theorem dX8_fits_65 : decode cX8_fits 65 = .ok (.aaload, 1) := by decide +kernel
theorem dX8_fits_66 : decode cX8_fits 66 = .ok (.astore_n 2, 1) := by decide +kernel
theorem dX8_fits_67 : decode cX8_fits 67 = .ok (.iload_n 1, 1) := by decide +kernel
theorem dX8_fits_68 : decode cX8_fits 68 = .ok (.ifCond .ne 11, 3) := by decide +kernel
theorem dX8_fits_71 : decode cX8_fits 71 = .ok (.aload_n 0, 1) := by decide +kernel
theorem dX8_fits_72 : decode cX8_fits 72 = .ok (.aload_n 2, 1) := by decide +kernel
theorem dX8_fits_73 : decode cX8_fits 73 = .ok (.invokevirtual 225, 3) := by decide +kernel
theorem dX8_fits_76 : decode cX8_fits 76 = .ok (.goto 8, 3) := by decide +kernel
theorem dX8_fits_79 : decode cX8_fits 79 = .ok (.aload_n 0, 1) := by decide +kernel
theorem dX8_fits_80 : decode cX8_fits 80 = .ok (.aload_n 2, 1) := by decide +kernel
theorem dX8_fits_81 : decode cX8_fits 81 = .ok (.invokevirtual 228, 3) := by decide +kernel
theorem dX8_fits_84 : decode cX8_fits 84 = .ok (.ireturn, 1) := by decide +kernel
theorem dX8_years_0 : decode cX8_years 0 = .ok (.iload_n 1, 1) := by decide +kernel
theorem dX8_years_1 : decode cX8_years 1 = .ok (.iconst 1, 1) := by decide +kernel
theorem dX8_years_2 : decode cX8_years 2 = .ok (.if_icmp .lt 22, 3) := by decide +kernel
theorem dX8_years_5 : decode cX8_years 5 = .ok (.iload_n 1, 1) := by decide +kernel
theorem dX8_years_6 : decode cX8_years 6 = .ok (.bipush 60, 2) := by decide +kernel
theorem dX8_years_8 : decode cX8_years 8 = .ok (.if_icmp .gt 16, 3) := by decide +kernel
theorem dX8_years_11 : decode cX8_years 11 = .ok (.iload_n 2, 1) := by decide +kernel
theorem dX8_years_12 : decode cX8_years 12 = .ok (.ifCond .lt 12, 3) := by decide +kernel
theorem dX8_years_15 : decode cX8_years 15 = .ok (.iload_n 3, 1) := by decide +kernel
theorem dX8_years_16 : decode cX8_years 16 = .ok (.ifCond .lt 8, 3) := by decide +kernel
theorem dX8_years_19 : decode cX8_years 19 = .ok (.iload_n 3, 1) := by decide +kernel
theorem dX8_years_20 : decode cX8_years 20 = .ok (.iconst 1, 1) := by decide +kernel
theorem dX8_years_21 : decode cX8_years 21 = .ok (.if_icmp .le 6, 3) := by decide +kernel
theorem dX8_years_24 : decode cX8_years 24 = .ok (.bipush (-102), 2) := by decide +kernel
theorem dX8_years_26 : decode cX8_years 26 = .ok (.ireturn, 1) := by decide +kernel
theorem dX8_years_27 : decode cX8_years 27 = .ok (.aload_n 0, 1) := by decide +kernel
theorem dX8_years_28 : decode cX8_years 28 = .ok (.invokevirtual 180, 3) := by decide +kernel
theorem dX8_years_31 : decode cX8_years 31 = .ok (.aload_n 0, 1) := by decide +kernel
theorem dX8_years_32 : decode cX8_years 32 = .ok (.getfield 39, 3) := by decide +kernel
theorem dX8_years_35 : decode cX8_years 35 = .ok (.iload_n 2, 1) := by decide +kernel
theorem dX8_years_36 : decode cX8_years 36 = .ok (.i2l, 1) := by decide +kernel
theorem dX8_years_37 : decode cX8_years 37 = .ok (.putfield 231, 3) := by decide +kernel
theorem dX8_years_40 : decode cX8_years 40 = .ok (.iconst 0, 1) := by decide +kernel
theorem dX8_years_41 : decode cX8_years 41 = .ok (.istore 4, 2) := by decide +kernel
theorem dX8_years_43 : decode cX8_years 43 = .ok (.iload 4, 2) := by decide +kernel
theorem dX8_years_45 : decode cX8_years 45 = .ok (.iload_n 1, 1) := by decide +kernel
theorem dX8_years_46 : decode cX8_years 46 = .ok (.if_icmp .ge 66, 3) := by decide +kernel
theorem dX8_years_49 : decode cX8_years 49 = .ok (.aload_n 0, 1) := by decide +kernel
theorem dX8_years_50 : decode cX8_years 50 = .ok (.getfield 39, 3) := by decide +kernel
theorem dX8_years_53 : decode cX8_years 53 = .ok (.invokevirtual 235, 3) := by decide +kernel
theorem dX8_years_56 : decode cX8_years 56 = .ok (.bipush 8, 2) := by decide +kernel
theorem dX8_years_58 : decode cX8_years 58 = .ok (.irem, 1) := by decide +kernel
theorem dX8_years_59 : decode cX8_years 59 = .ok (.ifCond .ne 35, 3) := by decide +kernel
theorem dX8_years_62 : decode cX8_years 62 = .ok (.aload_n 0, 1) := by decide +kernel
theorem dX8_years_63 : decode cX8_years 63 = .ok (.getfield 39, 3) := by decide +kernel
theorem dX8_years_66 : decode cX8_years 66 = .ok (.invokevirtual 235, 3) := by decide +kernel
theorem dX8_years_69 : decode cX8_years 69 = .ok (.bipush 8, 2) := by decide +kernel
theorem dX8_years_71 : decode cX8_years 71 = .ok (.irem, 1) := by decide +kernel
theorem dX8_years_72 : decode cX8_years 72 = .ok (.istore 5, 2) := by decide +kernel
theorem dX8_years_74 : decode cX8_years 74 = .ok (.aload_n 0, 1) := by decide +kernel
theorem dX8_years_75 : decode cX8_years 75 = .ok (.getfield 33, 3) := by decide +kernel
theorem dX8_years_78 : decode cX8_years 78 = .ok (.getfield 83, 3) := by decide +kernel
theorem dX8_years_81 : decode cX8_years 81 = .ok (.iload 5, 2) := by decide +kernel
theorem dX8_years_83 : decode cX8_years 83 = .ok (.aload_n 0, 1) := by decide +kernel
theorem dX8_years_84 : decode cX8_years 84 = .ok (.getfield 39, 3) := by decide +kernel
theorem dX8_years_87 : decode cX8_years 87 = .ok (.invokevirtual 235, 3) := by decide +kernel
theorem dX8_years_90 : decode cX8_years 90 = .ok (.bipush 30, 2) := by decide +kernel
theorem dX8_years_92 : decode cX8_years 92 = .ok (.irem, 1) := by decide +kernel
theorem dX8_years_93 : decode cX8_years 93 = .ok (.iastore, 1) := by decide +kernel
theorem dX8_years_94 : decode cX8_years 94 = .ok (.aload_n 0, 1) := by decide +kernel
theorem dX8_years_95 : decode cX8_years 95 = .ok (.getfield 33, 3) := by decide +kernel
theorem dX8_years_98 : decode cX8_years 98 = .ok (.aload_n 0, 1) := by decide +kernel
theorem dX8_years_99 : decode cX8_years 99 = .ok (.getfield 19, 3) := by decide +kernel
theorem dX8_years_102 : decode cX8_years 102 = .ok (.invokevirtual 173, 3) := by decide +kernel
theorem dX8_years_105 : decode cX8_years 105 = .ok (.pop, 1) := by decide +kernel
theorem dX8_years_106 : decode cX8_years 106 = .ok (.iinc 4 1, 3) := by decide +kernel
theorem dX8_years_109 : decode cX8_years 109 = .ok (.goto (-66), 3) := by decide +kernel
theorem dX8_years_112 : decode cX8_years 112 = .ok (.iload_n 3, 1) := by decide +kernel
theorem dX8_years_113 : decode cX8_years 113 = .ok (.ifCond .ne 13, 3) := by decide +kernel
theorem dX8_years_116 : decode cX8_years 116 = .ok (.aload_n 0, 1) := by decide +kernel
theorem dX8_years_117 : decode cX8_years 117 = .ok (.getfield 33, 3) := by decide +kernel
theorem dX8_years_120 : decode cX8_years 120 = .ok (.invokevirtual 238, 3) := by decide +kernel
theorem dX8_years_123 : decode cX8_years 123 = .ok (.goto 11, 3) := by decide +kernel
theorem dX8_years_126 : decode cX8_years 126 = .ok (.aload_n 0, 1) := by decide +kernel
theorem dX8_years_127 : decode cX8_years 127 = .ok (.getfield 39, 3) := by decide +kernel
theorem dX8_years_130 : decode cX8_years 130 = .ok (.getfield 231, 3) := by decide +kernel
theorem dX8_years_133 : decode cX8_years 133 = .ok (.l2i, 1) := by decide +kernel
theorem dX8_years_134 : decode cX8_years 134 = .ok (.ireturn, 1) := by decide +kernel
theorem dX8_image_0 : decode cX8_image 0 = .ok (.aload_n 0, 1) := by decide +kernel
theorem dX8_image_1 : decode cX8_image 1 = .ok (.getfield 30, 3) := by decide +kernel
theorem dX8_image_4 : decode cX8_image 4 = .ok (.aload_n 0, 1) := by decide +kernel
theorem dX8_image_5 : decode cX8_image 5 = .ok (.getfield 26, 3) := by decide +kernel
theorem dX8_image_8 : decode cX8_image 8 = .ok (.invokevirtual 241, 3) := by decide +kernel
theorem dX8_image_11 : decode cX8_image 11 = .ok (.aload_n 0, 1) := by decide +kernel
theorem dX8_image_12 : decode cX8_image 12 = .ok (.iconst 1, 1) := by decide +kernel
theorem dX8_image_13 : decode cX8_image 13 = .ok (.putfield 245, 3) := by decide +kernel
theorem dX8_image_16 : decode cX8_image 16 = .ok (.aload_n 0, 1) := by decide +kernel
theorem dX8_image_17 : decode cX8_image 17 = .ok (.getfield 30, 3) := by decide +kernel
theorem dX8_image_20 : decode cX8_image 20 = .ok (.getfield 210, 3) := by decide +kernel
theorem dX8_image_23 : decode cX8_image 23 = .ok (.ireturn, 1) := by decide +kernel
theorem dX8_restore_0 : decode cX8_restore 0 = .ok (.aload_n 0, 1) := by decide +kernel
theorem dX8_restore_1 : decode cX8_restore 1 = .ok (.getfield 245, 3) := by decide +kernel
theorem dX8_restore_4 : decode cX8_restore 4 = .ok (.ifCond .ne 6, 3) := by decide +kernel
theorem dX8_restore_7 : decode cX8_restore 7 = .ok (.bipush (-103), 2) := by decide +kernel
theorem dX8_restore_9 : decode cX8_restore 9 = .ok (.ireturn, 1) := by decide +kernel
theorem dX8_restore_10 : decode cX8_restore 10 = .ok (.aload_n 0, 1) := by decide +kernel
theorem dX8_restore_11 : decode cX8_restore 11 = .ok (.getfield 26, 3) := by decide +kernel
theorem dX8_restore_14 : decode cX8_restore 14 = .ok (.aload_n 0, 1) := by decide +kernel
theorem dX8_restore_15 : decode cX8_restore 15 = .ok (.getfield 30, 3) := by decide +kernel
theorem dX8_restore_18 : decode cX8_restore 18 = .ok (.invokevirtual 241, 3) := by decide +kernel
theorem dX8_restore_21 : decode cX8_restore 21 = .ok (.aload_n 0, 1) := by decide +kernel
theorem dX8_restore_22 : decode cX8_restore 22 = .ok (.getfield 26, 3) := by decide +kernel
theorem dX8_restore_25 : decode cX8_restore 25 = .ok (.getfield 210, 3) := by decide +kernel
theorem dX8_restore_28 : decode cX8_restore 28 = .ok (.ireturn, 1) := by decide +kernel
theorem dX8_count_0 : decode cX8_count 0 = .ok (.iload_n 1, 1) := by decide +kernel
theorem dX8_count_1 : decode cX8_count 1 = .ok (.tableswitch 132 0 9 #[55, 63, 71, 79, 87, 95, 103, 114, 122, 127], 55) := by decide +kernel
theorem dX8_count_56 : decode cX8_count 56 = .ok (.aload_n 0, 1) := by decide +kernel
theorem dX8_count_57 : decode cX8_count 57 = .ok (.getfield 19, 3) := by decide +kernel
theorem dX8_count_60 : decode cX8_count 60 = .ok (.getfield 69, 3) := by decide +kernel
theorem dX8_count_63 : decode cX8_count 63 = .ok (.ireturn, 1) := by decide +kernel
theorem dX8_count_64 : decode cX8_count 64 = .ok (.aload_n 0, 1) := by decide +kernel
theorem dX8_count_65 : decode cX8_count 65 = .ok (.getfield 26, 3) := by decide +kernel
theorem dX8_count_68 : decode cX8_count 68 = .ok (.getfield 90, 3) := by decide +kernel
theorem dX8_count_71 : decode cX8_count 71 = .ok (.ireturn, 1) := by decide +kernel
theorem dX8_count_72 : decode cX8_count 72 = .ok (.aload_n 0, 1) := by decide +kernel
theorem dX8_count_73 : decode cX8_count 73 = .ok (.getfield 26, 3) := by decide +kernel
theorem dX8_count_76 : decode cX8_count 76 = .ok (.getfield 145, 3) := by decide +kernel
theorem dX8_count_79 : decode cX8_count 79 = .ok (.ireturn, 1) := by decide +kernel
theorem dX8_count_80 : decode cX8_count 80 = .ok (.aload_n 0, 1) := by decide +kernel
theorem dX8_count_81 : decode cX8_count 81 = .ok (.getfield 26, 3) := by decide +kernel
theorem dX8_count_84 : decode cX8_count 84 = .ok (.invokevirtual 238, 3) := by decide +kernel
theorem dX8_count_87 : decode cX8_count 87 = .ok (.ireturn, 1) := by decide +kernel
theorem dX8_count_88 : decode cX8_count 88 = .ok (.aload_n 0, 1) := by decide +kernel
theorem dX8_count_89 : decode cX8_count 89 = .ok (.getfield 26, 3) := by decide +kernel
theorem dX8_count_92 : decode cX8_count 92 = .ok (.getfield 210, 3) := by decide +kernel
theorem dX8_count_95 : decode cX8_count 95 = .ok (.ireturn, 1) := by decide +kernel
theorem dX8_count_96 : decode cX8_count 96 = .ok (.aload_n 0, 1) := by decide +kernel
theorem dX8_count_97 : decode cX8_count 97 = .ok (.getfield 26, 3) := by decide +kernel
theorem dX8_count_100 : decode cX8_count 100 = .ok (.invokevirtual 249, 3) := by decide +kernel
theorem dX8_count_103 : decode cX8_count 103 = .ok (.ireturn, 1) := by decide +kernel
theorem dX8_count_104 : decode cX8_count 104 = .ok (.aload_n 0, 1) := by decide +kernel
theorem dX8_count_105 : decode cX8_count 105 = .ok (.getfield 26, 3) := by decide +kernel
theorem dX8_count_108 : decode cX8_count 108 = .ok (.getfield 201, 3) := by decide +kernel
theorem dX8_count_111 : decode cX8_count 111 = .ok (.getfield 205, 3) := by decide +kernel
theorem dX8_count_114 : decode cX8_count 114 = .ok (.ireturn, 1) := by decide +kernel
theorem dX8_count_115 : decode cX8_count 115 = .ok (.aload_n 0, 1) := by decide +kernel
theorem dX8_count_116 : decode cX8_count 116 = .ok (.getfield 12, 3) := by decide +kernel
theorem dX8_count_119 : decode cX8_count 119 = .ok (.getfield 47, 3) := by decide +kernel
theorem dX8_count_122 : decode cX8_count 122 = .ok (.ireturn, 1) := by decide +kernel
theorem dX8_count_123 : decode cX8_count 123 = .ok (.aload_n 0, 1) := by decide +kernel
theorem dX8_count_124 : decode cX8_count 124 = .ok (.getfield 66, 3) := by decide +kernel
theorem dX8_count_127 : decode cX8_count 127 = .ok (.ireturn, 1) := by decide +kernel
theorem dX8_count_128 : decode cX8_count 128 = .ok (.aload_n 0, 1) := by decide +kernel
theorem dX8_count_129 : decode cX8_count 129 = .ok (.getfield 187, 3) := by decide +kernel
theorem dX8_count_132 : decode cX8_count 132 = .ok (.ireturn, 1) := by decide +kernel
theorem dX8_count_133 : decode cX8_count 133 = .ok (.bipush (-102), 2) := by decide +kernel
theorem dX8_count_135 : decode cX8_count 135 = .ok (.ireturn, 1) := by decide +kernel
theorem dX8_digest_0 : decode cX8_digest 0 = .ok (.ldc2_w 252, 3) := by decide +kernel
theorem dX8_digest_3 : decode cX8_digest 3 = .ok (.lstore_n 1, 1) := by decide +kernel
theorem dX8_digest_4 : decode cX8_digest 4 = .ok (.iconst 0, 1) := by decide +kernel
theorem dX8_digest_5 : decode cX8_digest 5 = .ok (.istore_n 3, 1) := by decide +kernel
theorem dX8_digest_6 : decode cX8_digest 6 = .ok (.iload_n 3, 1) := by decide +kernel
theorem dX8_digest_7 : decode cX8_digest 7 = .ok (.iconst 3, 1) := by decide +kernel
theorem dX8_digest_8 : decode cX8_digest 8 = .ok (.if_icmp .gt 27, 3) := by decide +kernel
theorem dX8_digest_11 : decode cX8_digest 11 = .ok (.lload_n 1, 1) := by decide +kernel
theorem dX8_digest_12 : decode cX8_digest 12 = .ok (.aload_n 0, 1) := by decide +kernel
theorem dX8_digest_13 : decode cX8_digest 13 = .ok (.aload_n 0, 1) := by decide +kernel
theorem dX8_digest_14 : decode cX8_digest 14 = .ok (.getfield 26, 3) := by decide +kernel
theorem dX8_digest_17 : decode cX8_digest 17 = .ok (.getfield 210, 3) := by decide +kernel
theorem dX8_digest_20 : decode cX8_digest 20 = .ok (.iload_n 3, 1) := by decide +kernel
theorem dX8_digest_21 : decode cX8_digest 21 = .ok (.invokevirtual 254, 3) := by decide +kernel
theorem dX8_digest_24 : decode cX8_digest 24 = .ok (.i2l, 1) := by decide +kernel
theorem dX8_digest_25 : decode cX8_digest 25 = .ok (.invokestatic 257, 3) := by decide +kernel
theorem dX8_digest_28 : decode cX8_digest 28 = .ok (.lstore_n 1, 1) := by decide +kernel
theorem dX8_digest_29 : decode cX8_digest 29 = .ok (.iinc 3 1, 3) := by decide +kernel
theorem dX8_digest_32 : decode cX8_digest 32 = .ok (.goto (-26), 3) := by decide +kernel
theorem dX8_digest_35 : decode cX8_digest 35 = .ok (.iconst 0, 1) := by decide +kernel
theorem dX8_digest_36 : decode cX8_digest 36 = .ok (.istore_n 3, 1) := by decide +kernel
theorem dX8_digest_37 : decode cX8_digest 37 = .ok (.iload_n 3, 1) := by decide +kernel
theorem dX8_digest_38 : decode cX8_digest 38 = .ok (.bipush 8, 2) := by decide +kernel
theorem dX8_digest_40 : decode cX8_digest 40 = .ok (.if_icmp .ge 24, 3) := by decide +kernel
theorem dX8_digest_43 : decode cX8_digest 43 = .ok (.lload_n 1, 1) := by decide +kernel
theorem dX8_digest_44 : decode cX8_digest 44 = .ok (.aload_n 0, 1) := by decide +kernel
theorem dX8_digest_45 : decode cX8_digest 45 = .ok (.getfield 26, 3) := by decide +kernel
theorem dX8_digest_48 : decode cX8_digest 48 = .ok (.getfield 83, 3) := by decide +kernel
theorem dX8_digest_51 : decode cX8_digest 51 = .ok (.iload_n 3, 1) := by decide +kernel
theorem dX8_digest_52 : decode cX8_digest 52 = .ok (.iaload, 1) := by decide +kernel
theorem dX8_digest_53 : decode cX8_digest 53 = .ok (.i2l, 1) := by decide +kernel
theorem dX8_digest_54 : decode cX8_digest 54 = .ok (.invokestatic 257, 3) := by decide +kernel
theorem dX8_digest_57 : decode cX8_digest 57 = .ok (.lstore_n 1, 1) := by decide +kernel
theorem dX8_digest_58 : decode cX8_digest 58 = .ok (.iinc 3 1, 3) := by decide +kernel
theorem dX8_digest_61 : decode cX8_digest 61 = .ok (.goto (-24), 3) := by decide +kernel
theorem dX8_digest_64 : decode cX8_digest 64 = .ok (.aload_n 0, 1) := by decide +kernel
theorem dX8_digest_65 : decode cX8_digest 65 = .ok (.lload_n 1, 1) := by decide +kernel
theorem dX8_digest_66 : decode cX8_digest 66 = .ok (.invokevirtual 261, 3) := by decide +kernel
theorem dX8_digest_69 : decode cX8_digest 69 = .ok (.lstore_n 1, 1) := by decide +kernel
theorem dX8_digest_70 : decode cX8_digest 70 = .ok (.aload_n 0, 1) := by decide +kernel
theorem dX8_digest_71 : decode cX8_digest 71 = .ok (.lload_n 1, 1) := by decide +kernel
theorem dX8_digest_72 : decode cX8_digest 72 = .ok (.invokevirtual 265, 3) := by decide +kernel
theorem dX8_digest_75 : decode cX8_digest 75 = .ok (.lstore_n 1, 1) := by decide +kernel
theorem dX8_digest_76 : decode cX8_digest 76 = .ok (.lload_n 1, 1) := by decide +kernel
theorem dX8_digest_77 : decode cX8_digest 77 = .ok (.aload_n 0, 1) := by decide +kernel
theorem dX8_digest_78 : decode cX8_digest 78 = .ok (.bipush 30, 2) := by decide +kernel
theorem dX8_digest_80 : decode cX8_digest 80 = .ok (.invokevirtual 177, 3) := by decide +kernel
theorem dX8_digest_83 : decode cX8_digest 83 = .ok (.i2l, 1) := by decide +kernel
theorem dX8_digest_84 : decode cX8_digest 84 = .ok (.invokestatic 257, 3) := by decide +kernel
theorem dX8_digest_87 : decode cX8_digest 87 = .ok (.lstore_n 1, 1) := by decide +kernel
theorem dX8_digest_88 : decode cX8_digest 88 = .ok (.aload_n 0, 1) := by decide +kernel
theorem dX8_digest_89 : decode cX8_digest 89 = .ok (.getfield 26, 3) := by decide +kernel
theorem dX8_digest_92 : decode cX8_digest 92 = .ok (.getfield 201, 3) := by decide +kernel
theorem dX8_digest_95 : decode cX8_digest 95 = .ok (.invokevirtual 216, 3) := by decide +kernel
theorem dX8_digest_98 : decode cX8_digest 98 = .ok (.ifCond .eq 23, 3) := by decide +kernel
theorem dX8_digest_101 : decode cX8_digest 101 = .ok (.lload_n 1, 1) := by decide +kernel
theorem dX8_digest_102 : decode cX8_digest 102 = .ok (.aload_n 0, 1) := by decide +kernel
theorem dX8_digest_103 : decode cX8_digest 103 = .ok (.iconst 0, 1) := by decide +kernel
theorem dX8_digest_104 : decode cX8_digest 104 = .ok (.invokevirtual 268, 3) := by decide +kernel
theorem dX8_digest_107 : decode cX8_digest 107 = .ok (.i2l, 1) := by decide +kernel
theorem dX8_digest_108 : decode cX8_digest 108 = .ok (.invokestatic 257, 3) := by decide +kernel
theorem dX8_digest_111 : decode cX8_digest 111 = .ok (.aload_n 0, 1) := by decide +kernel
theorem dX8_digest_112 : decode cX8_digest 112 = .ok (.iconst 1, 1) := by decide +kernel
theorem dX8_digest_113 : decode cX8_digest 113 = .ok (.invokevirtual 268, 3) := by decide +kernel
theorem dX8_digest_116 : decode cX8_digest 116 = .ok (.i2l, 1) := by decide +kernel
theorem dX8_digest_117 : decode cX8_digest 117 = .ok (.invokestatic 257, 3) := by decide +kernel
theorem dX8_digest_120 : decode cX8_digest 120 = .ok (.lstore_n 1, 1) := by decide +kernel
theorem dX8_digest_121 : decode cX8_digest 121 = .ok (.iconst 0, 1) := by decide +kernel
theorem dX8_digest_122 : decode cX8_digest 122 = .ok (.istore_n 3, 1) := by decide +kernel
theorem dX8_digest_123 : decode cX8_digest 123 = .ok (.iload_n 3, 1) := by decide +kernel
theorem dX8_digest_124 : decode cX8_digest 124 = .ok (.aload_n 0, 1) := by decide +kernel
theorem dX8_digest_125 : decode cX8_digest 125 = .ok (.getfield 12, 3) := by decide +kernel
theorem dX8_digest_128 : decode cX8_digest 128 = .ok (.getfield 47, 3) := by decide +kernel
theorem dX8_digest_131 : decode cX8_digest 131 = .ok (.if_icmp .ge 24, 3) := by decide +kernel
theorem dX8_digest_134 : decode cX8_digest 134 = .ok (.lload_n 1, 1) := by decide +kernel
theorem dX8_digest_135 : decode cX8_digest 135 = .ok (.aload_n 0, 1) := by decide +kernel
theorem dX8_digest_136 : decode cX8_digest 136 = .ok (.getfield 12, 3) := by decide +kernel
theorem dX8_digest_139 : decode cX8_digest 139 = .ok (.getfield 271, 3) := by decide +kernel
theorem dX8_digest_142 : decode cX8_digest 142 = .ok (.iload_n 3, 1) := by decide +kernel
theorem dX8_digest_143 : decode cX8_digest 143 = .ok (.caload, 1) := by decide +kernel
theorem dX8_digest_144 : decode cX8_digest 144 = .ok (.i2l, 1) := by decide +kernel
theorem dX8_digest_145 : decode cX8_digest 145 = .ok (.invokestatic 257, 3) := by decide +kernel
theorem dX8_digest_148 : decode cX8_digest 148 = .ok (.lstore_n 1, 1) := by decide +kernel
theorem dX8_digest_149 : decode cX8_digest 149 = .ok (.iinc 3 1, 3) := by decide +kernel
theorem dX8_digest_152 : decode cX8_digest 152 = .ok (.goto (-29), 3) := by decide +kernel
theorem dX8_digest_155 : decode cX8_digest 155 = .ok (.iconst 0, 1) := by decide +kernel
theorem dX8_digest_156 : decode cX8_digest 156 = .ok (.istore_n 3, 1) := by decide +kernel
theorem dX8_digest_157 : decode cX8_digest 157 = .ok (.iload_n 3, 1) := by decide +kernel
theorem dX8_digest_158 : decode cX8_digest 158 = .ok (.bipush 9, 2) := by decide +kernel
theorem dX8_digest_160 : decode cX8_digest 160 = .ok (.if_icmp .gt 20, 3) := by decide +kernel
theorem dX8_digest_163 : decode cX8_digest 163 = .ok (.lload_n 1, 1) := by decide +kernel
theorem dX8_digest_164 : decode cX8_digest 164 = .ok (.aload_n 0, 1) := by decide +kernel
theorem dX8_digest_165 : decode cX8_digest 165 = .ok (.iload_n 3, 1) := by decide +kernel
theorem dX8_digest_166 : decode cX8_digest 166 = .ok (.invokevirtual 275, 3) := by decide +kernel
theorem dX8_digest_169 : decode cX8_digest 169 = .ok (.i2l, 1) := by decide +kernel
theorem dX8_digest_170 : decode cX8_digest 170 = .ok (.invokestatic 257, 3) := by decide +kernel
theorem dX8_digest_173 : decode cX8_digest 173 = .ok (.lstore_n 1, 1) := by decide +kernel
theorem dX8_digest_174 : decode cX8_digest 174 = .ok (.iinc 3 1, 3) := by decide +kernel
theorem dX8_digest_177 : decode cX8_digest 177 = .ok (.goto (-20), 3) := by decide +kernel
theorem dX8_digest_180 : decode cX8_digest 180 = .ok (.lload_n 1, 1) := by decide +kernel
theorem dX8_digest_181 : decode cX8_digest 181 = .ok (.lreturn, 1) := by decide +kernel
theorem dX8_isCell_0 : decode cX8_isCell 0 = .ok (.iload_n 0, 1) := by decide +kernel
theorem dX8_isCell_1 : decode cX8_isCell 1 = .ok (.ifCond .lt 13, 3) := by decide +kernel
theorem dX8_isCell_4 : decode cX8_isCell 4 = .ok (.iload_n 0, 1) := by decide +kernel
theorem dX8_isCell_5 : decode cX8_isCell 5 = .ok (.bipush 8, 2) := by decide +kernel
theorem dX8_isCell_7 : decode cX8_isCell 7 = .ok (.if_icmp .ge 7, 3) := by decide +kernel
theorem dX8_isCell_10 : decode cX8_isCell 10 = .ok (.iconst 1, 1) := by decide +kernel
theorem dX8_isCell_11 : decode cX8_isCell 11 = .ok (.goto 4, 3) := by decide +kernel
theorem dX8_isCell_14 : decode cX8_isCell 14 = .ok (.iconst 0, 1) := by decide +kernel
theorem dX8_isCell_15 : decode cX8_isCell 15 = .ok (.ireturn, 1) := by decide +kernel
theorem dX8_isName_0 : decode cX8_isName 0 = .ok (.iload_n 0, 1) := by decide +kernel
theorem dX8_isName_1 : decode cX8_isName 1 = .ok (.ifCond .lt 13, 3) := by decide +kernel
theorem dX8_isName_4 : decode cX8_isName 4 = .ok (.iload_n 0, 1) := by decide +kernel
theorem dX8_isName_5 : decode cX8_isName 5 = .ok (.bipush 10, 2) := by decide +kernel
theorem dX8_isName_7 : decode cX8_isName 7 = .ok (.if_icmp .ge 7, 3) := by decide +kernel
theorem dX8_isName_10 : decode cX8_isName 10 = .ok (.iconst 1, 1) := by decide +kernel
theorem dX8_isName_11 : decode cX8_isName 11 = .ok (.goto 4, 3) := by decide +kernel
theorem dX8_isName_14 : decode cX8_isName 14 = .ok (.iconst 0, 1) := by decide +kernel
theorem dX8_isName_15 : decode cX8_isName 15 = .ok (.ireturn, 1) := by decide +kernel
theorem dX8_isKind_0 : decode cX8_isKind 0 = .ok (.iload_n 0, 1) := by decide +kernel
theorem dX8_isKind_1 : decode cX8_isKind 1 = .ok (.ifCond .lt 15, 3) := by decide +kernel
theorem dX8_isKind_4 : decode cX8_isKind 4 = .ok (.iload_n 0, 1) := by decide +kernel
theorem dX8_isKind_5 : decode cX8_isKind 5 = .ok (.getstatic 97, 3) := by decide +kernel
theorem dX8_isKind_8 : decode cX8_isKind 8 = .ok (.arraylength, 1) := by decide +kernel
theorem dX8_isKind_9 : decode cX8_isKind 9 = .ok (.if_icmp .ge 7, 3) := by decide +kernel
theorem dX8_isKind_12 : decode cX8_isKind 12 = .ok (.iconst 1, 1) := by decide +kernel
theorem dX8_isKind_13 : decode cX8_isKind 13 = .ok (.goto 4, 3) := by decide +kernel
theorem dX8_isKind_16 : decode cX8_isKind 16 = .ok (.iconst 0, 1) := by decide +kernel
theorem dX8_isKind_17 : decode cX8_isKind 17 = .ok (.ireturn, 1) := by decide +kernel
theorem dX8_nameOfDay_0 : decode cX8_nameOfDay 0 = .ok (.iload_n 0, 1) := by decide +kernel
theorem dX8_nameOfDay_1 : decode cX8_nameOfDay 1 = .ok (.bipush 30, 2) := by decide +kernel
theorem dX8_nameOfDay_3 : decode cX8_nameOfDay 3 = .ok (.irem, 1) := by decide +kernel
theorem dX8_nameOfDay_4 : decode cX8_nameOfDay 4 = .ok (.bipush 10, 2) := by decide +kernel
theorem dX8_nameOfDay_6 : decode cX8_nameOfDay 6 = .ok (.irem, 1) := by decide +kernel
theorem dX8_nameOfDay_7 : decode cX8_nameOfDay 7 = .ok (.ireturn, 1) := by decide +kernel
theorem dX8_trialFromNow_0 : decode cX8_trialFromNow 0 = .ok (.aload_n 0, 1) := by decide +kernel
theorem dX8_trialFromNow_1 : decode cX8_trialFromNow 1 = .ok (.getfield 33, 3) := by decide +kernel
theorem dX8_trialFromNow_4 : decode cX8_trialFromNow 4 = .ok (.aload_n 0, 1) := by decide +kernel
theorem dX8_trialFromNow_5 : decode cX8_trialFromNow 5 = .ok (.getfield 26, 3) := by decide +kernel
theorem dX8_trialFromNow_8 : decode cX8_trialFromNow 8 = .ok (.invokevirtual 241, 3) := by decide +kernel
theorem dX8_trialFromNow_11 : decode cX8_trialFromNow 11 = .ok (.return_, 1) := by decide +kernel
theorem dX8_lossIn_0 : decode cX8_lossIn 0 = .ok (.aload_n 0, 1) := by decide +kernel
theorem dX8_lossIn_1 : decode cX8_lossIn 1 = .ok (.invokevirtual 180, 3) := by decide +kernel
theorem dX8_lossIn_4 : decode cX8_lossIn 4 = .ok (.iconst 0, 1) := by decide +kernel
theorem dX8_lossIn_5 : decode cX8_lossIn 5 = .ok (.istore_n 2, 1) := by decide +kernel
theorem dX8_lossIn_6 : decode cX8_lossIn 6 = .ok (.iload_n 2, 1) := by decide +kernel
theorem dX8_lossIn_7 : decode cX8_lossIn 7 = .ok (.iload_n 1, 1) := by decide +kernel
theorem dX8_lossIn_8 : decode cX8_lossIn 8 = .ok (.if_icmp .ge 21, 3) := by decide +kernel
theorem dX8_lossIn_11 : decode cX8_lossIn 11 = .ok (.aload_n 0, 1) := by decide +kernel
theorem dX8_lossIn_12 : decode cX8_lossIn 12 = .ok (.getfield 33, 3) := by decide +kernel
theorem dX8_lossIn_15 : decode cX8_lossIn 15 = .ok (.aload_n 0, 1) := by decide +kernel
theorem dX8_lossIn_16 : decode cX8_lossIn 16 = .ok (.getfield 19, 3) := by decide +kernel
theorem dX8_lossIn_19 : decode cX8_lossIn 19 = .ok (.invokevirtual 173, 3) := by decide +kernel
theorem dX8_lossIn_22 : decode cX8_lossIn 22 = .ok (.pop, 1) := by decide +kernel
theorem dX8_lossIn_23 : decode cX8_lossIn 23 = .ok (.iinc 2 1, 3) := by decide +kernel
theorem dX8_lossIn_26 : decode cX8_lossIn 26 = .ok (.goto (-20), 3) := by decide +kernel
theorem dX8_lossIn_29 : decode cX8_lossIn 29 = .ok (.aload_n 0, 1) := by decide +kernel
theorem dX8_lossIn_30 : decode cX8_lossIn 30 = .ok (.getfield 33, 3) := by decide +kernel
theorem dX8_lossIn_33 : decode cX8_lossIn 33 = .ok (.invokevirtual 238, 3) := by decide +kernel
theorem dX8_lossIn_36 : decode cX8_lossIn 36 = .ok (.aload_n 0, 1) := by decide +kernel
theorem dX8_lossIn_37 : decode cX8_lossIn 37 = .ok (.getfield 26, 3) := by decide +kernel
theorem dX8_lossIn_40 : decode cX8_lossIn 40 = .ok (.invokevirtual 238, 3) := by decide +kernel
theorem dX8_lossIn_43 : decode cX8_lossIn 43 = .ok (.isub, 1) := by decide +kernel
theorem dX8_lossIn_44 : decode cX8_lossIn 44 = .ok (.ireturn, 1) := by decide +kernel
theorem dX8_firstCellOfGrazing_0 : decode cX8_firstCellOfGrazing 0 = .ok (.aload_n 0, 1) := by decide +kernel
theorem dX8_firstCellOfGrazing_1 : decode cX8_firstCellOfGrazing 1 = .ok (.getfield 26, 3) := by decide +kernel
theorem dX8_firstCellOfGrazing_4 : decode cX8_firstCellOfGrazing 4 = .ok (.getfield 148, 3) := by decide +kernel
theorem dX8_firstCellOfGrazing_7 : decode cX8_firstCellOfGrazing 7 = .ok (.iload_n 1, 1) := by decide +kernel
theorem dX8_firstCellOfGrazing_8 : decode cX8_firstCellOfGrazing 8 = .ok (.aaload, 1) := by decide +kernel
theorem dX8_firstCellOfGrazing_9 : decode cX8_firstCellOfGrazing 9 = .ok (.getfield 163, 3) := by decide +kernel
theorem dX8_firstCellOfGrazing_12 : decode cX8_firstCellOfGrazing 12 = .ok (.istore_n 3, 1) := by decide +kernel
theorem dX8_firstCellOfGrazing_13 : decode cX8_firstCellOfGrazing 13 = .ok (.iload_n 3, 1) := by decide +kernel
theorem dX8_firstCellOfGrazing_14 : decode cX8_firstCellOfGrazing 14 = .ok (.iconst 1, 1) := by decide +kernel
theorem dX8_firstCellOfGrazing_15 : decode cX8_firstCellOfGrazing 15 = .ok (.isub, 1) := by decide +kernel
theorem dX8_firstCellOfGrazing_16 : decode cX8_firstCellOfGrazing 16 = .ok (.istore 4, 2) := by decide +kernel
theorem dX8_firstCellOfGrazing_18 : decode cX8_firstCellOfGrazing 18 = .ok (.iload 4, 2) := by decide +kernel
theorem dX8_firstCellOfGrazing_20 : decode cX8_firstCellOfGrazing 20 = .ok (.iload_n 3, 1) := by decide +kernel
theorem dX8_firstCellOfGrazing_21 : decode cX8_firstCellOfGrazing 21 = .ok (.iconst 1, 1) := by decide +kernel
theorem dX8_firstCellOfGrazing_22 : decode cX8_firstCellOfGrazing 22 = .ok (.iadd, 1) := by decide +kernel
theorem dX8_firstCellOfGrazing_23 : decode cX8_firstCellOfGrazing 23 = .ok (.if_icmp .gt 44, 3) := by decide +kernel
theorem dX8_firstCellOfGrazing_26 : decode cX8_firstCellOfGrazing 26 = .ok (.aload_n 0, 1) := by decide +kernel
theorem dX8_firstCellOfGrazing_27 : decode cX8_firstCellOfGrazing 27 = .ok (.getfield 33, 3) := by decide +kernel
theorem dX8_firstCellOfGrazing_30 : decode cX8_firstCellOfGrazing 30 = .ok (.aload_n 0, 1) := by decide +kernel
theorem dX8_firstCellOfGrazing_31 : decode cX8_firstCellOfGrazing 31 = .ok (.getfield 26, 3) := by decide +kernel
theorem dX8_firstCellOfGrazing_34 : decode cX8_firstCellOfGrazing 34 = .ok (.getfield 210, 3) := by decide +kernel
theorem dX8_firstCellOfGrazing_37 : decode cX8_firstCellOfGrazing 37 = .ok (.aload_n 0, 1) := by decide +kernel
theorem dX8_firstCellOfGrazing_38 : decode cX8_firstCellOfGrazing 38 = .ok (.getfield 26, 3) := by decide +kernel
theorem dX8_firstCellOfGrazing_41 : decode cX8_firstCellOfGrazing 41 = .ok (.getfield 278, 3) := by decide +kernel
theorem dX8_firstCellOfGrazing_44 : decode cX8_firstCellOfGrazing 44 = .ok (.invokevirtual 281, 3) := by decide +kernel
theorem dX8_firstCellOfGrazing_47 : decode cX8_firstCellOfGrazing 47 = .ok (.aload_n 0, 1) := by decide +kernel
theorem dX8_firstCellOfGrazing_48 : decode cX8_firstCellOfGrazing 48 = .ok (.iload_n 1, 1) := by decide +kernel
theorem dX8_firstCellOfGrazing_49 : decode cX8_firstCellOfGrazing 49 = .ok (.iload 4, 2) := by decide +kernel
theorem dX8_firstCellOfGrazing_51 : decode cX8_firstCellOfGrazing 51 = .ok (.iload_n 2, 1) := by decide +kernel
theorem dX8_firstCellOfGrazing_52 : decode cX8_firstCellOfGrazing 52 = .ok (.invokevirtual 284, 3) := by decide +kernel
theorem dX8_firstCellOfGrazing_55 : decode cX8_firstCellOfGrazing 55 = .ok (.ifCond .le 6, 3) := by decide +kernel
theorem dX8_firstCellOfGrazing_58 : decode cX8_firstCellOfGrazing 58 = .ok (.iload 4, 2) := by decide +kernel
theorem dX8_firstCellOfGrazing_60 : decode cX8_firstCellOfGrazing 60 = .ok (.ireturn, 1) := by decide +kernel
theorem dX8_firstCellOfGrazing_61 : decode cX8_firstCellOfGrazing 61 = .ok (.iinc 4 1, 3) := by decide +kernel
theorem dX8_firstCellOfGrazing_64 : decode cX8_firstCellOfGrazing 64 = .ok (.goto (-46), 3) := by decide +kernel
theorem dX8_firstCellOfGrazing_67 : decode cX8_firstCellOfGrazing 67 = .ok (.iconst (-1), 1) := by decide +kernel
theorem dX8_firstCellOfGrazing_68 : decode cX8_firstCellOfGrazing 68 = .ok (.ireturn, 1) := by decide +kernel
theorem dX8_rowsBehind_0 : decode cX8_rowsBehind 0 = .ok (.iload_n 2, 1) := by decide +kernel
theorem dX8_rowsBehind_1 : decode cX8_rowsBehind 1 = .ok (.ifCond .gt 5, 3) := by decide +kernel
theorem dX8_rowsBehind_4 : decode cX8_rowsBehind 4 = .ok (.iconst 1, 1) := by decide +kernel
theorem dX8_rowsBehind_5 : decode cX8_rowsBehind 5 = .ok (.ireturn, 1) := by decide +kernel
theorem dX8_rowsBehind_6 : decode cX8_rowsBehind 6 = .ok (.aload_n 0, 1) := by decide +kernel
theorem dX8_rowsBehind_7 : decode cX8_rowsBehind 7 = .ok (.getfield 33, 3) := by decide +kernel
theorem dX8_rowsBehind_10 : decode cX8_rowsBehind 10 = .ok (.getfield 210, 3) := by decide +kernel
theorem dX8_rowsBehind_13 : decode cX8_rowsBehind 13 = .ok (.istore_n 3, 1) := by decide +kernel
theorem dX8_rowsBehind_14 : decode cX8_rowsBehind 14 = .ok (.aload_n 0, 1) := by decide +kernel
theorem dX8_rowsBehind_15 : decode cX8_rowsBehind 15 = .ok (.getfield 33, 3) := by decide +kernel
theorem dX8_rowsBehind_18 : decode cX8_rowsBehind 18 = .ok (.getfield 278, 3) := by decide +kernel
theorem dX8_rowsBehind_21 : decode cX8_rowsBehind 21 = .ok (.istore 4, 2) := by decide +kernel
theorem dX8_rowsBehind_23 : decode cX8_rowsBehind 23 = .ok (.aload_n 0, 1) := by decide +kernel
theorem dX8_rowsBehind_24 : decode cX8_rowsBehind 24 = .ok (.getfield 33, 3) := by decide +kernel
theorem dX8_rowsBehind_27 : decode cX8_rowsBehind 27 = .ok (.getfield 148, 3) := by decide +kernel
theorem dX8_rowsBehind_30 : decode cX8_rowsBehind 30 = .ok (.iload_n 1, 1) := by decide +kernel
theorem dX8_rowsBehind_31 : decode cX8_rowsBehind 31 = .ok (.aaload, 1) := by decide +kernel
theorem dX8_rowsBehind_32 : decode cX8_rowsBehind 32 = .ok (.getfield 163, 3) := by decide +kernel
theorem dX8_rowsBehind_35 : decode cX8_rowsBehind 35 = .ok (.istore 5, 2) := by decide +kernel
theorem dX8_rowsBehind_37 : decode cX8_rowsBehind 37 = .ok (.iconst 0, 1) := by decide +kernel
theorem dX8_rowsBehind_38 : decode cX8_rowsBehind 38 = .ok (.istore 6, 2) := by decide +kernel
theorem dX8_rowsBehind_40 : decode cX8_rowsBehind 40 = .ok (.iload 5, 2) := by decide +kernel
theorem dX8_rowsBehind_42 : decode cX8_rowsBehind 42 = .ok (.iconst 1, 1) := by decide +kernel
theorem dX8_rowsBehind_43 : decode cX8_rowsBehind 43 = .ok (.isub, 1) := by decide +kernel
theorem dX8_rowsBehind_44 : decode cX8_rowsBehind 44 = .ok (.istore 7, 2) := by decide +kernel
theorem dX8_rowsBehind_46 : decode cX8_rowsBehind 46 = .ok (.iload 7, 2) := by decide +kernel
theorem dX8_rowsBehind_48 : decode cX8_rowsBehind 48 = .ok (.iload 5, 2) := by decide +kernel
theorem dX8_rowsBehind_50 : decode cX8_rowsBehind 50 = .ok (.iconst 1, 1) := by decide +kernel
theorem dX8_rowsBehind_51 : decode cX8_rowsBehind 51 = .ok (.iadd, 1) := by decide +kernel
theorem dX8_rowsBehind_52 : decode cX8_rowsBehind 52 = .ok (.if_icmp .gt 32, 3) := by decide +kernel
theorem dX8_rowsBehind_55 : decode cX8_rowsBehind 55 = .ok (.aload_n 0, 1) := by decide +kernel
theorem dX8_rowsBehind_56 : decode cX8_rowsBehind 56 = .ok (.getfield 33, 3) := by decide +kernel
theorem dX8_rowsBehind_59 : decode cX8_rowsBehind 59 = .ok (.iload_n 3, 1) := by decide +kernel
theorem dX8_rowsBehind_60 : decode cX8_rowsBehind 60 = .ok (.iload 4, 2) := by decide +kernel
theorem dX8_rowsBehind_62 : decode cX8_rowsBehind 62 = .ok (.invokevirtual 281, 3) := by decide +kernel
theorem dX8_rowsBehind_65 : decode cX8_rowsBehind 65 = .ok (.iload 6, 2) := by decide +kernel
theorem dX8_rowsBehind_67 : decode cX8_rowsBehind 67 = .ok (.aload_n 0, 1) := by decide +kernel
theorem dX8_rowsBehind_68 : decode cX8_rowsBehind 68 = .ok (.iload_n 1, 1) := by decide +kernel
theorem dX8_rowsBehind_69 : decode cX8_rowsBehind 69 = .ok (.iload 7, 2) := by decide +kernel
theorem dX8_rowsBehind_71 : decode cX8_rowsBehind 71 = .ok (.iload_n 2, 1) := by decide +kernel
theorem dX8_rowsBehind_72 : decode cX8_rowsBehind 72 = .ok (.invokevirtual 284, 3) := by decide +kernel
theorem dX8_rowsBehind_75 : decode cX8_rowsBehind 75 = .ok (.iadd, 1) := by decide +kernel
theorem dX8_rowsBehind_76 : decode cX8_rowsBehind 76 = .ok (.istore 6, 2) := by decide +kernel
theorem dX8_rowsBehind_78 : decode cX8_rowsBehind 78 = .ok (.iinc 7 1, 3) := by decide +kernel
theorem dX8_rowsBehind_81 : decode cX8_rowsBehind 81 = .ok (.goto (-35), 3) := by decide +kernel
theorem dX8_rowsBehind_84 : decode cX8_rowsBehind 84 = .ok (.iload 6, 2) := by decide +kernel
theorem dX8_rowsBehind_86 : decode cX8_rowsBehind 86 = .ok (.ireturn, 1) := by decide +kernel
theorem dX8_rowsThrough_0 : decode cX8_rowsThrough 0 = .ok (.iload_n 2, 1) := by decide +kernel
theorem dX8_rowsThrough_1 : decode cX8_rowsThrough 1 = .ok (.invokestatic 80, 3) := by decide +kernel
theorem dX8_rowsThrough_4 : decode cX8_rowsThrough 4 = .ok (.ifCond .ne 5, 3) := by decide +kernel
theorem dX8_rowsThrough_7 : decode cX8_rowsThrough 7 = .ok (.iconst 0, 1) := by decide +kernel
theorem dX8_rowsThrough_8 : decode cX8_rowsThrough 8 = .ok (.ireturn, 1) := by decide +kernel
theorem dX8_rowsThrough_9 : decode cX8_rowsThrough 9 = .ok (.aload_n 0, 1) := by decide +kernel
theorem dX8_rowsThrough_10 : decode cX8_rowsThrough 10 = .ok (.getfield 33, 3) := by decide +kernel
theorem dX8_rowsThrough_13 : decode cX8_rowsThrough 13 = .ok (.getfield 148, 3) := by decide +kernel
theorem dX8_rowsThrough_16 : decode cX8_rowsThrough 16 = .ok (.iload_n 1, 1) := by decide +kernel
theorem dX8_rowsThrough_17 : decode cX8_rowsThrough 17 = .ok (.aaload, 1) := by decide +kernel
theorem dX8_rowsThrough_18 : decode cX8_rowsThrough 18 = .ok (.iload_n 2, 1) := by decide +kernel
theorem dX8_rowsThrough_19 : decode cX8_rowsThrough 19 = .ok (.putfield 163, 3) := by decide +kernel
theorem dX8_rowsThrough_22 : decode cX8_rowsThrough 22 = .ok (.aload_n 0, 1) := by decide +kernel
theorem dX8_rowsThrough_23 : decode cX8_rowsThrough 23 = .ok (.getfield 33, 3) := by decide +kernel
theorem dX8_rowsThrough_26 : decode cX8_rowsThrough 26 = .ok (.aload_n 0, 1) := by decide +kernel
theorem dX8_rowsThrough_27 : decode cX8_rowsThrough 27 = .ok (.getfield 19, 3) := by decide +kernel
theorem dX8_rowsThrough_30 : decode cX8_rowsThrough 30 = .ok (.invokevirtual 173, 3) := by decide +kernel
theorem dX8_rowsThrough_33 : decode cX8_rowsThrough 33 = .ok (.pop, 1) := by decide +kernel
theorem dX8_rowsThrough_34 : decode cX8_rowsThrough 34 = .ok (.aload_n 0, 1) := by decide +kernel
theorem dX8_rowsThrough_35 : decode cX8_rowsThrough 35 = .ok (.getfield 33, 3) := by decide +kernel
theorem dX8_rowsThrough_38 : decode cX8_rowsThrough 38 = .ok (.iload_n 1, 1) := by decide +kernel
theorem dX8_rowsThrough_39 : decode cX8_rowsThrough 39 = .ok (.invokevirtual 164, 3) := by decide +kernel
theorem dX8_rowsThrough_42 : decode cX8_rowsThrough 42 = .ok (.ifCond .eq 7, 3) := by decide +kernel
theorem dX8_rowsThrough_45 : decode cX8_rowsThrough 45 = .ok (.iconst 0, 1) := by decide +kernel
theorem dX8_rowsThrough_46 : decode cX8_rowsThrough 46 = .ok (.goto 11, 3) := by decide +kernel
theorem dX8_rowsThrough_49 : decode cX8_rowsThrough 49 = .ok (.aload_n 0, 1) := by decide +kernel
theorem dX8_rowsThrough_50 : decode cX8_rowsThrough 50 = .ok (.iload_n 1, 1) := by decide +kernel
theorem dX8_rowsThrough_51 : decode cX8_rowsThrough 51 = .ok (.iload_n 3, 1) := by decide +kernel
theorem dX8_rowsThrough_52 : decode cX8_rowsThrough 52 = .ok (.iconst 1, 1) := by decide +kernel
theorem dX8_rowsThrough_53 : decode cX8_rowsThrough 53 = .ok (.isub, 1) := by decide +kernel
theorem dX8_rowsThrough_54 : decode cX8_rowsThrough 54 = .ok (.invokevirtual 194, 3) := by decide +kernel
theorem dX8_rowsThrough_57 : decode cX8_rowsThrough 57 = .ok (.ireturn, 1) := by decide +kernel
theorem dX8_fastsOnEnd_0 : decode cX8_fastsOnEnd 0 = .ok (.iconst 0, 1) := by decide +kernel
theorem dX8_fastsOnEnd_1 : decode cX8_fastsOnEnd 1 = .ok (.istore_n 3, 1) := by decide +kernel
theorem dX8_fastsOnEnd_2 : decode cX8_fastsOnEnd 2 = .ok (.iload_n 3, 1) := by decide +kernel
theorem dX8_fastsOnEnd_3 : decode cX8_fastsOnEnd 3 = .ok (.bipush 30, 2) := by decide +kernel
theorem dX8_fastsOnEnd_5 : decode cX8_fastsOnEnd 5 = .ok (.if_icmp .ge 50, 3) := by decide +kernel
theorem dX8_fastsOnEnd_8 : decode cX8_fastsOnEnd 8 = .ok (.aload_n 1, 1) := by decide +kernel
theorem dX8_fastsOnEnd_9 : decode cX8_fastsOnEnd 9 = .ok (.getfield 110, 3) := by decide +kernel
theorem dX8_fastsOnEnd_12 : decode cX8_fastsOnEnd 12 = .ok (.aload_n 0, 1) := by decide +kernel
theorem dX8_fastsOnEnd_13 : decode cX8_fastsOnEnd 13 = .ok (.getfield 26, 3) := by decide +kernel
theorem dX8_fastsOnEnd_16 : decode cX8_fastsOnEnd 16 = .ok (.getfield 210, 3) := by decide +kernel
theorem dX8_fastsOnEnd_19 : decode cX8_fastsOnEnd 19 = .ok (.iload_n 3, 1) := by decide +kernel
theorem dX8_fastsOnEnd_20 : decode cX8_fastsOnEnd 20 = .ok (.iadd, 1) := by decide +kernel
theorem dX8_fastsOnEnd_21 : decode cX8_fastsOnEnd 21 = .ok (.iload_n 2, 1) := by decide +kernel
theorem dX8_fastsOnEnd_22 : decode cX8_fastsOnEnd 22 = .ok (.aload_n 1, 1) := by decide +kernel
theorem dX8_fastsOnEnd_23 : decode cX8_fastsOnEnd 23 = .ok (.getfield 120, 3) := by decide +kernel
theorem dX8_fastsOnEnd_26 : decode cX8_fastsOnEnd 26 = .ok (.invokevirtual 288, 3) := by decide +kernel
theorem dX8_fastsOnEnd_29 : decode cX8_fastsOnEnd 29 = .ok (.istore 4, 2) := by decide +kernel
theorem dX8_fastsOnEnd_31 : decode cX8_fastsOnEnd 31 = .ok (.aload_n 1, 1) := by decide +kernel
theorem dX8_fastsOnEnd_32 : decode cX8_fastsOnEnd 32 = .ok (.getfield 110, 3) := by decide +kernel
theorem dX8_fastsOnEnd_35 : decode cX8_fastsOnEnd 35 = .ok (.iload 4, 2) := by decide +kernel
theorem dX8_fastsOnEnd_37 : decode cX8_fastsOnEnd 37 = .ok (.aload_n 0, 1) := by decide +kernel
theorem dX8_fastsOnEnd_38 : decode cX8_fastsOnEnd 38 = .ok (.getfield 19, 3) := by decide +kernel
theorem dX8_fastsOnEnd_41 : decode cX8_fastsOnEnd 41 = .ok (.invokevirtual 127, 3) := by decide +kernel
theorem dX8_fastsOnEnd_44 : decode cX8_fastsOnEnd 44 = .ok (.ifCond .ne 5, 3) := by decide +kernel
theorem dX8_fastsOnEnd_47 : decode cX8_fastsOnEnd 47 = .ok (.iload_n 3, 1) := by decide +kernel
theorem dX8_fastsOnEnd_48 : decode cX8_fastsOnEnd 48 = .ok (.ireturn, 1) := by decide +kernel
theorem dX8_fastsOnEnd_49 : decode cX8_fastsOnEnd 49 = .ok (.iinc 3 1, 3) := by decide +kernel
theorem dX8_fastsOnEnd_52 : decode cX8_fastsOnEnd 52 = .ok (.goto (-50), 3) := by decide +kernel
theorem dX8_fastsOnEnd_55 : decode cX8_fastsOnEnd 55 = .ok (.bipush 30, 2) := by decide +kernel
theorem dX8_fastsOnEnd_57 : decode cX8_fastsOnEnd 57 = .ok (.ireturn, 1) := by decide +kernel
theorem dX8_fittingLags_0 : decode cX8_fittingLags 0 = .ok (.iconst 0, 1) := by decide +kernel
theorem dX8_fittingLags_1 : decode cX8_fittingLags 1 = .ok (.istore_n 2, 1) := by decide +kernel
theorem dX8_fittingLags_2 : decode cX8_fittingLags 2 = .ok (.iconst 0, 1) := by decide +kernel
theorem dX8_fittingLags_3 : decode cX8_fittingLags 3 = .ok (.istore_n 3, 1) := by decide +kernel
theorem dX8_fittingLags_4 : decode cX8_fittingLags 4 = .ok (.iload_n 3, 1) := by decide +kernel
theorem dX8_fittingLags_5 : decode cX8_fittingLags 5 = .ok (.bipush 10, 2) := by decide +kernel
theorem dX8_fittingLags_7 : decode cX8_fittingLags 7 = .ok (.if_icmp .ge 30, 3) := by decide +kernel
theorem dX8_fittingLags_10 : decode cX8_fittingLags 10 = .ok (.aload_n 0, 1) := by decide +kernel
theorem dX8_fittingLags_11 : decode cX8_fittingLags 11 = .ok (.getstatic 291, 3) := by decide +kernel
theorem dX8_fittingLags_14 : decode cX8_fittingLags 14 = .ok (.aload_n 1, 1) := by decide +kernel
theorem dX8_fittingLags_15 : decode cX8_fittingLags 15 = .ok (.getfield 117, 3) := by decide +kernel
theorem dX8_fittingLags_18 : decode cX8_fittingLags 18 = .ok (.iload_n 3, 1) := by decide +kernel
theorem dX8_fittingLags_19 : decode cX8_fittingLags 19 = .ok (.invokevirtual 294, 3) := by decide +kernel
theorem dX8_fittingLags_22 : decode cX8_fittingLags 22 = .ok (.ifCond .eq 9, 3) := by decide +kernel
theorem dX8_fittingLags_25 : decode cX8_fittingLags 25 = .ok (.iload_n 2, 1) := by decide +kernel
theorem dX8_fittingLags_26 : decode cX8_fittingLags 26 = .ok (.iconst 1, 1) := by decide +kernel
theorem dX8_fittingLags_27 : decode cX8_fittingLags 27 = .ok (.iload_n 3, 1) := by decide +kernel
theorem dX8_fittingLags_28 : decode cX8_fittingLags 28 = .ok (.ishl, 1) := by decide +kernel
theorem dX8_fittingLags_29 : decode cX8_fittingLags 29 = .ok (.ior, 1) := by decide +kernel
theorem dX8_fittingLags_30 : decode cX8_fittingLags 30 = .ok (.istore_n 2, 1) := by decide +kernel
theorem dX8_fittingLags_31 : decode cX8_fittingLags 31 = .ok (.iinc 3 1, 3) := by decide +kernel
theorem dX8_fittingLags_34 : decode cX8_fittingLags 34 = .ok (.goto (-30), 3) := by decide +kernel
theorem dX8_fittingLags_37 : decode cX8_fittingLags 37 = .ok (.iload_n 2, 1) := by decide +kernel
theorem dX8_fittingLags_38 : decode cX8_fittingLags 38 = .ok (.ireturn, 1) := by decide +kernel
theorem dX8_fittingKinds_0 : decode cX8_fittingKinds 0 = .ok (.iconst 0, 1) := by decide +kernel
theorem dX8_fittingKinds_1 : decode cX8_fittingKinds 1 = .ok (.istore_n 2, 1) := by decide +kernel
theorem dX8_fittingKinds_2 : decode cX8_fittingKinds 2 = .ok (.iconst 0, 1) := by decide +kernel
theorem dX8_fittingKinds_3 : decode cX8_fittingKinds 3 = .ok (.istore_n 3, 1) := by decide +kernel
theorem dX8_fittingKinds_4 : decode cX8_fittingKinds 4 = .ok (.iload_n 3, 1) := by decide +kernel
theorem dX8_fittingKinds_5 : decode cX8_fittingKinds 5 = .ok (.getstatic 97, 3) := by decide +kernel
theorem dX8_fittingKinds_8 : decode cX8_fittingKinds 8 = .ok (.arraylength, 1) := by decide +kernel
theorem dX8_fittingKinds_9 : decode cX8_fittingKinds 9 = .ok (.if_icmp .ge 35, 3) := by decide +kernel
theorem dX8_fittingKinds_12 : decode cX8_fittingKinds 12 = .ok (.aload_n 0, 1) := by decide +kernel
theorem dX8_fittingKinds_13 : decode cX8_fittingKinds 13 = .ok (.getstatic 97, 3) := by decide +kernel
theorem dX8_fittingKinds_16 : decode cX8_fittingKinds 16 = .ok (.iload_n 3, 1) := by decide +kernel
theorem dX8_fittingKinds_17 : decode cX8_fittingKinds 17 = .ok (.aaload, 1) := by decide +kernel
theorem dX8_fittingKinds_18 : decode cX8_fittingKinds 18 = .ok (.aload_n 1, 1) := by decide +kernel
theorem dX8_fittingKinds_19 : decode cX8_fittingKinds 19 = .ok (.getfield 117, 3) := by decide +kernel
theorem dX8_fittingKinds_22 : decode cX8_fittingKinds 22 = .ok (.aload_n 1, 1) := by decide +kernel
theorem dX8_fittingKinds_23 : decode cX8_fittingKinds 23 = .ok (.getfield 120, 3) := by decide +kernel
theorem dX8_fittingKinds_26 : decode cX8_fittingKinds 26 = .ok (.invokevirtual 294, 3) := by decide +kernel
theorem dX8_fittingKinds_29 : decode cX8_fittingKinds 29 = .ok (.ifCond .eq 9, 3) := by decide +kernel
theorem dX8_fittingKinds_32 : decode cX8_fittingKinds 32 = .ok (.iload_n 2, 1) := by decide +kernel
theorem dX8_fittingKinds_33 : decode cX8_fittingKinds 33 = .ok (.iconst 1, 1) := by decide +kernel
theorem dX8_fittingKinds_34 : decode cX8_fittingKinds 34 = .ok (.iload_n 3, 1) := by decide +kernel
theorem dX8_fittingKinds_35 : decode cX8_fittingKinds 35 = .ok (.ishl, 1) := by decide +kernel
theorem dX8_fittingKinds_36 : decode cX8_fittingKinds 36 = .ok (.ior, 1) := by decide +kernel
theorem dX8_fittingKinds_37 : decode cX8_fittingKinds 37 = .ok (.istore_n 2, 1) := by decide +kernel
theorem dX8_fittingKinds_38 : decode cX8_fittingKinds 38 = .ok (.iinc 3 1, 3) := by decide +kernel
theorem dX8_fittingKinds_41 : decode cX8_fittingKinds 41 = .ok (.goto (-37), 3) := by decide +kernel
theorem dX8_fittingKinds_44 : decode cX8_fittingKinds 44 = .ok (.iload_n 2, 1) := by decide +kernel
theorem dX8_fittingKinds_45 : decode cX8_fittingKinds 45 = .ok (.ireturn, 1) := by decide +kernel
theorem dX8_didJustSo_0 : decode cX8_didJustSo 0 = .ok (.iconst 0, 1) := by decide +kernel
theorem dX8_didJustSo_1 : decode cX8_didJustSo 1 = .ok (.istore 4, 2) := by decide +kernel
theorem dX8_didJustSo_3 : decode cX8_didJustSo 3 = .ok (.iload 4, 2) := by decide +kernel
theorem dX8_didJustSo_5 : decode cX8_didJustSo 5 = .ok (.aload_n 0, 1) := by decide +kernel
theorem dX8_didJustSo_6 : decode cX8_didJustSo 6 = .ok (.getfield 26, 3) := by decide +kernel
theorem dX8_didJustSo_9 : decode cX8_didJustSo 9 = .ok (.getfield 201, 3) := by decide +kernel
theorem dX8_didJustSo_12 : decode cX8_didJustSo 12 = .ok (.getfield 205, 3) := by decide +kernel
theorem dX8_didJustSo_15 : decode cX8_didJustSo 15 = .ok (.if_icmp .ge 65, 3) := by decide +kernel
theorem dX8_didJustSo_18 : decode cX8_didJustSo 18 = .ok (.aload_n 1, 1) := by decide +kernel
theorem dX8_didJustSo_19 : decode cX8_didJustSo 19 = .ok (.aload_n 0, 1) := by decide +kernel
theorem dX8_didJustSo_20 : decode cX8_didJustSo 20 = .ok (.getfield 26, 3) := by decide +kernel
theorem dX8_didJustSo_23 : decode cX8_didJustSo 23 = .ok (.getfield 201, 3) := by decide +kernel
theorem dX8_didJustSo_26 : decode cX8_didJustSo 26 = .ok (.getfield 298, 3) := by decide +kernel
theorem dX8_didJustSo_29 : decode cX8_didJustSo 29 = .ok (.iload 4, 2) := by decide +kernel
theorem dX8_didJustSo_31 : decode cX8_didJustSo 31 = .ok (.iadd, 1) := by decide +kernel
theorem dX8_didJustSo_32 : decode cX8_didJustSo 32 = .ok (.aload_n 0, 1) := by decide +kernel
theorem dX8_didJustSo_33 : decode cX8_didJustSo 33 = .ok (.getfield 26, 3) := by decide +kernel
theorem dX8_didJustSo_36 : decode cX8_didJustSo 36 = .ok (.getfield 83, 3) := by decide +kernel
theorem dX8_didJustSo_39 : decode cX8_didJustSo 39 = .ok (.iload_n 2, 1) := by decide +kernel
theorem dX8_didJustSo_40 : decode cX8_didJustSo 40 = .ok (.iaload, 1) := by decide +kernel
theorem dX8_didJustSo_41 : decode cX8_didJustSo 41 = .ok (.iload_n 3, 1) := by decide +kernel
theorem dX8_didJustSo_42 : decode cX8_didJustSo 42 = .ok (.invokevirtual 288, 3) := by decide +kernel
theorem dX8_didJustSo_45 : decode cX8_didJustSo 45 = .ok (.istore 5, 2) := by decide +kernel
theorem dX8_didJustSo_47 : decode cX8_didJustSo 47 = .ok (.aload_n 1, 1) := by decide +kernel
theorem dX8_didJustSo_48 : decode cX8_didJustSo 48 = .ok (.iload 5, 2) := by decide +kernel
theorem dX8_didJustSo_50 : decode cX8_didJustSo 50 = .ok (.aload_n 0, 1) := by decide +kernel
theorem dX8_didJustSo_51 : decode cX8_didJustSo 51 = .ok (.getfield 19, 3) := by decide +kernel
theorem dX8_didJustSo_54 : decode cX8_didJustSo 54 = .ok (.invokevirtual 127, 3) := by decide +kernel
theorem dX8_didJustSo_57 : decode cX8_didJustSo 57 = .ok (.aload_n 0, 1) := by decide +kernel
theorem dX8_didJustSo_58 : decode cX8_didJustSo 58 = .ok (.getfield 26, 3) := by decide +kernel
theorem dX8_didJustSo_61 : decode cX8_didJustSo 61 = .ok (.getfield 201, 3) := by decide +kernel
theorem dX8_didJustSo_64 : decode cX8_didJustSo 64 = .ok (.iload 4, 2) := by decide +kernel
theorem dX8_didJustSo_66 : decode cX8_didJustSo 66 = .ok (.invokevirtual 301, 3) := by decide +kernel
theorem dX8_didJustSo_69 : decode cX8_didJustSo 69 = .ok (.if_icmp .ne 5, 3) := by decide +kernel
theorem dX8_didJustSo_72 : decode cX8_didJustSo 72 = .ok (.iconst 0, 1) := by decide +kernel
theorem dX8_didJustSo_73 : decode cX8_didJustSo 73 = .ok (.ireturn, 1) := by decide +kernel
theorem dX8_didJustSo_74 : decode cX8_didJustSo 74 = .ok (.iinc 4 1, 3) := by decide +kernel
theorem dX8_didJustSo_77 : decode cX8_didJustSo 77 = .ok (.goto (-74), 3) := by decide +kernel
theorem dX8_didJustSo_80 : decode cX8_didJustSo 80 = .ok (.iconst 1, 1) := by decide +kernel
theorem dX8_didJustSo_81 : decode cX8_didJustSo 81 = .ok (.ireturn, 1) := by decide +kernel
theorem dX8_mixed_0 : decode cX8_mixed 0 = .ok (.ldc2_w 304, 3) := by decide +kernel
theorem dX8_mixed_3 : decode cX8_mixed 3 = .ok (.lload_n 0, 1) := by decide +kernel
theorem dX8_mixed_4 : decode cX8_mixed 4 = .ok (.lmul, 1) := by decide +kernel
theorem dX8_mixed_5 : decode cX8_mixed 5 = .ok (.lload_n 2, 1) := by decide +kernel
theorem dX8_mixed_6 : decode cX8_mixed 6 = .ok (.ladd, 1) := by decide +kernel
theorem dX8_mixed_7 : decode cX8_mixed 7 = .ok (.lreturn, 1) := by decide +kernel
theorem dX8_withPacks_0 : decode cX8_withPacks 0 = .ok (.iconst 0, 1) := by decide +kernel
theorem dX8_withPacks_1 : decode cX8_withPacks 1 = .ok (.istore_n 3, 1) := by decide +kernel
theorem dX8_withPacks_2 : decode cX8_withPacks 2 = .ok (.iload_n 3, 1) := by decide +kernel
theorem dX8_withPacks_3 : decode cX8_withPacks 3 = .ok (.aload_n 0, 1) := by decide +kernel
theorem dX8_withPacks_4 : decode cX8_withPacks 4 = .ok (.getfield 26, 3) := by decide +kernel
theorem dX8_withPacks_7 : decode cX8_withPacks 7 = .ok (.getfield 90, 3) := by decide +kernel
theorem dX8_withPacks_10 : decode cX8_withPacks 10 = .ok (.if_icmp .ge 60, 3) := by decide +kernel
theorem dX8_withPacks_13 : decode cX8_withPacks 13 = .ok (.iconst 0, 1) := by decide +kernel
theorem dX8_withPacks_14 : decode cX8_withPacks 14 = .ok (.istore 4, 2) := by decide +kernel
theorem dX8_withPacks_16 : decode cX8_withPacks 16 = .ok (.iload 4, 2) := by decide +kernel
theorem dX8_withPacks_18 : decode cX8_withPacks 18 = .ok (.bipush 6, 2) := by decide +kernel
theorem dX8_withPacks_20 : decode cX8_withPacks 20 = .ok (.if_icmp .gt 22, 3) := by decide +kernel
theorem dX8_withPacks_23 : decode cX8_withPacks 23 = .ok (.lload_n 1, 1) := by decide +kernel
theorem dX8_withPacks_24 : decode cX8_withPacks 24 = .ok (.aload_n 0, 1) := by decide +kernel
theorem dX8_withPacks_25 : decode cX8_withPacks 25 = .ok (.iload_n 3, 1) := by decide +kernel
theorem dX8_withPacks_26 : decode cX8_withPacks 26 = .ok (.iload 4, 2) := by decide +kernel
theorem dX8_withPacks_28 : decode cX8_withPacks 28 = .ok (.invokevirtual 306, 3) := by decide +kernel
theorem dX8_withPacks_31 : decode cX8_withPacks 31 = .ok (.i2l, 1) := by decide +kernel
theorem dX8_withPacks_32 : decode cX8_withPacks 32 = .ok (.invokestatic 257, 3) := by decide +kernel
theorem dX8_withPacks_35 : decode cX8_withPacks 35 = .ok (.lstore_n 1, 1) := by decide +kernel
theorem dX8_withPacks_36 : decode cX8_withPacks 36 = .ok (.iinc 4 1, 3) := by decide +kernel
theorem dX8_withPacks_39 : decode cX8_withPacks 39 = .ok (.goto (-23), 3) := by decide +kernel
theorem dX8_withPacks_42 : decode cX8_withPacks 42 = .ok (.lload_n 1, 1) := by decide +kernel
theorem dX8_withPacks_43 : decode cX8_withPacks 43 = .ok (.aload_n 0, 1) := by decide +kernel
theorem dX8_withPacks_44 : decode cX8_withPacks 44 = .ok (.iload_n 3, 1) := by decide +kernel
theorem dX8_withPacks_45 : decode cX8_withPacks 45 = .ok (.iconst 0, 1) := by decide +kernel
theorem dX8_withPacks_46 : decode cX8_withPacks 46 = .ok (.invokevirtual 309, 3) := by decide +kernel
theorem dX8_withPacks_49 : decode cX8_withPacks 49 = .ok (.i2l, 1) := by decide +kernel
theorem dX8_withPacks_50 : decode cX8_withPacks 50 = .ok (.invokestatic 257, 3) := by decide +kernel
theorem dX8_withPacks_53 : decode cX8_withPacks 53 = .ok (.aload_n 0, 1) := by decide +kernel
theorem dX8_withPacks_54 : decode cX8_withPacks 54 = .ok (.iload_n 3, 1) := by decide +kernel
theorem dX8_withPacks_55 : decode cX8_withPacks 55 = .ok (.iconst 1, 1) := by decide +kernel
theorem dX8_withPacks_56 : decode cX8_withPacks 56 = .ok (.invokevirtual 309, 3) := by decide +kernel
theorem dX8_withPacks_59 : decode cX8_withPacks 59 = .ok (.i2l, 1) := by decide +kernel
theorem dX8_withPacks_60 : decode cX8_withPacks 60 = .ok (.invokestatic 257, 3) := by decide +kernel
theorem dX8_withPacks_63 : decode cX8_withPacks 63 = .ok (.lstore_n 1, 1) := by decide +kernel
theorem dX8_withPacks_64 : decode cX8_withPacks 64 = .ok (.iinc 3 1, 3) := by decide +kernel
theorem dX8_withPacks_67 : decode cX8_withPacks 67 = .ok (.goto (-65), 3) := by decide +kernel
theorem dX8_withPacks_70 : decode cX8_withPacks 70 = .ok (.lload_n 1, 1) := by decide +kernel
theorem dX8_withPacks_71 : decode cX8_withPacks 71 = .ok (.lreturn, 1) := by decide +kernel
theorem dX8_withFlocks_0 : decode cX8_withFlocks 0 = .ok (.iconst 0, 1) := by decide +kernel
theorem dX8_withFlocks_1 : decode cX8_withFlocks 1 = .ok (.istore_n 3, 1) := by decide +kernel
theorem dX8_withFlocks_2 : decode cX8_withFlocks 2 = .ok (.iload_n 3, 1) := by decide +kernel
theorem dX8_withFlocks_3 : decode cX8_withFlocks 3 = .ok (.aload_n 0, 1) := by decide +kernel
theorem dX8_withFlocks_4 : decode cX8_withFlocks 4 = .ok (.getfield 26, 3) := by decide +kernel
theorem dX8_withFlocks_7 : decode cX8_withFlocks 7 = .ok (.getfield 145, 3) := by decide +kernel
theorem dX8_withFlocks_10 : decode cX8_withFlocks 10 = .ok (.if_icmp .ge 72, 3) := by decide +kernel
theorem dX8_withFlocks_13 : decode cX8_withFlocks 13 = .ok (.iconst 0, 1) := by decide +kernel
theorem dX8_withFlocks_14 : decode cX8_withFlocks 14 = .ok (.istore 4, 2) := by decide +kernel
theorem dX8_withFlocks_16 : decode cX8_withFlocks 16 = .ok (.iload 4, 2) := by decide +kernel
theorem dX8_withFlocks_18 : decode cX8_withFlocks 18 = .ok (.iconst 3, 1) := by decide +kernel
theorem dX8_withFlocks_19 : decode cX8_withFlocks 19 = .ok (.if_icmp .gt 22, 3) := by decide +kernel
theorem dX8_withFlocks_22 : decode cX8_withFlocks 22 = .ok (.lload_n 1, 1) := by decide +kernel
theorem dX8_withFlocks_23 : decode cX8_withFlocks 23 = .ok (.aload_n 0, 1) := by decide +kernel
theorem dX8_withFlocks_24 : decode cX8_withFlocks 24 = .ok (.iload_n 3, 1) := by decide +kernel
theorem dX8_withFlocks_25 : decode cX8_withFlocks 25 = .ok (.iload 4, 2) := by decide +kernel
theorem dX8_withFlocks_27 : decode cX8_withFlocks 27 = .ok (.invokevirtual 312, 3) := by decide +kernel
theorem dX8_withFlocks_30 : decode cX8_withFlocks 30 = .ok (.i2l, 1) := by decide +kernel
theorem dX8_withFlocks_31 : decode cX8_withFlocks 31 = .ok (.invokestatic 257, 3) := by decide +kernel
theorem dX8_withFlocks_34 : decode cX8_withFlocks 34 = .ok (.lstore_n 1, 1) := by decide +kernel
theorem dX8_withFlocks_35 : decode cX8_withFlocks 35 = .ok (.iinc 4 1, 3) := by decide +kernel
theorem dX8_withFlocks_38 : decode cX8_withFlocks 38 = .ok (.goto (-22), 3) := by decide +kernel
theorem dX8_withFlocks_41 : decode cX8_withFlocks 41 = .ok (.aload_n 0, 1) := by decide +kernel
theorem dX8_withFlocks_42 : decode cX8_withFlocks 42 = .ok (.getfield 26, 3) := by decide +kernel
theorem dX8_withFlocks_45 : decode cX8_withFlocks 45 = .ok (.iload_n 3, 1) := by decide +kernel
theorem dX8_withFlocks_46 : decode cX8_withFlocks 46 = .ok (.invokevirtual 164, 3) := by decide +kernel
theorem dX8_withFlocks_49 : decode cX8_withFlocks 49 = .ok (.ifCond .ne 27, 3) := by decide +kernel
theorem dX8_withFlocks_52 : decode cX8_withFlocks 52 = .ok (.aload_n 0, 1) := by decide +kernel
theorem dX8_withFlocks_53 : decode cX8_withFlocks 53 = .ok (.invokevirtual 180, 3) := by decide +kernel
theorem dX8_withFlocks_56 : decode cX8_withFlocks 56 = .ok (.lload_n 1, 1) := by decide +kernel
theorem dX8_withFlocks_57 : decode cX8_withFlocks 57 = .ok (.aload_n 0, 1) := by decide +kernel
theorem dX8_withFlocks_58 : decode cX8_withFlocks 58 = .ok (.getfield 33, 3) := by decide +kernel
theorem dX8_withFlocks_61 : decode cX8_withFlocks 61 = .ok (.iload_n 3, 1) := by decide +kernel
theorem dX8_withFlocks_62 : decode cX8_withFlocks 62 = .ok (.bipush 60, 2) := by decide +kernel
theorem dX8_withFlocks_64 : decode cX8_withFlocks 64 = .ok (.aload_n 0, 1) := by decide +kernel
theorem dX8_withFlocks_65 : decode cX8_withFlocks 65 = .ok (.getfield 19, 3) := by decide +kernel
theorem dX8_withFlocks_68 : decode cX8_withFlocks 68 = .ok (.invokevirtual 183, 3) := by decide +kernel
theorem dX8_withFlocks_71 : decode cX8_withFlocks 71 = .ok (.i2l, 1) := by decide +kernel
theorem dX8_withFlocks_72 : decode cX8_withFlocks 72 = .ok (.invokestatic 257, 3) := by decide +kernel
theorem dX8_withFlocks_75 : decode cX8_withFlocks 75 = .ok (.lstore_n 1, 1) := by decide +kernel
theorem dX8_withFlocks_76 : decode cX8_withFlocks 76 = .ok (.iinc 3 1, 3) := by decide +kernel
theorem dX8_withFlocks_79 : decode cX8_withFlocks 79 = .ok (.goto (-77), 3) := by decide +kernel
theorem dX8_withFlocks_82 : decode cX8_withFlocks 82 = .ok (.lload_n 1, 1) := by decide +kernel
theorem dX8_withFlocks_83 : decode cX8_withFlocks 83 = .ok (.lreturn, 1) := by decide +kernel
theorem dX9_init_0 : decode cX9_init 0 = .ok (.aload_n 0, 1) := by decide +kernel
theorem dX9_init_1 : decode cX9_init 1 = .ok (.invokespecial 1, 3) := by decide +kernel
theorem dX9_init_4 : decode cX9_init 4 = .ok (.aload_n 0, 1) := by decide +kernel
theorem dX9_init_5 : decode cX9_init 5 = .ok (.bipush 6, 2) := by decide +kernel
theorem dX9_init_7 : decode cX9_init 7 = .ok (.newarray .int, 2) := by decide +kernel
theorem dX9_init_9 : decode cX9_init 9 = .ok (.putfield 7, 3) := by decide +kernel
theorem dX9_init_12 : decode cX9_init 12 = .ok (.aload_n 0, 1) := by decide +kernel
theorem dX9_init_13 : decode cX9_init 13 = .ok (.bipush 8, 2) := by decide +kernel
theorem dX9_init_15 : decode cX9_init 15 = .ok (.newarray .int, 2) := by decide +kernel
theorem dX9_init_17 : decode cX9_init 17 = .ok (.putfield 13, 3) := by decide +kernel
theorem dX9_init_20 : decode cX9_init 20 = .ok (.aload_n 0, 1) := by decide +kernel
theorem dX9_init_21 : decode cX9_init 21 = .ok (.iconst 4, 1) := by decide +kernel
theorem dX9_init_22 : decode cX9_init 22 = .ok (.newarray .int, 2) := by decide +kernel
theorem dX9_init_24 : decode cX9_init 24 = .ok (.putfield 16, 3) := by decide +kernel
theorem dX9_init_27 : decode cX9_init 27 = .ok (.aload_n 0, 1) := by decide +kernel
theorem dX9_init_28 : decode cX9_init 28 = .ok (.iconst 4, 1) := by decide +kernel
theorem dX9_init_29 : decode cX9_init 29 = .ok (.newarray .int, 2) := by decide +kernel
theorem dX9_init_31 : decode cX9_init 31 = .ok (.putfield 19, 3) := by decide +kernel
theorem dX9_init_34 : decode cX9_init 34 = .ok (.aload_n 0, 1) := by decide +kernel
theorem dX9_init_35 : decode cX9_init 35 = .ok (.iconst 4, 1) := by decide +kernel
theorem dX9_init_36 : decode cX9_init 36 = .ok (.newarray .int, 2) := by decide +kernel
theorem dX9_init_38 : decode cX9_init 38 = .ok (.putfield 22, 3) := by decide +kernel
theorem dX9_init_41 : decode cX9_init 41 = .ok (.aload_n 0, 1) := by decide +kernel
theorem dX9_init_42 : decode cX9_init 42 = .ok (.iconst 5, 1) := by decide +kernel
theorem dX9_init_43 : decode cX9_init 43 = .ok (.newarray .int, 2) := by decide +kernel
theorem dX9_init_45 : decode cX9_init 45 = .ok (.putfield 25, 3) := by decide +kernel
theorem dX9_init_48 : decode cX9_init 48 = .ok (.aload_n 0, 1) := by decide +kernel
theorem dX9_init_49 : decode cX9_init 49 = .ok (.iconst 5, 1) := by decide +kernel
theorem dX9_init_50 : decode cX9_init 50 = .ok (.newarray .int, 2) := by decide +kernel
theorem dX9_init_52 : decode cX9_init 52 = .ok (.putfield 28, 3) := by decide +kernel
theorem dX9_init_55 : decode cX9_init 55 = .ok (.aload_n 0, 1) := by decide +kernel
theorem dX9_init_56 : decode cX9_init 56 = .ok (.iconst 5, 1) := by decide +kernel
theorem dX9_init_57 : decode cX9_init 57 = .ok (.newarray .int, 2) := by decide +kernel
theorem dX9_init_59 : decode cX9_init 59 = .ok (.putfield 31, 3) := by decide +kernel
theorem dX9_init_62 : decode cX9_init 62 = .ok (.aload_n 0, 1) := by decide +kernel
theorem dX9_init_63 : decode cX9_init 63 = .ok (.iconst (-1), 1) := by decide +kernel
theorem dX9_init_64 : decode cX9_init 64 = .ok (.putfield 34, 3) := by decide +kernel
theorem dX9_init_67 : decode cX9_init 67 = .ok (.aload_n 0, 1) := by decide +kernel
theorem dX9_init_68 : decode cX9_init 68 = .ok (.bipush 8, 2) := by decide +kernel
theorem dX9_init_70 : decode cX9_init 70 = .ok (.newarray .int, 2) := by decide +kernel
theorem dX9_init_72 : decode cX9_init 72 = .ok (.putfield 38, 3) := by decide +kernel
theorem dX9_init_75 : decode cX9_init 75 = .ok (.aload_n 0, 1) := by decide +kernel
theorem dX9_init_76 : decode cX9_init 76 = .ok (.bipush 24, 2) := by decide +kernel
theorem dX9_init_78 : decode cX9_init 78 = .ok (.newarray .byte, 2) := by decide +kernel
theorem dX9_init_80 : decode cX9_init 80 = .ok (.putfield 41, 3) := by decide +kernel
theorem dX9_init_83 : decode cX9_init 83 = .ok (.aload_n 0, 1) := by decide +kernel
theorem dX9_init_84 : decode cX9_init 84 = .ok (.bipush 6, 2) := by decide +kernel
theorem dX9_init_86 : decode cX9_init 86 = .ok (.newarray .int, 2) := by decide +kernel
theorem dX9_init_88 : decode cX9_init 88 = .ok (.putfield 45, 3) := by decide +kernel
theorem dX9_init_91 : decode cX9_init 91 = .ok (.aload_n 0, 1) := by decide +kernel
theorem dX9_init_92 : decode cX9_init 92 = .ok (.bipush 8, 2) := by decide +kernel
theorem dX9_init_94 : decode cX9_init 94 = .ok (.newarray .int, 2) := by decide +kernel
theorem dX9_init_96 : decode cX9_init 96 = .ok (.putfield 48, 3) := by decide +kernel
theorem dX9_init_99 : decode cX9_init 99 = .ok (.aload_n 0, 1) := by decide +kernel
theorem dX9_init_100 : decode cX9_init 100 = .ok (.iconst 5, 1) := by decide +kernel
theorem dX9_init_101 : decode cX9_init 101 = .ok (.newarray .int, 2) := by decide +kernel
theorem dX9_init_103 : decode cX9_init 103 = .ok (.putfield 51, 3) := by decide +kernel
theorem dX9_init_106 : decode cX9_init 106 = .ok (.aload_n 0, 1) := by decide +kernel
theorem dX9_init_107 : decode cX9_init 107 = .ok (.iconst 5, 1) := by decide +kernel
theorem dX9_init_108 : decode cX9_init 108 = .ok (.newarray .int, 2) := by decide +kernel
theorem dX9_init_110 : decode cX9_init 110 = .ok (.putfield 54, 3) := by decide +kernel
theorem dX9_init_113 : decode cX9_init 113 = .ok (.aload_n 0, 1) := by decide +kernel
theorem dX9_init_114 : decode cX9_init 114 = .ok (.iconst 5, 1) := by decide +kernel
theorem dX9_init_115 : decode cX9_init 115 = .ok (.newarray .int, 2) := by decide +kernel
theorem dX9_init_117 : decode cX9_init 117 = .ok (.putfield 57, 3) := by decide +kernel
theorem dX9_init_120 : decode cX9_init 120 = .ok (.aload_n 0, 1) := by decide +kernel
theorem dX9_init_121 : decode cX9_init 121 = .ok (.bipush 8, 2) := by decide +kernel
theorem dX9_init_123 : decode cX9_init 123 = .ok (.newarray .int, 2) := by decide +kernel
theorem dX9_init_125 : decode cX9_init 125 = .ok (.putfield 60, 3) := by decide +kernel
theorem dX9_init_128 : decode cX9_init 128 = .ok (.aload_n 0, 1) := by decide +kernel
theorem dX9_init_129 : decode cX9_init 129 = .ok (.bipush 8, 2) := by decide +kernel
theorem dX9_init_131 : decode cX9_init 131 = .ok (.newarray .int, 2) := by decide +kernel
theorem dX9_init_133 : decode cX9_init 133 = .ok (.putfield 63, 3) := by decide +kernel
theorem dX9_init_136 : decode cX9_init 136 = .ok (.aload_n 0, 1) := by decide +kernel
theorem dX9_init_137 : decode cX9_init 137 = .ok (.iconst 5, 1) := by decide +kernel
theorem dX9_init_138 : decode cX9_init 138 = .ok (.newarray .int, 2) := by decide +kernel
theorem dX9_init_140 : decode cX9_init 140 = .ok (.putfield 66, 3) := by decide +kernel
theorem dX9_init_143 : decode cX9_init 143 = .ok (.aload_n 0, 1) := by decide +kernel
theorem dX9_init_144 : decode cX9_init 144 = .ok (.iconst 5, 1) := by decide +kernel
theorem dX9_init_145 : decode cX9_init 145 = .ok (.newarray .int, 2) := by decide +kernel
theorem dX9_init_147 : decode cX9_init 147 = .ok (.putfield 69, 3) := by decide +kernel
theorem dX9_init_150 : decode cX9_init 150 = .ok (.aload_n 0, 1) := by decide +kernel
theorem dX9_init_151 : decode cX9_init 151 = .ok (.iconst 5, 1) := by decide +kernel
theorem dX9_init_152 : decode cX9_init 152 = .ok (.newarray .int, 2) := by decide +kernel
theorem dX9_init_154 : decode cX9_init 154 = .ok (.putfield 72, 3) := by decide +kernel
theorem dX9_init_157 : decode cX9_init 157 = .ok (.return_, 1) := by decide +kernel
theorem dX9_within_0 : decode cX9_within 0 = .ok (.iload_n 0, 1) := by decide +kernel
theorem dX9_within_1 : decode cX9_within 1 = .ok (.iload_n 1, 1) := by decide +kernel
theorem dX9_within_2 : decode cX9_within 2 = .ok (.if_icmp .lt 12, 3) := by decide +kernel
theorem dX9_within_5 : decode cX9_within 5 = .ok (.iload_n 0, 1) := by decide +kernel
theorem dX9_within_6 : decode cX9_within 6 = .ok (.iload_n 2, 1) := by decide +kernel
theorem dX9_within_7 : decode cX9_within 7 = .ok (.if_icmp .gt 7, 3) := by decide +kernel
theorem dX9_within_10 : decode cX9_within 10 = .ok (.iconst 1, 1) := by decide +kernel
theorem dX9_within_11 : decode cX9_within 11 = .ok (.goto 4, 3) := by decide +kernel
theorem dX9_within_14 : decode cX9_within 14 = .ok (.iconst 0, 1) := by decide +kernel
theorem dX9_within_15 : decode cX9_within 15 = .ok (.ireturn, 1) := by decide +kernel
theorem dX9_letter_0 : decode cX9_letter 0 = .ok (.iload_n 1, 1) := by decide +kernel
theorem dX9_letter_1 : decode cX9_letter 1 = .ok (.bipush 32, 2) := by decide +kernel
theorem dX9_letter_3 : decode cX9_letter 3 = .ok (.bipush 126, 2) := by decide +kernel
theorem dX9_letter_5 : decode cX9_letter 5 = .ok (.invokestatic 75, 3) := by decide +kernel
theorem dX9_letter_8 : decode cX9_letter 8 = .ok (.ifCond .ne 6, 3) := by decide +kernel
theorem dX9_letter_11 : decode cX9_letter 11 = .ok (.bipush (-102), 2) := by decide +kernel
theorem dX9_letter_13 : decode cX9_letter 13 = .ok (.ireturn, 1) := by decide +kernel
theorem dX9_letter_14 : decode cX9_letter 14 = .ok (.aload_n 0, 1) := by decide +kernel
theorem dX9_letter_15 : decode cX9_letter 15 = .ok (.getfield 79, 3) := by decide +kernel
theorem dX9_letter_18 : decode cX9_letter 18 = .ok (.bipush 24, 2) := by decide +kernel
theorem dX9_letter_20 : decode cX9_letter 20 = .ok (.if_icmp .ne 6, 3) := by decide +kernel
theorem dX9_letter_23 : decode cX9_letter 23 = .ok (.bipush (-104), 2) := by decide +kernel
theorem dX9_letter_25 : decode cX9_letter 25 = .ok (.ireturn, 1) := by decide +kernel
theorem dX9_letter_26 : decode cX9_letter 26 = .ok (.aload_n 0, 1) := by decide +kernel
theorem dX9_letter_27 : decode cX9_letter 27 = .ok (.getfield 41, 3) := by decide +kernel
theorem dX9_letter_30 : decode cX9_letter 30 = .ok (.aload_n 0, 1) := by decide +kernel
theorem dX9_letter_31 : decode cX9_letter 31 = .ok (.getfield 79, 3) := by decide +kernel
theorem dX9_letter_34 : decode cX9_letter 34 = .ok (.iload_n 1, 1) := by decide +kernel
theorem dX9_letter_35 : decode cX9_letter 35 = .ok (.i2b, 1) := by decide +kernel
theorem dX9_letter_36 : decode cX9_letter 36 = .ok (.bastore, 1) := by decide +kernel
theorem dX9_letter_37 : decode cX9_letter 37 = .ok (.aload_n 0, 1) := by decide +kernel
theorem dX9_letter_38 : decode cX9_letter 38 = .ok (.dup, 1) := by decide +kernel
theorem dX9_letter_39 : decode cX9_letter 39 = .ok (.getfield 79, 3) := by decide +kernel
theorem dX9_letter_42 : decode cX9_letter 42 = .ok (.iconst 1, 1) := by decide +kernel
theorem dX9_letter_43 : decode cX9_letter 43 = .ok (.iadd, 1) := by decide +kernel
theorem dX9_letter_44 : decode cX9_letter 44 = .ok (.putfield 79, 3) := by decide +kernel
theorem dX9_letter_47 : decode cX9_letter 47 = .ok (.aload_n 0, 1) := by decide +kernel
theorem dX9_letter_48 : decode cX9_letter 48 = .ok (.getfield 79, 3) := by decide +kernel
theorem dX9_letter_51 : decode cX9_letter 51 = .ok (.ireturn, 1) := by decide +kernel
theorem dX9_blank_0 : decode cX9_blank 0 = .ok (.aload_n 0, 1) := by decide +kernel
theorem dX9_blank_1 : decode cX9_blank 1 = .ok (.getfield 79, 3) := by decide +kernel
theorem dX9_blank_4 : decode cX9_blank 4 = .ok (.istore_n 1, 1) := by decide +kernel
theorem dX9_blank_5 : decode cX9_blank 5 = .ok (.aload_n 0, 1) := by decide +kernel
theorem dX9_blank_6 : decode cX9_blank 6 = .ok (.iconst 0, 1) := by decide +kernel
theorem dX9_blank_7 : decode cX9_blank 7 = .ok (.putfield 79, 3) := by decide +kernel
theorem dX9_blank_10 : decode cX9_blank 10 = .ok (.iload_n 1, 1) := by decide +kernel
theorem dX9_blank_11 : decode cX9_blank 11 = .ok (.ireturn, 1) := by decide +kernel
theorem dX9_nextState_0 : decode cX9_nextState 0 = .ok (.iload_n 2, 1) := by decide +kernel
theorem dX9_nextState_1 : decode cX9_nextState 1 = .ok (.bipush 48, 2) := by decide +kernel
theorem dX9_nextState_3 : decode cX9_nextState 3 = .ok (.isub, 1) := by decide +kernel
theorem dX9_nextState_4 : decode cX9_nextState 4 = .ok (.istore_n 3, 1) := by decide +kernel
theorem dX9_nextState_5 : decode cX9_nextState 5 = .ok (.iload_n 1, 1) := by decide +kernel
theorem dX9_nextState_6 : decode cX9_nextState 6 = .ok (.tableswitch 123 0 4 #[34, 56, 116, 84, 116], 34) := by decide +kernel
theorem dX9_nextState_40 : decode cX9_nextState 40 = .ok (.iload_n 2, 1) := by decide +kernel
theorem dX9_nextState_41 : decode cX9_nextState 41 = .ok (.bipush 102, 2) := by decide +kernel
theorem dX9_nextState_43 : decode cX9_nextState 43 = .ok (.if_icmp .ne 7, 3) := by decide +kernel
theorem dX9_nextState_46 : decode cX9_nextState 46 = .ok (.iconst 1, 1) := by decide +kernel
theorem dX9_nextState_47 : decode cX9_nextState 47 = .ok (.goto 14, 3) := by decide +kernel
theorem dX9_nextState_50 : decode cX9_nextState 50 = .ok (.iload_n 2, 1) := by decide +kernel
theorem dX9_nextState_51 : decode cX9_nextState 51 = .ok (.bipush 109, 2) := by decide +kernel
theorem dX9_nextState_53 : decode cX9_nextState 53 = .ok (.if_icmp .ne 7, 3) := by decide +kernel
theorem dX9_nextState_56 : decode cX9_nextState 56 = .ok (.iconst 3, 1) := by decide +kernel
theorem dX9_nextState_57 : decode cX9_nextState 57 = .ok (.goto 4, 3) := by decide +kernel
theorem dX9_nextState_60 : decode cX9_nextState 60 = .ok (.iconst (-1), 1) := by decide +kernel
theorem dX9_nextState_61 : decode cX9_nextState 61 = .ok (.ireturn, 1) := by decide +kernel
theorem dX9_nextState_62 : decode cX9_nextState 62 = .ok (.aload_n 0, 1) := by decide +kernel
theorem dX9_nextState_63 : decode cX9_nextState 63 = .ok (.getfield 45, 3) := by decide +kernel
theorem dX9_nextState_66 : decode cX9_nextState 66 = .ok (.aload_n 0, 1) := by decide +kernel
theorem dX9_nextState_67 : decode cX9_nextState 67 = .ok (.getfield 82, 3) := by decide +kernel
theorem dX9_nextState_70 : decode cX9_nextState 70 = .ok (.bipush 10, 2) := by decide +kernel
theorem dX9_nextState_72 : decode cX9_nextState 72 = .ok (.iload_n 3, 1) := by decide +kernel
theorem dX9_nextState_73 : decode cX9_nextState 73 = .ok (.imul, 1) := by decide +kernel
theorem dX9_nextState_74 : decode cX9_nextState 74 = .ok (.iastore, 1) := by decide +kernel
theorem dX9_nextState_75 : decode cX9_nextState 75 = .ok (.iload_n 3, 1) := by decide +kernel
theorem dX9_nextState_76 : decode cX9_nextState 76 = .ok (.iconst 0, 1) := by decide +kernel
theorem dX9_nextState_77 : decode cX9_nextState 77 = .ok (.iconst 2, 1) := by decide +kernel
theorem dX9_nextState_78 : decode cX9_nextState 78 = .ok (.invokestatic 75, 3) := by decide +kernel
theorem dX9_nextState_81 : decode cX9_nextState 81 = .ok (.ifCond .eq 7, 3) := by decide +kernel
theorem dX9_nextState_84 : decode cX9_nextState 84 = .ok (.iconst 2, 1) := by decide +kernel
theorem dX9_nextState_85 : decode cX9_nextState 85 = .ok (.goto 4, 3) := by decide +kernel
theorem dX9_nextState_88 : decode cX9_nextState 88 = .ok (.iconst (-1), 1) := by decide +kernel
theorem dX9_nextState_89 : decode cX9_nextState 89 = .ok (.ireturn, 1) := by decide +kernel
theorem dX9_nextState_90 : decode cX9_nextState 90 = .ok (.aload_n 0, 1) := by decide +kernel
theorem dX9_nextState_91 : decode cX9_nextState 91 = .ok (.getfield 45, 3) := by decide +kernel
theorem dX9_nextState_94 : decode cX9_nextState 94 = .ok (.aload_n 0, 1) := by decide +kernel
theorem dX9_nextState_95 : decode cX9_nextState 95 = .ok (.getfield 82, 3) := by decide +kernel
theorem dX9_nextState_98 : decode cX9_nextState 98 = .ok (.bipush 100, 2) := by decide +kernel
theorem dX9_nextState_100 : decode cX9_nextState 100 = .ok (.bipush 10, 2) := by decide +kernel
theorem dX9_nextState_102 : decode cX9_nextState 102 = .ok (.iload_n 3, 1) := by decide +kernel
theorem dX9_nextState_103 : decode cX9_nextState 103 = .ok (.imul, 1) := by decide +kernel
theorem dX9_nextState_104 : decode cX9_nextState 104 = .ok (.iadd, 1) := by decide +kernel
theorem dX9_nextState_105 : decode cX9_nextState 105 = .ok (.iastore, 1) := by decide +kernel
theorem dX9_nextState_106 : decode cX9_nextState 106 = .ok (.iload_n 3, 1) := by decide +kernel
theorem dX9_nextState_107 : decode cX9_nextState 107 = .ok (.iconst 0, 1) := by decide +kernel
theorem dX9_nextState_108 : decode cX9_nextState 108 = .ok (.bipush 6, 2) := by decide +kernel
theorem dX9_nextState_110 : decode cX9_nextState 110 = .ok (.invokestatic 75, 3) := by decide +kernel
theorem dX9_nextState_113 : decode cX9_nextState 113 = .ok (.ifCond .eq 7, 3) := by decide +kernel
theorem dX9_nextState_116 : decode cX9_nextState 116 = .ok (.iconst 4, 1) := by decide +kernel
theorem dX9_nextState_117 : decode cX9_nextState 117 = .ok (.goto 4, 3) := by decide +kernel
theorem dX9_nextState_120 : decode cX9_nextState 120 = .ok (.iconst (-1), 1) := by decide +kernel
theorem dX9_nextState_121 : decode cX9_nextState 121 = .ok (.ireturn, 1) := by decide +kernel
theorem dX9_nextState_122 : decode cX9_nextState 122 = .ok (.aload_n 0, 1) := by decide +kernel
theorem dX9_nextState_123 : decode cX9_nextState 123 = .ok (.iload_n 1, 1) := by decide +kernel
theorem dX9_nextState_124 : decode cX9_nextState 124 = .ok (.iload_n 3, 1) := by decide +kernel
theorem dX9_nextState_125 : decode cX9_nextState 125 = .ok (.invokevirtual 85, 3) := by decide +kernel
theorem dX9_nextState_128 : decode cX9_nextState 128 = .ok (.ireturn, 1) := by decide +kernel
theorem dX9_nextState_129 : decode cX9_nextState 129 = .ok (.iload_n 2, 1) := by decide +kernel
theorem dX9_nextState_130 : decode cX9_nextState 130 = .ok (.bipush 44, 2) := by decide +kernel
theorem dX9_nextState_132 : decode cX9_nextState 132 = .ok (.if_icmp .ne 16, 3) := by decide +kernel
theorem dX9_nextState_135 : decode cX9_nextState 135 = .ok (.aload_n 0, 1) := by decide +kernel
theorem dX9_nextState_136 : decode cX9_nextState 136 = .ok (.getfield 82, 3) := by decide +kernel
theorem dX9_nextState_139 : decode cX9_nextState 139 = .ok (.bipush 6, 2) := by decide +kernel
theorem dX9_nextState_141 : decode cX9_nextState 141 = .ok (.if_icmp .ge 7, 3) := by decide +kernel
theorem dX9_nextState_144 : decode cX9_nextState 144 = .ok (.iconst 0, 1) := by decide +kernel
theorem dX9_nextState_145 : decode cX9_nextState 145 = .ok (.goto 4, 3) := by decide +kernel
theorem dX9_nextState_148 : decode cX9_nextState 148 = .ok (.iconst (-1), 1) := by decide +kernel
theorem dX9_nextState_149 : decode cX9_nextState 149 = .ok (.ireturn, 1) := by decide +kernel
theorem dX9_lastState_0 : decode cX9_lastState 0 = .ok (.iload_n 1, 1) := by decide +kernel
theorem dX9_lastState_1 : decode cX9_lastState 1 = .ok (.iconst 2, 1) := by decide +kernel
theorem dX9_lastState_2 : decode cX9_lastState 2 = .ok (.if_icmp .ne 13, 3) := by decide +kernel
theorem dX9_lastState_5 : decode cX9_lastState 5 = .ok (.iload_n 2, 1) := by decide +kernel
theorem dX9_lastState_6 : decode cX9_lastState 6 = .ok (.iconst 0, 1) := by decide +kernel
theorem dX9_lastState_7 : decode cX9_lastState 7 = .ok (.bipush 9, 2) := by decide +kernel
theorem dX9_lastState_9 : decode cX9_lastState 9 = .ok (.invokestatic 75, 3) := by decide +kernel
theorem dX9_lastState_12 : decode cX9_lastState 12 = .ok (.goto 9, 3) := by decide +kernel
theorem dX9_lastState_15 : decode cX9_lastState 15 = .ok (.iload_n 2, 1) := by decide +kernel
theorem dX9_lastState_16 : decode cX9_lastState 16 = .ok (.iconst 1, 1) := by decide +kernel
theorem dX9_lastState_17 : decode cX9_lastState 17 = .ok (.iconst 4, 1) := by decide +kernel
theorem dX9_lastState_18 : decode cX9_lastState 18 = .ok (.invokestatic 75, 3) := by decide +kernel
theorem dX9_lastState_21 : decode cX9_lastState 21 = .ok (.istore_n 3, 1) := by decide +kernel
theorem dX9_lastState_22 : decode cX9_lastState 22 = .ok (.aload_n 0, 1) := by decide +kernel
theorem dX9_lastState_23 : decode cX9_lastState 23 = .ok (.getfield 45, 3) := by decide +kernel
theorem dX9_lastState_26 : decode cX9_lastState 26 = .ok (.aload_n 0, 1) := by decide +kernel
theorem dX9_lastState_27 : decode cX9_lastState 27 = .ok (.getfield 82, 3) := by decide +kernel
theorem dX9_lastState_30 : decode cX9_lastState 30 = .ok (.dup2, 1) := by decide +kernel
theorem dX9_lastState_31 : decode cX9_lastState 31 = .ok (.iaload, 1) := by decide +kernel
theorem dX9_lastState_32 : decode cX9_lastState 32 = .ok (.iload_n 2, 1) := by decide +kernel
theorem dX9_lastState_33 : decode cX9_lastState 33 = .ok (.iadd, 1) := by decide +kernel
theorem dX9_lastState_34 : decode cX9_lastState 34 = .ok (.iastore, 1) := by decide +kernel
theorem dX9_lastState_35 : decode cX9_lastState 35 = .ok (.aload_n 0, 1) := by decide +kernel
theorem dX9_lastState_36 : decode cX9_lastState 36 = .ok (.dup, 1) := by decide +kernel
theorem dX9_lastState_37 : decode cX9_lastState 37 = .ok (.getfield 82, 3) := by decide +kernel
theorem dX9_lastState_40 : decode cX9_lastState 40 = .ok (.iload_n 3, 1) := by decide +kernel
theorem dX9_lastState_41 : decode cX9_lastState 41 = .ok (.ifCond .eq 7, 3) := by decide +kernel
theorem dX9_lastState_44 : decode cX9_lastState 44 = .ok (.iconst 1, 1) := by decide +kernel
theorem dX9_lastState_45 : decode cX9_lastState 45 = .ok (.goto 4, 3) := by decide +kernel
theorem dX9_lastState_48 : decode cX9_lastState 48 = .ok (.iconst 0, 1) := by decide +kernel
theorem dX9_lastState_49 : decode cX9_lastState 49 = .ok (.iadd, 1) := by decide +kernel
theorem dX9_lastState_50 : decode cX9_lastState 50 = .ok (.putfield 82, 3) := by decide +kernel
theorem dX9_lastState_53 : decode cX9_lastState 53 = .ok (.iload_n 3, 1) := by decide +kernel
theorem dX9_lastState_54 : decode cX9_lastState 54 = .ok (.ifCond .eq 7, 3) := by decide +kernel
theorem dX9_lastState_57 : decode cX9_lastState 57 = .ok (.iconst 5, 1) := by decide +kernel
theorem dX9_lastState_58 : decode cX9_lastState 58 = .ok (.goto 4, 3) := by decide +kernel
theorem dX9_lastState_61 : decode cX9_lastState 61 = .ok (.iconst (-1), 1) := by decide +kernel
theorem dX9_lastState_62 : decode cX9_lastState 62 = .ok (.ireturn, 1) := by decide +kernel
theorem dX9_readFeasts_0 : decode cX9_readFeasts 0 = .ok (.aload_n 0, 1) := by decide +kernel
theorem dX9_readFeasts_1 : decode cX9_readFeasts 1 = .ok (.iconst 0, 1) := by decide +kernel
theorem dX9_readFeasts_2 : decode cX9_readFeasts 2 = .ok (.putfield 82, 3) := by decide +kernel
theorem dX9_readFeasts_5 : decode cX9_readFeasts 5 = .ok (.iconst 0, 1) := by decide +kernel
theorem dX9_readFeasts_6 : decode cX9_readFeasts 6 = .ok (.istore_n 1, 1) := by decide +kernel
theorem dX9_readFeasts_7 : decode cX9_readFeasts 7 = .ok (.iconst 0, 1) := by decide +kernel
theorem dX9_readFeasts_8 : decode cX9_readFeasts 8 = .ok (.istore_n 2, 1) := by decide +kernel
theorem dX9_readFeasts_9 : decode cX9_readFeasts 9 = .ok (.iconst 1, 1) := by decide +kernel
theorem dX9_readFeasts_10 : decode cX9_readFeasts 10 = .ok (.istore_n 3, 1) := by decide +kernel
theorem dX9_readFeasts_11 : decode cX9_readFeasts 11 = .ok (.iload_n 2, 1) := by decide +kernel
theorem dX9_readFeasts_12 : decode cX9_readFeasts 12 = .ok (.aload_n 0, 1) := by decide +kernel
theorem dX9_readFeasts_13 : decode cX9_readFeasts 13 = .ok (.getfield 79, 3) := by decide +kernel
theorem dX9_readFeasts_16 : decode cX9_readFeasts 16 = .ok (.if_icmp .ge 58, 3) := by decide +kernel
theorem dX9_readFeasts_19 : decode cX9_readFeasts 19 = .ok (.iload_n 3, 1) := by decide +kernel
theorem dX9_readFeasts_20 : decode cX9_readFeasts 20 = .ok (.ifCond .eq 54, 3) := by decide +kernel
theorem dX9_readFeasts_23 : decode cX9_readFeasts 23 = .ok (.aload_n 0, 1) := by decide +kernel
theorem dX9_readFeasts_24 : decode cX9_readFeasts 24 = .ok (.iload_n 1, 1) := by decide +kernel
theorem dX9_readFeasts_25 : decode cX9_readFeasts 25 = .ok (.aload_n 0, 1) := by decide +kernel
theorem dX9_readFeasts_26 : decode cX9_readFeasts 26 = .ok (.getfield 41, 3) := by decide +kernel
theorem dX9_readFeasts_29 : decode cX9_readFeasts 29 = .ok (.iload_n 2, 1) := by decide +kernel
theorem dX9_readFeasts_30 : decode cX9_readFeasts 30 = .ok (.baload, 1) := by decide +kernel
theorem dX9_readFeasts_31 : decode cX9_readFeasts 31 = .ok (.invokevirtual 89, 3) := by decide +kernel
theorem dX9_readFeasts_34 : decode cX9_readFeasts 34 = .ok (.istore 4, 2) := by decide +kernel
theorem dX9_readFeasts_36 : decode cX9_readFeasts 36 = .ok (.iload 4, 2) := by decide +kernel
theorem dX9_readFeasts_38 : decode cX9_readFeasts 38 = .ok (.iconst (-1), 1) := by decide +kernel
theorem dX9_readFeasts_39 : decode cX9_readFeasts 39 = .ok (.if_icmp .eq 7, 3) := by decide +kernel
theorem dX9_readFeasts_42 : decode cX9_readFeasts 42 = .ok (.iconst 1, 1) := by decide +kernel
theorem dX9_readFeasts_43 : decode cX9_readFeasts 43 = .ok (.goto 4, 3) := by decide +kernel
theorem dX9_readFeasts_46 : decode cX9_readFeasts 46 = .ok (.iconst 0, 1) := by decide +kernel
theorem dX9_readFeasts_47 : decode cX9_readFeasts 47 = .ok (.istore_n 3, 1) := by decide +kernel
theorem dX9_readFeasts_48 : decode cX9_readFeasts 48 = .ok (.iload_n 3, 1) := by decide +kernel
theorem dX9_readFeasts_49 : decode cX9_readFeasts 49 = .ok (.ifCond .eq 8, 3) := by decide +kernel
theorem dX9_readFeasts_52 : decode cX9_readFeasts 52 = .ok (.iload 4, 2) := by decide +kernel
theorem dX9_readFeasts_54 : decode cX9_readFeasts 54 = .ok (.goto 4, 3) := by decide +kernel
theorem dX9_readFeasts_57 : decode cX9_readFeasts 57 = .ok (.iload_n 1, 1) := by decide +kernel
theorem dX9_readFeasts_58 : decode cX9_readFeasts 58 = .ok (.istore_n 1, 1) := by decide +kernel
theorem dX9_readFeasts_59 : decode cX9_readFeasts 59 = .ok (.iload_n 2, 1) := by decide +kernel
theorem dX9_readFeasts_60 : decode cX9_readFeasts 60 = .ok (.iload_n 3, 1) := by decide +kernel
theorem dX9_readFeasts_61 : decode cX9_readFeasts 61 = .ok (.ifCond .eq 7, 3) := by decide +kernel
theorem dX9_readFeasts_64 : decode cX9_readFeasts 64 = .ok (.iconst 1, 1) := by decide +kernel
theorem dX9_readFeasts_65 : decode cX9_readFeasts 65 = .ok (.goto 4, 3) := by decide +kernel
theorem dX9_readFeasts_68 : decode cX9_readFeasts 68 = .ok (.iconst 0, 1) := by decide +kernel
theorem dX9_readFeasts_69 : decode cX9_readFeasts 69 = .ok (.iadd, 1) := by decide +kernel
theorem dX9_readFeasts_70 : decode cX9_readFeasts 70 = .ok (.istore_n 2, 1) := by decide +kernel
theorem dX9_readFeasts_71 : decode cX9_readFeasts 71 = .ok (.goto (-60), 3) := by decide +kernel
theorem dX9_readFeasts_74 : decode cX9_readFeasts 74 = .ok (.aload_n 0, 1) := by decide +kernel
theorem dX9_readFeasts_75 : decode cX9_readFeasts 75 = .ok (.iload_n 2, 1) := by decide +kernel
theorem dX9_readFeasts_76 : decode cX9_readFeasts 76 = .ok (.putfield 92, 3) := by decide +kernel
theorem dX9_readFeasts_79 : decode cX9_readFeasts 79 = .ok (.aload_n 0, 1) := by decide +kernel
theorem dX9_readFeasts_80 : decode cX9_readFeasts 80 = .ok (.iload_n 2, 1) := by decide +kernel
theorem dX9_readFeasts_81 : decode cX9_readFeasts 81 = .ok (.aload_n 0, 1) := by decide +kernel
theorem dX9_readFeasts_82 : decode cX9_readFeasts 82 = .ok (.getfield 79, 3) := by decide +kernel
theorem dX9_readFeasts_85 : decode cX9_readFeasts 85 = .ok (.if_icmp .ne 12, 3) := by decide +kernel
theorem dX9_readFeasts_88 : decode cX9_readFeasts 88 = .ok (.iload_n 1, 1) := by decide +kernel
theorem dX9_readFeasts_89 : decode cX9_readFeasts 89 = .ok (.iconst 5, 1) := by decide +kernel
theorem dX9_readFeasts_90 : decode cX9_readFeasts 90 = .ok (.if_icmp .ne 7, 3) := by decide +kernel
theorem dX9_readFeasts_93 : decode cX9_readFeasts 93 = .ok (.iconst 1, 1) := by decide +kernel
theorem dX9_readFeasts_94 : decode cX9_readFeasts 94 = .ok (.goto 4, 3) := by decide +kernel
theorem dX9_readFeasts_97 : decode cX9_readFeasts 97 = .ok (.iconst 0, 1) := by decide +kernel
theorem dX9_readFeasts_98 : decode cX9_readFeasts 98 = .ok (.putfield 95, 3) := by decide +kernel
theorem dX9_readFeasts_101 : decode cX9_readFeasts 101 = .ok (.return_, 1) := by decide +kernel
theorem dX9_fault_0 : decode cX9_fault 0 = .ok (.aload_n 0, 1) := by decide +kernel
theorem dX9_fault_1 : decode cX9_fault 1 = .ok (.invokevirtual 99, 3) := by decide +kernel
theorem dX9_fault_4 : decode cX9_fault 4 = .ok (.aload_n 0, 1) := by decide +kernel
theorem dX9_fault_5 : decode cX9_fault 5 = .ok (.getfield 92, 3) := by decide +kernel
theorem dX9_fault_8 : decode cX9_fault 8 = .ok (.ireturn, 1) := by decide +kernel
theorem dX9_feasts_0 : decode cX9_feasts 0 = .ok (.aload_n 0, 1) := by decide +kernel
theorem dX9_feasts_1 : decode cX9_feasts 1 = .ok (.invokevirtual 99, 3) := by decide +kernel
theorem dX9_feasts_4 : decode cX9_feasts 4 = .ok (.aload_n 0, 1) := by decide +kernel
theorem dX9_feasts_5 : decode cX9_feasts 5 = .ok (.getfield 95, 3) := by decide +kernel
theorem dX9_feasts_8 : decode cX9_feasts 8 = .ok (.ifCond .ne 6, 3) := by decide +kernel
theorem dX9_feasts_11 : decode cX9_feasts 11 = .ok (.bipush (-103), 2) := by decide +kernel
theorem dX9_feasts_13 : decode cX9_feasts 13 = .ok (.ireturn, 1) := by decide +kernel
theorem dX9_feasts_14 : decode cX9_feasts 14 = .ok (.aload_n 0, 1) := by decide +kernel
theorem dX9_feasts_15 : decode cX9_feasts 15 = .ok (.aload_n 0, 1) := by decide +kernel
theorem dX9_feasts_16 : decode cX9_feasts 16 = .ok (.getfield 82, 3) := by decide +kernel
theorem dX9_feasts_19 : decode cX9_feasts 19 = .ok (.putfield 102, 3) := by decide +kernel
theorem dX9_feasts_22 : decode cX9_feasts 22 = .ok (.iconst 0, 1) := by decide +kernel
theorem dX9_feasts_23 : decode cX9_feasts 23 = .ok (.istore_n 1, 1) := by decide +kernel
theorem dX9_feasts_24 : decode cX9_feasts 24 = .ok (.iload_n 1, 1) := by decide +kernel
theorem dX9_feasts_25 : decode cX9_feasts 25 = .ok (.bipush 6, 2) := by decide +kernel
theorem dX9_feasts_27 : decode cX9_feasts 27 = .ok (.if_icmp .ge 21, 3) := by decide +kernel
theorem dX9_feasts_30 : decode cX9_feasts 30 = .ok (.aload_n 0, 1) := by decide +kernel
theorem dX9_feasts_31 : decode cX9_feasts 31 = .ok (.getfield 7, 3) := by decide +kernel
theorem dX9_feasts_34 : decode cX9_feasts 34 = .ok (.iload_n 1, 1) := by decide +kernel
theorem dX9_feasts_35 : decode cX9_feasts 35 = .ok (.aload_n 0, 1) := by decide +kernel
theorem dX9_feasts_36 : decode cX9_feasts 36 = .ok (.getfield 45, 3) := by decide +kernel
theorem dX9_feasts_39 : decode cX9_feasts 39 = .ok (.iload_n 1, 1) := by decide +kernel
theorem dX9_feasts_40 : decode cX9_feasts 40 = .ok (.iaload, 1) := by decide +kernel
theorem dX9_feasts_41 : decode cX9_feasts 41 = .ok (.iastore, 1) := by decide +kernel
theorem dX9_feasts_42 : decode cX9_feasts 42 = .ok (.iinc 1 1, 3) := by decide +kernel
theorem dX9_feasts_45 : decode cX9_feasts 45 = .ok (.goto (-21), 3) := by decide +kernel
theorem dX9_feasts_48 : decode cX9_feasts 48 = .ok (.aload_n 0, 1) := by decide +kernel
theorem dX9_feasts_49 : decode cX9_feasts 49 = .ok (.dup, 1) := by decide +kernel
theorem dX9_feasts_50 : decode cX9_feasts 50 = .ok (.getfield 105, 3) := by decide +kernel
theorem dX9_feasts_53 : decode cX9_feasts 53 = .ok (.iconst 1, 1) := by decide +kernel
theorem dX9_feasts_54 : decode cX9_feasts 54 = .ok (.iadd, 1) := by decide +kernel
theorem dX9_feasts_55 : decode cX9_feasts 55 = .ok (.putfield 105, 3) := by decide +kernel
theorem dX9_feasts_58 : decode cX9_feasts 58 = .ok (.aload_n 0, 1) := by decide +kernel
theorem dX9_feasts_59 : decode cX9_feasts 59 = .ok (.iconst 0, 1) := by decide +kernel
theorem dX9_feasts_60 : decode cX9_feasts 60 = .ok (.putfield 79, 3) := by decide +kernel
theorem dX9_feasts_63 : decode cX9_feasts 63 = .ok (.aload_n 0, 1) := by decide +kernel
theorem dX9_feasts_64 : decode cX9_feasts 64 = .ok (.getfield 102, 3) := by decide +kernel
theorem dX9_feasts_67 : decode cX9_feasts 67 = .ok (.ireturn, 1) := by decide +kernel
theorem dX9_isFeast_0 : decode cX9_isFeast 0 = .ok (.iload_n 1, 1) := by decide +kernel
theorem dX9_isFeast_1 : decode cX9_isFeast 1 = .ok (.bipush 30, 2) := by decide +kernel
theorem dX9_isFeast_3 : decode cX9_isFeast 3 = .ok (.irem, 1) := by decide +kernel
theorem dX9_isFeast_4 : decode cX9_isFeast 4 = .ok (.istore_n 2, 1) := by decide +kernel
theorem dX9_isFeast_5 : decode cX9_isFeast 5 = .ok (.bipush 100, 2) := by decide +kernel
theorem dX9_isFeast_7 : decode cX9_isFeast 7 = .ok (.bipush 10, 2) := by decide +kernel
theorem dX9_isFeast_9 : decode cX9_isFeast 9 = .ok (.iload_n 1, 1) := by decide +kernel
theorem dX9_isFeast_10 : decode cX9_isFeast 10 = .ok (.bipush 7, 2) := by decide +kernel
theorem dX9_isFeast_12 : decode cX9_isFeast 12 = .ok (.irem, 1) := by decide +kernel
theorem dX9_isFeast_13 : decode cX9_isFeast 13 = .ok (.imul, 1) := by decide +kernel
theorem dX9_isFeast_14 : decode cX9_isFeast 14 = .ok (.iadd, 1) := by decide +kernel
theorem dX9_isFeast_15 : decode cX9_isFeast 15 = .ok (.iload_n 1, 1) := by decide +kernel
theorem dX9_isFeast_16 : decode cX9_isFeast 16 = .ok (.bipush 30, 2) := by decide +kernel
theorem dX9_isFeast_18 : decode cX9_isFeast 18 = .ok (.irem, 1) := by decide +kernel
theorem dX9_isFeast_19 : decode cX9_isFeast 19 = .ok (.bipush 7, 2) := by decide +kernel
theorem dX9_isFeast_21 : decode cX9_isFeast 21 = .ok (.idiv, 1) := by decide +kernel
theorem dX9_isFeast_22 : decode cX9_isFeast 22 = .ok (.iadd, 1) := by decide +kernel
theorem dX9_isFeast_23 : decode cX9_isFeast 23 = .ok (.iconst 1, 1) := by decide +kernel
theorem dX9_isFeast_24 : decode cX9_isFeast 24 = .ok (.iadd, 1) := by decide +kernel
theorem dX9_isFeast_25 : decode cX9_isFeast 25 = .ok (.istore_n 3, 1) := by decide +kernel
theorem dX9_isFeast_26 : decode cX9_isFeast 26 = .ok (.iconst 0, 1) := by decide +kernel
theorem dX9_isFeast_27 : decode cX9_isFeast 27 = .ok (.istore 4, 2) := by decide +kernel
theorem dX9_isFeast_29 : decode cX9_isFeast 29 = .ok (.iconst 0, 1) := by decide +kernel
theorem dX9_isFeast_30 : decode cX9_isFeast 30 = .ok (.istore 5, 2) := by decide +kernel
theorem dX9_isFeast_32 : decode cX9_isFeast 32 = .ok (.iload 5, 2) := by decide +kernel
theorem dX9_isFeast_34 : decode cX9_isFeast 34 = .ok (.aload_n 0, 1) := by decide +kernel
theorem dX9_isFeast_35 : decode cX9_isFeast 35 = .ok (.getfield 102, 3) := by decide +kernel
theorem dX9_isFeast_38 : decode cX9_isFeast 38 = .ok (.if_icmp .ge 43, 3) := by decide +kernel
theorem dX9_isFeast_41 : decode cX9_isFeast 41 = .ok (.iload 4, 2) := by decide +kernel
theorem dX9_isFeast_43 : decode cX9_isFeast 43 = .ok (.ifCond .ne 25, 3) := by decide +kernel
theorem dX9_isFeast_46 : decode cX9_isFeast 46 = .ok (.aload_n 0, 1) := by decide +kernel
theorem dX9_isFeast_47 : decode cX9_isFeast 47 = .ok (.getfield 7, 3) := by decide +kernel
theorem dX9_isFeast_50 : decode cX9_isFeast 50 = .ok (.iload 5, 2) := by decide +kernel
theorem dX9_isFeast_52 : decode cX9_isFeast 52 = .ok (.iaload, 1) := by decide +kernel
theorem dX9_isFeast_53 : decode cX9_isFeast 53 = .ok (.iload_n 2, 1) := by decide +kernel
theorem dX9_isFeast_54 : decode cX9_isFeast 54 = .ok (.if_icmp .eq 14, 3) := by decide +kernel
theorem dX9_isFeast_57 : decode cX9_isFeast 57 = .ok (.aload_n 0, 1) := by decide +kernel
theorem dX9_isFeast_58 : decode cX9_isFeast 58 = .ok (.getfield 7, 3) := by decide +kernel
theorem dX9_isFeast_61 : decode cX9_isFeast 61 = .ok (.iload 5, 2) := by decide +kernel
theorem dX9_isFeast_63 : decode cX9_isFeast 63 = .ok (.iaload, 1) := by decide +kernel
theorem dX9_isFeast_64 : decode cX9_isFeast 64 = .ok (.iload_n 3, 1) := by decide +kernel
theorem dX9_isFeast_65 : decode cX9_isFeast 65 = .ok (.if_icmp .ne 7, 3) := by decide +kernel
theorem dX9_isFeast_68 : decode cX9_isFeast 68 = .ok (.iconst 1, 1) := by decide +kernel
theorem dX9_isFeast_69 : decode cX9_isFeast 69 = .ok (.goto 4, 3) := by decide +kernel
theorem dX9_isFeast_72 : decode cX9_isFeast 72 = .ok (.iconst 0, 1) := by decide +kernel
theorem dX9_isFeast_73 : decode cX9_isFeast 73 = .ok (.istore 4, 2) := by decide +kernel
theorem dX9_isFeast_75 : decode cX9_isFeast 75 = .ok (.iinc 5 1, 3) := by decide +kernel
theorem dX9_isFeast_78 : decode cX9_isFeast 78 = .ok (.goto (-46), 3) := by decide +kernel
theorem dX9_isFeast_81 : decode cX9_isFeast 81 = .ok (.iload 4, 2) := by decide +kernel
theorem dX9_isFeast_83 : decode cX9_isFeast 83 = .ok (.ireturn, 1) := by decide +kernel
theorem dX9_nameOn_0 : decode cX9_nameOn 0 = .ok (.iload_n 0, 1) := by decide +kernel
theorem dX9_nameOn_1 : decode cX9_nameOn 1 = .ok (.bipush 30, 2) := by decide +kernel
theorem dX9_nameOn_3 : decode cX9_nameOn 3 = .ok (.irem, 1) := by decide +kernel
theorem dX9_nameOn_4 : decode cX9_nameOn 4 = .ok (.bipush 10, 2) := by decide +kernel
theorem dX9_nameOn_6 : decode cX9_nameOn 6 = .ok (.irem, 1) := by decide +kernel
theorem dX9_nameOn_7 : decode cX9_nameOn 7 = .ok (.ireturn, 1) := by decide +kernel
theorem dX9_dayTold_0 : decode cX9_dayTold 0 = .ok (.iload_n 2, 1) := by decide +kernel
theorem dX9_dayTold_1 : decode cX9_dayTold 1 = .ok (.tableswitch 51 0 2 #[27, 32, 37], 27) := by decide +kernel
theorem dX9_dayTold_28 : decode cX9_dayTold 28 = .ok (.iload_n 1, 1) := by decide +kernel
theorem dX9_dayTold_29 : decode cX9_dayTold 29 = .ok (.bipush 7, 2) := by decide +kernel
theorem dX9_dayTold_31 : decode cX9_dayTold 31 = .ok (.irem, 1) := by decide +kernel
theorem dX9_dayTold_32 : decode cX9_dayTold 32 = .ok (.ireturn, 1) := by decide +kernel
theorem dX9_dayTold_33 : decode cX9_dayTold 33 = .ok (.iload_n 1, 1) := by decide +kernel
theorem dX9_dayTold_34 : decode cX9_dayTold 34 = .ok (.invokestatic 108, 3) := by decide +kernel
theorem dX9_dayTold_37 : decode cX9_dayTold 37 = .ok (.ireturn, 1) := by decide +kernel
theorem dX9_dayTold_38 : decode cX9_dayTold 38 = .ok (.aload_n 0, 1) := by decide +kernel
theorem dX9_dayTold_39 : decode cX9_dayTold 39 = .ok (.iload_n 1, 1) := by decide +kernel
theorem dX9_dayTold_40 : decode cX9_dayTold 40 = .ok (.invokevirtual 112, 3) := by decide +kernel
theorem dX9_dayTold_43 : decode cX9_dayTold 43 = .ok (.ifCond .eq 7, 3) := by decide +kernel
theorem dX9_dayTold_46 : decode cX9_dayTold 46 = .ok (.iconst 1, 1) := by decide +kernel
theorem dX9_dayTold_47 : decode cX9_dayTold 47 = .ok (.goto 4, 3) := by decide +kernel
theorem dX9_dayTold_50 : decode cX9_dayTold 50 = .ok (.iconst 0, 1) := by decide +kernel
theorem dX9_dayTold_51 : decode cX9_dayTold 51 = .ok (.ireturn, 1) := by decide +kernel
theorem dX9_dayTold_52 : decode cX9_dayTold 52 = .ok (.iload_n 1, 1) := by decide +kernel
theorem dX9_dayTold_53 : decode cX9_dayTold 53 = .ok (.bipush 30, 2) := by decide +kernel
theorem dX9_dayTold_55 : decode cX9_dayTold 55 = .ok (.idiv, 1) := by decide +kernel
theorem dX9_dayTold_56 : decode cX9_dayTold 56 = .ok (.ireturn, 1) := by decide +kernel
theorem dX9_dayOf_0 : decode cX9_dayOf 0 = .ok (.iload_n 1, 1) := by decide +kernel
theorem dX9_dayOf_1 : decode cX9_dayOf 1 = .ok (.iconst 0, 1) := by decide +kernel
theorem dX9_dayOf_2 : decode cX9_dayOf 2 = .ok (.sipush 9999, 3) := by decide +kernel
theorem dX9_dayOf_5 : decode cX9_dayOf 5 = .ok (.invokestatic 75, 3) := by decide +kernel
theorem dX9_dayOf_8 : decode cX9_dayOf 8 = .ok (.ifCond .ne 6, 3) := by decide +kernel
theorem dX9_dayOf_11 : decode cX9_dayOf 11 = .ok (.bipush (-101), 2) := by decide +kernel
theorem dX9_dayOf_13 : decode cX9_dayOf 13 = .ok (.ireturn, 1) := by decide +kernel
theorem dX9_dayOf_14 : decode cX9_dayOf 14 = .ok (.iload_n 2, 1) := by decide +kernel
theorem dX9_dayOf_15 : decode cX9_dayOf 15 = .ok (.iconst 0, 1) := by decide +kernel
theorem dX9_dayOf_16 : decode cX9_dayOf 16 = .ok (.iconst 3, 1) := by decide +kernel
theorem dX9_dayOf_17 : decode cX9_dayOf 17 = .ok (.invokestatic 75, 3) := by decide +kernel
theorem dX9_dayOf_20 : decode cX9_dayOf 20 = .ok (.ifCond .eq 12, 3) := by decide +kernel
theorem dX9_dayOf_23 : decode cX9_dayOf 23 = .ok (.aload_n 0, 1) := by decide +kernel
theorem dX9_dayOf_24 : decode cX9_dayOf 24 = .ok (.iload_n 1, 1) := by decide +kernel
theorem dX9_dayOf_25 : decode cX9_dayOf 25 = .ok (.iload_n 2, 1) := by decide +kernel
theorem dX9_dayOf_26 : decode cX9_dayOf 26 = .ok (.invokevirtual 116, 3) := by decide +kernel
theorem dX9_dayOf_29 : decode cX9_dayOf 29 = .ok (.goto 5, 3) := by decide +kernel
theorem dX9_dayOf_32 : decode cX9_dayOf 32 = .ok (.bipush (-102), 2) := by decide +kernel
theorem dX9_dayOf_34 : decode cX9_dayOf 34 = .ok (.ireturn, 1) := by decide +kernel
theorem dX9_isCell_0 : decode cX9_isCell 0 = .ok (.iload_n 0, 1) := by decide +kernel
theorem dX9_isCell_1 : decode cX9_isCell 1 = .ok (.iconst 0, 1) := by decide +kernel
theorem dX9_isCell_2 : decode cX9_isCell 2 = .ok (.bipush 7, 2) := by decide +kernel
theorem dX9_isCell_4 : decode cX9_isCell 4 = .ok (.invokestatic 75, 3) := by decide +kernel
theorem dX9_isCell_7 : decode cX9_isCell 7 = .ok (.ireturn, 1) := by decide +kernel
theorem dX9_forge_0 : decode cX9_forge 0 = .ok (.iload_n 1, 1) := by decide +kernel
theorem dX9_forge_1 : decode cX9_forge 1 = .ok (.invokestatic 119, 3) := by decide +kernel
theorem dX9_forge_4 : decode cX9_forge 4 = .ok (.ifCond .ne 6, 3) := by decide +kernel
theorem dX9_forge_7 : decode cX9_forge 7 = .ok (.bipush (-101), 2) := by decide +kernel
theorem dX9_forge_9 : decode cX9_forge 9 = .ok (.ireturn, 1) := by decide +kernel
theorem dX9_forge_10 : decode cX9_forge 10 = .ok (.iload_n 2, 1) := by decide +kernel
theorem dX9_forge_11 : decode cX9_forge 11 = .ok (.iconst 0, 1) := by decide +kernel
theorem dX9_forge_12 : decode cX9_forge 12 = .ok (.bipush 29, 2) := by decide +kernel
theorem dX9_forge_14 : decode cX9_forge 14 = .ok (.invokestatic 75, 3) := by decide +kernel
theorem dX9_forge_17 : decode cX9_forge 17 = .ok (.ifCond .ne 6, 3) := by decide +kernel
theorem dX9_forge_20 : decode cX9_forge 20 = .ok (.bipush (-102), 2) := by decide +kernel
theorem dX9_forge_22 : decode cX9_forge 22 = .ok (.ireturn, 1) := by decide +kernel
theorem dX9_forge_23 : decode cX9_forge 23 = .ok (.aload_n 0, 1) := by decide +kernel
theorem dX9_forge_24 : decode cX9_forge 24 = .ok (.getfield 13, 3) := by decide +kernel
theorem dX9_forge_27 : decode cX9_forge 27 = .ok (.iload_n 1, 1) := by decide +kernel
theorem dX9_forge_28 : decode cX9_forge 28 = .ok (.iaload, 1) := by decide +kernel
theorem dX9_forge_29 : decode cX9_forge 29 = .ok (.istore_n 3, 1) := by decide +kernel
theorem dX9_forge_30 : decode cX9_forge 30 = .ok (.aload_n 0, 1) := by decide +kernel
theorem dX9_forge_31 : decode cX9_forge 31 = .ok (.getfield 13, 3) := by decide +kernel
theorem dX9_forge_34 : decode cX9_forge 34 = .ok (.iload_n 1, 1) := by decide +kernel
theorem dX9_forge_35 : decode cX9_forge 35 = .ok (.iload_n 2, 1) := by decide +kernel
theorem dX9_forge_36 : decode cX9_forge 36 = .ok (.iastore, 1) := by decide +kernel
theorem dX9_forge_37 : decode cX9_forge 37 = .ok (.iload_n 3, 1) := by decide +kernel
theorem dX9_forge_38 : decode cX9_forge 38 = .ok (.ireturn, 1) := by decide +kernel
theorem dX9_isPack_0 : decode cX9_isPack 0 = .ok (.iload_n 1, 1) := by decide +kernel
theorem dX9_isPack_1 : decode cX9_isPack 1 = .ok (.iconst 0, 1) := by decide +kernel
theorem dX9_isPack_2 : decode cX9_isPack 2 = .ok (.aload_n 0, 1) := by decide +kernel
theorem dX9_isPack_3 : decode cX9_isPack 3 = .ok (.getfield 122, 3) := by decide +kernel
theorem dX9_isPack_6 : decode cX9_isPack 6 = .ok (.iconst 1, 1) := by decide +kernel
theorem dX9_isPack_7 : decode cX9_isPack 7 = .ok (.isub, 1) := by decide +kernel
theorem dX9_isPack_8 : decode cX9_isPack 8 = .ok (.invokestatic 75, 3) := by decide +kernel
theorem dX9_isPack_11 : decode cX9_isPack 11 = .ok (.ireturn, 1) := by decide +kernel
theorem dX9_pack_0 : decode cX9_pack 0 = .ok (.iload_n 2, 1) := by decide +kernel
theorem dX9_pack_1 : decode cX9_pack 1 = .ok (.invokestatic 119, 3) := by decide +kernel
theorem dX9_pack_4 : decode cX9_pack 4 = .ok (.ifCond .ne 6, 3) := by decide +kernel
theorem dX9_pack_7 : decode cX9_pack 7 = .ok (.bipush (-101), 2) := by decide +kernel
theorem dX9_pack_9 : decode cX9_pack 9 = .ok (.ireturn, 1) := by decide +kernel
theorem dX9_pack_10 : decode cX9_pack 10 = .ok (.iload_n 1, 1) := by decide +kernel
theorem dX9_pack_11 : decode cX9_pack 11 = .ok (.iconst 0, 1) := by decide +kernel
theorem dX9_pack_12 : decode cX9_pack 12 = .ok (.iconst 4, 1) := by decide +kernel
theorem dX9_pack_13 : decode cX9_pack 13 = .ok (.invokestatic 75, 3) := by decide +kernel
theorem dX9_pack_16 : decode cX9_pack 16 = .ok (.ifCond .eq 13, 3) := by decide +kernel
theorem dX9_pack_19 : decode cX9_pack 19 = .ok (.iload_n 3, 1) := by decide +kernel
theorem dX9_pack_20 : decode cX9_pack 20 = .ok (.iconst 0, 1) := by decide +kernel
theorem dX9_pack_21 : decode cX9_pack 21 = .ok (.bipush 9, 2) := by decide +kernel
theorem dX9_pack_23 : decode cX9_pack 23 = .ok (.invokestatic 75, 3) := by decide +kernel
theorem dX9_pack_26 : decode cX9_pack 26 = .ok (.ifCond .ne 6, 3) := by decide +kernel
theorem dX9_pack_29 : decode cX9_pack 29 = .ok (.bipush (-102), 2) := by decide +kernel
theorem dX9_pack_31 : decode cX9_pack 31 = .ok (.ireturn, 1) := by decide +kernel
theorem dX9_pack_32 : decode cX9_pack 32 = .ok (.aload_n 0, 1) := by decide +kernel
theorem dX9_pack_33 : decode cX9_pack 33 = .ok (.getfield 122, 3) := by decide +kernel
theorem dX9_pack_36 : decode cX9_pack 36 = .ok (.iconst 4, 1) := by decide +kernel
theorem dX9_pack_37 : decode cX9_pack 37 = .ok (.if_icmp .ne 6, 3) := by decide +kernel
theorem dX9_pack_40 : decode cX9_pack 40 = .ok (.bipush (-104), 2) := by decide +kernel
theorem dX9_pack_42 : decode cX9_pack 42 = .ok (.ireturn, 1) := by decide +kernel
theorem dX9_pack_43 : decode cX9_pack 43 = .ok (.aload_n 0, 1) := by decide +kernel
theorem dX9_pack_44 : decode cX9_pack 44 = .ok (.getfield 16, 3) := by decide +kernel
theorem dX9_pack_47 : decode cX9_pack 47 = .ok (.aload_n 0, 1) := by decide +kernel
theorem dX9_pack_48 : decode cX9_pack 48 = .ok (.getfield 122, 3) := by decide +kernel
theorem dX9_pack_51 : decode cX9_pack 51 = .ok (.iload_n 1, 1) := by decide +kernel
theorem dX9_pack_52 : decode cX9_pack 52 = .ok (.iastore, 1) := by decide +kernel
theorem dX9_pack_53 : decode cX9_pack 53 = .ok (.aload_n 0, 1) := by decide +kernel
theorem dX9_pack_54 : decode cX9_pack 54 = .ok (.getfield 19, 3) := by decide +kernel
theorem dX9_pack_57 : decode cX9_pack 57 = .ok (.aload_n 0, 1) := by decide +kernel
theorem dX9_pack_58 : decode cX9_pack 58 = .ok (.getfield 122, 3) := by decide +kernel
theorem dX9_pack_61 : decode cX9_pack 61 = .ok (.iload_n 2, 1) := by decide +kernel
theorem dX9_pack_62 : decode cX9_pack 62 = .ok (.iastore, 1) := by decide +kernel
theorem dX9_pack_63 : decode cX9_pack 63 = .ok (.aload_n 0, 1) := by decide +kernel
theorem dX9_pack_64 : decode cX9_pack 64 = .ok (.getfield 22, 3) := by decide +kernel
theorem dX9_pack_67 : decode cX9_pack 67 = .ok (.aload_n 0, 1) := by decide +kernel
theorem dX9_pack_68 : decode cX9_pack 68 = .ok (.getfield 122, 3) := by decide +kernel
theorem dX9_pack_71 : decode cX9_pack 71 = .ok (.iload_n 3, 1) := by decide +kernel
theorem dX9_pack_72 : decode cX9_pack 72 = .ok (.iastore, 1) := by decide +kernel
theorem dX9_pack_73 : decode cX9_pack 73 = .ok (.aload_n 0, 1) := by decide +kernel
theorem dX9_pack_74 : decode cX9_pack 74 = .ok (.dup, 1) := by decide +kernel
theorem dX9_pack_75 : decode cX9_pack 75 = .ok (.getfield 122, 3) := by decide +kernel
theorem dX9_pack_78 : decode cX9_pack 78 = .ok (.iconst 1, 1) := by decide +kernel
theorem dX9_pack_79 : decode cX9_pack 79 = .ok (.iadd, 1) := by decide +kernel
theorem dX9_pack_80 : decode cX9_pack 80 = .ok (.putfield 122, 3) := by decide +kernel
theorem dX9_pack_83 : decode cX9_pack 83 = .ok (.aload_n 0, 1) := by decide +kernel
theorem dX9_pack_84 : decode cX9_pack 84 = .ok (.getfield 122, 3) := by decide +kernel
theorem dX9_pack_87 : decode cX9_pack 87 = .ok (.iconst 1, 1) := by decide +kernel
theorem dX9_pack_88 : decode cX9_pack 88 = .ok (.isub, 1) := by decide +kernel
theorem dX9_pack_89 : decode cX9_pack 89 = .ok (.ireturn, 1) := by decide +kernel
theorem dX9_readsBy_0 : decode cX9_readsBy 0 = .ok (.iload_n 3, 1) := by decide +kernel
theorem dX9_readsBy_1 : decode cX9_readsBy 1 = .ok (.iload_n 1, 1) := by decide +kernel
theorem dX9_readsBy_2 : decode cX9_readsBy 2 = .ok (.iadd, 1) := by decide +kernel
theorem dX9_readsBy_3 : decode cX9_readsBy 3 = .ok (.sipush 210, 3) := by decide +kernel
theorem dX9_readsBy_6 : decode cX9_readsBy 6 = .ok (.iadd, 1) := by decide +kernel
theorem dX9_readsBy_7 : decode cX9_readsBy 7 = .ok (.iload_n 0, 1) := by decide +kernel
theorem dX9_readsBy_8 : decode cX9_readsBy 8 = .ok (.iconst 3, 1) := by decide +kernel
theorem dX9_readsBy_9 : decode cX9_readsBy 9 = .ok (.if_icmp .eq 8, 3) := by decide +kernel
theorem dX9_readsBy_12 : decode cX9_readsBy 12 = .ok (.iload_n 0, 1) := by decide +kernel
theorem dX9_readsBy_13 : decode cX9_readsBy 13 = .ok (.iconst 4, 1) := by decide +kernel
theorem dX9_readsBy_14 : decode cX9_readsBy 14 = .ok (.if_icmp .ne 7, 3) := by decide +kernel
theorem dX9_readsBy_17 : decode cX9_readsBy 17 = .ok (.iload_n 2, 1) := by decide +kernel
theorem dX9_readsBy_18 : decode cX9_readsBy 18 = .ok (.goto 4, 3) := by decide +kernel
theorem dX9_readsBy_21 : decode cX9_readsBy 21 = .ok (.iconst 0, 1) := by decide +kernel
theorem dX9_readsBy_22 : decode cX9_readsBy 22 = .ok (.isub, 1) := by decide +kernel
theorem dX9_readsBy_23 : decode cX9_readsBy 23 = .ok (.ireturn, 1) := by decide +kernel
theorem dX9_fastsBy_0 : decode cX9_fastsBy 0 = .ok (.iload_n 1, 1) := by decide +kernel
theorem dX9_fastsBy_1 : decode cX9_fastsBy 1 = .ok (.iload_n 2, 1) := by decide +kernel
theorem dX9_fastsBy_2 : decode cX9_fastsBy 2 = .ok (.iload_n 3, 1) := by decide +kernel
theorem dX9_fastsBy_3 : decode cX9_fastsBy 3 = .ok (.iload 4, 2) := by decide +kernel
theorem dX9_fastsBy_5 : decode cX9_fastsBy 5 = .ok (.invokestatic 125, 3) := by decide +kernel
theorem dX9_fastsBy_8 : decode cX9_fastsBy 8 = .ok (.istore 5, 2) := by decide +kernel
theorem dX9_fastsBy_10 : decode cX9_fastsBy 10 = .ok (.iload 5, 2) := by decide +kernel
theorem dX9_fastsBy_12 : decode cX9_fastsBy 12 = .ok (.bipush 7, 2) := by decide +kernel
theorem dX9_fastsBy_14 : decode cX9_fastsBy 14 = .ok (.irem, 1) := by decide +kernel
theorem dX9_fastsBy_15 : decode cX9_fastsBy 15 = .ok (.iconst 5, 1) := by decide +kernel
theorem dX9_fastsBy_16 : decode cX9_fastsBy 16 = .ok (.if_icmp .ne 12, 3) := by decide +kernel
theorem dX9_fastsBy_19 : decode cX9_fastsBy 19 = .ok (.iload_n 1, 1) := by decide +kernel
theorem dX9_fastsBy_20 : decode cX9_fastsBy 20 = .ok (.iconst 2, 1) := by decide +kernel
theorem dX9_fastsBy_21 : decode cX9_fastsBy 21 = .ok (.if_icmp .eq 7, 3) := by decide +kernel
theorem dX9_fastsBy_24 : decode cX9_fastsBy 24 = .ok (.iconst 1, 1) := by decide +kernel
theorem dX9_fastsBy_25 : decode cX9_fastsBy 25 = .ok (.goto 4, 3) := by decide +kernel
theorem dX9_fastsBy_28 : decode cX9_fastsBy 28 = .ok (.iconst 0, 1) := by decide +kernel
theorem dX9_fastsBy_29 : decode cX9_fastsBy 29 = .ok (.istore 6, 2) := by decide +kernel
theorem dX9_fastsBy_31 : decode cX9_fastsBy 31 = .ok (.iload 6, 2) := by decide +kernel
theorem dX9_fastsBy_33 : decode cX9_fastsBy 33 = .ok (.ifCond .ne 33, 3) := by decide +kernel
theorem dX9_fastsBy_36 : decode cX9_fastsBy 36 = .ok (.iload_n 1, 1) := by decide +kernel
theorem dX9_fastsBy_37 : decode cX9_fastsBy 37 = .ok (.iconst 1, 1) := by decide +kernel
theorem dX9_fastsBy_38 : decode cX9_fastsBy 38 = .ok (.if_icmp .eq 12, 3) := by decide +kernel
theorem dX9_fastsBy_41 : decode cX9_fastsBy 41 = .ok (.aload_n 0, 1) := by decide +kernel
theorem dX9_fastsBy_42 : decode cX9_fastsBy 42 = .ok (.iload 5, 2) := by decide +kernel
theorem dX9_fastsBy_44 : decode cX9_fastsBy 44 = .ok (.invokevirtual 112, 3) := by decide +kernel
theorem dX9_fastsBy_47 : decode cX9_fastsBy 47 = .ok (.ifCond .ne 19, 3) := by decide +kernel
theorem dX9_fastsBy_50 : decode cX9_fastsBy 50 = .ok (.iload_n 1, 1) := by decide +kernel
theorem dX9_fastsBy_51 : decode cX9_fastsBy 51 = .ok (.iconst 4, 1) := by decide +kernel
theorem dX9_fastsBy_52 : decode cX9_fastsBy 52 = .ok (.if_icmp .ne 18, 3) := by decide +kernel
theorem dX9_fastsBy_55 : decode cX9_fastsBy 55 = .ok (.aload_n 0, 1) := by decide +kernel
theorem dX9_fastsBy_56 : decode cX9_fastsBy 56 = .ok (.iload 5, 2) := by decide +kernel
theorem dX9_fastsBy_58 : decode cX9_fastsBy 58 = .ok (.iconst 1, 1) := by decide +kernel
theorem dX9_fastsBy_59 : decode cX9_fastsBy 59 = .ok (.iadd, 1) := by decide +kernel
theorem dX9_fastsBy_60 : decode cX9_fastsBy 60 = .ok (.invokevirtual 112, 3) := by decide +kernel
theorem dX9_fastsBy_63 : decode cX9_fastsBy 63 = .ok (.ifCond .eq 7, 3) := by decide +kernel
theorem dX9_fastsBy_66 : decode cX9_fastsBy 66 = .ok (.iconst 1, 1) := by decide +kernel
theorem dX9_fastsBy_67 : decode cX9_fastsBy 67 = .ok (.goto 4, 3) := by decide +kernel
theorem dX9_fastsBy_70 : decode cX9_fastsBy 70 = .ok (.iconst 0, 1) := by decide +kernel
theorem dX9_fastsBy_71 : decode cX9_fastsBy 71 = .ok (.ireturn, 1) := by decide +kernel
theorem dX9_fasts_0 : decode cX9_fasts 0 = .ok (.aload_n 0, 1) := by decide +kernel
theorem dX9_fasts_1 : decode cX9_fasts 1 = .ok (.aload_n 0, 1) := by decide +kernel
theorem dX9_fasts_2 : decode cX9_fasts 2 = .ok (.getfield 16, 3) := by decide +kernel
theorem dX9_fasts_5 : decode cX9_fasts 5 = .ok (.iload_n 1, 1) := by decide +kernel
theorem dX9_fasts_6 : decode cX9_fasts 6 = .ok (.iaload, 1) := by decide +kernel
theorem dX9_fasts_7 : decode cX9_fasts 7 = .ok (.aload_n 0, 1) := by decide +kernel
theorem dX9_fasts_8 : decode cX9_fasts 8 = .ok (.getfield 13, 3) := by decide +kernel
theorem dX9_fasts_11 : decode cX9_fasts 11 = .ok (.aload_n 0, 1) := by decide +kernel
theorem dX9_fasts_12 : decode cX9_fasts 12 = .ok (.getfield 19, 3) := by decide +kernel
theorem dX9_fasts_15 : decode cX9_fasts 15 = .ok (.iload_n 1, 1) := by decide +kernel
theorem dX9_fasts_16 : decode cX9_fasts 16 = .ok (.iaload, 1) := by decide +kernel
theorem dX9_fasts_17 : decode cX9_fasts 17 = .ok (.iaload, 1) := by decide +kernel
theorem dX9_fasts_18 : decode cX9_fasts 18 = .ok (.aload_n 0, 1) := by decide +kernel
theorem dX9_fasts_19 : decode cX9_fasts 19 = .ok (.getfield 22, 3) := by decide +kernel
theorem dX9_fasts_22 : decode cX9_fasts 22 = .ok (.iload_n 1, 1) := by decide +kernel
theorem dX9_fasts_23 : decode cX9_fasts 23 = .ok (.iaload, 1) := by decide +kernel
theorem dX9_fasts_24 : decode cX9_fasts 24 = .ok (.iload_n 2, 1) := by decide +kernel
theorem dX9_fasts_25 : decode cX9_fasts 25 = .ok (.invokevirtual 129, 3) := by decide +kernel
theorem dX9_fasts_28 : decode cX9_fasts 28 = .ok (.ireturn, 1) := by decide +kernel
theorem dX9_readsNow_0 : decode cX9_readsNow 0 = .ok (.aload_n 0, 1) := by decide +kernel
theorem dX9_readsNow_1 : decode cX9_readsNow 1 = .ok (.getfield 16, 3) := by decide +kernel
theorem dX9_readsNow_4 : decode cX9_readsNow 4 = .ok (.iload_n 1, 1) := by decide +kernel
theorem dX9_readsNow_5 : decode cX9_readsNow 5 = .ok (.iaload, 1) := by decide +kernel
theorem dX9_readsNow_6 : decode cX9_readsNow 6 = .ok (.aload_n 0, 1) := by decide +kernel
theorem dX9_readsNow_7 : decode cX9_readsNow 7 = .ok (.getfield 13, 3) := by decide +kernel
theorem dX9_readsNow_10 : decode cX9_readsNow 10 = .ok (.aload_n 0, 1) := by decide +kernel
theorem dX9_readsNow_11 : decode cX9_readsNow 11 = .ok (.getfield 19, 3) := by decide +kernel
theorem dX9_readsNow_14 : decode cX9_readsNow 14 = .ok (.iload_n 1, 1) := by decide +kernel
theorem dX9_readsNow_15 : decode cX9_readsNow 15 = .ok (.iaload, 1) := by decide +kernel
theorem dX9_readsNow_16 : decode cX9_readsNow 16 = .ok (.iaload, 1) := by decide +kernel
theorem dX9_readsNow_17 : decode cX9_readsNow 17 = .ok (.aload_n 0, 1) := by decide +kernel
theorem dX9_readsNow_18 : decode cX9_readsNow 18 = .ok (.getfield 22, 3) := by decide +kernel
theorem dX9_readsNow_21 : decode cX9_readsNow 21 = .ok (.iload_n 1, 1) := by decide +kernel
theorem dX9_readsNow_22 : decode cX9_readsNow 22 = .ok (.iaload, 1) := by decide +kernel
theorem dX9_readsNow_23 : decode cX9_readsNow 23 = .ok (.iload_n 2, 1) := by decide +kernel
theorem dX9_readsNow_24 : decode cX9_readsNow 24 = .ok (.invokestatic 125, 3) := by decide +kernel
theorem dX9_readsNow_27 : decode cX9_readsNow 27 = .ok (.ireturn, 1) := by decide +kernel
theorem dX9_preyIn_0 : decode cX9_preyIn 0 = .ok (.iconst (-1), 1) := by decide +kernel
theorem dX9_preyIn_1 : decode cX9_preyIn 1 = .ok (.istore_n 3, 1) := by decide +kernel
theorem dX9_preyIn_2 : decode cX9_preyIn 2 = .ok (.aload_n 0, 1) := by decide +kernel
theorem dX9_preyIn_3 : decode cX9_preyIn 3 = .ok (.getfield 133, 3) := by decide +kernel
theorem dX9_preyIn_6 : decode cX9_preyIn 6 = .ok (.iconst 1, 1) := by decide +kernel
theorem dX9_preyIn_7 : decode cX9_preyIn 7 = .ok (.isub, 1) := by decide +kernel
theorem dX9_preyIn_8 : decode cX9_preyIn 8 = .ok (.istore 4, 2) := by decide +kernel
theorem dX9_preyIn_10 : decode cX9_preyIn 10 = .ok (.iload 4, 2) := by decide +kernel
theorem dX9_preyIn_12 : decode cX9_preyIn 12 = .ok (.ifCond .lt 49, 3) := by decide +kernel
theorem dX9_preyIn_15 : decode cX9_preyIn 15 = .ok (.aload_n 0, 1) := by decide +kernel
theorem dX9_preyIn_16 : decode cX9_preyIn 16 = .ok (.getfield 28, 3) := by decide +kernel
theorem dX9_preyIn_19 : decode cX9_preyIn 19 = .ok (.iload 4, 2) := by decide +kernel
theorem dX9_preyIn_21 : decode cX9_preyIn 21 = .ok (.iaload, 1) := by decide +kernel
theorem dX9_preyIn_22 : decode cX9_preyIn 22 = .ok (.iload_n 1, 1) := by decide +kernel
theorem dX9_preyIn_23 : decode cX9_preyIn 23 = .ok (.if_icmp .ne 30, 3) := by decide +kernel
theorem dX9_preyIn_26 : decode cX9_preyIn 26 = .ok (.aload_n 0, 1) := by decide +kernel
theorem dX9_preyIn_27 : decode cX9_preyIn 27 = .ok (.getfield 31, 3) := by decide +kernel
theorem dX9_preyIn_30 : decode cX9_preyIn 30 = .ok (.iload 4, 2) := by decide +kernel
theorem dX9_preyIn_32 : decode cX9_preyIn 32 = .ok (.iaload, 1) := by decide +kernel
theorem dX9_preyIn_33 : decode cX9_preyIn 33 = .ok (.iconst (-1), 1) := by decide +kernel
theorem dX9_preyIn_34 : decode cX9_preyIn 34 = .ok (.if_icmp .ne 19, 3) := by decide +kernel
theorem dX9_preyIn_37 : decode cX9_preyIn 37 = .ok (.aload_n 0, 1) := by decide +kernel
theorem dX9_preyIn_38 : decode cX9_preyIn 38 = .ok (.getfield 25, 3) := by decide +kernel
theorem dX9_preyIn_41 : decode cX9_preyIn 41 = .ok (.iload 4, 2) := by decide +kernel
theorem dX9_preyIn_43 : decode cX9_preyIn 43 = .ok (.iaload, 1) := by decide +kernel
theorem dX9_preyIn_44 : decode cX9_preyIn 44 = .ok (.iload_n 2, 1) := by decide +kernel
theorem dX9_preyIn_45 : decode cX9_preyIn 45 = .ok (.if_icmp .eq 8, 3) := by decide +kernel
theorem dX9_preyIn_48 : decode cX9_preyIn 48 = .ok (.iload 4, 2) := by decide +kernel
theorem dX9_preyIn_50 : decode cX9_preyIn 50 = .ok (.goto 4, 3) := by decide +kernel
theorem dX9_preyIn_53 : decode cX9_preyIn 53 = .ok (.iload_n 3, 1) := by decide +kernel
theorem dX9_preyIn_54 : decode cX9_preyIn 54 = .ok (.istore_n 3, 1) := by decide +kernel
theorem dX9_preyIn_55 : decode cX9_preyIn 55 = .ok (.iinc 4 (-1), 3) := by decide +kernel
theorem dX9_preyIn_58 : decode cX9_preyIn 58 = .ok (.goto (-48), 3) := by decide +kernel
theorem dX9_preyIn_61 : decode cX9_preyIn 61 = .ok (.iload_n 3, 1) := by decide +kernel
theorem dX9_preyIn_62 : decode cX9_preyIn 62 = .ok (.ireturn, 1) := by decide +kernel
theorem dX9_prey_0 : decode cX9_prey 0 = .ok (.aload_n 0, 1) := by decide +kernel
theorem dX9_prey_1 : decode cX9_prey 1 = .ok (.iload_n 1, 1) := by decide +kernel
theorem dX9_prey_2 : decode cX9_prey 2 = .ok (.iload_n 2, 1) := by decide +kernel
theorem dX9_prey_3 : decode cX9_prey 3 = .ok (.invokevirtual 136, 3) := by decide +kernel
theorem dX9_prey_6 : decode cX9_prey 6 = .ok (.ifCond .eq 5, 3) := by decide +kernel
theorem dX9_prey_9 : decode cX9_prey 9 = .ok (.iconst (-1), 1) := by decide +kernel
theorem dX9_prey_10 : decode cX9_prey 10 = .ok (.ireturn, 1) := by decide +kernel
theorem dX9_prey_11 : decode cX9_prey 11 = .ok (.aload_n 0, 1) := by decide +kernel
theorem dX9_prey_12 : decode cX9_prey 12 = .ok (.iload_n 1, 1) := by decide +kernel
theorem dX9_prey_13 : decode cX9_prey 13 = .ok (.iload_n 2, 1) := by decide +kernel
theorem dX9_prey_14 : decode cX9_prey 14 = .ok (.invokevirtual 140, 3) := by decide +kernel
theorem dX9_prey_17 : decode cX9_prey 17 = .ok (.invokestatic 108, 3) := by decide +kernel
theorem dX9_prey_20 : decode cX9_prey 20 = .ok (.istore_n 3, 1) := by decide +kernel
theorem dX9_prey_21 : decode cX9_prey 21 = .ok (.aload_n 0, 1) := by decide +kernel
theorem dX9_prey_22 : decode cX9_prey 22 = .ok (.aload_n 0, 1) := by decide +kernel
theorem dX9_prey_23 : decode cX9_prey 23 = .ok (.getfield 19, 3) := by decide +kernel
theorem dX9_prey_26 : decode cX9_prey 26 = .ok (.iload_n 1, 1) := by decide +kernel
theorem dX9_prey_27 : decode cX9_prey 27 = .ok (.iaload, 1) := by decide +kernel
theorem dX9_prey_28 : decode cX9_prey 28 = .ok (.iload_n 3, 1) := by decide +kernel
theorem dX9_prey_29 : decode cX9_prey 29 = .ok (.invokevirtual 143, 3) := by decide +kernel
theorem dX9_prey_32 : decode cX9_prey 32 = .ok (.istore 4, 2) := by decide +kernel
theorem dX9_prey_34 : decode cX9_prey 34 = .ok (.aload_n 0, 1) := by decide +kernel
theorem dX9_prey_35 : decode cX9_prey 35 = .ok (.aload_n 0, 1) := by decide +kernel
theorem dX9_prey_36 : decode cX9_prey 36 = .ok (.getfield 19, 3) := by decide +kernel
theorem dX9_prey_39 : decode cX9_prey 39 = .ok (.iload_n 1, 1) := by decide +kernel
theorem dX9_prey_40 : decode cX9_prey 40 = .ok (.iaload, 1) := by decide +kernel
theorem dX9_prey_41 : decode cX9_prey 41 = .ok (.iconst 1, 1) := by decide +kernel
theorem dX9_prey_42 : decode cX9_prey 42 = .ok (.isub, 1) := by decide +kernel
theorem dX9_prey_43 : decode cX9_prey 43 = .ok (.iload_n 3, 1) := by decide +kernel
theorem dX9_prey_44 : decode cX9_prey 44 = .ok (.invokevirtual 143, 3) := by decide +kernel
theorem dX9_prey_47 : decode cX9_prey 47 = .ok (.istore 5, 2) := by decide +kernel
theorem dX9_prey_49 : decode cX9_prey 49 = .ok (.iload 4, 2) := by decide +kernel
theorem dX9_prey_51 : decode cX9_prey 51 = .ok (.iconst (-1), 1) := by decide +kernel
theorem dX9_prey_52 : decode cX9_prey 52 = .ok (.if_icmp .eq 8, 3) := by decide +kernel
theorem dX9_prey_55 : decode cX9_prey 55 = .ok (.iload 4, 2) := by decide +kernel
theorem dX9_prey_57 : decode cX9_prey 57 = .ok (.goto 27, 3) := by decide +kernel
theorem dX9_prey_60 : decode cX9_prey 60 = .ok (.iload 5, 2) := by decide +kernel
theorem dX9_prey_62 : decode cX9_prey 62 = .ok (.iconst (-1), 1) := by decide +kernel
theorem dX9_prey_63 : decode cX9_prey 63 = .ok (.if_icmp .eq 8, 3) := by decide +kernel
theorem dX9_prey_66 : decode cX9_prey 66 = .ok (.iload 5, 2) := by decide +kernel
theorem dX9_prey_68 : decode cX9_prey 68 = .ok (.goto 16, 3) := by decide +kernel
theorem dX9_prey_71 : decode cX9_prey 71 = .ok (.aload_n 0, 1) := by decide +kernel
theorem dX9_prey_72 : decode cX9_prey 72 = .ok (.aload_n 0, 1) := by decide +kernel
theorem dX9_prey_73 : decode cX9_prey 73 = .ok (.getfield 19, 3) := by decide +kernel
theorem dX9_prey_76 : decode cX9_prey 76 = .ok (.iload_n 1, 1) := by decide +kernel
theorem dX9_prey_77 : decode cX9_prey 77 = .ok (.iaload, 1) := by decide +kernel
theorem dX9_prey_78 : decode cX9_prey 78 = .ok (.iconst 1, 1) := by decide +kernel
theorem dX9_prey_79 : decode cX9_prey 79 = .ok (.iadd, 1) := by decide +kernel
theorem dX9_prey_80 : decode cX9_prey 80 = .ok (.iload_n 3, 1) := by decide +kernel
theorem dX9_prey_81 : decode cX9_prey 81 = .ok (.invokevirtual 143, 3) := by decide +kernel
theorem dX9_prey_84 : decode cX9_prey 84 = .ok (.ireturn, 1) := by decide +kernel
theorem dX9_eatenMany_0 : decode cX9_eatenMany 0 = .ok (.iconst 0, 1) := by decide +kernel
theorem dX9_eatenMany_1 : decode cX9_eatenMany 1 = .ok (.istore_n 2, 1) := by decide +kernel
theorem dX9_eatenMany_2 : decode cX9_eatenMany 2 = .ok (.iconst 0, 1) := by decide +kernel
theorem dX9_eatenMany_3 : decode cX9_eatenMany 3 = .ok (.istore_n 3, 1) := by decide +kernel
theorem dX9_eatenMany_4 : decode cX9_eatenMany 4 = .ok (.iload_n 3, 1) := by decide +kernel
theorem dX9_eatenMany_5 : decode cX9_eatenMany 5 = .ok (.aload_n 0, 1) := by decide +kernel
theorem dX9_eatenMany_6 : decode cX9_eatenMany 6 = .ok (.getfield 133, 3) := by decide +kernel
theorem dX9_eatenMany_9 : decode cX9_eatenMany 9 = .ok (.if_icmp .ge 27, 3) := by decide +kernel
theorem dX9_eatenMany_12 : decode cX9_eatenMany 12 = .ok (.iload_n 2, 1) := by decide +kernel
theorem dX9_eatenMany_13 : decode cX9_eatenMany 13 = .ok (.aload_n 0, 1) := by decide +kernel
theorem dX9_eatenMany_14 : decode cX9_eatenMany 14 = .ok (.getfield 31, 3) := by decide +kernel
theorem dX9_eatenMany_17 : decode cX9_eatenMany 17 = .ok (.iload_n 3, 1) := by decide +kernel
theorem dX9_eatenMany_18 : decode cX9_eatenMany 18 = .ok (.iaload, 1) := by decide +kernel
theorem dX9_eatenMany_19 : decode cX9_eatenMany 19 = .ok (.iload_n 1, 1) := by decide +kernel
theorem dX9_eatenMany_20 : decode cX9_eatenMany 20 = .ok (.if_icmp .ne 7, 3) := by decide +kernel
theorem dX9_eatenMany_23 : decode cX9_eatenMany 23 = .ok (.iconst 1, 1) := by decide +kernel
theorem dX9_eatenMany_24 : decode cX9_eatenMany 24 = .ok (.goto 4, 3) := by decide +kernel
theorem dX9_eatenMany_27 : decode cX9_eatenMany 27 = .ok (.iconst 0, 1) := by decide +kernel
theorem dX9_eatenMany_28 : decode cX9_eatenMany 28 = .ok (.iadd, 1) := by decide +kernel
theorem dX9_eatenMany_29 : decode cX9_eatenMany 29 = .ok (.istore_n 2, 1) := by decide +kernel
theorem dX9_eatenMany_30 : decode cX9_eatenMany 30 = .ok (.iinc 3 1, 3) := by decide +kernel
theorem dX9_eatenMany_33 : decode cX9_eatenMany 33 = .ok (.goto (-29), 3) := by decide +kernel
theorem dX9_eatenMany_36 : decode cX9_eatenMany 36 = .ok (.iload_n 2, 1) := by decide +kernel
theorem dX9_eatenMany_37 : decode cX9_eatenMany 37 = .ok (.ireturn, 1) := by decide +kernel
theorem dX9_packNow_0 : decode cX9_packNow 0 = .ok (.iload_n 2, 1) := by decide +kernel
theorem dX9_packNow_1 : decode cX9_packNow 1 = .ok (.tableswitch 98 0 5 #[39, 46, 53, 60, 70, 88], 39) := by decide +kernel
theorem dX9_packNow_40 : decode cX9_packNow 40 = .ok (.aload_n 0, 1) := by decide +kernel
theorem dX9_packNow_41 : decode cX9_packNow 41 = .ok (.getfield 16, 3) := by decide +kernel
theorem dX9_packNow_44 : decode cX9_packNow 44 = .ok (.iload_n 1, 1) := by decide +kernel
theorem dX9_packNow_45 : decode cX9_packNow 45 = .ok (.iaload, 1) := by decide +kernel
theorem dX9_packNow_46 : decode cX9_packNow 46 = .ok (.ireturn, 1) := by decide +kernel
theorem dX9_packNow_47 : decode cX9_packNow 47 = .ok (.aload_n 0, 1) := by decide +kernel
theorem dX9_packNow_48 : decode cX9_packNow 48 = .ok (.getfield 19, 3) := by decide +kernel
theorem dX9_packNow_51 : decode cX9_packNow 51 = .ok (.iload_n 1, 1) := by decide +kernel
theorem dX9_packNow_52 : decode cX9_packNow 52 = .ok (.iaload, 1) := by decide +kernel
theorem dX9_packNow_53 : decode cX9_packNow 53 = .ok (.ireturn, 1) := by decide +kernel
theorem dX9_packNow_54 : decode cX9_packNow 54 = .ok (.aload_n 0, 1) := by decide +kernel
theorem dX9_packNow_55 : decode cX9_packNow 55 = .ok (.getfield 22, 3) := by decide +kernel
theorem dX9_packNow_58 : decode cX9_packNow 58 = .ok (.iload_n 1, 1) := by decide +kernel
theorem dX9_packNow_59 : decode cX9_packNow 59 = .ok (.iaload, 1) := by decide +kernel
theorem dX9_packNow_60 : decode cX9_packNow 60 = .ok (.ireturn, 1) := by decide +kernel
theorem dX9_packNow_61 : decode cX9_packNow 61 = .ok (.aload_n 0, 1) := by decide +kernel
theorem dX9_packNow_62 : decode cX9_packNow 62 = .ok (.iload_n 1, 1) := by decide +kernel
theorem dX9_packNow_63 : decode cX9_packNow 63 = .ok (.aload_n 0, 1) := by decide +kernel
theorem dX9_packNow_64 : decode cX9_packNow 64 = .ok (.getfield 146, 3) := by decide +kernel
theorem dX9_packNow_67 : decode cX9_packNow 67 = .ok (.invokevirtual 140, 3) := by decide +kernel
theorem dX9_packNow_70 : decode cX9_packNow 70 = .ok (.ireturn, 1) := by decide +kernel
theorem dX9_packNow_71 : decode cX9_packNow 71 = .ok (.aload_n 0, 1) := by decide +kernel
theorem dX9_packNow_72 : decode cX9_packNow 72 = .ok (.iload_n 1, 1) := by decide +kernel
theorem dX9_packNow_73 : decode cX9_packNow 73 = .ok (.aload_n 0, 1) := by decide +kernel
theorem dX9_packNow_74 : decode cX9_packNow 74 = .ok (.getfield 146, 3) := by decide +kernel
theorem dX9_packNow_77 : decode cX9_packNow 77 = .ok (.invokevirtual 136, 3) := by decide +kernel
theorem dX9_packNow_80 : decode cX9_packNow 80 = .ok (.ifCond .eq 7, 3) := by decide +kernel
theorem dX9_packNow_83 : decode cX9_packNow 83 = .ok (.iconst 1, 1) := by decide +kernel
theorem dX9_packNow_84 : decode cX9_packNow 84 = .ok (.goto 4, 3) := by decide +kernel
theorem dX9_packNow_87 : decode cX9_packNow 87 = .ok (.iconst 0, 1) := by decide +kernel
theorem dX9_packNow_88 : decode cX9_packNow 88 = .ok (.ireturn, 1) := by decide +kernel
theorem dX9_packNow_89 : decode cX9_packNow 89 = .ok (.aload_n 0, 1) := by decide +kernel
theorem dX9_packNow_90 : decode cX9_packNow 90 = .ok (.iload_n 1, 1) := by decide +kernel
theorem dX9_packNow_91 : decode cX9_packNow 91 = .ok (.aload_n 0, 1) := by decide +kernel
theorem dX9_packNow_92 : decode cX9_packNow 92 = .ok (.getfield 146, 3) := by decide +kernel
theorem dX9_packNow_95 : decode cX9_packNow 95 = .ok (.invokevirtual 149, 3) := by decide +kernel
theorem dX9_packNow_98 : decode cX9_packNow 98 = .ok (.ireturn, 1) := by decide +kernel
theorem dX9_packNow_99 : decode cX9_packNow 99 = .ok (.aload_n 0, 1) := by decide +kernel
theorem dX9_packNow_100 : decode cX9_packNow 100 = .ok (.iload_n 1, 1) := by decide +kernel
theorem dX9_packNow_101 : decode cX9_packNow 101 = .ok (.invokevirtual 152, 3) := by decide +kernel
theorem dX9_packNow_104 : decode cX9_packNow 104 = .ok (.ireturn, 1) := by decide +kernel
theorem dX9_about_0 : decode cX9_about 0 = .ok (.aload_n 0, 1) := by decide +kernel
theorem dX9_about_1 : decode cX9_about 1 = .ok (.iload_n 1, 1) := by decide +kernel
theorem dX9_about_2 : decode cX9_about 2 = .ok (.invokevirtual 155, 3) := by decide +kernel
theorem dX9_about_5 : decode cX9_about 5 = .ok (.ifCond .ne 8, 3) := by decide +kernel
theorem dX9_about_8 : decode cX9_about 8 = .ok (.bipush (-101), 2) := by decide +kernel
theorem dX9_about_10 : decode cX9_about 10 = .ok (.goto 24, 3) := by decide +kernel
theorem dX9_about_13 : decode cX9_about 13 = .ok (.iload_n 2, 1) := by decide +kernel
theorem dX9_about_14 : decode cX9_about 14 = .ok (.iconst 0, 1) := by decide +kernel
theorem dX9_about_15 : decode cX9_about 15 = .ok (.bipush 6, 2) := by decide +kernel
theorem dX9_about_17 : decode cX9_about 17 = .ok (.invokestatic 75, 3) := by decide +kernel
theorem dX9_about_20 : decode cX9_about 20 = .ok (.ifCond .eq 12, 3) := by decide +kernel
theorem dX9_about_23 : decode cX9_about 23 = .ok (.aload_n 0, 1) := by decide +kernel
theorem dX9_about_24 : decode cX9_about 24 = .ok (.iload_n 1, 1) := by decide +kernel
theorem dX9_about_25 : decode cX9_about 25 = .ok (.iload_n 2, 1) := by decide +kernel
theorem dX9_about_26 : decode cX9_about 26 = .ok (.invokevirtual 158, 3) := by decide +kernel
theorem dX9_about_29 : decode cX9_about 29 = .ok (.goto 5, 3) := by decide +kernel
theorem dX9_about_32 : decode cX9_about 32 = .ok (.bipush (-102), 2) := by decide +kernel
theorem dX9_about_34 : decode cX9_about 34 = .ok (.ireturn, 1) := by decide +kernel
theorem dX9_as_0 : decode cX9_as 0 = .ok (.aload_n 0, 1) := by decide +kernel
theorem dX9_as_1 : decode cX9_as 1 = .ok (.iload_n 1, 1) := by decide +kernel
theorem dX9_as_2 : decode cX9_as 2 = .ok (.invokevirtual 155, 3) := by decide +kernel
theorem dX9_as_5 : decode cX9_as 5 = .ok (.ifCond .ne 6, 3) := by decide +kernel
theorem dX9_as_8 : decode cX9_as 8 = .ok (.bipush (-101), 2) := by decide +kernel
theorem dX9_as_10 : decode cX9_as 10 = .ok (.ireturn, 1) := by decide +kernel
theorem dX9_as_11 : decode cX9_as 11 = .ok (.iload_n 2, 1) := by decide +kernel
theorem dX9_as_12 : decode cX9_as 12 = .ok (.iconst 0, 1) := by decide +kernel
theorem dX9_as_13 : decode cX9_as 13 = .ok (.iconst 4, 1) := by decide +kernel
theorem dX9_as_14 : decode cX9_as 14 = .ok (.invokestatic 75, 3) := by decide +kernel
theorem dX9_as_17 : decode cX9_as 17 = .ok (.ifCond .ne 6, 3) := by decide +kernel
theorem dX9_as_20 : decode cX9_as 20 = .ok (.bipush (-102), 2) := by decide +kernel
theorem dX9_as_22 : decode cX9_as 22 = .ok (.ireturn, 1) := by decide +kernel
theorem dX9_as_23 : decode cX9_as 23 = .ok (.aload_n 0, 1) := by decide +kernel
theorem dX9_as_24 : decode cX9_as 24 = .ok (.getfield 16, 3) := by decide +kernel
theorem dX9_as_27 : decode cX9_as 27 = .ok (.iload_n 1, 1) := by decide +kernel
theorem dX9_as_28 : decode cX9_as 28 = .ok (.iaload, 1) := by decide +kernel
theorem dX9_as_29 : decode cX9_as 29 = .ok (.istore_n 3, 1) := by decide +kernel
theorem dX9_as_30 : decode cX9_as 30 = .ok (.iload_n 2, 1) := by decide +kernel
theorem dX9_as_31 : decode cX9_as 31 = .ok (.ifCond .eq 18, 3) := by decide +kernel
theorem dX9_as_34 : decode cX9_as 34 = .ok (.iload_n 3, 1) := by decide +kernel
theorem dX9_as_35 : decode cX9_as 35 = .ok (.iload_n 2, 1) := by decide +kernel
theorem dX9_as_36 : decode cX9_as 36 = .ok (.if_icmp .eq 13, 3) := by decide +kernel
theorem dX9_as_39 : decode cX9_as 39 = .ok (.iload_n 2, 1) := by decide +kernel
theorem dX9_as_40 : decode cX9_as 40 = .ok (.iconst 3, 1) := by decide +kernel
theorem dX9_as_41 : decode cX9_as 41 = .ok (.if_icmp .ne 12, 3) := by decide +kernel
theorem dX9_as_44 : decode cX9_as 44 = .ok (.iload_n 3, 1) := by decide +kernel
theorem dX9_as_45 : decode cX9_as 45 = .ok (.iconst 4, 1) := by decide +kernel
theorem dX9_as_46 : decode cX9_as 46 = .ok (.if_icmp .ne 7, 3) := by decide +kernel
theorem dX9_as_49 : decode cX9_as 49 = .ok (.iload_n 1, 1) := by decide +kernel
theorem dX9_as_50 : decode cX9_as 50 = .ok (.goto 4, 3) := by decide +kernel
theorem dX9_as_53 : decode cX9_as 53 = .ok (.iconst (-1), 1) := by decide +kernel
theorem dX9_as_54 : decode cX9_as 54 = .ok (.ireturn, 1) := by decide +kernel
theorem dX9_isThere_0 : decode cX9_isThere 0 = .ok (.iload_n 1, 1) := by decide +kernel
theorem dX9_isThere_1 : decode cX9_isThere 1 = .ok (.iconst 0, 1) := by decide +kernel
theorem dX9_isThere_2 : decode cX9_isThere 2 = .ok (.aload_n 0, 1) := by decide +kernel
theorem dX9_isThere_3 : decode cX9_isThere 3 = .ok (.getfield 133, 3) := by decide +kernel
theorem dX9_isThere_6 : decode cX9_isThere 6 = .ok (.iconst 1, 1) := by decide +kernel
theorem dX9_isThere_7 : decode cX9_isThere 7 = .ok (.isub, 1) := by decide +kernel
theorem dX9_isThere_8 : decode cX9_isThere 8 = .ok (.invokestatic 75, 3) := by decide +kernel
theorem dX9_isThere_11 : decode cX9_isThere 11 = .ok (.ireturn, 1) := by decide +kernel
theorem dX9_isFlock_0 : decode cX9_isFlock 0 = .ok (.aload_n 0, 1) := by decide +kernel
theorem dX9_isFlock_1 : decode cX9_isFlock 1 = .ok (.iload_n 1, 1) := by decide +kernel
theorem dX9_isFlock_2 : decode cX9_isFlock 2 = .ok (.invokevirtual 161, 3) := by decide +kernel
theorem dX9_isFlock_5 : decode cX9_isFlock 5 = .ok (.ifCond .eq 17, 3) := by decide +kernel
theorem dX9_isFlock_8 : decode cX9_isFlock 8 = .ok (.aload_n 0, 1) := by decide +kernel
theorem dX9_isFlock_9 : decode cX9_isFlock 9 = .ok (.getfield 31, 3) := by decide +kernel
theorem dX9_isFlock_12 : decode cX9_isFlock 12 = .ok (.iload_n 1, 1) := by decide +kernel
theorem dX9_isFlock_13 : decode cX9_isFlock 13 = .ok (.iaload, 1) := by decide +kernel
theorem dX9_isFlock_14 : decode cX9_isFlock 14 = .ok (.iconst (-1), 1) := by decide +kernel
theorem dX9_isFlock_15 : decode cX9_isFlock 15 = .ok (.if_icmp .ne 7, 3) := by decide +kernel
theorem dX9_isFlock_18 : decode cX9_isFlock 18 = .ok (.iconst 1, 1) := by decide +kernel
theorem dX9_isFlock_19 : decode cX9_isFlock 19 = .ok (.goto 4, 3) := by decide +kernel
theorem dX9_isFlock_22 : decode cX9_isFlock 22 = .ok (.iconst 0, 1) := by decide +kernel
theorem dX9_isFlock_23 : decode cX9_isFlock 23 = .ok (.ireturn, 1) := by decide +kernel
theorem dX9_isName_0 : decode cX9_isName 0 = .ok (.iload_n 0, 1) := by decide +kernel
theorem dX9_isName_1 : decode cX9_isName 1 = .ok (.iconst 0, 1) := by decide +kernel
theorem dX9_isName_2 : decode cX9_isName 2 = .ok (.bipush 9, 2) := by decide +kernel
theorem dX9_isName_4 : decode cX9_isName 4 = .ok (.invokestatic 75, 3) := by decide +kernel
theorem dX9_isName_7 : decode cX9_isName 7 = .ok (.ireturn, 1) := by decide +kernel
theorem dX9_flock_0 : decode cX9_flock 0 = .ok (.iload_n 1, 1) := by decide +kernel
theorem dX9_flock_1 : decode cX9_flock 1 = .ok (.invokestatic 164, 3) := by decide +kernel
theorem dX9_flock_4 : decode cX9_flock 4 = .ok (.ifCond .ne 6, 3) := by decide +kernel
theorem dX9_flock_7 : decode cX9_flock 7 = .ok (.bipush (-102), 2) := by decide +kernel
theorem dX9_flock_9 : decode cX9_flock 9 = .ok (.ireturn, 1) := by decide +kernel
theorem dX9_flock_10 : decode cX9_flock 10 = .ok (.iload_n 2, 1) := by decide +kernel
theorem dX9_flock_11 : decode cX9_flock 11 = .ok (.invokestatic 119, 3) := by decide +kernel
theorem dX9_flock_14 : decode cX9_flock 14 = .ok (.ifCond .ne 6, 3) := by decide +kernel
theorem dX9_flock_17 : decode cX9_flock 17 = .ok (.bipush (-101), 2) := by decide +kernel
theorem dX9_flock_19 : decode cX9_flock 19 = .ok (.ireturn, 1) := by decide +kernel
theorem dX9_flock_20 : decode cX9_flock 20 = .ok (.aload_n 0, 1) := by decide +kernel
theorem dX9_flock_21 : decode cX9_flock 21 = .ok (.getfield 133, 3) := by decide +kernel
theorem dX9_flock_24 : decode cX9_flock 24 = .ok (.iconst 5, 1) := by decide +kernel
theorem dX9_flock_25 : decode cX9_flock 25 = .ok (.if_icmp .ne 6, 3) := by decide +kernel
theorem dX9_flock_28 : decode cX9_flock 28 = .ok (.bipush (-104), 2) := by decide +kernel
theorem dX9_flock_30 : decode cX9_flock 30 = .ok (.ireturn, 1) := by decide +kernel
theorem dX9_flock_31 : decode cX9_flock 31 = .ok (.aload_n 0, 1) := by decide +kernel
theorem dX9_flock_32 : decode cX9_flock 32 = .ok (.getfield 25, 3) := by decide +kernel
theorem dX9_flock_35 : decode cX9_flock 35 = .ok (.aload_n 0, 1) := by decide +kernel
theorem dX9_flock_36 : decode cX9_flock 36 = .ok (.getfield 133, 3) := by decide +kernel
theorem dX9_flock_39 : decode cX9_flock 39 = .ok (.iload_n 1, 1) := by decide +kernel
theorem dX9_flock_40 : decode cX9_flock 40 = .ok (.iastore, 1) := by decide +kernel
theorem dX9_flock_41 : decode cX9_flock 41 = .ok (.aload_n 0, 1) := by decide +kernel
theorem dX9_flock_42 : decode cX9_flock 42 = .ok (.getfield 28, 3) := by decide +kernel
theorem dX9_flock_45 : decode cX9_flock 45 = .ok (.aload_n 0, 1) := by decide +kernel
theorem dX9_flock_46 : decode cX9_flock 46 = .ok (.getfield 133, 3) := by decide +kernel
theorem dX9_flock_49 : decode cX9_flock 49 = .ok (.iload_n 2, 1) := by decide +kernel
theorem dX9_flock_50 : decode cX9_flock 50 = .ok (.iastore, 1) := by decide +kernel
theorem dX9_flock_51 : decode cX9_flock 51 = .ok (.aload_n 0, 1) := by decide +kernel
theorem dX9_flock_52 : decode cX9_flock 52 = .ok (.getfield 31, 3) := by decide +kernel
theorem dX9_flock_55 : decode cX9_flock 55 = .ok (.aload_n 0, 1) := by decide +kernel
theorem dX9_flock_56 : decode cX9_flock 56 = .ok (.getfield 133, 3) := by decide +kernel
theorem dX9_flock_59 : decode cX9_flock 59 = .ok (.iconst (-1), 1) := by decide +kernel
theorem dX9_flock_60 : decode cX9_flock 60 = .ok (.iastore, 1) := by decide +kernel
theorem dX9_flock_61 : decode cX9_flock 61 = .ok (.aload_n 0, 1) := by decide +kernel
theorem dX9_flock_62 : decode cX9_flock 62 = .ok (.dup, 1) := by decide +kernel
theorem dX9_flock_63 : decode cX9_flock 63 = .ok (.getfield 133, 3) := by decide +kernel
theorem dX9_flock_66 : decode cX9_flock 66 = .ok (.iconst 1, 1) := by decide +kernel
theorem dX9_flock_67 : decode cX9_flock 67 = .ok (.iadd, 1) := by decide +kernel
theorem dX9_flock_68 : decode cX9_flock 68 = .ok (.putfield 133, 3) := by decide +kernel
theorem dX9_flock_71 : decode cX9_flock 71 = .ok (.aload_n 0, 1) := by decide +kernel
theorem dX9_flock_72 : decode cX9_flock 72 = .ok (.getfield 133, 3) := by decide +kernel
theorem dX9_flock_75 : decode cX9_flock 75 = .ok (.iconst 1, 1) := by decide +kernel
theorem dX9_flock_76 : decode cX9_flock 76 = .ok (.isub, 1) := by decide +kernel
theorem dX9_flock_77 : decode cX9_flock 77 = .ok (.ireturn, 1) := by decide +kernel
theorem dX9_flockNow_0 : decode cX9_flockNow 0 = .ok (.iload_n 2, 1) := by decide +kernel
theorem dX9_flockNow_1 : decode cX9_flockNow 1 = .ok (.tableswitch 57 0 2 #[27, 34, 41], 27) := by decide +kernel
theorem dX9_flockNow_28 : decode cX9_flockNow 28 = .ok (.aload_n 0, 1) := by decide +kernel
theorem dX9_flockNow_29 : decode cX9_flockNow 29 = .ok (.getfield 25, 3) := by decide +kernel
theorem dX9_flockNow_32 : decode cX9_flockNow 32 = .ok (.iload_n 1, 1) := by decide +kernel
theorem dX9_flockNow_33 : decode cX9_flockNow 33 = .ok (.iaload, 1) := by decide +kernel
theorem dX9_flockNow_34 : decode cX9_flockNow 34 = .ok (.ireturn, 1) := by decide +kernel
theorem dX9_flockNow_35 : decode cX9_flockNow 35 = .ok (.aload_n 0, 1) := by decide +kernel
theorem dX9_flockNow_36 : decode cX9_flockNow 36 = .ok (.getfield 28, 3) := by decide +kernel
theorem dX9_flockNow_39 : decode cX9_flockNow 39 = .ok (.iload_n 1, 1) := by decide +kernel
theorem dX9_flockNow_40 : decode cX9_flockNow 40 = .ok (.iaload, 1) := by decide +kernel
theorem dX9_flockNow_41 : decode cX9_flockNow 41 = .ok (.ireturn, 1) := by decide +kernel
theorem dX9_flockNow_42 : decode cX9_flockNow 42 = .ok (.aload_n 0, 1) := by decide +kernel
theorem dX9_flockNow_43 : decode cX9_flockNow 43 = .ok (.getfield 31, 3) := by decide +kernel
theorem dX9_flockNow_46 : decode cX9_flockNow 46 = .ok (.iload_n 1, 1) := by decide +kernel
theorem dX9_flockNow_47 : decode cX9_flockNow 47 = .ok (.iaload, 1) := by decide +kernel
theorem dX9_flockNow_48 : decode cX9_flockNow 48 = .ok (.iconst (-1), 1) := by decide +kernel
theorem dX9_flockNow_49 : decode cX9_flockNow 49 = .ok (.if_icmp .ne 7, 3) := by decide +kernel
theorem dX9_flockNow_52 : decode cX9_flockNow 52 = .ok (.iconst 0, 1) := by decide +kernel
theorem dX9_flockNow_53 : decode cX9_flockNow 53 = .ok (.goto 4, 3) := by decide +kernel
theorem dX9_flockNow_56 : decode cX9_flockNow 56 = .ok (.iconst 1, 1) := by decide +kernel
theorem dX9_flockNow_57 : decode cX9_flockNow 57 = .ok (.ireturn, 1) := by decide +kernel
theorem dX9_flockNow_58 : decode cX9_flockNow 58 = .ok (.aload_n 0, 1) := by decide +kernel
theorem dX9_flockNow_59 : decode cX9_flockNow 59 = .ok (.getfield 31, 3) := by decide +kernel
theorem dX9_flockNow_62 : decode cX9_flockNow 62 = .ok (.iload_n 1, 1) := by decide +kernel
theorem dX9_flockNow_63 : decode cX9_flockNow 63 = .ok (.iaload, 1) := by decide +kernel
theorem dX9_flockNow_64 : decode cX9_flockNow 64 = .ok (.ireturn, 1) := by decide +kernel
theorem dX9_flockOf_0 : decode cX9_flockOf 0 = .ok (.aload_n 0, 1) := by decide +kernel
theorem dX9_flockOf_1 : decode cX9_flockOf 1 = .ok (.iload_n 1, 1) := by decide +kernel
theorem dX9_flockOf_2 : decode cX9_flockOf 2 = .ok (.invokevirtual 161, 3) := by decide +kernel
theorem dX9_flockOf_5 : decode cX9_flockOf 5 = .ok (.ifCond .ne 8, 3) := by decide +kernel
theorem dX9_flockOf_8 : decode cX9_flockOf 8 = .ok (.bipush (-101), 2) := by decide +kernel
theorem dX9_flockOf_10 : decode cX9_flockOf 10 = .ok (.goto 23, 3) := by decide +kernel
theorem dX9_flockOf_13 : decode cX9_flockOf 13 = .ok (.iload_n 2, 1) := by decide +kernel
theorem dX9_flockOf_14 : decode cX9_flockOf 14 = .ok (.iconst 0, 1) := by decide +kernel
theorem dX9_flockOf_15 : decode cX9_flockOf 15 = .ok (.iconst 3, 1) := by decide +kernel
theorem dX9_flockOf_16 : decode cX9_flockOf 16 = .ok (.invokestatic 75, 3) := by decide +kernel
theorem dX9_flockOf_19 : decode cX9_flockOf 19 = .ok (.ifCond .eq 12, 3) := by decide +kernel
theorem dX9_flockOf_22 : decode cX9_flockOf 22 = .ok (.aload_n 0, 1) := by decide +kernel
theorem dX9_flockOf_23 : decode cX9_flockOf 23 = .ok (.iload_n 1, 1) := by decide +kernel
theorem dX9_flockOf_24 : decode cX9_flockOf 24 = .ok (.iload_n 2, 1) := by decide +kernel
theorem dX9_flockOf_25 : decode cX9_flockOf 25 = .ok (.invokevirtual 167, 3) := by decide +kernel
theorem dX9_flockOf_28 : decode cX9_flockOf 28 = .ok (.goto 5, 3) := by decide +kernel
theorem dX9_flockOf_31 : decode cX9_flockOf 31 = .ok (.bipush (-102), 2) := by decide +kernel
theorem dX9_flockOf_33 : decode cX9_flockOf 33 = .ok (.ireturn, 1) := by decide +kernel
theorem dX9_name_0 : decode cX9_name 0 = .ok (.aload_n 0, 1) := by decide +kernel
theorem dX9_name_1 : decode cX9_name 1 = .ok (.iload_n 1, 1) := by decide +kernel
theorem dX9_name_2 : decode cX9_name 2 = .ok (.invokevirtual 170, 3) := by decide +kernel
theorem dX9_name_5 : decode cX9_name 5 = .ok (.ifCond .ne 6, 3) := by decide +kernel
theorem dX9_name_8 : decode cX9_name 8 = .ok (.bipush (-101), 2) := by decide +kernel
theorem dX9_name_10 : decode cX9_name 10 = .ok (.ireturn, 1) := by decide +kernel
theorem dX9_name_11 : decode cX9_name 11 = .ok (.iload_n 2, 1) := by decide +kernel
theorem dX9_name_12 : decode cX9_name 12 = .ok (.invokestatic 164, 3) := by decide +kernel
theorem dX9_name_15 : decode cX9_name 15 = .ok (.ifCond .ne 6, 3) := by decide +kernel
theorem dX9_name_18 : decode cX9_name 18 = .ok (.bipush (-102), 2) := by decide +kernel
theorem dX9_name_20 : decode cX9_name 20 = .ok (.ireturn, 1) := by decide +kernel
theorem dX9_name_21 : decode cX9_name 21 = .ok (.aload_n 0, 1) := by decide +kernel
theorem dX9_name_22 : decode cX9_name 22 = .ok (.getfield 25, 3) := by decide +kernel
theorem dX9_name_25 : decode cX9_name 25 = .ok (.iload_n 1, 1) := by decide +kernel
theorem dX9_name_26 : decode cX9_name 26 = .ok (.iaload, 1) := by decide +kernel
theorem dX9_name_27 : decode cX9_name 27 = .ok (.istore_n 3, 1) := by decide +kernel
theorem dX9_name_28 : decode cX9_name 28 = .ok (.aload_n 0, 1) := by decide +kernel
theorem dX9_name_29 : decode cX9_name 29 = .ok (.getfield 25, 3) := by decide +kernel
theorem dX9_name_32 : decode cX9_name 32 = .ok (.iload_n 1, 1) := by decide +kernel
theorem dX9_name_33 : decode cX9_name 33 = .ok (.iload_n 2, 1) := by decide +kernel
theorem dX9_name_34 : decode cX9_name 34 = .ok (.iastore, 1) := by decide +kernel
theorem dX9_name_35 : decode cX9_name 35 = .ok (.iload_n 3, 1) := by decide +kernel
theorem dX9_name_36 : decode cX9_name 36 = .ok (.ireturn, 1) := by decide +kernel
theorem dX9_move_0 : decode cX9_move 0 = .ok (.aload_n 0, 1) := by decide +kernel
theorem dX9_move_1 : decode cX9_move 1 = .ok (.iload_n 1, 1) := by decide +kernel
theorem dX9_move_2 : decode cX9_move 2 = .ok (.invokevirtual 170, 3) := by decide +kernel
theorem dX9_move_5 : decode cX9_move 5 = .ok (.ifCond .eq 10, 3) := by decide +kernel
theorem dX9_move_8 : decode cX9_move 8 = .ok (.iload_n 2, 1) := by decide +kernel
theorem dX9_move_9 : decode cX9_move 9 = .ok (.invokestatic 119, 3) := by decide +kernel
theorem dX9_move_12 : decode cX9_move 12 = .ok (.ifCond .ne 6, 3) := by decide +kernel
theorem dX9_move_15 : decode cX9_move 15 = .ok (.bipush (-101), 2) := by decide +kernel
theorem dX9_move_17 : decode cX9_move 17 = .ok (.ireturn, 1) := by decide +kernel
theorem dX9_move_18 : decode cX9_move 18 = .ok (.aload_n 0, 1) := by decide +kernel
theorem dX9_move_19 : decode cX9_move 19 = .ok (.getfield 28, 3) := by decide +kernel
theorem dX9_move_22 : decode cX9_move 22 = .ok (.iload_n 1, 1) := by decide +kernel
theorem dX9_move_23 : decode cX9_move 23 = .ok (.iaload, 1) := by decide +kernel
theorem dX9_move_24 : decode cX9_move 24 = .ok (.istore_n 3, 1) := by decide +kernel
theorem dX9_move_25 : decode cX9_move 25 = .ok (.aload_n 0, 1) := by decide +kernel
theorem dX9_move_26 : decode cX9_move 26 = .ok (.getfield 28, 3) := by decide +kernel
theorem dX9_move_29 : decode cX9_move 29 = .ok (.iload_n 1, 1) := by decide +kernel
theorem dX9_move_30 : decode cX9_move 30 = .ok (.iload_n 2, 1) := by decide +kernel
theorem dX9_move_31 : decode cX9_move 31 = .ok (.iastore, 1) := by decide +kernel
theorem dX9_move_32 : decode cX9_move 32 = .ok (.iload_n 3, 1) := by decide +kernel
theorem dX9_move_33 : decode cX9_move 33 = .ok (.ireturn, 1) := by decide +kernel
theorem dX9_goDay_0 : decode cX9_goDay 0 = .ok (.iconst 0, 1) := by decide +kernel
theorem dX9_goDay_1 : decode cX9_goDay 1 = .ok (.istore_n 1, 1) := by decide +kernel
theorem dX9_goDay_2 : decode cX9_goDay 2 = .ok (.iconst 0, 1) := by decide +kernel
theorem dX9_goDay_3 : decode cX9_goDay 3 = .ok (.istore_n 2, 1) := by decide +kernel
theorem dX9_goDay_4 : decode cX9_goDay 4 = .ok (.iload_n 2, 1) := by decide +kernel
theorem dX9_goDay_5 : decode cX9_goDay 5 = .ok (.aload_n 0, 1) := by decide +kernel
theorem dX9_goDay_6 : decode cX9_goDay 6 = .ok (.getfield 122, 3) := by decide +kernel
theorem dX9_goDay_9 : decode cX9_goDay 9 = .ok (.if_icmp .ge 37, 3) := by decide +kernel
theorem dX9_goDay_12 : decode cX9_goDay 12 = .ok (.aload_n 0, 1) := by decide +kernel
theorem dX9_goDay_13 : decode cX9_goDay 13 = .ok (.iload_n 2, 1) := by decide +kernel
theorem dX9_goDay_14 : decode cX9_goDay 14 = .ok (.aload_n 0, 1) := by decide +kernel
theorem dX9_goDay_15 : decode cX9_goDay 15 = .ok (.getfield 146, 3) := by decide +kernel
theorem dX9_goDay_18 : decode cX9_goDay 18 = .ok (.invokevirtual 149, 3) := by decide +kernel
theorem dX9_goDay_21 : decode cX9_goDay 21 = .ok (.istore_n 3, 1) := by decide +kernel
theorem dX9_goDay_22 : decode cX9_goDay 22 = .ok (.iload_n 3, 1) := by decide +kernel
theorem dX9_goDay_23 : decode cX9_goDay 23 = .ok (.iconst (-1), 1) := by decide +kernel
theorem dX9_goDay_24 : decode cX9_goDay 24 = .ok (.if_icmp .eq 16, 3) := by decide +kernel
theorem dX9_goDay_27 : decode cX9_goDay 27 = .ok (.aload_n 0, 1) := by decide +kernel
theorem dX9_goDay_28 : decode cX9_goDay 28 = .ok (.getfield 31, 3) := by decide +kernel
theorem dX9_goDay_31 : decode cX9_goDay 31 = .ok (.iload_n 3, 1) := by decide +kernel
theorem dX9_goDay_32 : decode cX9_goDay 32 = .ok (.iload_n 2, 1) := by decide +kernel
theorem dX9_goDay_33 : decode cX9_goDay 33 = .ok (.iastore, 1) := by decide +kernel
theorem dX9_goDay_34 : decode cX9_goDay 34 = .ok (.iload_n 1, 1) := by decide +kernel
theorem dX9_goDay_35 : decode cX9_goDay 35 = .ok (.iconst 1, 1) := by decide +kernel
theorem dX9_goDay_36 : decode cX9_goDay 36 = .ok (.iload_n 3, 1) := by decide +kernel
theorem dX9_goDay_37 : decode cX9_goDay 37 = .ok (.ishl, 1) := by decide +kernel
theorem dX9_goDay_38 : decode cX9_goDay 38 = .ok (.ior, 1) := by decide +kernel
theorem dX9_goDay_39 : decode cX9_goDay 39 = .ok (.istore_n 1, 1) := by decide +kernel
theorem dX9_goDay_40 : decode cX9_goDay 40 = .ok (.iinc 2 1, 3) := by decide +kernel
theorem dX9_goDay_43 : decode cX9_goDay 43 = .ok (.goto (-39), 3) := by decide +kernel
theorem dX9_goDay_46 : decode cX9_goDay 46 = .ok (.aload_n 0, 1) := by decide +kernel
theorem dX9_goDay_47 : decode cX9_goDay 47 = .ok (.dup, 1) := by decide +kernel
theorem dX9_goDay_48 : decode cX9_goDay 48 = .ok (.getfield 146, 3) := by decide +kernel
theorem dX9_goDay_51 : decode cX9_goDay 51 = .ok (.iconst 1, 1) := by decide +kernel
theorem dX9_goDay_52 : decode cX9_goDay 52 = .ok (.iadd, 1) := by decide +kernel
theorem dX9_goDay_53 : decode cX9_goDay 53 = .ok (.putfield 146, 3) := by decide +kernel
theorem dX9_goDay_56 : decode cX9_goDay 56 = .ok (.iload_n 1, 1) := by decide +kernel
theorem dX9_goDay_57 : decode cX9_goDay 57 = .ok (.ireturn, 1) := by decide +kernel
theorem dX9_day_0 : decode cX9_day 0 = .ok (.aload_n 0, 1) := by decide +kernel
theorem dX9_day_1 : decode cX9_day 1 = .ok (.invokevirtual 173, 3) := by decide +kernel
theorem dX9_day_4 : decode cX9_day 4 = .ok (.ireturn, 1) := by decide +kernel
theorem dX9_save_0 : decode cX9_save 0 = .ok (.aload_n 0, 1) := by decide +kernel
theorem dX9_save_1 : decode cX9_save 1 = .ok (.aload_n 0, 1) := by decide +kernel
theorem dX9_save_2 : decode cX9_save 2 = .ok (.getfield 146, 3) := by decide +kernel
theorem dX9_save_5 : decode cX9_save 5 = .ok (.putfield 177, 3) := by decide +kernel
theorem dX9_save_8 : decode cX9_save 8 = .ok (.iconst 0, 1) := by decide +kernel
theorem dX9_save_9 : decode cX9_save 9 = .ok (.istore_n 1, 1) := by decide +kernel
theorem dX9_save_10 : decode cX9_save 10 = .ok (.iload_n 1, 1) := by decide +kernel
theorem dX9_save_11 : decode cX9_save 11 = .ok (.bipush 8, 2) := by decide +kernel
theorem dX9_save_13 : decode cX9_save 13 = .ok (.if_icmp .ge 21, 3) := by decide +kernel
theorem dX9_save_16 : decode cX9_save 16 = .ok (.aload_n 0, 1) := by decide +kernel
theorem dX9_save_17 : decode cX9_save 17 = .ok (.getfield 48, 3) := by decide +kernel
theorem dX9_save_20 : decode cX9_save 20 = .ok (.iload_n 1, 1) := by decide +kernel
theorem dX9_save_21 : decode cX9_save 21 = .ok (.aload_n 0, 1) := by decide +kernel
theorem dX9_save_22 : decode cX9_save 22 = .ok (.getfield 13, 3) := by decide +kernel
theorem dX9_save_25 : decode cX9_save 25 = .ok (.iload_n 1, 1) := by decide +kernel
theorem dX9_save_26 : decode cX9_save 26 = .ok (.iaload, 1) := by decide +kernel
theorem dX9_save_27 : decode cX9_save 27 = .ok (.iastore, 1) := by decide +kernel
theorem dX9_save_28 : decode cX9_save 28 = .ok (.iinc 1 1, 3) := by decide +kernel
theorem dX9_save_31 : decode cX9_save 31 = .ok (.goto (-21), 3) := by decide +kernel
theorem dX9_save_34 : decode cX9_save 34 = .ok (.iconst 0, 1) := by decide +kernel
theorem dX9_save_35 : decode cX9_save 35 = .ok (.istore_n 1, 1) := by decide +kernel
theorem dX9_save_36 : decode cX9_save 36 = .ok (.iload_n 1, 1) := by decide +kernel
theorem dX9_save_37 : decode cX9_save 37 = .ok (.iconst 5, 1) := by decide +kernel
theorem dX9_save_38 : decode cX9_save 38 = .ok (.if_icmp .ge 45, 3) := by decide +kernel
theorem dX9_save_41 : decode cX9_save 41 = .ok (.aload_n 0, 1) := by decide +kernel
theorem dX9_save_42 : decode cX9_save 42 = .ok (.getfield 51, 3) := by decide +kernel
theorem dX9_save_45 : decode cX9_save 45 = .ok (.iload_n 1, 1) := by decide +kernel
theorem dX9_save_46 : decode cX9_save 46 = .ok (.aload_n 0, 1) := by decide +kernel
theorem dX9_save_47 : decode cX9_save 47 = .ok (.getfield 25, 3) := by decide +kernel
theorem dX9_save_50 : decode cX9_save 50 = .ok (.iload_n 1, 1) := by decide +kernel
theorem dX9_save_51 : decode cX9_save 51 = .ok (.iaload, 1) := by decide +kernel
theorem dX9_save_52 : decode cX9_save 52 = .ok (.iastore, 1) := by decide +kernel
theorem dX9_save_53 : decode cX9_save 53 = .ok (.aload_n 0, 1) := by decide +kernel
theorem dX9_save_54 : decode cX9_save 54 = .ok (.getfield 54, 3) := by decide +kernel
theorem dX9_save_57 : decode cX9_save 57 = .ok (.iload_n 1, 1) := by decide +kernel
theorem dX9_save_58 : decode cX9_save 58 = .ok (.aload_n 0, 1) := by decide +kernel
theorem dX9_save_59 : decode cX9_save 59 = .ok (.getfield 28, 3) := by decide +kernel
theorem dX9_save_62 : decode cX9_save 62 = .ok (.iload_n 1, 1) := by decide +kernel
theorem dX9_save_63 : decode cX9_save 63 = .ok (.iaload, 1) := by decide +kernel
theorem dX9_save_64 : decode cX9_save 64 = .ok (.iastore, 1) := by decide +kernel
theorem dX9_save_65 : decode cX9_save 65 = .ok (.aload_n 0, 1) := by decide +kernel
theorem dX9_save_66 : decode cX9_save 66 = .ok (.getfield 57, 3) := by decide +kernel
theorem dX9_save_69 : decode cX9_save 69 = .ok (.iload_n 1, 1) := by decide +kernel
theorem dX9_save_70 : decode cX9_save 70 = .ok (.aload_n 0, 1) := by decide +kernel
theorem dX9_save_71 : decode cX9_save 71 = .ok (.getfield 31, 3) := by decide +kernel
theorem dX9_save_74 : decode cX9_save 74 = .ok (.iload_n 1, 1) := by decide +kernel
theorem dX9_save_75 : decode cX9_save 75 = .ok (.iaload, 1) := by decide +kernel
theorem dX9_save_76 : decode cX9_save 76 = .ok (.iastore, 1) := by decide +kernel
theorem dX9_save_77 : decode cX9_save 77 = .ok (.iinc 1 1, 3) := by decide +kernel
theorem dX9_save_80 : decode cX9_save 80 = .ok (.goto (-44), 3) := by decide +kernel
theorem dX9_save_83 : decode cX9_save 83 = .ok (.return_, 1) := by decide +kernel
theorem dX9_back_0 : decode cX9_back 0 = .ok (.aload_n 0, 1) := by decide +kernel
theorem dX9_back_1 : decode cX9_back 1 = .ok (.aload_n 0, 1) := by decide +kernel
theorem dX9_back_2 : decode cX9_back 2 = .ok (.getfield 177, 3) := by decide +kernel
theorem dX9_back_5 : decode cX9_back 5 = .ok (.putfield 146, 3) := by decide +kernel
theorem dX9_back_8 : decode cX9_back 8 = .ok (.iconst 0, 1) := by decide +kernel
theorem dX9_back_9 : decode cX9_back 9 = .ok (.istore_n 1, 1) := by decide +kernel
theorem dX9_back_10 : decode cX9_back 10 = .ok (.iload_n 1, 1) := by decide +kernel
theorem dX9_back_11 : decode cX9_back 11 = .ok (.bipush 8, 2) := by decide +kernel
theorem dX9_back_13 : decode cX9_back 13 = .ok (.if_icmp .ge 21, 3) := by decide +kernel
theorem dX9_back_16 : decode cX9_back 16 = .ok (.aload_n 0, 1) := by decide +kernel
theorem dX9_back_17 : decode cX9_back 17 = .ok (.getfield 13, 3) := by decide +kernel
theorem dX9_back_20 : decode cX9_back 20 = .ok (.iload_n 1, 1) := by decide +kernel
theorem dX9_back_21 : decode cX9_back 21 = .ok (.aload_n 0, 1) := by decide +kernel
theorem dX9_back_22 : decode cX9_back 22 = .ok (.getfield 48, 3) := by decide +kernel
theorem dX9_back_25 : decode cX9_back 25 = .ok (.iload_n 1, 1) := by decide +kernel
theorem dX9_back_26 : decode cX9_back 26 = .ok (.iaload, 1) := by decide +kernel
theorem dX9_back_27 : decode cX9_back 27 = .ok (.iastore, 1) := by decide +kernel
theorem dX9_back_28 : decode cX9_back 28 = .ok (.iinc 1 1, 3) := by decide +kernel
theorem dX9_back_31 : decode cX9_back 31 = .ok (.goto (-21), 3) := by decide +kernel
theorem dX9_back_34 : decode cX9_back 34 = .ok (.iconst 0, 1) := by decide +kernel
theorem dX9_back_35 : decode cX9_back 35 = .ok (.istore_n 1, 1) := by decide +kernel
theorem dX9_back_36 : decode cX9_back 36 = .ok (.iload_n 1, 1) := by decide +kernel
theorem dX9_back_37 : decode cX9_back 37 = .ok (.iconst 5, 1) := by decide +kernel
theorem dX9_back_38 : decode cX9_back 38 = .ok (.if_icmp .ge 45, 3) := by decide +kernel
theorem dX9_back_41 : decode cX9_back 41 = .ok (.aload_n 0, 1) := by decide +kernel
theorem dX9_back_42 : decode cX9_back 42 = .ok (.getfield 25, 3) := by decide +kernel
theorem dX9_back_45 : decode cX9_back 45 = .ok (.iload_n 1, 1) := by decide +kernel
theorem dX9_back_46 : decode cX9_back 46 = .ok (.aload_n 0, 1) := by decide +kernel
theorem dX9_back_47 : decode cX9_back 47 = .ok (.getfield 51, 3) := by decide +kernel
theorem dX9_back_50 : decode cX9_back 50 = .ok (.iload_n 1, 1) := by decide +kernel
theorem dX9_back_51 : decode cX9_back 51 = .ok (.iaload, 1) := by decide +kernel
theorem dX9_back_52 : decode cX9_back 52 = .ok (.iastore, 1) := by decide +kernel
theorem dX9_back_53 : decode cX9_back 53 = .ok (.aload_n 0, 1) := by decide +kernel
theorem dX9_back_54 : decode cX9_back 54 = .ok (.getfield 28, 3) := by decide +kernel
theorem dX9_back_57 : decode cX9_back 57 = .ok (.iload_n 1, 1) := by decide +kernel
theorem dX9_back_58 : decode cX9_back 58 = .ok (.aload_n 0, 1) := by decide +kernel
theorem dX9_back_59 : decode cX9_back 59 = .ok (.getfield 54, 3) := by decide +kernel
theorem dX9_back_62 : decode cX9_back 62 = .ok (.iload_n 1, 1) := by decide +kernel
theorem dX9_back_63 : decode cX9_back 63 = .ok (.iaload, 1) := by decide +kernel
theorem dX9_back_64 : decode cX9_back 64 = .ok (.iastore, 1) := by decide +kernel
theorem dX9_back_65 : decode cX9_back 65 = .ok (.aload_n 0, 1) := by decide +kernel
theorem dX9_back_66 : decode cX9_back 66 = .ok (.getfield 31, 3) := by decide +kernel
theorem dX9_back_69 : decode cX9_back 69 = .ok (.iload_n 1, 1) := by decide +kernel
theorem dX9_back_70 : decode cX9_back 70 = .ok (.aload_n 0, 1) := by decide +kernel
theorem dX9_back_71 : decode cX9_back 71 = .ok (.getfield 57, 3) := by decide +kernel
theorem dX9_back_74 : decode cX9_back 74 = .ok (.iload_n 1, 1) := by decide +kernel
theorem dX9_back_75 : decode cX9_back 75 = .ok (.iaload, 1) := by decide +kernel
theorem dX9_back_76 : decode cX9_back 76 = .ok (.iastore, 1) := by decide +kernel
theorem dX9_back_77 : decode cX9_back 77 = .ok (.iinc 1 1, 3) := by decide +kernel
theorem dX9_back_80 : decode cX9_back 80 = .ok (.goto (-44), 3) := by decide +kernel
theorem dX9_back_83 : decode cX9_back 83 = .ok (.return_, 1) := by decide +kernel
theorem dX9_eatenAll_0 : decode cX9_eatenAll 0 = .ok (.iconst 0, 1) := by decide +kernel
theorem dX9_eatenAll_1 : decode cX9_eatenAll 1 = .ok (.istore_n 1, 1) := by decide +kernel
theorem dX9_eatenAll_2 : decode cX9_eatenAll 2 = .ok (.iconst 0, 1) := by decide +kernel
theorem dX9_eatenAll_3 : decode cX9_eatenAll 3 = .ok (.istore_n 2, 1) := by decide +kernel
theorem dX9_eatenAll_4 : decode cX9_eatenAll 4 = .ok (.iload_n 2, 1) := by decide +kernel
theorem dX9_eatenAll_5 : decode cX9_eatenAll 5 = .ok (.aload_n 0, 1) := by decide +kernel
theorem dX9_eatenAll_6 : decode cX9_eatenAll 6 = .ok (.getfield 133, 3) := by decide +kernel
theorem dX9_eatenAll_9 : decode cX9_eatenAll 9 = .ok (.if_icmp .ge 27, 3) := by decide +kernel
theorem dX9_eatenAll_12 : decode cX9_eatenAll 12 = .ok (.iload_n 1, 1) := by decide +kernel
theorem dX9_eatenAll_13 : decode cX9_eatenAll 13 = .ok (.aload_n 0, 1) := by decide +kernel
theorem dX9_eatenAll_14 : decode cX9_eatenAll 14 = .ok (.getfield 31, 3) := by decide +kernel
theorem dX9_eatenAll_17 : decode cX9_eatenAll 17 = .ok (.iload_n 2, 1) := by decide +kernel
theorem dX9_eatenAll_18 : decode cX9_eatenAll 18 = .ok (.iaload, 1) := by decide +kernel
theorem dX9_eatenAll_19 : decode cX9_eatenAll 19 = .ok (.iconst (-1), 1) := by decide +kernel
theorem dX9_eatenAll_20 : decode cX9_eatenAll 20 = .ok (.if_icmp .ne 7, 3) := by decide +kernel
theorem dX9_eatenAll_23 : decode cX9_eatenAll 23 = .ok (.iconst 0, 1) := by decide +kernel
theorem dX9_eatenAll_24 : decode cX9_eatenAll 24 = .ok (.goto 4, 3) := by decide +kernel
theorem dX9_eatenAll_27 : decode cX9_eatenAll 27 = .ok (.iconst 1, 1) := by decide +kernel
theorem dX9_eatenAll_28 : decode cX9_eatenAll 28 = .ok (.iadd, 1) := by decide +kernel
theorem dX9_eatenAll_29 : decode cX9_eatenAll 29 = .ok (.istore_n 1, 1) := by decide +kernel
theorem dX9_eatenAll_30 : decode cX9_eatenAll 30 = .ok (.iinc 2 1, 3) := by decide +kernel
theorem dX9_eatenAll_33 : decode cX9_eatenAll 33 = .ok (.goto (-29), 3) := by decide +kernel
theorem dX9_eatenAll_36 : decode cX9_eatenAll 36 = .ok (.iload_n 1, 1) := by decide +kernel
theorem dX9_eatenAll_37 : decode cX9_eatenAll 37 = .ok (.ireturn, 1) := by decide +kernel
theorem dX9_lossNow_0 : decode cX9_lossNow 0 = .ok (.aload_n 0, 1) := by decide +kernel
theorem dX9_lossNow_1 : decode cX9_lossNow 1 = .ok (.invokevirtual 180, 3) := by decide +kernel
theorem dX9_lossNow_4 : decode cX9_lossNow 4 = .ok (.istore_n 2, 1) := by decide +kernel
theorem dX9_lossNow_5 : decode cX9_lossNow 5 = .ok (.aload_n 0, 1) := by decide +kernel
theorem dX9_lossNow_6 : decode cX9_lossNow 6 = .ok (.invokevirtual 183, 3) := by decide +kernel
theorem dX9_lossNow_9 : decode cX9_lossNow 9 = .ok (.iconst 0, 1) := by decide +kernel
theorem dX9_lossNow_10 : decode cX9_lossNow 10 = .ok (.istore_n 3, 1) := by decide +kernel
theorem dX9_lossNow_11 : decode cX9_lossNow 11 = .ok (.iload_n 3, 1) := by decide +kernel
theorem dX9_lossNow_12 : decode cX9_lossNow 12 = .ok (.iload_n 1, 1) := by decide +kernel
theorem dX9_lossNow_13 : decode cX9_lossNow 13 = .ok (.if_icmp .ge 14, 3) := by decide +kernel
theorem dX9_lossNow_16 : decode cX9_lossNow 16 = .ok (.aload_n 0, 1) := by decide +kernel
theorem dX9_lossNow_17 : decode cX9_lossNow 17 = .ok (.invokevirtual 173, 3) := by decide +kernel
theorem dX9_lossNow_20 : decode cX9_lossNow 20 = .ok (.pop, 1) := by decide +kernel
theorem dX9_lossNow_21 : decode cX9_lossNow 21 = .ok (.iinc 3 1, 3) := by decide +kernel
theorem dX9_lossNow_24 : decode cX9_lossNow 24 = .ok (.goto (-13), 3) := by decide +kernel
theorem dX9_lossNow_27 : decode cX9_lossNow 27 = .ok (.aload_n 0, 1) := by decide +kernel
theorem dX9_lossNow_28 : decode cX9_lossNow 28 = .ok (.invokevirtual 180, 3) := by decide +kernel
theorem dX9_lossNow_31 : decode cX9_lossNow 31 = .ok (.iload_n 2, 1) := by decide +kernel
theorem dX9_lossNow_32 : decode cX9_lossNow 32 = .ok (.isub, 1) := by decide +kernel
theorem dX9_lossNow_33 : decode cX9_lossNow 33 = .ok (.istore_n 3, 1) := by decide +kernel
theorem dX9_lossNow_34 : decode cX9_lossNow 34 = .ok (.aload_n 0, 1) := by decide +kernel
theorem dX9_lossNow_35 : decode cX9_lossNow 35 = .ok (.invokevirtual 186, 3) := by decide +kernel
theorem dX9_lossNow_38 : decode cX9_lossNow 38 = .ok (.iload_n 3, 1) := by decide +kernel
theorem dX9_lossNow_39 : decode cX9_lossNow 39 = .ok (.ireturn, 1) := by decide +kernel
theorem dX9_loss_0 : decode cX9_loss 0 = .ok (.iload_n 1, 1) := by decide +kernel
theorem dX9_loss_1 : decode cX9_loss 1 = .ok (.iconst 0, 1) := by decide +kernel
theorem dX9_loss_2 : decode cX9_loss 2 = .ok (.bipush 60, 2) := by decide +kernel
theorem dX9_loss_4 : decode cX9_loss 4 = .ok (.invokestatic 75, 3) := by decide +kernel
theorem dX9_loss_7 : decode cX9_loss 7 = .ok (.ifCond .eq 11, 3) := by decide +kernel
theorem dX9_loss_10 : decode cX9_loss 10 = .ok (.aload_n 0, 1) := by decide +kernel
theorem dX9_loss_11 : decode cX9_loss 11 = .ok (.iload_n 1, 1) := by decide +kernel
theorem dX9_loss_12 : decode cX9_loss 12 = .ok (.invokevirtual 189, 3) := by decide +kernel
theorem dX9_loss_15 : decode cX9_loss 15 = .ok (.goto 5, 3) := by decide +kernel
theorem dX9_loss_18 : decode cX9_loss 18 = .ok (.bipush (-102), 2) := by decide +kernel
theorem dX9_loss_20 : decode cX9_loss 20 = .ok (.ireturn, 1) := by decide +kernel
theorem dX9_fallsIn_0 : decode cX9_fallsIn 0 = .ok (.iconst (-1), 1) := by decide +kernel
theorem dX9_fallsIn_1 : decode cX9_fallsIn 1 = .ok (.istore_n 3, 1) := by decide +kernel
theorem dX9_fallsIn_2 : decode cX9_fallsIn 2 = .ok (.iconst 1, 1) := by decide +kernel
theorem dX9_fallsIn_3 : decode cX9_fallsIn 3 = .ok (.istore 4, 2) := by decide +kernel
theorem dX9_fallsIn_5 : decode cX9_fallsIn 5 = .ok (.iload 4, 2) := by decide +kernel
theorem dX9_fallsIn_7 : decode cX9_fallsIn 7 = .ok (.iload_n 2, 1) := by decide +kernel
theorem dX9_fallsIn_8 : decode cX9_fallsIn 8 = .ok (.if_icmp .gt 36, 3) := by decide +kernel
theorem dX9_fallsIn_11 : decode cX9_fallsIn 11 = .ok (.iload_n 3, 1) := by decide +kernel
theorem dX9_fallsIn_12 : decode cX9_fallsIn 12 = .ok (.iconst (-1), 1) := by decide +kernel
theorem dX9_fallsIn_13 : decode cX9_fallsIn 13 = .ok (.if_icmp .ne 31, 3) := by decide +kernel
theorem dX9_fallsIn_16 : decode cX9_fallsIn 16 = .ok (.aload_n 0, 1) := by decide +kernel
theorem dX9_fallsIn_17 : decode cX9_fallsIn 17 = .ok (.invokevirtual 173, 3) := by decide +kernel
theorem dX9_fallsIn_20 : decode cX9_fallsIn 20 = .ok (.pop, 1) := by decide +kernel
theorem dX9_fallsIn_21 : decode cX9_fallsIn 21 = .ok (.aload_n 0, 1) := by decide +kernel
theorem dX9_fallsIn_22 : decode cX9_fallsIn 22 = .ok (.getfield 31, 3) := by decide +kernel
theorem dX9_fallsIn_25 : decode cX9_fallsIn 25 = .ok (.iload_n 1, 1) := by decide +kernel
theorem dX9_fallsIn_26 : decode cX9_fallsIn 26 = .ok (.iaload, 1) := by decide +kernel
theorem dX9_fallsIn_27 : decode cX9_fallsIn 27 = .ok (.iconst (-1), 1) := by decide +kernel
theorem dX9_fallsIn_28 : decode cX9_fallsIn 28 = .ok (.if_icmp .ne 7, 3) := by decide +kernel
theorem dX9_fallsIn_31 : decode cX9_fallsIn 31 = .ok (.iconst (-1), 1) := by decide +kernel
theorem dX9_fallsIn_32 : decode cX9_fallsIn 32 = .ok (.goto 5, 3) := by decide +kernel
theorem dX9_fallsIn_35 : decode cX9_fallsIn 35 = .ok (.iload 4, 2) := by decide +kernel
theorem dX9_fallsIn_37 : decode cX9_fallsIn 37 = .ok (.istore_n 3, 1) := by decide +kernel
theorem dX9_fallsIn_38 : decode cX9_fallsIn 38 = .ok (.iinc 4 1, 3) := by decide +kernel
theorem dX9_fallsIn_41 : decode cX9_fallsIn 41 = .ok (.goto (-36), 3) := by decide +kernel
theorem dX9_fallsIn_44 : decode cX9_fallsIn 44 = .ok (.iload_n 3, 1) := by decide +kernel
theorem dX9_fallsIn_45 : decode cX9_fallsIn 45 = .ok (.ireturn, 1) := by decide +kernel
theorem dX9_fallsNow_0 : decode cX9_fallsNow 0 = .ok (.aload_n 0, 1) := by decide +kernel
theorem dX9_fallsNow_1 : decode cX9_fallsNow 1 = .ok (.invokevirtual 183, 3) := by decide +kernel
theorem dX9_fallsNow_4 : decode cX9_fallsNow 4 = .ok (.aload_n 0, 1) := by decide +kernel
theorem dX9_fallsNow_5 : decode cX9_fallsNow 5 = .ok (.iload_n 1, 1) := by decide +kernel
theorem dX9_fallsNow_6 : decode cX9_fallsNow 6 = .ok (.bipush 60, 2) := by decide +kernel
theorem dX9_fallsNow_8 : decode cX9_fallsNow 8 = .ok (.invokevirtual 192, 3) := by decide +kernel
theorem dX9_fallsNow_11 : decode cX9_fallsNow 11 = .ok (.istore_n 2, 1) := by decide +kernel
theorem dX9_fallsNow_12 : decode cX9_fallsNow 12 = .ok (.aload_n 0, 1) := by decide +kernel
theorem dX9_fallsNow_13 : decode cX9_fallsNow 13 = .ok (.invokevirtual 186, 3) := by decide +kernel
theorem dX9_fallsNow_16 : decode cX9_fallsNow 16 = .ok (.iload_n 2, 1) := by decide +kernel
theorem dX9_fallsNow_17 : decode cX9_fallsNow 17 = .ok (.ireturn, 1) := by decide +kernel
theorem dX9_falls_0 : decode cX9_falls 0 = .ok (.aload_n 0, 1) := by decide +kernel
theorem dX9_falls_1 : decode cX9_falls 1 = .ok (.iload_n 1, 1) := by decide +kernel
theorem dX9_falls_2 : decode cX9_falls 2 = .ok (.invokevirtual 170, 3) := by decide +kernel
theorem dX9_falls_5 : decode cX9_falls 5 = .ok (.ifCond .eq 11, 3) := by decide +kernel
theorem dX9_falls_8 : decode cX9_falls 8 = .ok (.aload_n 0, 1) := by decide +kernel
theorem dX9_falls_9 : decode cX9_falls 9 = .ok (.iload_n 1, 1) := by decide +kernel
theorem dX9_falls_10 : decode cX9_falls 10 = .ok (.invokevirtual 195, 3) := by decide +kernel
theorem dX9_falls_13 : decode cX9_falls 13 = .ok (.goto 5, 3) := by decide +kernel
theorem dX9_falls_16 : decode cX9_falls 16 = .ok (.bipush (-101), 2) := by decide +kernel
theorem dX9_falls_18 : decode cX9_falls 18 = .ok (.ireturn, 1) := by decide +kernel
theorem dX9_safeNow_0 : decode cX9_safeNow 0 = .ok (.aload_n 0, 1) := by decide +kernel
theorem dX9_safeNow_1 : decode cX9_safeNow 1 = .ok (.invokevirtual 183, 3) := by decide +kernel
theorem dX9_safeNow_4 : decode cX9_safeNow 4 = .ok (.iconst 0, 1) := by decide +kernel
theorem dX9_safeNow_5 : decode cX9_safeNow 5 = .ok (.istore_n 3, 1) := by decide +kernel
theorem dX9_safeNow_6 : decode cX9_safeNow 6 = .ok (.iload_n 3, 1) := by decide +kernel
theorem dX9_safeNow_7 : decode cX9_safeNow 7 = .ok (.bipush 10, 2) := by decide +kernel
theorem dX9_safeNow_9 : decode cX9_safeNow 9 = .ok (.if_icmp .ge 44, 3) := by decide +kernel
theorem dX9_safeNow_12 : decode cX9_safeNow 12 = .ok (.aload_n 0, 1) := by decide +kernel
theorem dX9_safeNow_13 : decode cX9_safeNow 13 = .ok (.getfield 25, 3) := by decide +kernel
theorem dX9_safeNow_16 : decode cX9_safeNow 16 = .ok (.iload_n 1, 1) := by decide +kernel
theorem dX9_safeNow_17 : decode cX9_safeNow 17 = .ok (.iload_n 3, 1) := by decide +kernel
theorem dX9_safeNow_18 : decode cX9_safeNow 18 = .ok (.iastore, 1) := by decide +kernel
theorem dX9_safeNow_19 : decode cX9_safeNow 19 = .ok (.aload_n 0, 1) := by decide +kernel
theorem dX9_safeNow_20 : decode cX9_safeNow 20 = .ok (.iload_n 1, 1) := by decide +kernel
theorem dX9_safeNow_21 : decode cX9_safeNow 21 = .ok (.iload_n 2, 1) := by decide +kernel
theorem dX9_safeNow_22 : decode cX9_safeNow 22 = .ok (.invokevirtual 192, 3) := by decide +kernel
theorem dX9_safeNow_25 : decode cX9_safeNow 25 = .ok (.iconst (-1), 1) := by decide +kernel
theorem dX9_safeNow_26 : decode cX9_safeNow 26 = .ok (.if_icmp .ne 7, 3) := by decide +kernel
theorem dX9_safeNow_29 : decode cX9_safeNow 29 = .ok (.iconst 1, 1) := by decide +kernel
theorem dX9_safeNow_30 : decode cX9_safeNow 30 = .ok (.goto 4, 3) := by decide +kernel
theorem dX9_safeNow_33 : decode cX9_safeNow 33 = .ok (.iconst 0, 1) := by decide +kernel
theorem dX9_safeNow_34 : decode cX9_safeNow 34 = .ok (.istore 4, 2) := by decide +kernel
theorem dX9_safeNow_36 : decode cX9_safeNow 36 = .ok (.aload_n 0, 1) := by decide +kernel
theorem dX9_safeNow_37 : decode cX9_safeNow 37 = .ok (.invokevirtual 186, 3) := by decide +kernel
theorem dX9_safeNow_40 : decode cX9_safeNow 40 = .ok (.iload 4, 2) := by decide +kernel
theorem dX9_safeNow_42 : decode cX9_safeNow 42 = .ok (.ifCond .eq 5, 3) := by decide +kernel
theorem dX9_safeNow_45 : decode cX9_safeNow 45 = .ok (.iload_n 3, 1) := by decide +kernel
theorem dX9_safeNow_46 : decode cX9_safeNow 46 = .ok (.ireturn, 1) := by decide +kernel
theorem dX9_safeNow_47 : decode cX9_safeNow 47 = .ok (.iinc 3 1, 3) := by decide +kernel
theorem dX9_safeNow_50 : decode cX9_safeNow 50 = .ok (.goto (-44), 3) := by decide +kernel
theorem dX9_safeNow_53 : decode cX9_safeNow 53 = .ok (.iconst (-1), 1) := by decide +kernel
theorem dX9_safeNow_54 : decode cX9_safeNow 54 = .ok (.ireturn, 1) := by decide +kernel
theorem dX9_safe_0 : decode cX9_safe 0 = .ok (.aload_n 0, 1) := by decide +kernel
theorem dX9_safe_1 : decode cX9_safe 1 = .ok (.iload_n 1, 1) := by decide +kernel
theorem dX9_safe_2 : decode cX9_safe 2 = .ok (.invokevirtual 170, 3) := by decide +kernel
theorem dX9_safe_5 : decode cX9_safe 5 = .ok (.ifCond .ne 6, 3) := by decide +kernel
theorem dX9_safe_8 : decode cX9_safe 8 = .ok (.bipush (-101), 2) := by decide +kernel
theorem dX9_safe_10 : decode cX9_safe 10 = .ok (.ireturn, 1) := by decide +kernel
theorem dX9_safe_11 : decode cX9_safe 11 = .ok (.iload_n 2, 1) := by decide +kernel
theorem dX9_safe_12 : decode cX9_safe 12 = .ok (.iconst 1, 1) := by decide +kernel
theorem dX9_safe_13 : decode cX9_safe 13 = .ok (.bipush 30, 2) := by decide +kernel
theorem dX9_safe_15 : decode cX9_safe 15 = .ok (.invokestatic 75, 3) := by decide +kernel
theorem dX9_safe_18 : decode cX9_safe 18 = .ok (.ifCond .eq 12, 3) := by decide +kernel
theorem dX9_safe_21 : decode cX9_safe 21 = .ok (.aload_n 0, 1) := by decide +kernel
theorem dX9_safe_22 : decode cX9_safe 22 = .ok (.iload_n 1, 1) := by decide +kernel
theorem dX9_safe_23 : decode cX9_safe 23 = .ok (.iload_n 2, 1) := by decide +kernel
theorem dX9_safe_24 : decode cX9_safe 24 = .ok (.invokevirtual 198, 3) := by decide +kernel
theorem dX9_safe_27 : decode cX9_safe 27 = .ok (.goto 5, 3) := by decide +kernel
theorem dX9_safe_30 : decode cX9_safe 30 = .ok (.bipush (-102), 2) := by decide +kernel
theorem dX9_safe_32 : decode cX9_safe 32 = .ok (.ireturn, 1) := by decide +kernel
theorem dX9_power_0 : decode cX9_power 0 = .ok (.iconst 1, 1) := by decide +kernel
theorem dX9_power_1 : decode cX9_power 1 = .ok (.istore_n 1, 1) := by decide +kernel
theorem dX9_power_2 : decode cX9_power 2 = .ok (.iconst 0, 1) := by decide +kernel
theorem dX9_power_3 : decode cX9_power 3 = .ok (.istore_n 2, 1) := by decide +kernel
theorem dX9_power_4 : decode cX9_power 4 = .ok (.iload_n 2, 1) := by decide +kernel
theorem dX9_power_5 : decode cX9_power 5 = .ok (.iload_n 0, 1) := by decide +kernel
theorem dX9_power_6 : decode cX9_power 6 = .ok (.if_icmp .ge 13, 3) := by decide +kernel
theorem dX9_power_9 : decode cX9_power 9 = .ok (.iload_n 1, 1) := by decide +kernel
theorem dX9_power_10 : decode cX9_power 10 = .ok (.iconst 3, 1) := by decide +kernel
theorem dX9_power_11 : decode cX9_power 11 = .ok (.imul, 1) := by decide +kernel
theorem dX9_power_12 : decode cX9_power 12 = .ok (.istore_n 1, 1) := by decide +kernel
theorem dX9_power_13 : decode cX9_power 13 = .ok (.iinc 2 1, 3) := by decide +kernel
theorem dX9_power_16 : decode cX9_power 16 = .ok (.goto (-12), 3) := by decide +kernel
theorem dX9_power_19 : decode cX9_power 19 = .ok (.iload_n 1, 1) := by decide +kernel
theorem dX9_power_20 : decode cX9_power 20 = .ok (.ireturn, 1) := by decide +kernel
theorem dX9_grazesBy_0 : decode cX9_grazesBy 0 = .ok (.iload_n 2, 1) := by decide +kernel
theorem dX9_grazesBy_1 : decode cX9_grazesBy 1 = .ok (.istore 4, 2) := by decide +kernel
theorem dX9_grazesBy_3 : decode cX9_grazesBy 3 = .ok (.iconst 1, 1) := by decide +kernel
theorem dX9_grazesBy_4 : decode cX9_grazesBy 4 = .ok (.istore 5, 2) := by decide +kernel
theorem dX9_grazesBy_6 : decode cX9_grazesBy 6 = .ok (.iload_n 3, 1) := by decide +kernel
theorem dX9_grazesBy_7 : decode cX9_grazesBy 7 = .ok (.iconst 1, 1) := by decide +kernel
theorem dX9_grazesBy_8 : decode cX9_grazesBy 8 = .ok (.isub, 1) := by decide +kernel
theorem dX9_grazesBy_9 : decode cX9_grazesBy 9 = .ok (.istore 6, 2) := by decide +kernel
theorem dX9_grazesBy_11 : decode cX9_grazesBy 11 = .ok (.iload 6, 2) := by decide +kernel
theorem dX9_grazesBy_13 : decode cX9_grazesBy 13 = .ok (.ifCond .lt 81, 3) := by decide +kernel
theorem dX9_grazesBy_16 : decode cX9_grazesBy 16 = .ok (.iload 5, 2) := by decide +kernel
theorem dX9_grazesBy_18 : decode cX9_grazesBy 18 = .ok (.ifCond .eq 76, 3) := by decide +kernel
theorem dX9_grazesBy_21 : decode cX9_grazesBy 21 = .ok (.aload_n 0, 1) := by decide +kernel
theorem dX9_grazesBy_22 : decode cX9_grazesBy 22 = .ok (.getfield 28, 3) := by decide +kernel
theorem dX9_grazesBy_25 : decode cX9_grazesBy 25 = .ok (.iload_n 1, 1) := by decide +kernel
theorem dX9_grazesBy_26 : decode cX9_grazesBy 26 = .ok (.dup2, 1) := by decide +kernel
theorem dX9_grazesBy_27 : decode cX9_grazesBy 27 = .ok (.iaload, 1) := by decide +kernel
theorem dX9_grazesBy_28 : decode cX9_grazesBy 28 = .ok (.iload 4, 2) := by decide +kernel
theorem dX9_grazesBy_30 : decode cX9_grazesBy 30 = .ok (.iload 6, 2) := by decide +kernel
theorem dX9_grazesBy_32 : decode cX9_grazesBy 32 = .ok (.invokestatic 201, 3) := by decide +kernel
theorem dX9_grazesBy_35 : decode cX9_grazesBy 35 = .ok (.idiv, 1) := by decide +kernel
theorem dX9_grazesBy_36 : decode cX9_grazesBy 36 = .ok (.iconst 1, 1) := by decide +kernel
theorem dX9_grazesBy_37 : decode cX9_grazesBy 37 = .ok (.isub, 1) := by decide +kernel
theorem dX9_grazesBy_38 : decode cX9_grazesBy 38 = .ok (.iadd, 1) := by decide +kernel
theorem dX9_grazesBy_39 : decode cX9_grazesBy 39 = .ok (.iastore, 1) := by decide +kernel
theorem dX9_grazesBy_40 : decode cX9_grazesBy 40 = .ok (.iload 4, 2) := by decide +kernel
theorem dX9_grazesBy_42 : decode cX9_grazesBy 42 = .ok (.iload 6, 2) := by decide +kernel
theorem dX9_grazesBy_44 : decode cX9_grazesBy 44 = .ok (.invokestatic 201, 3) := by decide +kernel
theorem dX9_grazesBy_47 : decode cX9_grazesBy 47 = .ok (.irem, 1) := by decide +kernel
theorem dX9_grazesBy_48 : decode cX9_grazesBy 48 = .ok (.istore 4, 2) := by decide +kernel
theorem dX9_grazesBy_50 : decode cX9_grazesBy 50 = .ok (.aload_n 0, 1) := by decide +kernel
theorem dX9_grazesBy_51 : decode cX9_grazesBy 51 = .ok (.getfield 28, 3) := by decide +kernel
theorem dX9_grazesBy_54 : decode cX9_grazesBy 54 = .ok (.iload_n 1, 1) := by decide +kernel
theorem dX9_grazesBy_55 : decode cX9_grazesBy 55 = .ok (.iaload, 1) := by decide +kernel
theorem dX9_grazesBy_56 : decode cX9_grazesBy 56 = .ok (.invokestatic 119, 3) := by decide +kernel
theorem dX9_grazesBy_59 : decode cX9_grazesBy 59 = .ok (.istore 5, 2) := by decide +kernel
theorem dX9_grazesBy_61 : decode cX9_grazesBy 61 = .ok (.iload 5, 2) := by decide +kernel
theorem dX9_grazesBy_63 : decode cX9_grazesBy 63 = .ok (.ifCond .eq 25, 3) := by decide +kernel
theorem dX9_grazesBy_66 : decode cX9_grazesBy 66 = .ok (.aload_n 0, 1) := by decide +kernel
theorem dX9_grazesBy_67 : decode cX9_grazesBy 67 = .ok (.invokevirtual 173, 3) := by decide +kernel
theorem dX9_grazesBy_70 : decode cX9_grazesBy 70 = .ok (.pop, 1) := by decide +kernel
theorem dX9_grazesBy_71 : decode cX9_grazesBy 71 = .ok (.aload_n 0, 1) := by decide +kernel
theorem dX9_grazesBy_72 : decode cX9_grazesBy 72 = .ok (.getfield 31, 3) := by decide +kernel
theorem dX9_grazesBy_75 : decode cX9_grazesBy 75 = .ok (.iload_n 1, 1) := by decide +kernel
theorem dX9_grazesBy_76 : decode cX9_grazesBy 76 = .ok (.iaload, 1) := by decide +kernel
theorem dX9_grazesBy_77 : decode cX9_grazesBy 77 = .ok (.iconst (-1), 1) := by decide +kernel
theorem dX9_grazesBy_78 : decode cX9_grazesBy 78 = .ok (.if_icmp .ne 7, 3) := by decide +kernel
theorem dX9_grazesBy_81 : decode cX9_grazesBy 81 = .ok (.iconst 1, 1) := by decide +kernel
theorem dX9_grazesBy_82 : decode cX9_grazesBy 82 = .ok (.goto 4, 3) := by decide +kernel
theorem dX9_grazesBy_85 : decode cX9_grazesBy 85 = .ok (.iconst 0, 1) := by decide +kernel
theorem dX9_grazesBy_86 : decode cX9_grazesBy 86 = .ok (.istore 5, 2) := by decide +kernel
theorem dX9_grazesBy_88 : decode cX9_grazesBy 88 = .ok (.iinc 6 (-1), 3) := by decide +kernel
theorem dX9_grazesBy_91 : decode cX9_grazesBy 91 = .ok (.goto (-80), 3) := by decide +kernel
theorem dX9_grazesBy_94 : decode cX9_grazesBy 94 = .ok (.iload 5, 2) := by decide +kernel
theorem dX9_grazesBy_96 : decode cX9_grazesBy 96 = .ok (.ireturn, 1) := by decide +kernel
theorem dX9_grazeNow_0 : decode cX9_grazeNow 0 = .ok (.iconst 0, 1) := by decide +kernel
theorem dX9_grazeNow_1 : decode cX9_grazeNow 1 = .ok (.istore 4, 2) := by decide +kernel
theorem dX9_grazeNow_3 : decode cX9_grazeNow 3 = .ok (.iconst (-1), 1) := by decide +kernel
theorem dX9_grazeNow_4 : decode cX9_grazeNow 4 = .ok (.istore 5, 2) := by decide +kernel
theorem dX9_grazeNow_6 : decode cX9_grazeNow 6 = .ok (.aload_n 0, 1) := by decide +kernel
theorem dX9_grazeNow_7 : decode cX9_grazeNow 7 = .ok (.invokevirtual 183, 3) := by decide +kernel
theorem dX9_grazeNow_10 : decode cX9_grazeNow 10 = .ok (.iconst 0, 1) := by decide +kernel
theorem dX9_grazeNow_11 : decode cX9_grazeNow 11 = .ok (.istore 6, 2) := by decide +kernel
theorem dX9_grazeNow_13 : decode cX9_grazeNow 13 = .ok (.iload 6, 2) := by decide +kernel
theorem dX9_grazeNow_15 : decode cX9_grazeNow 15 = .ok (.iload_n 2, 1) := by decide +kernel
theorem dX9_grazeNow_16 : decode cX9_grazeNow 16 = .ok (.invokestatic 201, 3) := by decide +kernel
theorem dX9_grazeNow_19 : decode cX9_grazeNow 19 = .ok (.if_icmp .ge 74, 3) := by decide +kernel
theorem dX9_grazeNow_22 : decode cX9_grazeNow 22 = .ok (.aload_n 0, 1) := by decide +kernel
theorem dX9_grazeNow_23 : decode cX9_grazeNow 23 = .ok (.iload_n 1, 1) := by decide +kernel
theorem dX9_grazeNow_24 : decode cX9_grazeNow 24 = .ok (.iload 6, 2) := by decide +kernel
theorem dX9_grazeNow_26 : decode cX9_grazeNow 26 = .ok (.iload_n 2, 1) := by decide +kernel
theorem dX9_grazeNow_27 : decode cX9_grazeNow 27 = .ok (.invokevirtual 204, 3) := by decide +kernel
theorem dX9_grazeNow_30 : decode cX9_grazeNow 30 = .ok (.istore 7, 2) := by decide +kernel
theorem dX9_grazeNow_32 : decode cX9_grazeNow 32 = .ok (.aload_n 0, 1) := by decide +kernel
theorem dX9_grazeNow_33 : decode cX9_grazeNow 33 = .ok (.invokevirtual 186, 3) := by decide +kernel
theorem dX9_grazeNow_36 : decode cX9_grazeNow 36 = .ok (.iload 7, 2) := by decide +kernel
theorem dX9_grazeNow_38 : decode cX9_grazeNow 38 = .ok (.ifCond .eq 30, 3) := by decide +kernel
theorem dX9_grazeNow_41 : decode cX9_grazeNow 41 = .ok (.iload 5, 2) := by decide +kernel
theorem dX9_grazeNow_43 : decode cX9_grazeNow 43 = .ok (.iconst (-1), 1) := by decide +kernel
theorem dX9_grazeNow_44 : decode cX9_grazeNow 44 = .ok (.if_icmp .ne 24, 3) := by decide +kernel
theorem dX9_grazeNow_47 : decode cX9_grazeNow 47 = .ok (.aload_n 0, 1) := by decide +kernel
theorem dX9_grazeNow_48 : decode cX9_grazeNow 48 = .ok (.getfield 28, 3) := by decide +kernel
theorem dX9_grazeNow_51 : decode cX9_grazeNow 51 = .ok (.iload_n 1, 1) := by decide +kernel
theorem dX9_grazeNow_52 : decode cX9_grazeNow 52 = .ok (.iaload, 1) := by decide +kernel
theorem dX9_grazeNow_53 : decode cX9_grazeNow 53 = .ok (.iload 6, 2) := by decide +kernel
theorem dX9_grazeNow_55 : decode cX9_grazeNow 55 = .ok (.iload_n 2, 1) := by decide +kernel
theorem dX9_grazeNow_56 : decode cX9_grazeNow 56 = .ok (.iconst 1, 1) := by decide +kernel
theorem dX9_grazeNow_57 : decode cX9_grazeNow 57 = .ok (.isub, 1) := by decide +kernel
theorem dX9_grazeNow_58 : decode cX9_grazeNow 58 = .ok (.invokestatic 201, 3) := by decide +kernel
theorem dX9_grazeNow_61 : decode cX9_grazeNow 61 = .ok (.idiv, 1) := by decide +kernel
theorem dX9_grazeNow_62 : decode cX9_grazeNow 62 = .ok (.iadd, 1) := by decide +kernel
theorem dX9_grazeNow_63 : decode cX9_grazeNow 63 = .ok (.iconst 1, 1) := by decide +kernel
theorem dX9_grazeNow_64 : decode cX9_grazeNow 64 = .ok (.isub, 1) := by decide +kernel
theorem dX9_grazeNow_65 : decode cX9_grazeNow 65 = .ok (.goto 5, 3) := by decide +kernel
theorem dX9_grazeNow_68 : decode cX9_grazeNow 68 = .ok (.iload 5, 2) := by decide +kernel
theorem dX9_grazeNow_70 : decode cX9_grazeNow 70 = .ok (.istore 5, 2) := by decide +kernel
theorem dX9_grazeNow_72 : decode cX9_grazeNow 72 = .ok (.iload 4, 2) := by decide +kernel
theorem dX9_grazeNow_74 : decode cX9_grazeNow 74 = .ok (.iload 7, 2) := by decide +kernel
theorem dX9_grazeNow_76 : decode cX9_grazeNow 76 = .ok (.ifCond .eq 7, 3) := by decide +kernel
theorem dX9_grazeNow_79 : decode cX9_grazeNow 79 = .ok (.iconst 1, 1) := by decide +kernel
theorem dX9_grazeNow_80 : decode cX9_grazeNow 80 = .ok (.goto 4, 3) := by decide +kernel
theorem dX9_grazeNow_83 : decode cX9_grazeNow 83 = .ok (.iconst 0, 1) := by decide +kernel
theorem dX9_grazeNow_84 : decode cX9_grazeNow 84 = .ok (.iadd, 1) := by decide +kernel
theorem dX9_grazeNow_85 : decode cX9_grazeNow 85 = .ok (.istore 4, 2) := by decide +kernel
theorem dX9_grazeNow_87 : decode cX9_grazeNow 87 = .ok (.iinc 6 1, 3) := by decide +kernel
theorem dX9_grazeNow_90 : decode cX9_grazeNow 90 = .ok (.goto (-77), 3) := by decide +kernel
theorem dX9_grazeNow_93 : decode cX9_grazeNow 93 = .ok (.iload_n 3, 1) := by decide +kernel
theorem dX9_grazeNow_94 : decode cX9_grazeNow 94 = .ok (.ifCond .ne 8, 3) := by decide +kernel
theorem dX9_grazeNow_97 : decode cX9_grazeNow 97 = .ok (.iload 5, 2) := by decide +kernel
theorem dX9_grazeNow_99 : decode cX9_grazeNow 99 = .ok (.goto 5, 3) := by decide +kernel
theorem dX9_grazeNow_102 : decode cX9_grazeNow 102 = .ok (.iload 4, 2) := by decide +kernel
theorem dX9_grazeNow_104 : decode cX9_grazeNow 104 = .ok (.ireturn, 1) := by decide +kernel
theorem dX9_graze_0 : decode cX9_graze 0 = .ok (.aload_n 0, 1) := by decide +kernel
theorem dX9_graze_1 : decode cX9_graze 1 = .ok (.iload_n 1, 1) := by decide +kernel
theorem dX9_graze_2 : decode cX9_graze 2 = .ok (.invokevirtual 170, 3) := by decide +kernel
theorem dX9_graze_5 : decode cX9_graze 5 = .ok (.ifCond .ne 6, 3) := by decide +kernel
theorem dX9_graze_8 : decode cX9_graze 8 = .ok (.bipush (-101), 2) := by decide +kernel
theorem dX9_graze_10 : decode cX9_graze 10 = .ok (.ireturn, 1) := by decide +kernel
theorem dX9_graze_11 : decode cX9_graze 11 = .ok (.iload_n 2, 1) := by decide +kernel
theorem dX9_graze_12 : decode cX9_graze 12 = .ok (.iconst 1, 1) := by decide +kernel
theorem dX9_graze_13 : decode cX9_graze 13 = .ok (.bipush 6, 2) := by decide +kernel
theorem dX9_graze_15 : decode cX9_graze 15 = .ok (.invokestatic 75, 3) := by decide +kernel
theorem dX9_graze_18 : decode cX9_graze 18 = .ok (.ifCond .eq 12, 3) := by decide +kernel
theorem dX9_graze_21 : decode cX9_graze 21 = .ok (.iload_n 3, 1) := by decide +kernel
theorem dX9_graze_22 : decode cX9_graze 22 = .ok (.iconst 0, 1) := by decide +kernel
theorem dX9_graze_23 : decode cX9_graze 23 = .ok (.iconst 1, 1) := by decide +kernel
theorem dX9_graze_24 : decode cX9_graze 24 = .ok (.invokestatic 75, 3) := by decide +kernel
theorem dX9_graze_27 : decode cX9_graze 27 = .ok (.ifCond .ne 6, 3) := by decide +kernel
theorem dX9_graze_30 : decode cX9_graze 30 = .ok (.bipush (-102), 2) := by decide +kernel
theorem dX9_graze_32 : decode cX9_graze 32 = .ok (.ireturn, 1) := by decide +kernel
theorem dX9_graze_33 : decode cX9_graze 33 = .ok (.aload_n 0, 1) := by decide +kernel
theorem dX9_graze_34 : decode cX9_graze 34 = .ok (.getfield 207, 3) := by decide +kernel
theorem dX9_graze_37 : decode cX9_graze 37 = .ok (.bipush 60, 2) := by decide +kernel
theorem dX9_graze_39 : decode cX9_graze 39 = .ok (.if_icmp .ne 6, 3) := by decide +kernel
theorem dX9_graze_42 : decode cX9_graze 42 = .ok (.bipush (-103), 2) := by decide +kernel
theorem dX9_graze_44 : decode cX9_graze 44 = .ok (.ireturn, 1) := by decide +kernel
theorem dX9_graze_45 : decode cX9_graze 45 = .ok (.aload_n 0, 1) := by decide +kernel
theorem dX9_graze_46 : decode cX9_graze 46 = .ok (.dup, 1) := by decide +kernel
theorem dX9_graze_47 : decode cX9_graze 47 = .ok (.getfield 207, 3) := by decide +kernel
theorem dX9_graze_50 : decode cX9_graze 50 = .ok (.iconst 1, 1) := by decide +kernel
theorem dX9_graze_51 : decode cX9_graze 51 = .ok (.iadd, 1) := by decide +kernel
theorem dX9_graze_52 : decode cX9_graze 52 = .ok (.putfield 207, 3) := by decide +kernel
theorem dX9_graze_55 : decode cX9_graze 55 = .ok (.aload_n 0, 1) := by decide +kernel
theorem dX9_graze_56 : decode cX9_graze 56 = .ok (.iload_n 1, 1) := by decide +kernel
theorem dX9_graze_57 : decode cX9_graze 57 = .ok (.iload_n 2, 1) := by decide +kernel
theorem dX9_graze_58 : decode cX9_graze 58 = .ok (.iload_n 3, 1) := by decide +kernel
theorem dX9_graze_59 : decode cX9_graze 59 = .ok (.invokevirtual 210, 3) := by decide +kernel
theorem dX9_graze_62 : decode cX9_graze 62 = .ok (.ireturn, 1) := by decide +kernel
theorem dX9_fastsOn_0 : decode cX9_fastsOn 0 = .ok (.iconst 0, 1) := by decide +kernel
theorem dX9_fastsOn_1 : decode cX9_fastsOn 1 = .ok (.istore_n 3, 1) := by decide +kernel
theorem dX9_fastsOn_2 : decode cX9_fastsOn 2 = .ok (.iload_n 3, 1) := by decide +kernel
theorem dX9_fastsOn_3 : decode cX9_fastsOn 3 = .ok (.bipush 30, 2) := by decide +kernel
theorem dX9_fastsOn_5 : decode cX9_fastsOn 5 = .ok (.if_icmp .ge 35, 3) := by decide +kernel
theorem dX9_fastsOn_8 : decode cX9_fastsOn 8 = .ok (.aload_n 0, 1) := by decide +kernel
theorem dX9_fastsOn_9 : decode cX9_fastsOn 9 = .ok (.aload_n 0, 1) := by decide +kernel
theorem dX9_fastsOn_10 : decode cX9_fastsOn 10 = .ok (.getfield 16, 3) := by decide +kernel
theorem dX9_fastsOn_13 : decode cX9_fastsOn 13 = .ok (.iload_n 1, 1) := by decide +kernel
theorem dX9_fastsOn_14 : decode cX9_fastsOn 14 = .ok (.iaload, 1) := by decide +kernel
theorem dX9_fastsOn_15 : decode cX9_fastsOn 15 = .ok (.iload_n 2, 1) := by decide +kernel
theorem dX9_fastsOn_16 : decode cX9_fastsOn 16 = .ok (.aload_n 0, 1) := by decide +kernel
theorem dX9_fastsOn_17 : decode cX9_fastsOn 17 = .ok (.getfield 22, 3) := by decide +kernel
theorem dX9_fastsOn_20 : decode cX9_fastsOn 20 = .ok (.iload_n 1, 1) := by decide +kernel
theorem dX9_fastsOn_21 : decode cX9_fastsOn 21 = .ok (.iaload, 1) := by decide +kernel
theorem dX9_fastsOn_22 : decode cX9_fastsOn 22 = .ok (.aload_n 0, 1) := by decide +kernel
theorem dX9_fastsOn_23 : decode cX9_fastsOn 23 = .ok (.getfield 146, 3) := by decide +kernel
theorem dX9_fastsOn_26 : decode cX9_fastsOn 26 = .ok (.iload_n 3, 1) := by decide +kernel
theorem dX9_fastsOn_27 : decode cX9_fastsOn 27 = .ok (.iadd, 1) := by decide +kernel
theorem dX9_fastsOn_28 : decode cX9_fastsOn 28 = .ok (.invokevirtual 129, 3) := by decide +kernel
theorem dX9_fastsOn_31 : decode cX9_fastsOn 31 = .ok (.ifCond .eq 9, 3) := by decide +kernel
theorem dX9_fastsOn_34 : decode cX9_fastsOn 34 = .ok (.iinc 3 1, 3) := by decide +kernel
theorem dX9_fastsOn_37 : decode cX9_fastsOn 37 = .ok (.goto (-35), 3) := by decide +kernel
theorem dX9_fastsOn_40 : decode cX9_fastsOn 40 = .ok (.iload_n 3, 1) := by decide +kernel
theorem dX9_fastsOn_41 : decode cX9_fastsOn 41 = .ok (.ireturn, 1) := by decide +kernel
theorem dX9_nailNow_0 : decode cX9_nailNow 0 = .ok (.iconst (-1), 1) := by decide +kernel
theorem dX9_nailNow_1 : decode cX9_nailNow 1 = .ok (.istore_n 3, 1) := by decide +kernel
theorem dX9_nailNow_2 : decode cX9_nailNow 2 = .ok (.iconst 0, 1) := by decide +kernel
theorem dX9_nailNow_3 : decode cX9_nailNow 3 = .ok (.istore 4, 2) := by decide +kernel
theorem dX9_nailNow_5 : decode cX9_nailNow 5 = .ok (.iconst 0, 1) := by decide +kernel
theorem dX9_nailNow_6 : decode cX9_nailNow 6 = .ok (.istore 5, 2) := by decide +kernel
theorem dX9_nailNow_8 : decode cX9_nailNow 8 = .ok (.iload 5, 2) := by decide +kernel
theorem dX9_nailNow_10 : decode cX9_nailNow 10 = .ok (.bipush 30, 2) := by decide +kernel
theorem dX9_nailNow_12 : decode cX9_nailNow 12 = .ok (.if_icmp .ge 48, 3) := by decide +kernel
theorem dX9_nailNow_15 : decode cX9_nailNow 15 = .ok (.aload_n 0, 1) := by decide +kernel
theorem dX9_nailNow_16 : decode cX9_nailNow 16 = .ok (.iload_n 1, 1) := by decide +kernel
theorem dX9_nailNow_17 : decode cX9_nailNow 17 = .ok (.iload 5, 2) := by decide +kernel
theorem dX9_nailNow_19 : decode cX9_nailNow 19 = .ok (.invokevirtual 214, 3) := by decide +kernel
theorem dX9_nailNow_22 : decode cX9_nailNow 22 = .ok (.istore 6, 2) := by decide +kernel
theorem dX9_nailNow_24 : decode cX9_nailNow 24 = .ok (.iload 6, 2) := by decide +kernel
theorem dX9_nailNow_26 : decode cX9_nailNow 26 = .ok (.iload 4, 2) := by decide +kernel
theorem dX9_nailNow_28 : decode cX9_nailNow 28 = .ok (.if_icmp .le 8, 3) := by decide +kernel
theorem dX9_nailNow_31 : decode cX9_nailNow 31 = .ok (.iload 5, 2) := by decide +kernel
theorem dX9_nailNow_33 : decode cX9_nailNow 33 = .ok (.goto 4, 3) := by decide +kernel
theorem dX9_nailNow_36 : decode cX9_nailNow 36 = .ok (.iload_n 3, 1) := by decide +kernel
theorem dX9_nailNow_37 : decode cX9_nailNow 37 = .ok (.istore_n 3, 1) := by decide +kernel
theorem dX9_nailNow_38 : decode cX9_nailNow 38 = .ok (.iload 6, 2) := by decide +kernel
theorem dX9_nailNow_40 : decode cX9_nailNow 40 = .ok (.iload 4, 2) := by decide +kernel
theorem dX9_nailNow_42 : decode cX9_nailNow 42 = .ok (.if_icmp .le 8, 3) := by decide +kernel
theorem dX9_nailNow_45 : decode cX9_nailNow 45 = .ok (.iload 6, 2) := by decide +kernel
theorem dX9_nailNow_47 : decode cX9_nailNow 47 = .ok (.goto 5, 3) := by decide +kernel
theorem dX9_nailNow_50 : decode cX9_nailNow 50 = .ok (.iload 4, 2) := by decide +kernel
theorem dX9_nailNow_52 : decode cX9_nailNow 52 = .ok (.istore 4, 2) := by decide +kernel
theorem dX9_nailNow_54 : decode cX9_nailNow 54 = .ok (.iinc 5 1, 3) := by decide +kernel
theorem dX9_nailNow_57 : decode cX9_nailNow 57 = .ok (.goto (-49), 3) := by decide +kernel
theorem dX9_nailNow_60 : decode cX9_nailNow 60 = .ok (.iload_n 2, 1) := by decide +kernel
theorem dX9_nailNow_61 : decode cX9_nailNow 61 = .ok (.ifCond .eq 8, 3) := by decide +kernel
theorem dX9_nailNow_64 : decode cX9_nailNow 64 = .ok (.iload_n 3, 1) := by decide +kernel
theorem dX9_nailNow_65 : decode cX9_nailNow 65 = .ok (.iconst (-1), 1) := by decide +kernel
theorem dX9_nailNow_66 : decode cX9_nailNow 66 = .ok (.if_icmp .ne 7, 3) := by decide +kernel
theorem dX9_nailNow_69 : decode cX9_nailNow 69 = .ok (.iload_n 3, 1) := by decide +kernel
theorem dX9_nailNow_70 : decode cX9_nailNow 70 = .ok (.goto 5, 3) := by decide +kernel
theorem dX9_nailNow_73 : decode cX9_nailNow 73 = .ok (.iload 4, 2) := by decide +kernel
theorem dX9_nailNow_75 : decode cX9_nailNow 75 = .ok (.ireturn, 1) := by decide +kernel
theorem dX9_nail_0 : decode cX9_nail 0 = .ok (.aload_n 0, 1) := by decide +kernel
theorem dX9_nail_1 : decode cX9_nail 1 = .ok (.iload_n 1, 1) := by decide +kernel
theorem dX9_nail_2 : decode cX9_nail 2 = .ok (.invokevirtual 155, 3) := by decide +kernel
theorem dX9_nail_5 : decode cX9_nail 5 = .ok (.ifCond .ne 6, 3) := by decide +kernel
theorem dX9_nail_8 : decode cX9_nail 8 = .ok (.bipush (-101), 2) := by decide +kernel
theorem dX9_nail_10 : decode cX9_nail 10 = .ok (.ireturn, 1) := by decide +kernel
theorem dX9_nail_11 : decode cX9_nail 11 = .ok (.iload_n 2, 1) := by decide +kernel
theorem dX9_nail_12 : decode cX9_nail 12 = .ok (.iconst 0, 1) := by decide +kernel
theorem dX9_nail_13 : decode cX9_nail 13 = .ok (.iconst 1, 1) := by decide +kernel
theorem dX9_nail_14 : decode cX9_nail 14 = .ok (.invokestatic 75, 3) := by decide +kernel
theorem dX9_nail_17 : decode cX9_nail 17 = .ok (.ifCond .eq 12, 3) := by decide +kernel
theorem dX9_nail_20 : decode cX9_nail 20 = .ok (.aload_n 0, 1) := by decide +kernel
theorem dX9_nail_21 : decode cX9_nail 21 = .ok (.iload_n 1, 1) := by decide +kernel
theorem dX9_nail_22 : decode cX9_nail 22 = .ok (.iload_n 2, 1) := by decide +kernel
theorem dX9_nail_23 : decode cX9_nail 23 = .ok (.invokevirtual 217, 3) := by decide +kernel
theorem dX9_nail_26 : decode cX9_nail 26 = .ok (.goto 5, 3) := by decide +kernel
theorem dX9_nail_29 : decode cX9_nail 29 = .ok (.bipush (-102), 2) := by decide +kernel
theorem dX9_nail_31 : decode cX9_nail 31 = .ok (.ireturn, 1) := by decide +kernel
theorem dX9_watch_0 : decode cX9_watch 0 = .ok (.aload_n 0, 1) := by decide +kernel
theorem dX9_watch_1 : decode cX9_watch 1 = .ok (.iload_n 1, 1) := by decide +kernel
theorem dX9_watch_2 : decode cX9_watch 2 = .ok (.invokevirtual 155, 3) := by decide +kernel
theorem dX9_watch_5 : decode cX9_watch 5 = .ok (.ifCond .ne 6, 3) := by decide +kernel
theorem dX9_watch_8 : decode cX9_watch 8 = .ok (.bipush (-101), 2) := by decide +kernel
theorem dX9_watch_10 : decode cX9_watch 10 = .ok (.ireturn, 1) := by decide +kernel
theorem dX9_watch_11 : decode cX9_watch 11 = .ok (.aload_n 0, 1) := by decide +kernel
theorem dX9_watch_12 : decode cX9_watch 12 = .ok (.getfield 220, 3) := by decide +kernel
theorem dX9_watch_15 : decode cX9_watch 15 = .ok (.istore_n 2, 1) := by decide +kernel
theorem dX9_watch_16 : decode cX9_watch 16 = .ok (.aload_n 0, 1) := by decide +kernel
theorem dX9_watch_17 : decode cX9_watch 17 = .ok (.iload_n 1, 1) := by decide +kernel
theorem dX9_watch_18 : decode cX9_watch 18 = .ok (.putfield 34, 3) := by decide +kernel
theorem dX9_watch_21 : decode cX9_watch 21 = .ok (.aload_n 0, 1) := by decide +kernel
theorem dX9_watch_22 : decode cX9_watch 22 = .ok (.aload_n 0, 1) := by decide +kernel
theorem dX9_watch_23 : decode cX9_watch 23 = .ok (.getfield 146, 3) := by decide +kernel
theorem dX9_watch_26 : decode cX9_watch 26 = .ok (.putfield 223, 3) := by decide +kernel
theorem dX9_watch_29 : decode cX9_watch 29 = .ok (.aload_n 0, 1) := by decide +kernel
theorem dX9_watch_30 : decode cX9_watch 30 = .ok (.iconst 0, 1) := by decide +kernel
theorem dX9_watch_31 : decode cX9_watch 31 = .ok (.putfield 220, 3) := by decide +kernel
theorem dX9_watch_34 : decode cX9_watch 34 = .ok (.iload_n 2, 1) := by decide +kernel
theorem dX9_watch_35 : decode cX9_watch 35 = .ok (.ireturn, 1) := by decide +kernel
theorem dX9_seen_0 : decode cX9_seen 0 = .ok (.aload_n 0, 1) := by decide +kernel
theorem dX9_seen_1 : decode cX9_seen 1 = .ok (.getfield 34, 3) := by decide +kernel
theorem dX9_seen_4 : decode cX9_seen 4 = .ok (.iconst (-1), 1) := by decide +kernel
theorem dX9_seen_5 : decode cX9_seen 5 = .ok (.if_icmp .ne 6, 3) := by decide +kernel
theorem dX9_seen_8 : decode cX9_seen 8 = .ok (.bipush (-103), 2) := by decide +kernel
theorem dX9_seen_10 : decode cX9_seen 10 = .ok (.ireturn, 1) := by decide +kernel
theorem dX9_seen_11 : decode cX9_seen 11 = .ok (.aload_n 0, 1) := by decide +kernel
theorem dX9_seen_12 : decode cX9_seen 12 = .ok (.getfield 220, 3) := by decide +kernel
theorem dX9_seen_15 : decode cX9_seen 15 = .ok (.bipush 8, 2) := by decide +kernel
theorem dX9_seen_17 : decode cX9_seen 17 = .ok (.if_icmp .ne 6, 3) := by decide +kernel
theorem dX9_seen_20 : decode cX9_seen 20 = .ok (.bipush (-104), 2) := by decide +kernel
theorem dX9_seen_22 : decode cX9_seen 22 = .ok (.ireturn, 1) := by decide +kernel
theorem dX9_seen_23 : decode cX9_seen 23 = .ok (.aload_n 0, 1) := by decide +kernel
theorem dX9_seen_24 : decode cX9_seen 24 = .ok (.getfield 38, 3) := by decide +kernel
theorem dX9_seen_27 : decode cX9_seen 27 = .ok (.aload_n 0, 1) := by decide +kernel
theorem dX9_seen_28 : decode cX9_seen 28 = .ok (.getfield 220, 3) := by decide +kernel
theorem dX9_seen_31 : decode cX9_seen 31 = .ok (.iload_n 1, 1) := by decide +kernel
theorem dX9_seen_32 : decode cX9_seen 32 = .ok (.ifCond .eq 7, 3) := by decide +kernel
theorem dX9_seen_35 : decode cX9_seen 35 = .ok (.iconst 1, 1) := by decide +kernel
theorem dX9_seen_36 : decode cX9_seen 36 = .ok (.goto 4, 3) := by decide +kernel
theorem dX9_seen_39 : decode cX9_seen 39 = .ok (.iconst 0, 1) := by decide +kernel
theorem dX9_seen_40 : decode cX9_seen 40 = .ok (.iastore, 1) := by decide +kernel
theorem dX9_seen_41 : decode cX9_seen 41 = .ok (.aload_n 0, 1) := by decide +kernel
theorem dX9_seen_42 : decode cX9_seen 42 = .ok (.dup, 1) := by decide +kernel
theorem dX9_seen_43 : decode cX9_seen 43 = .ok (.getfield 220, 3) := by decide +kernel
theorem dX9_seen_46 : decode cX9_seen 46 = .ok (.iconst 1, 1) := by decide +kernel
theorem dX9_seen_47 : decode cX9_seen 47 = .ok (.iadd, 1) := by decide +kernel
theorem dX9_seen_48 : decode cX9_seen 48 = .ok (.putfield 220, 3) := by decide +kernel
theorem dX9_seen_51 : decode cX9_seen 51 = .ok (.aload_n 0, 1) := by decide +kernel
theorem dX9_seen_52 : decode cX9_seen 52 = .ok (.getfield 220, 3) := by decide +kernel
theorem dX9_seen_55 : decode cX9_seen 55 = .ok (.ireturn, 1) := by decide +kernel
theorem dX9_isSeenSo_0 : decode cX9_isSeenSo 0 = .ok (.iconst 1, 1) := by decide +kernel
theorem dX9_isSeenSo_1 : decode cX9_isSeenSo 1 = .ok (.istore_n 3, 1) := by decide +kernel
theorem dX9_isSeenSo_2 : decode cX9_isSeenSo 2 = .ok (.iconst 0, 1) := by decide +kernel
theorem dX9_isSeenSo_3 : decode cX9_isSeenSo 3 = .ok (.istore 4, 2) := by decide +kernel
theorem dX9_isSeenSo_5 : decode cX9_isSeenSo 5 = .ok (.iload 4, 2) := by decide +kernel
theorem dX9_isSeenSo_7 : decode cX9_isSeenSo 7 = .ok (.aload_n 0, 1) := by decide +kernel
theorem dX9_isSeenSo_8 : decode cX9_isSeenSo 8 = .ok (.getfield 220, 3) := by decide +kernel
theorem dX9_isSeenSo_11 : decode cX9_isSeenSo 11 = .ok (.if_icmp .ge 68, 3) := by decide +kernel
theorem dX9_isSeenSo_14 : decode cX9_isSeenSo 14 = .ok (.aload_n 0, 1) := by decide +kernel
theorem dX9_isSeenSo_15 : decode cX9_isSeenSo 15 = .ok (.iload_n 1, 1) := by decide +kernel
theorem dX9_isSeenSo_16 : decode cX9_isSeenSo 16 = .ok (.aload_n 0, 1) := by decide +kernel
theorem dX9_isSeenSo_17 : decode cX9_isSeenSo 17 = .ok (.getfield 13, 3) := by decide +kernel
theorem dX9_isSeenSo_20 : decode cX9_isSeenSo 20 = .ok (.aload_n 0, 1) := by decide +kernel
theorem dX9_isSeenSo_21 : decode cX9_isSeenSo 21 = .ok (.getfield 19, 3) := by decide +kernel
theorem dX9_isSeenSo_24 : decode cX9_isSeenSo 24 = .ok (.aload_n 0, 1) := by decide +kernel
theorem dX9_isSeenSo_25 : decode cX9_isSeenSo 25 = .ok (.getfield 34, 3) := by decide +kernel
theorem dX9_isSeenSo_28 : decode cX9_isSeenSo 28 = .ok (.iaload, 1) := by decide +kernel
theorem dX9_isSeenSo_29 : decode cX9_isSeenSo 29 = .ok (.iaload, 1) := by decide +kernel
theorem dX9_isSeenSo_30 : decode cX9_isSeenSo 30 = .ok (.iload_n 2, 1) := by decide +kernel
theorem dX9_isSeenSo_31 : decode cX9_isSeenSo 31 = .ok (.aload_n 0, 1) := by decide +kernel
theorem dX9_isSeenSo_32 : decode cX9_isSeenSo 32 = .ok (.getfield 223, 3) := by decide +kernel
theorem dX9_isSeenSo_35 : decode cX9_isSeenSo 35 = .ok (.iload 4, 2) := by decide +kernel
theorem dX9_isSeenSo_37 : decode cX9_isSeenSo 37 = .ok (.iadd, 1) := by decide +kernel
theorem dX9_isSeenSo_38 : decode cX9_isSeenSo 38 = .ok (.invokevirtual 129, 3) := by decide +kernel
theorem dX9_isSeenSo_41 : decode cX9_isSeenSo 41 = .ok (.istore 5, 2) := by decide +kernel
theorem dX9_isSeenSo_43 : decode cX9_isSeenSo 43 = .ok (.iload_n 3, 1) := by decide +kernel
theorem dX9_isSeenSo_44 : decode cX9_isSeenSo 44 = .ok (.ifCond .eq 27, 3) := by decide +kernel
theorem dX9_isSeenSo_47 : decode cX9_isSeenSo 47 = .ok (.iload 5, 2) := by decide +kernel
theorem dX9_isSeenSo_49 : decode cX9_isSeenSo 49 = .ok (.aload_n 0, 1) := by decide +kernel
theorem dX9_isSeenSo_50 : decode cX9_isSeenSo 50 = .ok (.getfield 38, 3) := by decide +kernel
theorem dX9_isSeenSo_53 : decode cX9_isSeenSo 53 = .ok (.iload 4, 2) := by decide +kernel
theorem dX9_isSeenSo_55 : decode cX9_isSeenSo 55 = .ok (.iaload, 1) := by decide +kernel
theorem dX9_isSeenSo_56 : decode cX9_isSeenSo 56 = .ok (.ifCond .ne 7, 3) := by decide +kernel
theorem dX9_isSeenSo_59 : decode cX9_isSeenSo 59 = .ok (.iconst 1, 1) := by decide +kernel
theorem dX9_isSeenSo_60 : decode cX9_isSeenSo 60 = .ok (.goto 4, 3) := by decide +kernel
theorem dX9_isSeenSo_63 : decode cX9_isSeenSo 63 = .ok (.iconst 0, 1) := by decide +kernel
theorem dX9_isSeenSo_64 : decode cX9_isSeenSo 64 = .ok (.if_icmp .ne 7, 3) := by decide +kernel
theorem dX9_isSeenSo_67 : decode cX9_isSeenSo 67 = .ok (.iconst 1, 1) := by decide +kernel
theorem dX9_isSeenSo_68 : decode cX9_isSeenSo 68 = .ok (.goto 4, 3) := by decide +kernel
theorem dX9_isSeenSo_71 : decode cX9_isSeenSo 71 = .ok (.iconst 0, 1) := by decide +kernel
theorem dX9_isSeenSo_72 : decode cX9_isSeenSo 72 = .ok (.istore_n 3, 1) := by decide +kernel
theorem dX9_isSeenSo_73 : decode cX9_isSeenSo 73 = .ok (.iinc 4 1, 3) := by decide +kernel
theorem dX9_isSeenSo_76 : decode cX9_isSeenSo 76 = .ok (.goto (-71), 3) := by decide +kernel
theorem dX9_isSeenSo_79 : decode cX9_isSeenSo 79 = .ok (.iload_n 3, 1) := by decide +kernel
theorem dX9_isSeenSo_80 : decode cX9_isSeenSo 80 = .ok (.ireturn, 1) := by decide +kernel
theorem dX9_fitsNow_0 : decode cX9_fitsNow 0 = .ok (.iconst 0, 1) := by decide +kernel
theorem dX9_fitsNow_1 : decode cX9_fitsNow 1 = .ok (.istore_n 2, 1) := by decide +kernel
theorem dX9_fitsNow_2 : decode cX9_fitsNow 2 = .ok (.iconst 0, 1) := by decide +kernel
theorem dX9_fitsNow_3 : decode cX9_fitsNow 3 = .ok (.istore_n 3, 1) := by decide +kernel
theorem dX9_fitsNow_4 : decode cX9_fitsNow 4 = .ok (.iload_n 3, 1) := by decide +kernel
theorem dX9_fitsNow_5 : decode cX9_fitsNow 5 = .ok (.iload_n 1, 1) := by decide +kernel
theorem dX9_fitsNow_6 : decode cX9_fitsNow 6 = .ok (.ifCond .ne 8, 3) := by decide +kernel
theorem dX9_fitsNow_9 : decode cX9_fitsNow 9 = .ok (.bipush 10, 2) := by decide +kernel
theorem dX9_fitsNow_11 : decode cX9_fitsNow 11 = .ok (.goto 4, 3) := by decide +kernel
theorem dX9_fitsNow_14 : decode cX9_fitsNow 14 = .ok (.iconst 5, 1) := by decide +kernel
theorem dX9_fitsNow_15 : decode cX9_fitsNow 15 = .ok (.if_icmp .ge 53, 3) := by decide +kernel
theorem dX9_fitsNow_18 : decode cX9_fitsNow 18 = .ok (.iload_n 1, 1) := by decide +kernel
theorem dX9_fitsNow_19 : decode cX9_fitsNow 19 = .ok (.ifCond .ne 12, 3) := by decide +kernel
theorem dX9_fitsNow_22 : decode cX9_fitsNow 22 = .ok (.aload_n 0, 1) := by decide +kernel
theorem dX9_fitsNow_23 : decode cX9_fitsNow 23 = .ok (.iconst 3, 1) := by decide +kernel
theorem dX9_fitsNow_24 : decode cX9_fitsNow 24 = .ok (.iload_n 3, 1) := by decide +kernel
theorem dX9_fitsNow_25 : decode cX9_fitsNow 25 = .ok (.invokevirtual 226, 3) := by decide +kernel
theorem dX9_fitsNow_28 : decode cX9_fitsNow 28 = .ok (.goto 17, 3) := by decide +kernel
theorem dX9_fitsNow_31 : decode cX9_fitsNow 31 = .ok (.aload_n 0, 1) := by decide +kernel
theorem dX9_fitsNow_32 : decode cX9_fitsNow 32 = .ok (.iload_n 3, 1) := by decide +kernel
theorem dX9_fitsNow_33 : decode cX9_fitsNow 33 = .ok (.aload_n 0, 1) := by decide +kernel
theorem dX9_fitsNow_34 : decode cX9_fitsNow 34 = .ok (.getfield 22, 3) := by decide +kernel
theorem dX9_fitsNow_37 : decode cX9_fitsNow 37 = .ok (.aload_n 0, 1) := by decide +kernel
theorem dX9_fitsNow_38 : decode cX9_fitsNow 38 = .ok (.getfield 34, 3) := by decide +kernel
theorem dX9_fitsNow_41 : decode cX9_fitsNow 41 = .ok (.iaload, 1) := by decide +kernel
theorem dX9_fitsNow_42 : decode cX9_fitsNow 42 = .ok (.invokevirtual 226, 3) := by decide +kernel
theorem dX9_fitsNow_45 : decode cX9_fitsNow 45 = .ok (.istore 4, 2) := by decide +kernel
theorem dX9_fitsNow_47 : decode cX9_fitsNow 47 = .ok (.iload_n 2, 1) := by decide +kernel
theorem dX9_fitsNow_48 : decode cX9_fitsNow 48 = .ok (.iload 4, 2) := by decide +kernel
theorem dX9_fitsNow_50 : decode cX9_fitsNow 50 = .ok (.ifCond .eq 9, 3) := by decide +kernel
theorem dX9_fitsNow_53 : decode cX9_fitsNow 53 = .ok (.iconst 1, 1) := by decide +kernel
theorem dX9_fitsNow_54 : decode cX9_fitsNow 54 = .ok (.iload_n 3, 1) := by decide +kernel
theorem dX9_fitsNow_55 : decode cX9_fitsNow 55 = .ok (.ishl, 1) := by decide +kernel
theorem dX9_fitsNow_56 : decode cX9_fitsNow 56 = .ok (.goto 4, 3) := by decide +kernel
theorem dX9_fitsNow_59 : decode cX9_fitsNow 59 = .ok (.iconst 0, 1) := by decide +kernel
theorem dX9_fitsNow_60 : decode cX9_fitsNow 60 = .ok (.ior, 1) := by decide +kernel
theorem dX9_fitsNow_61 : decode cX9_fitsNow 61 = .ok (.istore_n 2, 1) := by decide +kernel
theorem dX9_fitsNow_62 : decode cX9_fitsNow 62 = .ok (.iinc 3 1, 3) := by decide +kernel
theorem dX9_fitsNow_65 : decode cX9_fitsNow 65 = .ok (.goto (-61), 3) := by decide +kernel
theorem dX9_fitsNow_68 : decode cX9_fitsNow 68 = .ok (.iload_n 2, 1) := by decide +kernel
theorem dX9_fitsNow_69 : decode cX9_fitsNow 69 = .ok (.ireturn, 1) := by decide +kernel
theorem dX9_fits_0 : decode cX9_fits 0 = .ok (.iload_n 1, 1) := by decide +kernel
theorem dX9_fits_1 : decode cX9_fits 1 = .ok (.iconst 0, 1) := by decide +kernel
theorem dX9_fits_2 : decode cX9_fits 2 = .ok (.iconst 1, 1) := by decide +kernel
theorem dX9_fits_3 : decode cX9_fits 3 = .ok (.invokestatic 75, 3) := by decide +kernel
theorem dX9_fits_6 : decode cX9_fits 6 = .ok (.ifCond .ne 6, 3) := by decide +kernel
theorem dX9_fits_9 : decode cX9_fits 9 = .ok (.bipush (-102), 2) := by decide +kernel
theorem dX9_fits_11 : decode cX9_fits 11 = .ok (.ireturn, 1) := by decide +kernel
theorem dX9_fits_12 : decode cX9_fits 12 = .ok (.aload_n 0, 1) := by decide +kernel
theorem dX9_fits_13 : decode cX9_fits 13 = .ok (.getfield 34, 3) := by decide +kernel
theorem dX9_fits_16 : decode cX9_fits 16 = .ok (.iconst (-1), 1) := by decide +kernel
theorem dX9_fits_17 : decode cX9_fits 17 = .ok (.if_icmp .ne 8, 3) := by decide +kernel
theorem dX9_fits_20 : decode cX9_fits 20 = .ok (.bipush (-103), 2) := by decide +kernel
theorem dX9_fits_22 : decode cX9_fits 22 = .ok (.goto 8, 3) := by decide +kernel
theorem dX9_fits_25 : decode cX9_fits 25 = .ok (.aload_n 0, 1) := by decide +kernel
theorem dX9_fits_26 : decode cX9_fits 26 = .ok (.iload_n 1, 1) := by decide +kernel
theorem dX9_fits_27 : decode cX9_fits 27 = .ok (.invokevirtual 229, 3) := by decide +kernel
theorem dX9_fits_30 : decode cX9_fits 30 = .ok (.ireturn, 1) := by decide +kernel
theorem dX9_draw_0 : decode cX9_draw 0 = .ok (.aload_n 0, 1) := by decide +kernel
theorem dX9_draw_1 : decode cX9_draw 1 = .ok (.ldc2_w 232, 3) := by decide +kernel
theorem dX9_draw_4 : decode cX9_draw 4 = .ok (.aload_n 0, 1) := by decide +kernel
theorem dX9_draw_5 : decode cX9_draw 5 = .ok (.getfield 234, 3) := by decide +kernel
theorem dX9_draw_8 : decode cX9_draw 8 = .ok (.lmul, 1) := by decide +kernel
theorem dX9_draw_9 : decode cX9_draw 9 = .ok (.ldc2_w 238, 3) := by decide +kernel
theorem dX9_draw_12 : decode cX9_draw 12 = .ok (.ladd, 1) := by decide +kernel
theorem dX9_draw_13 : decode cX9_draw 13 = .ok (.ldc2_w 240, 3) := by decide +kernel
theorem dX9_draw_16 : decode cX9_draw 16 = .ok (.land, 1) := by decide +kernel
theorem dX9_draw_17 : decode cX9_draw 17 = .ok (.putfield 234, 3) := by decide +kernel
theorem dX9_draw_20 : decode cX9_draw 20 = .ok (.aload_n 0, 1) := by decide +kernel
theorem dX9_draw_21 : decode cX9_draw 21 = .ok (.getfield 234, 3) := by decide +kernel
theorem dX9_draw_24 : decode cX9_draw 24 = .ok (.ldc2_w 242, 3) := by decide +kernel
theorem dX9_draw_27 : decode cX9_draw 27 = .ok (.ldiv, 1) := by decide +kernel
theorem dX9_draw_28 : decode cX9_draw 28 = .ok (.iload_n 1, 1) := by decide +kernel
theorem dX9_draw_29 : decode cX9_draw 29 = .ok (.i2l, 1) := by decide +kernel
theorem dX9_draw_30 : decode cX9_draw 30 = .ok (.lrem, 1) := by decide +kernel
theorem dX9_draw_31 : decode cX9_draw 31 = .ok (.l2i, 1) := by decide +kernel
theorem dX9_draw_32 : decode cX9_draw 32 = .ok (.ireturn, 1) := by decide +kernel
theorem dX9_yearsNow_0 : decode cX9_yearsNow 0 = .ok (.aload_n 0, 1) := by decide +kernel
theorem dX9_yearsNow_1 : decode cX9_yearsNow 1 = .ok (.invokevirtual 183, 3) := by decide +kernel
theorem dX9_yearsNow_4 : decode cX9_yearsNow 4 = .ok (.aload_n 0, 1) := by decide +kernel
theorem dX9_yearsNow_5 : decode cX9_yearsNow 5 = .ok (.iload_n 2, 1) := by decide +kernel
theorem dX9_yearsNow_6 : decode cX9_yearsNow 6 = .ok (.i2l, 1) := by decide +kernel
theorem dX9_yearsNow_7 : decode cX9_yearsNow 7 = .ok (.putfield 234, 3) := by decide +kernel
theorem dX9_yearsNow_10 : decode cX9_yearsNow 10 = .ok (.iconst 0, 1) := by decide +kernel
theorem dX9_yearsNow_11 : decode cX9_yearsNow 11 = .ok (.istore 4, 2) := by decide +kernel
theorem dX9_yearsNow_13 : decode cX9_yearsNow 13 = .ok (.iload 4, 2) := by decide +kernel
theorem dX9_yearsNow_15 : decode cX9_yearsNow 15 = .ok (.iload_n 1, 1) := by decide +kernel
theorem dX9_yearsNow_16 : decode cX9_yearsNow 16 = .ok (.if_icmp .ge 44, 3) := by decide +kernel
theorem dX9_yearsNow_19 : decode cX9_yearsNow 19 = .ok (.aload_n 0, 1) := by decide +kernel
theorem dX9_yearsNow_20 : decode cX9_yearsNow 20 = .ok (.bipush 8, 2) := by decide +kernel
theorem dX9_yearsNow_22 : decode cX9_yearsNow 22 = .ok (.invokevirtual 244, 3) := by decide +kernel
theorem dX9_yearsNow_25 : decode cX9_yearsNow 25 = .ok (.ifCond .ne 24, 3) := by decide +kernel
theorem dX9_yearsNow_28 : decode cX9_yearsNow 28 = .ok (.aload_n 0, 1) := by decide +kernel
theorem dX9_yearsNow_29 : decode cX9_yearsNow 29 = .ok (.bipush 8, 2) := by decide +kernel
theorem dX9_yearsNow_31 : decode cX9_yearsNow 31 = .ok (.invokevirtual 244, 3) := by decide +kernel
theorem dX9_yearsNow_34 : decode cX9_yearsNow 34 = .ok (.istore 5, 2) := by decide +kernel
theorem dX9_yearsNow_36 : decode cX9_yearsNow 36 = .ok (.aload_n 0, 1) := by decide +kernel
theorem dX9_yearsNow_37 : decode cX9_yearsNow 37 = .ok (.getfield 13, 3) := by decide +kernel
theorem dX9_yearsNow_40 : decode cX9_yearsNow 40 = .ok (.iload 5, 2) := by decide +kernel
theorem dX9_yearsNow_42 : decode cX9_yearsNow 42 = .ok (.aload_n 0, 1) := by decide +kernel
theorem dX9_yearsNow_43 : decode cX9_yearsNow 43 = .ok (.bipush 30, 2) := by decide +kernel
theorem dX9_yearsNow_45 : decode cX9_yearsNow 45 = .ok (.invokevirtual 244, 3) := by decide +kernel
theorem dX9_yearsNow_48 : decode cX9_yearsNow 48 = .ok (.iastore, 1) := by decide +kernel
theorem dX9_yearsNow_49 : decode cX9_yearsNow 49 = .ok (.aload_n 0, 1) := by decide +kernel
theorem dX9_yearsNow_50 : decode cX9_yearsNow 50 = .ok (.invokevirtual 173, 3) := by decide +kernel
theorem dX9_yearsNow_53 : decode cX9_yearsNow 53 = .ok (.pop, 1) := by decide +kernel
theorem dX9_yearsNow_54 : decode cX9_yearsNow 54 = .ok (.iinc 4 1, 3) := by decide +kernel
theorem dX9_yearsNow_57 : decode cX9_yearsNow 57 = .ok (.goto (-44), 3) := by decide +kernel
theorem dX9_yearsNow_60 : decode cX9_yearsNow 60 = .ok (.aload_n 0, 1) := by decide +kernel
theorem dX9_yearsNow_61 : decode cX9_yearsNow 61 = .ok (.invokevirtual 180, 3) := by decide +kernel
theorem dX9_yearsNow_64 : decode cX9_yearsNow 64 = .ok (.istore 4, 2) := by decide +kernel
theorem dX9_yearsNow_66 : decode cX9_yearsNow 66 = .ok (.aload_n 0, 1) := by decide +kernel
theorem dX9_yearsNow_67 : decode cX9_yearsNow 67 = .ok (.invokevirtual 186, 3) := by decide +kernel
theorem dX9_yearsNow_70 : decode cX9_yearsNow 70 = .ok (.iload_n 3, 1) := by decide +kernel
theorem dX9_yearsNow_71 : decode cX9_yearsNow 71 = .ok (.ifCond .ne 8, 3) := by decide +kernel
theorem dX9_yearsNow_74 : decode cX9_yearsNow 74 = .ok (.iload 4, 2) := by decide +kernel
theorem dX9_yearsNow_76 : decode cX9_yearsNow 76 = .ok (.goto 8, 3) := by decide +kernel
theorem dX9_yearsNow_79 : decode cX9_yearsNow 79 = .ok (.aload_n 0, 1) := by decide +kernel
theorem dX9_yearsNow_80 : decode cX9_yearsNow 80 = .ok (.getfield 234, 3) := by decide +kernel
theorem dX9_yearsNow_83 : decode cX9_yearsNow 83 = .ok (.l2i, 1) := by decide +kernel
theorem dX9_yearsNow_84 : decode cX9_yearsNow 84 = .ok (.ireturn, 1) := by decide +kernel
theorem dX9_years_0 : decode cX9_years 0 = .ok (.iload_n 1, 1) := by decide +kernel
theorem dX9_years_1 : decode cX9_years 1 = .ok (.iconst 1, 1) := by decide +kernel
theorem dX9_years_2 : decode cX9_years 2 = .ok (.bipush 60, 2) := by decide +kernel
theorem dX9_years_4 : decode cX9_years 4 = .ok (.invokestatic 75, 3) := by decide +kernel
theorem dX9_years_7 : decode cX9_years 7 = .ok (.ifCond .eq 26, 3) := by decide +kernel
theorem dX9_years_10 : decode cX9_years 10 = .ok (.iload_n 2, 1) := by decide +kernel
theorem dX9_years_11 : decode cX9_years 11 = .ok (.ifCond .lt 22, 3) := by decide +kernel
theorem dX9_years_14 : decode cX9_years 14 = .ok (.iload_n 3, 1) := by decide +kernel
theorem dX9_years_15 : decode cX9_years 15 = .ok (.iconst 0, 1) := by decide +kernel
theorem dX9_years_16 : decode cX9_years 16 = .ok (.iconst 1, 1) := by decide +kernel
theorem dX9_years_17 : decode cX9_years 17 = .ok (.invokestatic 75, 3) := by decide +kernel
theorem dX9_years_20 : decode cX9_years 20 = .ok (.ifCond .eq 13, 3) := by decide +kernel
theorem dX9_years_23 : decode cX9_years 23 = .ok (.aload_n 0, 1) := by decide +kernel
theorem dX9_years_24 : decode cX9_years 24 = .ok (.iload_n 1, 1) := by decide +kernel
theorem dX9_years_25 : decode cX9_years 25 = .ok (.iload_n 2, 1) := by decide +kernel
theorem dX9_years_26 : decode cX9_years 26 = .ok (.iload_n 3, 1) := by decide +kernel
theorem dX9_years_27 : decode cX9_years 27 = .ok (.invokevirtual 247, 3) := by decide +kernel
theorem dX9_years_30 : decode cX9_years 30 = .ok (.goto 5, 3) := by decide +kernel
theorem dX9_years_33 : decode cX9_years 33 = .ok (.bipush (-102), 2) := by decide +kernel
theorem dX9_years_35 : decode cX9_years 35 = .ok (.ireturn, 1) := by decide +kernel
theorem dX9_image_0 : decode cX9_image 0 = .ok (.aload_n 0, 1) := by decide +kernel
theorem dX9_image_1 : decode cX9_image 1 = .ok (.iconst 1, 1) := by decide +kernel
theorem dX9_image_2 : decode cX9_image 2 = .ok (.putfield 250, 3) := by decide +kernel
theorem dX9_image_5 : decode cX9_image 5 = .ok (.aload_n 0, 1) := by decide +kernel
theorem dX9_image_6 : decode cX9_image 6 = .ok (.aload_n 0, 1) := by decide +kernel
theorem dX9_image_7 : decode cX9_image 7 = .ok (.getfield 146, 3) := by decide +kernel
theorem dX9_image_10 : decode cX9_image 10 = .ok (.putfield 253, 3) := by decide +kernel
theorem dX9_image_13 : decode cX9_image 13 = .ok (.aload_n 0, 1) := by decide +kernel
theorem dX9_image_14 : decode cX9_image 14 = .ok (.aload_n 0, 1) := by decide +kernel
theorem dX9_image_15 : decode cX9_image 15 = .ok (.getfield 122, 3) := by decide +kernel
theorem dX9_image_18 : decode cX9_image 18 = .ok (.putfield 256, 3) := by decide +kernel
theorem dX9_image_21 : decode cX9_image 21 = .ok (.aload_n 0, 1) := by decide +kernel
theorem dX9_image_22 : decode cX9_image 22 = .ok (.aload_n 0, 1) := by decide +kernel
theorem dX9_image_23 : decode cX9_image 23 = .ok (.getfield 133, 3) := by decide +kernel
theorem dX9_image_26 : decode cX9_image 26 = .ok (.putfield 259, 3) := by decide +kernel
theorem dX9_image_29 : decode cX9_image 29 = .ok (.aload_n 0, 1) := by decide +kernel
theorem dX9_image_30 : decode cX9_image 30 = .ok (.aload_n 0, 1) := by decide +kernel
theorem dX9_image_31 : decode cX9_image 31 = .ok (.getfield 34, 3) := by decide +kernel
theorem dX9_image_34 : decode cX9_image 34 = .ok (.putfield 262, 3) := by decide +kernel
theorem dX9_image_37 : decode cX9_image 37 = .ok (.aload_n 0, 1) := by decide +kernel
theorem dX9_image_38 : decode cX9_image 38 = .ok (.aload_n 0, 1) := by decide +kernel
theorem dX9_image_39 : decode cX9_image 39 = .ok (.getfield 223, 3) := by decide +kernel
theorem dX9_image_42 : decode cX9_image 42 = .ok (.putfield 265, 3) := by decide +kernel
theorem dX9_image_45 : decode cX9_image 45 = .ok (.aload_n 0, 1) := by decide +kernel
theorem dX9_image_46 : decode cX9_image 46 = .ok (.aload_n 0, 1) := by decide +kernel
theorem dX9_image_47 : decode cX9_image 47 = .ok (.getfield 220, 3) := by decide +kernel
theorem dX9_image_50 : decode cX9_image 50 = .ok (.putfield 268, 3) := by decide +kernel
theorem dX9_image_53 : decode cX9_image 53 = .ok (.iconst 0, 1) := by decide +kernel
theorem dX9_image_54 : decode cX9_image 54 = .ok (.istore_n 1, 1) := by decide +kernel
theorem dX9_image_55 : decode cX9_image 55 = .ok (.iload_n 1, 1) := by decide +kernel
theorem dX9_image_56 : decode cX9_image 56 = .ok (.bipush 8, 2) := by decide +kernel
theorem dX9_image_58 : decode cX9_image 58 = .ok (.if_icmp .ge 33, 3) := by decide +kernel
theorem dX9_image_61 : decode cX9_image 61 = .ok (.aload_n 0, 1) := by decide +kernel
theorem dX9_image_62 : decode cX9_image 62 = .ok (.getfield 63, 3) := by decide +kernel
theorem dX9_image_65 : decode cX9_image 65 = .ok (.iload_n 1, 1) := by decide +kernel
theorem dX9_image_66 : decode cX9_image 66 = .ok (.aload_n 0, 1) := by decide +kernel
theorem dX9_image_67 : decode cX9_image 67 = .ok (.getfield 13, 3) := by decide +kernel
theorem dX9_image_70 : decode cX9_image 70 = .ok (.iload_n 1, 1) := by decide +kernel
theorem dX9_image_71 : decode cX9_image 71 = .ok (.iaload, 1) := by decide +kernel
theorem dX9_image_72 : decode cX9_image 72 = .ok (.iastore, 1) := by decide +kernel
theorem dX9_image_73 : decode cX9_image 73 = .ok (.aload_n 0, 1) := by decide +kernel
theorem dX9_image_74 : decode cX9_image 74 = .ok (.getfield 60, 3) := by decide +kernel
theorem dX9_image_77 : decode cX9_image 77 = .ok (.iload_n 1, 1) := by decide +kernel
theorem dX9_image_78 : decode cX9_image 78 = .ok (.aload_n 0, 1) := by decide +kernel
theorem dX9_image_79 : decode cX9_image 79 = .ok (.getfield 38, 3) := by decide +kernel
theorem dX9_image_82 : decode cX9_image 82 = .ok (.iload_n 1, 1) := by decide +kernel
theorem dX9_image_83 : decode cX9_image 83 = .ok (.iaload, 1) := by decide +kernel
theorem dX9_image_84 : decode cX9_image 84 = .ok (.iastore, 1) := by decide +kernel
theorem dX9_image_85 : decode cX9_image 85 = .ok (.iinc 1 1, 3) := by decide +kernel
theorem dX9_image_88 : decode cX9_image 88 = .ok (.goto (-33), 3) := by decide +kernel
theorem dX9_image_91 : decode cX9_image 91 = .ok (.iconst 0, 1) := by decide +kernel
theorem dX9_image_92 : decode cX9_image 92 = .ok (.istore_n 1, 1) := by decide +kernel
theorem dX9_image_93 : decode cX9_image 93 = .ok (.iload_n 1, 1) := by decide +kernel
theorem dX9_image_94 : decode cX9_image 94 = .ok (.iconst 5, 1) := by decide +kernel
theorem dX9_image_95 : decode cX9_image 95 = .ok (.if_icmp .ge 45, 3) := by decide +kernel
theorem dX9_image_98 : decode cX9_image 98 = .ok (.aload_n 0, 1) := by decide +kernel
theorem dX9_image_99 : decode cX9_image 99 = .ok (.getfield 66, 3) := by decide +kernel
theorem dX9_image_102 : decode cX9_image 102 = .ok (.iload_n 1, 1) := by decide +kernel
theorem dX9_image_103 : decode cX9_image 103 = .ok (.aload_n 0, 1) := by decide +kernel
theorem dX9_image_104 : decode cX9_image 104 = .ok (.getfield 25, 3) := by decide +kernel
theorem dX9_image_107 : decode cX9_image 107 = .ok (.iload_n 1, 1) := by decide +kernel
theorem dX9_image_108 : decode cX9_image 108 = .ok (.iaload, 1) := by decide +kernel
theorem dX9_image_109 : decode cX9_image 109 = .ok (.iastore, 1) := by decide +kernel
theorem dX9_image_110 : decode cX9_image 110 = .ok (.aload_n 0, 1) := by decide +kernel
theorem dX9_image_111 : decode cX9_image 111 = .ok (.getfield 69, 3) := by decide +kernel
theorem dX9_image_114 : decode cX9_image 114 = .ok (.iload_n 1, 1) := by decide +kernel
theorem dX9_image_115 : decode cX9_image 115 = .ok (.aload_n 0, 1) := by decide +kernel
theorem dX9_image_116 : decode cX9_image 116 = .ok (.getfield 28, 3) := by decide +kernel
theorem dX9_image_119 : decode cX9_image 119 = .ok (.iload_n 1, 1) := by decide +kernel
theorem dX9_image_120 : decode cX9_image 120 = .ok (.iaload, 1) := by decide +kernel
theorem dX9_image_121 : decode cX9_image 121 = .ok (.iastore, 1) := by decide +kernel
theorem dX9_image_122 : decode cX9_image 122 = .ok (.aload_n 0, 1) := by decide +kernel
theorem dX9_image_123 : decode cX9_image 123 = .ok (.getfield 72, 3) := by decide +kernel
theorem dX9_image_126 : decode cX9_image 126 = .ok (.iload_n 1, 1) := by decide +kernel
theorem dX9_image_127 : decode cX9_image 127 = .ok (.aload_n 0, 1) := by decide +kernel
theorem dX9_image_128 : decode cX9_image 128 = .ok (.getfield 31, 3) := by decide +kernel
theorem dX9_image_131 : decode cX9_image 131 = .ok (.iload_n 1, 1) := by decide +kernel
theorem dX9_image_132 : decode cX9_image 132 = .ok (.iaload, 1) := by decide +kernel
theorem dX9_image_133 : decode cX9_image 133 = .ok (.iastore, 1) := by decide +kernel
theorem dX9_image_134 : decode cX9_image 134 = .ok (.iinc 1 1, 3) := by decide +kernel
theorem dX9_image_137 : decode cX9_image 137 = .ok (.goto (-44), 3) := by decide +kernel
theorem dX9_image_140 : decode cX9_image 140 = .ok (.aload_n 0, 1) := by decide +kernel
theorem dX9_image_141 : decode cX9_image 141 = .ok (.getfield 146, 3) := by decide +kernel
theorem dX9_image_144 : decode cX9_image 144 = .ok (.ireturn, 1) := by decide +kernel
theorem dX9_restore_0 : decode cX9_restore 0 = .ok (.aload_n 0, 1) := by decide +kernel
theorem dX9_restore_1 : decode cX9_restore 1 = .ok (.getfield 250, 3) := by decide +kernel
theorem dX9_restore_4 : decode cX9_restore 4 = .ok (.ifCond .ne 6, 3) := by decide +kernel
theorem dX9_restore_7 : decode cX9_restore 7 = .ok (.bipush (-103), 2) := by decide +kernel
theorem dX9_restore_9 : decode cX9_restore 9 = .ok (.ireturn, 1) := by decide +kernel
theorem dX9_restore_10 : decode cX9_restore 10 = .ok (.aload_n 0, 1) := by decide +kernel
theorem dX9_restore_11 : decode cX9_restore 11 = .ok (.aload_n 0, 1) := by decide +kernel
theorem dX9_restore_12 : decode cX9_restore 12 = .ok (.getfield 253, 3) := by decide +kernel
theorem dX9_restore_15 : decode cX9_restore 15 = .ok (.putfield 146, 3) := by decide +kernel
theorem dX9_restore_18 : decode cX9_restore 18 = .ok (.aload_n 0, 1) := by decide +kernel
theorem dX9_restore_19 : decode cX9_restore 19 = .ok (.aload_n 0, 1) := by decide +kernel
theorem dX9_restore_20 : decode cX9_restore 20 = .ok (.getfield 256, 3) := by decide +kernel
theorem dX9_restore_23 : decode cX9_restore 23 = .ok (.putfield 122, 3) := by decide +kernel
theorem dX9_restore_26 : decode cX9_restore 26 = .ok (.aload_n 0, 1) := by decide +kernel
theorem dX9_restore_27 : decode cX9_restore 27 = .ok (.aload_n 0, 1) := by decide +kernel
theorem dX9_restore_28 : decode cX9_restore 28 = .ok (.getfield 259, 3) := by decide +kernel
theorem dX9_restore_31 : decode cX9_restore 31 = .ok (.putfield 133, 3) := by decide +kernel
theorem dX9_restore_34 : decode cX9_restore 34 = .ok (.aload_n 0, 1) := by decide +kernel
theorem dX9_restore_35 : decode cX9_restore 35 = .ok (.aload_n 0, 1) := by decide +kernel
theorem dX9_restore_36 : decode cX9_restore 36 = .ok (.getfield 262, 3) := by decide +kernel
theorem dX9_restore_39 : decode cX9_restore 39 = .ok (.putfield 34, 3) := by decide +kernel
theorem dX9_restore_42 : decode cX9_restore 42 = .ok (.aload_n 0, 1) := by decide +kernel
theorem dX9_restore_43 : decode cX9_restore 43 = .ok (.aload_n 0, 1) := by decide +kernel
theorem dX9_restore_44 : decode cX9_restore 44 = .ok (.getfield 265, 3) := by decide +kernel
theorem dX9_restore_47 : decode cX9_restore 47 = .ok (.putfield 223, 3) := by decide +kernel
theorem dX9_restore_50 : decode cX9_restore 50 = .ok (.aload_n 0, 1) := by decide +kernel
theorem dX9_restore_51 : decode cX9_restore 51 = .ok (.aload_n 0, 1) := by decide +kernel
theorem dX9_restore_52 : decode cX9_restore 52 = .ok (.getfield 268, 3) := by decide +kernel
theorem dX9_restore_55 : decode cX9_restore 55 = .ok (.putfield 220, 3) := by decide +kernel
theorem dX9_restore_58 : decode cX9_restore 58 = .ok (.iconst 0, 1) := by decide +kernel
theorem dX9_restore_59 : decode cX9_restore 59 = .ok (.istore_n 1, 1) := by decide +kernel
theorem dX9_restore_60 : decode cX9_restore 60 = .ok (.iload_n 1, 1) := by decide +kernel
theorem dX9_restore_61 : decode cX9_restore 61 = .ok (.bipush 8, 2) := by decide +kernel
theorem dX9_restore_63 : decode cX9_restore 63 = .ok (.if_icmp .ge 33, 3) := by decide +kernel
theorem dX9_restore_66 : decode cX9_restore 66 = .ok (.aload_n 0, 1) := by decide +kernel
theorem dX9_restore_67 : decode cX9_restore 67 = .ok (.getfield 13, 3) := by decide +kernel
theorem dX9_restore_70 : decode cX9_restore 70 = .ok (.iload_n 1, 1) := by decide +kernel
theorem dX9_restore_71 : decode cX9_restore 71 = .ok (.aload_n 0, 1) := by decide +kernel
theorem dX9_restore_72 : decode cX9_restore 72 = .ok (.getfield 63, 3) := by decide +kernel
theorem dX9_restore_75 : decode cX9_restore 75 = .ok (.iload_n 1, 1) := by decide +kernel
theorem dX9_restore_76 : decode cX9_restore 76 = .ok (.iaload, 1) := by decide +kernel
theorem dX9_restore_77 : decode cX9_restore 77 = .ok (.iastore, 1) := by decide +kernel
theorem dX9_restore_78 : decode cX9_restore 78 = .ok (.aload_n 0, 1) := by decide +kernel
theorem dX9_restore_79 : decode cX9_restore 79 = .ok (.getfield 38, 3) := by decide +kernel
theorem dX9_restore_82 : decode cX9_restore 82 = .ok (.iload_n 1, 1) := by decide +kernel
theorem dX9_restore_83 : decode cX9_restore 83 = .ok (.aload_n 0, 1) := by decide +kernel
theorem dX9_restore_84 : decode cX9_restore 84 = .ok (.getfield 60, 3) := by decide +kernel
theorem dX9_restore_87 : decode cX9_restore 87 = .ok (.iload_n 1, 1) := by decide +kernel
theorem dX9_restore_88 : decode cX9_restore 88 = .ok (.iaload, 1) := by decide +kernel
theorem dX9_restore_89 : decode cX9_restore 89 = .ok (.iastore, 1) := by decide +kernel
theorem dX9_restore_90 : decode cX9_restore 90 = .ok (.iinc 1 1, 3) := by decide +kernel
theorem dX9_restore_93 : decode cX9_restore 93 = .ok (.goto (-33), 3) := by decide +kernel
theorem dX9_restore_96 : decode cX9_restore 96 = .ok (.iconst 0, 1) := by decide +kernel
theorem dX9_restore_97 : decode cX9_restore 97 = .ok (.istore_n 1, 1) := by decide +kernel
theorem dX9_restore_98 : decode cX9_restore 98 = .ok (.iload_n 1, 1) := by decide +kernel
theorem dX9_restore_99 : decode cX9_restore 99 = .ok (.iconst 5, 1) := by decide +kernel
theorem dX9_restore_100 : decode cX9_restore 100 = .ok (.if_icmp .ge 45, 3) := by decide +kernel
theorem dX9_restore_103 : decode cX9_restore 103 = .ok (.aload_n 0, 1) := by decide +kernel
theorem dX9_restore_104 : decode cX9_restore 104 = .ok (.getfield 25, 3) := by decide +kernel
theorem dX9_restore_107 : decode cX9_restore 107 = .ok (.iload_n 1, 1) := by decide +kernel
theorem dX9_restore_108 : decode cX9_restore 108 = .ok (.aload_n 0, 1) := by decide +kernel
theorem dX9_restore_109 : decode cX9_restore 109 = .ok (.getfield 66, 3) := by decide +kernel
theorem dX9_restore_112 : decode cX9_restore 112 = .ok (.iload_n 1, 1) := by decide +kernel
theorem dX9_restore_113 : decode cX9_restore 113 = .ok (.iaload, 1) := by decide +kernel
theorem dX9_restore_114 : decode cX9_restore 114 = .ok (.iastore, 1) := by decide +kernel
theorem dX9_restore_115 : decode cX9_restore 115 = .ok (.aload_n 0, 1) := by decide +kernel
theorem dX9_restore_116 : decode cX9_restore 116 = .ok (.getfield 28, 3) := by decide +kernel
theorem dX9_restore_119 : decode cX9_restore 119 = .ok (.iload_n 1, 1) := by decide +kernel
theorem dX9_restore_120 : decode cX9_restore 120 = .ok (.aload_n 0, 1) := by decide +kernel
theorem dX9_restore_121 : decode cX9_restore 121 = .ok (.getfield 69, 3) := by decide +kernel
theorem dX9_restore_124 : decode cX9_restore 124 = .ok (.iload_n 1, 1) := by decide +kernel
theorem dX9_restore_125 : decode cX9_restore 125 = .ok (.iaload, 1) := by decide +kernel
theorem dX9_restore_126 : decode cX9_restore 126 = .ok (.iastore, 1) := by decide +kernel
theorem dX9_restore_127 : decode cX9_restore 127 = .ok (.aload_n 0, 1) := by decide +kernel
theorem dX9_restore_128 : decode cX9_restore 128 = .ok (.getfield 31, 3) := by decide +kernel
theorem dX9_restore_131 : decode cX9_restore 131 = .ok (.iload_n 1, 1) := by decide +kernel
theorem dX9_restore_132 : decode cX9_restore 132 = .ok (.aload_n 0, 1) := by decide +kernel
theorem dX9_restore_133 : decode cX9_restore 133 = .ok (.getfield 72, 3) := by decide +kernel
theorem dX9_restore_136 : decode cX9_restore 136 = .ok (.iload_n 1, 1) := by decide +kernel
theorem dX9_restore_137 : decode cX9_restore 137 = .ok (.iaload, 1) := by decide +kernel
theorem dX9_restore_138 : decode cX9_restore 138 = .ok (.iastore, 1) := by decide +kernel
theorem dX9_restore_139 : decode cX9_restore 139 = .ok (.iinc 1 1, 3) := by decide +kernel
theorem dX9_restore_142 : decode cX9_restore 142 = .ok (.goto (-44), 3) := by decide +kernel
theorem dX9_restore_145 : decode cX9_restore 145 = .ok (.aload_n 0, 1) := by decide +kernel
theorem dX9_restore_146 : decode cX9_restore 146 = .ok (.getfield 146, 3) := by decide +kernel
theorem dX9_restore_149 : decode cX9_restore 149 = .ok (.ireturn, 1) := by decide +kernel
theorem dX9_forgedMany_0 : decode cX9_forgedMany 0 = .ok (.iconst 0, 1) := by decide +kernel
theorem dX9_forgedMany_1 : decode cX9_forgedMany 1 = .ok (.istore_n 1, 1) := by decide +kernel
theorem dX9_forgedMany_2 : decode cX9_forgedMany 2 = .ok (.iconst 0, 1) := by decide +kernel
theorem dX9_forgedMany_3 : decode cX9_forgedMany 3 = .ok (.istore_n 2, 1) := by decide +kernel
theorem dX9_forgedMany_4 : decode cX9_forgedMany 4 = .ok (.iload_n 2, 1) := by decide +kernel
theorem dX9_forgedMany_5 : decode cX9_forgedMany 5 = .ok (.bipush 8, 2) := by decide +kernel
theorem dX9_forgedMany_7 : decode cX9_forgedMany 7 = .ok (.if_icmp .ge 26, 3) := by decide +kernel
theorem dX9_forgedMany_10 : decode cX9_forgedMany 10 = .ok (.iload_n 1, 1) := by decide +kernel
theorem dX9_forgedMany_11 : decode cX9_forgedMany 11 = .ok (.aload_n 0, 1) := by decide +kernel
theorem dX9_forgedMany_12 : decode cX9_forgedMany 12 = .ok (.getfield 13, 3) := by decide +kernel
theorem dX9_forgedMany_15 : decode cX9_forgedMany 15 = .ok (.iload_n 2, 1) := by decide +kernel
theorem dX9_forgedMany_16 : decode cX9_forgedMany 16 = .ok (.iaload, 1) := by decide +kernel
theorem dX9_forgedMany_17 : decode cX9_forgedMany 17 = .ok (.ifCond .ne 7, 3) := by decide +kernel
theorem dX9_forgedMany_20 : decode cX9_forgedMany 20 = .ok (.iconst 0, 1) := by decide +kernel
theorem dX9_forgedMany_21 : decode cX9_forgedMany 21 = .ok (.goto 4, 3) := by decide +kernel
theorem dX9_forgedMany_24 : decode cX9_forgedMany 24 = .ok (.iconst 1, 1) := by decide +kernel
theorem dX9_forgedMany_25 : decode cX9_forgedMany 25 = .ok (.iadd, 1) := by decide +kernel
theorem dX9_forgedMany_26 : decode cX9_forgedMany 26 = .ok (.istore_n 1, 1) := by decide +kernel
theorem dX9_forgedMany_27 : decode cX9_forgedMany 27 = .ok (.iinc 2 1, 3) := by decide +kernel
theorem dX9_forgedMany_30 : decode cX9_forgedMany 30 = .ok (.goto (-26), 3) := by decide +kernel
theorem dX9_forgedMany_33 : decode cX9_forgedMany 33 = .ok (.iload_n 1, 1) := by decide +kernel
theorem dX9_forgedMany_34 : decode cX9_forgedMany 34 = .ok (.ireturn, 1) := by decide +kernel
theorem dX9_howMany_0 : decode cX9_howMany 0 = .ok (.iload_n 1, 1) := by decide +kernel
theorem dX9_howMany_1 : decode cX9_howMany 1 = .ok (.tableswitch 105 0 9 #[55, 60, 65, 70, 75, 80, 85, 90, 95, 100], 55) := by decide +kernel
theorem dX9_howMany_56 : decode cX9_howMany 56 = .ok (.aload_n 0, 1) := by decide +kernel
theorem dX9_howMany_57 : decode cX9_howMany 57 = .ok (.getfield 102, 3) := by decide +kernel
theorem dX9_howMany_60 : decode cX9_howMany 60 = .ok (.ireturn, 1) := by decide +kernel
theorem dX9_howMany_61 : decode cX9_howMany 61 = .ok (.aload_n 0, 1) := by decide +kernel
theorem dX9_howMany_62 : decode cX9_howMany 62 = .ok (.getfield 122, 3) := by decide +kernel
theorem dX9_howMany_65 : decode cX9_howMany 65 = .ok (.ireturn, 1) := by decide +kernel
theorem dX9_howMany_66 : decode cX9_howMany 66 = .ok (.aload_n 0, 1) := by decide +kernel
theorem dX9_howMany_67 : decode cX9_howMany 67 = .ok (.getfield 133, 3) := by decide +kernel
theorem dX9_howMany_70 : decode cX9_howMany 70 = .ok (.ireturn, 1) := by decide +kernel
theorem dX9_howMany_71 : decode cX9_howMany 71 = .ok (.aload_n 0, 1) := by decide +kernel
theorem dX9_howMany_72 : decode cX9_howMany 72 = .ok (.invokevirtual 180, 3) := by decide +kernel
theorem dX9_howMany_75 : decode cX9_howMany 75 = .ok (.ireturn, 1) := by decide +kernel
theorem dX9_howMany_76 : decode cX9_howMany 76 = .ok (.aload_n 0, 1) := by decide +kernel
theorem dX9_howMany_77 : decode cX9_howMany 77 = .ok (.getfield 146, 3) := by decide +kernel
theorem dX9_howMany_80 : decode cX9_howMany 80 = .ok (.ireturn, 1) := by decide +kernel
theorem dX9_howMany_81 : decode cX9_howMany 81 = .ok (.aload_n 0, 1) := by decide +kernel
theorem dX9_howMany_82 : decode cX9_howMany 82 = .ok (.invokevirtual 271, 3) := by decide +kernel
theorem dX9_howMany_85 : decode cX9_howMany 85 = .ok (.ireturn, 1) := by decide +kernel
theorem dX9_howMany_86 : decode cX9_howMany 86 = .ok (.aload_n 0, 1) := by decide +kernel
theorem dX9_howMany_87 : decode cX9_howMany 87 = .ok (.getfield 220, 3) := by decide +kernel
theorem dX9_howMany_90 : decode cX9_howMany 90 = .ok (.ireturn, 1) := by decide +kernel
theorem dX9_howMany_91 : decode cX9_howMany 91 = .ok (.aload_n 0, 1) := by decide +kernel
theorem dX9_howMany_92 : decode cX9_howMany 92 = .ok (.getfield 79, 3) := by decide +kernel
theorem dX9_howMany_95 : decode cX9_howMany 95 = .ok (.ireturn, 1) := by decide +kernel
theorem dX9_howMany_96 : decode cX9_howMany 96 = .ok (.aload_n 0, 1) := by decide +kernel
theorem dX9_howMany_97 : decode cX9_howMany 97 = .ok (.getfield 105, 3) := by decide +kernel
theorem dX9_howMany_100 : decode cX9_howMany 100 = .ok (.ireturn, 1) := by decide +kernel
theorem dX9_howMany_101 : decode cX9_howMany 101 = .ok (.aload_n 0, 1) := by decide +kernel
theorem dX9_howMany_102 : decode cX9_howMany 102 = .ok (.getfield 207, 3) := by decide +kernel
theorem dX9_howMany_105 : decode cX9_howMany 105 = .ok (.ireturn, 1) := by decide +kernel
theorem dX9_howMany_106 : decode cX9_howMany 106 = .ok (.bipush (-102), 2) := by decide +kernel
theorem dX9_howMany_108 : decode cX9_howMany 108 = .ok (.ireturn, 1) := by decide +kernel
theorem dX9_count_0 : decode cX9_count 0 = .ok (.aload_n 0, 1) := by decide +kernel
theorem dX9_count_1 : decode cX9_count 1 = .ok (.iload_n 1, 1) := by decide +kernel
theorem dX9_count_2 : decode cX9_count 2 = .ok (.invokevirtual 274, 3) := by decide +kernel
theorem dX9_count_5 : decode cX9_count 5 = .ok (.ireturn, 1) := by decide +kernel
theorem dX9_mix_0 : decode cX9_mix 0 = .ok (.aload_n 0, 1) := by decide +kernel
theorem dX9_mix_1 : decode cX9_mix 1 = .ok (.ldc2_w 277, 3) := by decide +kernel
theorem dX9_mix_4 : decode cX9_mix 4 = .ok (.aload_n 0, 1) := by decide +kernel
theorem dX9_mix_5 : decode cX9_mix 5 = .ok (.getfield 279, 3) := by decide +kernel
theorem dX9_mix_8 : decode cX9_mix 8 = .ok (.lmul, 1) := by decide +kernel
theorem dX9_mix_9 : decode cX9_mix 9 = .ok (.lload_n 1, 1) := by decide +kernel
theorem dX9_mix_10 : decode cX9_mix 10 = .ok (.ladd, 1) := by decide +kernel
theorem dX9_mix_11 : decode cX9_mix 11 = .ok (.putfield 279, 3) := by decide +kernel
theorem dX9_mix_14 : decode cX9_mix 14 = .ok (.return_, 1) := by decide +kernel
theorem dX9_digest_0 : decode cX9_digest 0 = .ok (.aload_n 0, 1) := by decide +kernel
theorem dX9_digest_1 : decode cX9_digest 1 = .ok (.ldc2_w 282, 3) := by decide +kernel
theorem dX9_digest_4 : decode cX9_digest 4 = .ok (.putfield 279, 3) := by decide +kernel
theorem dX9_digest_7 : decode cX9_digest 7 = .ok (.iconst 0, 1) := by decide +kernel
theorem dX9_digest_8 : decode cX9_digest 8 = .ok (.istore_n 1, 1) := by decide +kernel
theorem dX9_digest_9 : decode cX9_digest 9 = .ok (.iload_n 1, 1) := by decide +kernel
theorem dX9_digest_10 : decode cX9_digest 10 = .ok (.iconst 4, 1) := by decide +kernel
theorem dX9_digest_11 : decode cX9_digest 11 = .ok (.if_icmp .ge 23, 3) := by decide +kernel
theorem dX9_digest_14 : decode cX9_digest 14 = .ok (.aload_n 0, 1) := by decide +kernel
theorem dX9_digest_15 : decode cX9_digest 15 = .ok (.aload_n 0, 1) := by decide +kernel
theorem dX9_digest_16 : decode cX9_digest 16 = .ok (.aload_n 0, 1) := by decide +kernel
theorem dX9_digest_17 : decode cX9_digest 17 = .ok (.getfield 146, 3) := by decide +kernel
theorem dX9_digest_20 : decode cX9_digest 20 = .ok (.iload_n 1, 1) := by decide +kernel
theorem dX9_digest_21 : decode cX9_digest 21 = .ok (.invokevirtual 116, 3) := by decide +kernel
theorem dX9_digest_24 : decode cX9_digest 24 = .ok (.i2l, 1) := by decide +kernel
theorem dX9_digest_25 : decode cX9_digest 25 = .ok (.invokevirtual 284, 3) := by decide +kernel
theorem dX9_digest_28 : decode cX9_digest 28 = .ok (.iinc 1 1, 3) := by decide +kernel
theorem dX9_digest_31 : decode cX9_digest 31 = .ok (.goto (-22), 3) := by decide +kernel
theorem dX9_digest_34 : decode cX9_digest 34 = .ok (.iconst 0, 1) := by decide +kernel
theorem dX9_digest_35 : decode cX9_digest 35 = .ok (.istore_n 1, 1) := by decide +kernel
theorem dX9_digest_36 : decode cX9_digest 36 = .ok (.iload_n 1, 1) := by decide +kernel
theorem dX9_digest_37 : decode cX9_digest 37 = .ok (.bipush 8, 2) := by decide +kernel
theorem dX9_digest_39 : decode cX9_digest 39 = .ok (.if_icmp .ge 20, 3) := by decide +kernel
theorem dX9_digest_42 : decode cX9_digest 42 = .ok (.aload_n 0, 1) := by decide +kernel
theorem dX9_digest_43 : decode cX9_digest 43 = .ok (.aload_n 0, 1) := by decide +kernel
theorem dX9_digest_44 : decode cX9_digest 44 = .ok (.getfield 13, 3) := by decide +kernel
theorem dX9_digest_47 : decode cX9_digest 47 = .ok (.iload_n 1, 1) := by decide +kernel
theorem dX9_digest_48 : decode cX9_digest 48 = .ok (.iaload, 1) := by decide +kernel
theorem dX9_digest_49 : decode cX9_digest 49 = .ok (.i2l, 1) := by decide +kernel
theorem dX9_digest_50 : decode cX9_digest 50 = .ok (.invokevirtual 284, 3) := by decide +kernel
theorem dX9_digest_53 : decode cX9_digest 53 = .ok (.iinc 1 1, 3) := by decide +kernel
theorem dX9_digest_56 : decode cX9_digest 56 = .ok (.goto (-20), 3) := by decide +kernel
theorem dX9_digest_59 : decode cX9_digest 59 = .ok (.iconst 0, 1) := by decide +kernel
theorem dX9_digest_60 : decode cX9_digest 60 = .ok (.istore_n 1, 1) := by decide +kernel
theorem dX9_digest_61 : decode cX9_digest 61 = .ok (.iload_n 1, 1) := by decide +kernel
theorem dX9_digest_62 : decode cX9_digest 62 = .ok (.aload_n 0, 1) := by decide +kernel
theorem dX9_digest_63 : decode cX9_digest 63 = .ok (.getfield 122, 3) := by decide +kernel
theorem dX9_digest_66 : decode cX9_digest 66 = .ok (.if_icmp .ge 56, 3) := by decide +kernel
theorem dX9_digest_69 : decode cX9_digest 69 = .ok (.iconst 0, 1) := by decide +kernel
theorem dX9_digest_70 : decode cX9_digest 70 = .ok (.istore_n 2, 1) := by decide +kernel
theorem dX9_digest_71 : decode cX9_digest 71 = .ok (.iload_n 2, 1) := by decide +kernel
theorem dX9_digest_72 : decode cX9_digest 72 = .ok (.bipush 7, 2) := by decide +kernel
theorem dX9_digest_74 : decode cX9_digest 74 = .ok (.if_icmp .ge 20, 3) := by decide +kernel
theorem dX9_digest_77 : decode cX9_digest 77 = .ok (.aload_n 0, 1) := by decide +kernel
theorem dX9_digest_78 : decode cX9_digest 78 = .ok (.aload_n 0, 1) := by decide +kernel
theorem dX9_digest_79 : decode cX9_digest 79 = .ok (.iload_n 1, 1) := by decide +kernel
theorem dX9_digest_80 : decode cX9_digest 80 = .ok (.iload_n 2, 1) := by decide +kernel
theorem dX9_digest_81 : decode cX9_digest 81 = .ok (.invokevirtual 158, 3) := by decide +kernel
theorem dX9_digest_84 : decode cX9_digest 84 = .ok (.i2l, 1) := by decide +kernel
theorem dX9_digest_85 : decode cX9_digest 85 = .ok (.invokevirtual 284, 3) := by decide +kernel
theorem dX9_digest_88 : decode cX9_digest 88 = .ok (.iinc 2 1, 3) := by decide +kernel
theorem dX9_digest_91 : decode cX9_digest 91 = .ok (.goto (-20), 3) := by decide +kernel
theorem dX9_digest_94 : decode cX9_digest 94 = .ok (.aload_n 0, 1) := by decide +kernel
theorem dX9_digest_95 : decode cX9_digest 95 = .ok (.aload_n 0, 1) := by decide +kernel
theorem dX9_digest_96 : decode cX9_digest 96 = .ok (.iload_n 1, 1) := by decide +kernel
theorem dX9_digest_97 : decode cX9_digest 97 = .ok (.iconst 0, 1) := by decide +kernel
theorem dX9_digest_98 : decode cX9_digest 98 = .ok (.invokevirtual 217, 3) := by decide +kernel
theorem dX9_digest_101 : decode cX9_digest 101 = .ok (.i2l, 1) := by decide +kernel
theorem dX9_digest_102 : decode cX9_digest 102 = .ok (.invokevirtual 284, 3) := by decide +kernel
theorem dX9_digest_105 : decode cX9_digest 105 = .ok (.aload_n 0, 1) := by decide +kernel
theorem dX9_digest_106 : decode cX9_digest 106 = .ok (.aload_n 0, 1) := by decide +kernel
theorem dX9_digest_107 : decode cX9_digest 107 = .ok (.iload_n 1, 1) := by decide +kernel
theorem dX9_digest_108 : decode cX9_digest 108 = .ok (.iconst 1, 1) := by decide +kernel
theorem dX9_digest_109 : decode cX9_digest 109 = .ok (.invokevirtual 217, 3) := by decide +kernel
theorem dX9_digest_112 : decode cX9_digest 112 = .ok (.i2l, 1) := by decide +kernel
theorem dX9_digest_113 : decode cX9_digest 113 = .ok (.invokevirtual 284, 3) := by decide +kernel
theorem dX9_digest_116 : decode cX9_digest 116 = .ok (.iinc 1 1, 3) := by decide +kernel
theorem dX9_digest_119 : decode cX9_digest 119 = .ok (.goto (-58), 3) := by decide +kernel
theorem dX9_digest_122 : decode cX9_digest 122 = .ok (.iconst 0, 1) := by decide +kernel
theorem dX9_digest_123 : decode cX9_digest 123 = .ok (.istore_n 1, 1) := by decide +kernel
theorem dX9_digest_124 : decode cX9_digest 124 = .ok (.iload_n 1, 1) := by decide +kernel
theorem dX9_digest_125 : decode cX9_digest 125 = .ok (.aload_n 0, 1) := by decide +kernel
theorem dX9_digest_126 : decode cX9_digest 126 = .ok (.getfield 133, 3) := by decide +kernel
theorem dX9_digest_129 : decode cX9_digest 129 = .ok (.if_icmp .ge 14, 3) := by decide +kernel
theorem dX9_digest_132 : decode cX9_digest 132 = .ok (.aload_n 0, 1) := by decide +kernel
theorem dX9_digest_133 : decode cX9_digest 133 = .ok (.iload_n 1, 1) := by decide +kernel
theorem dX9_digest_134 : decode cX9_digest 134 = .ok (.invokevirtual 288, 3) := by decide +kernel
theorem dX9_digest_137 : decode cX9_digest 137 = .ok (.iinc 1 1, 3) := by decide +kernel
theorem dX9_digest_140 : decode cX9_digest 140 = .ok (.goto (-16), 3) := by decide +kernel
theorem dX9_digest_143 : decode cX9_digest 143 = .ok (.aload_n 0, 1) := by decide +kernel
theorem dX9_digest_144 : decode cX9_digest 144 = .ok (.aload_n 0, 1) := by decide +kernel
theorem dX9_digest_145 : decode cX9_digest 145 = .ok (.bipush 30, 2) := by decide +kernel
theorem dX9_digest_147 : decode cX9_digest 147 = .ok (.invokevirtual 189, 3) := by decide +kernel
theorem dX9_digest_150 : decode cX9_digest 150 = .ok (.i2l, 1) := by decide +kernel
theorem dX9_digest_151 : decode cX9_digest 151 = .ok (.invokevirtual 284, 3) := by decide +kernel
theorem dX9_digest_154 : decode cX9_digest 154 = .ok (.aload_n 0, 1) := by decide +kernel
theorem dX9_digest_155 : decode cX9_digest 155 = .ok (.getfield 34, 3) := by decide +kernel
theorem dX9_digest_158 : decode cX9_digest 158 = .ok (.iconst (-1), 1) := by decide +kernel
theorem dX9_digest_159 : decode cX9_digest 159 = .ok (.if_icmp .eq 23, 3) := by decide +kernel
theorem dX9_digest_162 : decode cX9_digest 162 = .ok (.aload_n 0, 1) := by decide +kernel
theorem dX9_digest_163 : decode cX9_digest 163 = .ok (.aload_n 0, 1) := by decide +kernel
theorem dX9_digest_164 : decode cX9_digest 164 = .ok (.iconst 0, 1) := by decide +kernel
theorem dX9_digest_165 : decode cX9_digest 165 = .ok (.invokevirtual 229, 3) := by decide +kernel
theorem dX9_digest_168 : decode cX9_digest 168 = .ok (.i2l, 1) := by decide +kernel
theorem dX9_digest_169 : decode cX9_digest 169 = .ok (.invokevirtual 284, 3) := by decide +kernel
theorem dX9_digest_172 : decode cX9_digest 172 = .ok (.aload_n 0, 1) := by decide +kernel
theorem dX9_digest_173 : decode cX9_digest 173 = .ok (.aload_n 0, 1) := by decide +kernel
theorem dX9_digest_174 : decode cX9_digest 174 = .ok (.iconst 1, 1) := by decide +kernel
theorem dX9_digest_175 : decode cX9_digest 175 = .ok (.invokevirtual 229, 3) := by decide +kernel
theorem dX9_digest_178 : decode cX9_digest 178 = .ok (.i2l, 1) := by decide +kernel
theorem dX9_digest_179 : decode cX9_digest 179 = .ok (.invokevirtual 284, 3) := by decide +kernel
theorem dX9_digest_182 : decode cX9_digest 182 = .ok (.iconst 0, 1) := by decide +kernel
theorem dX9_digest_183 : decode cX9_digest 183 = .ok (.istore_n 1, 1) := by decide +kernel
theorem dX9_digest_184 : decode cX9_digest 184 = .ok (.iload_n 1, 1) := by decide +kernel
theorem dX9_digest_185 : decode cX9_digest 185 = .ok (.aload_n 0, 1) := by decide +kernel
theorem dX9_digest_186 : decode cX9_digest 186 = .ok (.getfield 79, 3) := by decide +kernel
theorem dX9_digest_189 : decode cX9_digest 189 = .ok (.if_icmp .ge 20, 3) := by decide +kernel
theorem dX9_digest_192 : decode cX9_digest 192 = .ok (.aload_n 0, 1) := by decide +kernel
theorem dX9_digest_193 : decode cX9_digest 193 = .ok (.aload_n 0, 1) := by decide +kernel
theorem dX9_digest_194 : decode cX9_digest 194 = .ok (.getfield 41, 3) := by decide +kernel
theorem dX9_digest_197 : decode cX9_digest 197 = .ok (.iload_n 1, 1) := by decide +kernel
theorem dX9_digest_198 : decode cX9_digest 198 = .ok (.baload, 1) := by decide +kernel
theorem dX9_digest_199 : decode cX9_digest 199 = .ok (.i2l, 1) := by decide +kernel
theorem dX9_digest_200 : decode cX9_digest 200 = .ok (.invokevirtual 284, 3) := by decide +kernel
theorem dX9_digest_203 : decode cX9_digest 203 = .ok (.iinc 1 1, 3) := by decide +kernel
theorem dX9_digest_206 : decode cX9_digest 206 = .ok (.goto (-22), 3) := by decide +kernel
theorem dX9_digest_209 : decode cX9_digest 209 = .ok (.iconst 0, 1) := by decide +kernel
theorem dX9_digest_210 : decode cX9_digest 210 = .ok (.istore_n 1, 1) := by decide +kernel
theorem dX9_digest_211 : decode cX9_digest 211 = .ok (.iload_n 1, 1) := by decide +kernel
theorem dX9_digest_212 : decode cX9_digest 212 = .ok (.bipush 10, 2) := by decide +kernel
theorem dX9_digest_214 : decode cX9_digest 214 = .ok (.if_icmp .ge 19, 3) := by decide +kernel
theorem dX9_digest_217 : decode cX9_digest 217 = .ok (.aload_n 0, 1) := by decide +kernel
theorem dX9_digest_218 : decode cX9_digest 218 = .ok (.aload_n 0, 1) := by decide +kernel
theorem dX9_digest_219 : decode cX9_digest 219 = .ok (.iload_n 1, 1) := by decide +kernel
theorem dX9_digest_220 : decode cX9_digest 220 = .ok (.invokevirtual 274, 3) := by decide +kernel
theorem dX9_digest_223 : decode cX9_digest 223 = .ok (.i2l, 1) := by decide +kernel
theorem dX9_digest_224 : decode cX9_digest 224 = .ok (.invokevirtual 284, 3) := by decide +kernel
theorem dX9_digest_227 : decode cX9_digest 227 = .ok (.iinc 1 1, 3) := by decide +kernel
theorem dX9_digest_230 : decode cX9_digest 230 = .ok (.goto (-19), 3) := by decide +kernel
theorem dX9_digest_233 : decode cX9_digest 233 = .ok (.aload_n 0, 1) := by decide +kernel
theorem dX9_digest_234 : decode cX9_digest 234 = .ok (.getfield 279, 3) := by decide +kernel
theorem dX9_digest_237 : decode cX9_digest 237 = .ok (.lreturn, 1) := by decide +kernel
theorem dX9_mixFlock_0 : decode cX9_mixFlock 0 = .ok (.iconst 0, 1) := by decide +kernel
theorem dX9_mixFlock_1 : decode cX9_mixFlock 1 = .ok (.istore_n 2, 1) := by decide +kernel
theorem dX9_mixFlock_2 : decode cX9_mixFlock 2 = .ok (.iload_n 2, 1) := by decide +kernel
theorem dX9_mixFlock_3 : decode cX9_mixFlock 3 = .ok (.iconst 4, 1) := by decide +kernel
theorem dX9_mixFlock_4 : decode cX9_mixFlock 4 = .ok (.if_icmp .ge 20, 3) := by decide +kernel
theorem dX9_mixFlock_7 : decode cX9_mixFlock 7 = .ok (.aload_n 0, 1) := by decide +kernel
theorem dX9_mixFlock_8 : decode cX9_mixFlock 8 = .ok (.aload_n 0, 1) := by decide +kernel
theorem dX9_mixFlock_9 : decode cX9_mixFlock 9 = .ok (.iload_n 1, 1) := by decide +kernel
theorem dX9_mixFlock_10 : decode cX9_mixFlock 10 = .ok (.iload_n 2, 1) := by decide +kernel
theorem dX9_mixFlock_11 : decode cX9_mixFlock 11 = .ok (.invokevirtual 167, 3) := by decide +kernel
theorem dX9_mixFlock_14 : decode cX9_mixFlock 14 = .ok (.i2l, 1) := by decide +kernel
theorem dX9_mixFlock_15 : decode cX9_mixFlock 15 = .ok (.invokevirtual 284, 3) := by decide +kernel
theorem dX9_mixFlock_18 : decode cX9_mixFlock 18 = .ok (.iinc 2 1, 3) := by decide +kernel
theorem dX9_mixFlock_21 : decode cX9_mixFlock 21 = .ok (.goto (-19), 3) := by decide +kernel
theorem dX9_mixFlock_24 : decode cX9_mixFlock 24 = .ok (.aload_n 0, 1) := by decide +kernel
theorem dX9_mixFlock_25 : decode cX9_mixFlock 25 = .ok (.getfield 31, 3) := by decide +kernel
theorem dX9_mixFlock_28 : decode cX9_mixFlock 28 = .ok (.iload_n 1, 1) := by decide +kernel
theorem dX9_mixFlock_29 : decode cX9_mixFlock 29 = .ok (.iaload, 1) := by decide +kernel
theorem dX9_mixFlock_30 : decode cX9_mixFlock 30 = .ok (.iconst (-1), 1) := by decide +kernel
theorem dX9_mixFlock_31 : decode cX9_mixFlock 31 = .ok (.if_icmp .ne 13, 3) := by decide +kernel
theorem dX9_mixFlock_34 : decode cX9_mixFlock 34 = .ok (.aload_n 0, 1) := by decide +kernel
theorem dX9_mixFlock_35 : decode cX9_mixFlock 35 = .ok (.aload_n 0, 1) := by decide +kernel
theorem dX9_mixFlock_36 : decode cX9_mixFlock 36 = .ok (.iload_n 1, 1) := by decide +kernel
theorem dX9_mixFlock_37 : decode cX9_mixFlock 37 = .ok (.invokevirtual 195, 3) := by decide +kernel
theorem dX9_mixFlock_40 : decode cX9_mixFlock 40 = .ok (.i2l, 1) := by decide +kernel
theorem dX9_mixFlock_41 : decode cX9_mixFlock 41 = .ok (.invokevirtual 284, 3) := by decide +kernel
theorem dX9_mixFlock_44 : decode cX9_mixFlock 44 = .ok (.return_, 1) := by decide +kernel
theorem dJ6_bitCount_0f7a4_0 : decode cJ6_bitCount_0f7a4 0 = .ok (.iload_n 0, 1) := by decide +kernel
theorem dJ6_bitCount_0f7a4_1 : decode cJ6_bitCount_0f7a4 1 = .ok (.iload_n 0, 1) := by decide +kernel
theorem dJ6_bitCount_0f7a4_2 : decode cJ6_bitCount_0f7a4 2 = .ok (.iconst 1, 1) := by decide +kernel
theorem dJ6_bitCount_0f7a4_3 : decode cJ6_bitCount_0f7a4 3 = .ok (.iushr, 1) := by decide +kernel
theorem dJ6_bitCount_0f7a4_4 : decode cJ6_bitCount_0f7a4 4 = .ok (.ldc_w 265, 3) := by decide +kernel
theorem dJ6_bitCount_0f7a4_7 : decode cJ6_bitCount_0f7a4 7 = .ok (.iand, 1) := by decide +kernel
theorem dJ6_bitCount_0f7a4_8 : decode cJ6_bitCount_0f7a4 8 = .ok (.isub, 1) := by decide +kernel
theorem dJ6_bitCount_0f7a4_9 : decode cJ6_bitCount_0f7a4 9 = .ok (.istore_n 0, 1) := by decide +kernel
theorem dJ6_bitCount_0f7a4_10 : decode cJ6_bitCount_0f7a4 10 = .ok (.iload_n 0, 1) := by decide +kernel
theorem dJ6_bitCount_0f7a4_11 : decode cJ6_bitCount_0f7a4 11 = .ok (.ldc_w 266, 3) := by decide +kernel
theorem dJ6_bitCount_0f7a4_14 : decode cJ6_bitCount_0f7a4 14 = .ok (.iand, 1) := by decide +kernel
theorem dJ6_bitCount_0f7a4_15 : decode cJ6_bitCount_0f7a4 15 = .ok (.iload_n 0, 1) := by decide +kernel
theorem dJ6_bitCount_0f7a4_16 : decode cJ6_bitCount_0f7a4 16 = .ok (.iconst 2, 1) := by decide +kernel
theorem dJ6_bitCount_0f7a4_17 : decode cJ6_bitCount_0f7a4 17 = .ok (.iushr, 1) := by decide +kernel
theorem dJ6_bitCount_0f7a4_18 : decode cJ6_bitCount_0f7a4 18 = .ok (.ldc_w 266, 3) := by decide +kernel
theorem dJ6_bitCount_0f7a4_21 : decode cJ6_bitCount_0f7a4 21 = .ok (.iand, 1) := by decide +kernel
theorem dJ6_bitCount_0f7a4_22 : decode cJ6_bitCount_0f7a4 22 = .ok (.iadd, 1) := by decide +kernel
theorem dJ6_bitCount_0f7a4_23 : decode cJ6_bitCount_0f7a4 23 = .ok (.istore_n 0, 1) := by decide +kernel
theorem dJ6_bitCount_0f7a4_24 : decode cJ6_bitCount_0f7a4 24 = .ok (.iload_n 0, 1) := by decide +kernel
theorem dJ6_bitCount_0f7a4_25 : decode cJ6_bitCount_0f7a4 25 = .ok (.iload_n 0, 1) := by decide +kernel
theorem dJ6_bitCount_0f7a4_26 : decode cJ6_bitCount_0f7a4 26 = .ok (.iconst 4, 1) := by decide +kernel
theorem dJ6_bitCount_0f7a4_27 : decode cJ6_bitCount_0f7a4 27 = .ok (.iushr, 1) := by decide +kernel
theorem dJ6_bitCount_0f7a4_28 : decode cJ6_bitCount_0f7a4 28 = .ok (.iadd, 1) := by decide +kernel
theorem dJ6_bitCount_0f7a4_29 : decode cJ6_bitCount_0f7a4 29 = .ok (.ldc_w 267, 3) := by decide +kernel
theorem dJ6_bitCount_0f7a4_32 : decode cJ6_bitCount_0f7a4 32 = .ok (.iand, 1) := by decide +kernel
theorem dJ6_bitCount_0f7a4_33 : decode cJ6_bitCount_0f7a4 33 = .ok (.istore_n 0, 1) := by decide +kernel
theorem dJ6_bitCount_0f7a4_34 : decode cJ6_bitCount_0f7a4 34 = .ok (.iload_n 0, 1) := by decide +kernel
theorem dJ6_bitCount_0f7a4_35 : decode cJ6_bitCount_0f7a4 35 = .ok (.iload_n 0, 1) := by decide +kernel
theorem dJ6_bitCount_0f7a4_36 : decode cJ6_bitCount_0f7a4 36 = .ok (.bipush 8, 2) := by decide +kernel
theorem dJ6_bitCount_0f7a4_38 : decode cJ6_bitCount_0f7a4 38 = .ok (.iushr, 1) := by decide +kernel
theorem dJ6_bitCount_0f7a4_39 : decode cJ6_bitCount_0f7a4 39 = .ok (.iadd, 1) := by decide +kernel
theorem dJ6_bitCount_0f7a4_40 : decode cJ6_bitCount_0f7a4 40 = .ok (.istore_n 0, 1) := by decide +kernel
theorem dJ6_bitCount_0f7a4_41 : decode cJ6_bitCount_0f7a4 41 = .ok (.iload_n 0, 1) := by decide +kernel
theorem dJ6_bitCount_0f7a4_42 : decode cJ6_bitCount_0f7a4 42 = .ok (.iload_n 0, 1) := by decide +kernel
theorem dJ6_bitCount_0f7a4_43 : decode cJ6_bitCount_0f7a4 43 = .ok (.bipush 16, 2) := by decide +kernel
theorem dJ6_bitCount_0f7a4_45 : decode cJ6_bitCount_0f7a4 45 = .ok (.iushr, 1) := by decide +kernel
theorem dJ6_bitCount_0f7a4_46 : decode cJ6_bitCount_0f7a4 46 = .ok (.iadd, 1) := by decide +kernel
theorem dJ6_bitCount_0f7a4_47 : decode cJ6_bitCount_0f7a4 47 = .ok (.istore_n 0, 1) := by decide +kernel
theorem dJ6_bitCount_0f7a4_48 : decode cJ6_bitCount_0f7a4 48 = .ok (.iload_n 0, 1) := by decide +kernel
theorem dJ6_bitCount_0f7a4_49 : decode cJ6_bitCount_0f7a4 49 = .ok (.bipush 63, 2) := by decide +kernel
theorem dJ6_bitCount_0f7a4_51 : decode cJ6_bitCount_0f7a4 51 = .ok (.iand, 1) := by decide +kernel
theorem dJ6_bitCount_0f7a4_52 : decode cJ6_bitCount_0f7a4 52 = .ok (.ireturn, 1) := by decide +kernel
theorem dJ9_floorMod_7cf53_0 : decode cJ9_floorMod_7cf53 0 = .ok (.iload_n 0, 1) := by decide +kernel
theorem dJ9_floorMod_7cf53_1 : decode cJ9_floorMod_7cf53 1 = .ok (.iload_n 1, 1) := by decide +kernel
theorem dJ9_floorMod_7cf53_2 : decode cJ9_floorMod_7cf53 2 = .ok (.irem, 1) := by decide +kernel
theorem dJ9_floorMod_7cf53_3 : decode cJ9_floorMod_7cf53 3 = .ok (.istore_n 2, 1) := by decide +kernel
theorem dJ9_floorMod_7cf53_4 : decode cJ9_floorMod_7cf53 4 = .ok (.iload_n 0, 1) := by decide +kernel
theorem dJ9_floorMod_7cf53_5 : decode cJ9_floorMod_7cf53 5 = .ok (.iload_n 1, 1) := by decide +kernel
theorem dJ9_floorMod_7cf53_6 : decode cJ9_floorMod_7cf53 6 = .ok (.ixor, 1) := by decide +kernel
theorem dJ9_floorMod_7cf53_7 : decode cJ9_floorMod_7cf53 7 = .ok (.ifCond .ge 11, 3) := by decide +kernel
theorem dJ9_floorMod_7cf53_10 : decode cJ9_floorMod_7cf53 10 = .ok (.iload_n 2, 1) := by decide +kernel
theorem dJ9_floorMod_7cf53_11 : decode cJ9_floorMod_7cf53 11 = .ok (.ifCond .eq 7, 3) := by decide +kernel
theorem dJ9_floorMod_7cf53_14 : decode cJ9_floorMod_7cf53 14 = .ok (.iload_n 2, 1) := by decide +kernel
theorem dJ9_floorMod_7cf53_15 : decode cJ9_floorMod_7cf53 15 = .ok (.iload_n 1, 1) := by decide +kernel
theorem dJ9_floorMod_7cf53_16 : decode cJ9_floorMod_7cf53 16 = .ok (.iadd, 1) := by decide +kernel
theorem dJ9_floorMod_7cf53_17 : decode cJ9_floorMod_7cf53 17 = .ok (.ireturn, 1) := by decide +kernel
theorem dJ9_floorMod_7cf53_18 : decode cJ9_floorMod_7cf53 18 = .ok (.iload_n 2, 1) := by decide +kernel
theorem dJ9_floorMod_7cf53_19 : decode cJ9_floorMod_7cf53 19 = .ok (.ireturn, 1) := by decide +kernel
theorem dL_law_0 : decode cL_law 0 = .ok (.new 7, 3) := by decide +kernel
theorem dL_law_3 : decode cL_law 3 = .ok (.dup, 1) := by decide +kernel
theorem dL_law_4 : decode cL_law 4 = .ok (.invokespecial 9, 3) := by decide +kernel
theorem dL_law_7 : decode cL_law 7 = .ok (.astore_n 1, 1) := by decide +kernel
theorem dL_law_8 : decode cL_law 8 = .ok (.new 10, 3) := by decide +kernel
theorem dL_law_11 : decode cL_law 11 = .ok (.dup, 1) := by decide +kernel
theorem dL_law_12 : decode cL_law 12 = .ok (.invokespecial 12, 3) := by decide +kernel
theorem dL_law_15 : decode cL_law 15 = .ok (.astore_n 2, 1) := by decide +kernel
theorem dL_law_16 : decode cL_law 16 = .ok (.iconst 0, 1) := by decide +kernel
theorem dL_law_17 : decode cL_law 17 = .ok (.istore_n 3, 1) := by decide +kernel
theorem dL_law_18 : decode cL_law 18 = .ok (.iload_n 3, 1) := by decide +kernel
theorem dL_law_19 : decode cL_law 19 = .ok (.aload_n 0, 1) := by decide +kernel
theorem dL_law_20 : decode cL_law 20 = .ok (.arraylength, 1) := by decide +kernel
theorem dL_law_21 : decode cL_law 21 = .ok (.iconst 4, 1) := by decide +kernel
theorem dL_law_22 : decode cL_law 22 = .ok (.isub, 1) := by decide +kernel
theorem dL_law_23 : decode cL_law 23 = .ok (.if_icmp .gt 867, 3) := by decide +kernel
theorem dL_law_26 : decode cL_law 26 = .ok (.aload_n 0, 1) := by decide +kernel
theorem dL_law_27 : decode cL_law 27 = .ok (.iload_n 3, 1) := by decide +kernel
theorem dL_law_28 : decode cL_law 28 = .ok (.iaload, 1) := by decide +kernel
theorem dL_law_29 : decode cL_law 29 = .ok (.bipush 31, 2) := by decide +kernel
theorem dL_law_31 : decode cL_law 31 = .ok (.iand, 1) := by decide +kernel
theorem dL_law_32 : decode cL_law 32 = .ok (.tableswitch 852 0 26 #[124, 147, 160, 173, 186, 219, 252, 295, 328, 361, 394, 427, 460, 493, 506, 529, 552, 585, 628, 661, 684, 723, 746, 789, 802, 815, 838], 124) := by decide +kernel
theorem dL_law_156 : decode cL_law 156 = .ok (.aload_n 1, 1) := by decide +kernel
theorem dL_law_157 : decode cL_law 157 = .ok (.aload_n 0, 1) := by decide +kernel
theorem dL_law_158 : decode cL_law 158 = .ok (.iload_n 3, 1) := by decide +kernel
theorem dL_law_159 : decode cL_law 159 = .ok (.iconst 1, 1) := by decide +kernel
theorem dL_law_160 : decode cL_law 160 = .ok (.iadd, 1) := by decide +kernel
theorem dL_law_161 : decode cL_law 161 = .ok (.iaload, 1) := by decide +kernel
theorem dL_law_162 : decode cL_law 162 = .ok (.invokevirtual 13, 3) := by decide +kernel
theorem dL_law_165 : decode cL_law 165 = .ok (.aload_n 2, 1) := by decide +kernel
theorem dL_law_166 : decode cL_law 166 = .ok (.aload_n 0, 1) := by decide +kernel
theorem dL_law_167 : decode cL_law 167 = .ok (.iload_n 3, 1) := by decide +kernel
theorem dL_law_168 : decode cL_law 168 = .ok (.iconst 1, 1) := by decide +kernel
theorem dL_law_169 : decode cL_law 169 = .ok (.iadd, 1) := by decide +kernel
theorem dL_law_170 : decode cL_law 170 = .ok (.iaload, 1) := by decide +kernel
theorem dL_law_171 : decode cL_law 171 = .ok (.invokevirtual 17, 3) := by decide +kernel
theorem dL_law_174 : decode cL_law 174 = .ok (.if_icmp .eq 710, 3) := by decide +kernel
theorem dL_law_177 : decode cL_law 177 = .ok (.iconst 0, 1) := by decide +kernel
theorem dL_law_178 : decode cL_law 178 = .ok (.ireturn, 1) := by decide +kernel
theorem dL_law_179 : decode cL_law 179 = .ok (.aload_n 1, 1) := by decide +kernel
theorem dL_law_180 : decode cL_law 180 = .ok (.invokevirtual 18, 3) := by decide +kernel
theorem dL_law_183 : decode cL_law 183 = .ok (.aload_n 2, 1) := by decide +kernel
theorem dL_law_184 : decode cL_law 184 = .ok (.invokevirtual 22, 3) := by decide +kernel
theorem dL_law_187 : decode cL_law 187 = .ok (.if_icmp .eq 697, 3) := by decide +kernel
theorem dL_law_190 : decode cL_law 190 = .ok (.iconst 0, 1) := by decide +kernel
theorem dL_law_191 : decode cL_law 191 = .ok (.ireturn, 1) := by decide +kernel
theorem dL_law_192 : decode cL_law 192 = .ok (.aload_n 1, 1) := by decide +kernel
theorem dL_law_193 : decode cL_law 193 = .ok (.invokevirtual 23, 3) := by decide +kernel
theorem dL_law_196 : decode cL_law 196 = .ok (.aload_n 2, 1) := by decide +kernel
theorem dL_law_197 : decode cL_law 197 = .ok (.invokevirtual 26, 3) := by decide +kernel
theorem dL_law_200 : decode cL_law 200 = .ok (.if_icmp .eq 684, 3) := by decide +kernel
theorem dL_law_203 : decode cL_law 203 = .ok (.iconst 0, 1) := by decide +kernel
theorem dL_law_204 : decode cL_law 204 = .ok (.ireturn, 1) := by decide +kernel
theorem dL_law_205 : decode cL_law 205 = .ok (.aload_n 1, 1) := by decide +kernel
theorem dL_law_206 : decode cL_law 206 = .ok (.invokevirtual 27, 3) := by decide +kernel
theorem dL_law_209 : decode cL_law 209 = .ok (.aload_n 2, 1) := by decide +kernel
theorem dL_law_210 : decode cL_law 210 = .ok (.invokevirtual 30, 3) := by decide +kernel
theorem dL_law_213 : decode cL_law 213 = .ok (.if_icmp .eq 671, 3) := by decide +kernel
theorem dL_law_216 : decode cL_law 216 = .ok (.iconst 0, 1) := by decide +kernel
theorem dL_law_217 : decode cL_law 217 = .ok (.ireturn, 1) := by decide +kernel
theorem dL_law_218 : decode cL_law 218 = .ok (.aload_n 1, 1) := by decide +kernel
theorem dL_law_219 : decode cL_law 219 = .ok (.aload_n 0, 1) := by decide +kernel
theorem dL_law_220 : decode cL_law 220 = .ok (.iload_n 3, 1) := by decide +kernel
theorem dL_law_221 : decode cL_law 221 = .ok (.iconst 1, 1) := by decide +kernel
theorem dL_law_222 : decode cL_law 222 = .ok (.iadd, 1) := by decide +kernel
theorem dL_law_223 : decode cL_law 223 = .ok (.iaload, 1) := by decide +kernel
theorem dL_law_224 : decode cL_law 224 = .ok (.aload_n 0, 1) := by decide +kernel
theorem dL_law_225 : decode cL_law 225 = .ok (.iload_n 3, 1) := by decide +kernel
theorem dL_law_226 : decode cL_law 226 = .ok (.iconst 2, 1) := by decide +kernel
theorem dL_law_227 : decode cL_law 227 = .ok (.iadd, 1) := by decide +kernel
theorem dL_law_228 : decode cL_law 228 = .ok (.iaload, 1) := by decide +kernel
theorem dL_law_229 : decode cL_law 229 = .ok (.invokevirtual 31, 3) := by decide +kernel
theorem dL_law_232 : decode cL_law 232 = .ok (.aload_n 2, 1) := by decide +kernel
theorem dL_law_233 : decode cL_law 233 = .ok (.aload_n 0, 1) := by decide +kernel
theorem dL_law_234 : decode cL_law 234 = .ok (.iload_n 3, 1) := by decide +kernel
theorem dL_law_235 : decode cL_law 235 = .ok (.iconst 1, 1) := by decide +kernel
theorem dL_law_236 : decode cL_law 236 = .ok (.iadd, 1) := by decide +kernel
theorem dL_law_237 : decode cL_law 237 = .ok (.iaload, 1) := by decide +kernel
theorem dL_law_238 : decode cL_law 238 = .ok (.aload_n 0, 1) := by decide +kernel
theorem dL_law_239 : decode cL_law 239 = .ok (.iload_n 3, 1) := by decide +kernel
theorem dL_law_240 : decode cL_law 240 = .ok (.iconst 2, 1) := by decide +kernel
theorem dL_law_241 : decode cL_law 241 = .ok (.iadd, 1) := by decide +kernel
theorem dL_law_242 : decode cL_law 242 = .ok (.iaload, 1) := by decide +kernel
theorem dL_law_243 : decode cL_law 243 = .ok (.invokevirtual 35, 3) := by decide +kernel
theorem dL_law_246 : decode cL_law 246 = .ok (.if_icmp .eq 638, 3) := by decide +kernel
theorem dL_law_249 : decode cL_law 249 = .ok (.iconst 0, 1) := by decide +kernel
theorem dL_law_250 : decode cL_law 250 = .ok (.ireturn, 1) := by decide +kernel
theorem dL_law_251 : decode cL_law 251 = .ok (.aload_n 1, 1) := by decide +kernel
theorem dL_law_252 : decode cL_law 252 = .ok (.aload_n 0, 1) := by decide +kernel
theorem dL_law_253 : decode cL_law 253 = .ok (.iload_n 3, 1) := by decide +kernel
theorem dL_law_254 : decode cL_law 254 = .ok (.iconst 1, 1) := by decide +kernel
theorem dL_law_255 : decode cL_law 255 = .ok (.iadd, 1) := by decide +kernel
theorem dL_law_256 : decode cL_law 256 = .ok (.iaload, 1) := by decide +kernel
theorem dL_law_257 : decode cL_law 257 = .ok (.aload_n 0, 1) := by decide +kernel
theorem dL_law_258 : decode cL_law 258 = .ok (.iload_n 3, 1) := by decide +kernel
theorem dL_law_259 : decode cL_law 259 = .ok (.iconst 2, 1) := by decide +kernel
theorem dL_law_260 : decode cL_law 260 = .ok (.iadd, 1) := by decide +kernel
theorem dL_law_261 : decode cL_law 261 = .ok (.iaload, 1) := by decide +kernel
theorem dL_law_262 : decode cL_law 262 = .ok (.invokevirtual 36, 3) := by decide +kernel
theorem dL_law_265 : decode cL_law 265 = .ok (.aload_n 2, 1) := by decide +kernel
theorem dL_law_266 : decode cL_law 266 = .ok (.aload_n 0, 1) := by decide +kernel
theorem dL_law_267 : decode cL_law 267 = .ok (.iload_n 3, 1) := by decide +kernel
theorem dL_law_268 : decode cL_law 268 = .ok (.iconst 1, 1) := by decide +kernel
theorem dL_law_269 : decode cL_law 269 = .ok (.iadd, 1) := by decide +kernel
theorem dL_law_270 : decode cL_law 270 = .ok (.iaload, 1) := by decide +kernel
theorem dL_law_271 : decode cL_law 271 = .ok (.aload_n 0, 1) := by decide +kernel
theorem dL_law_272 : decode cL_law 272 = .ok (.iload_n 3, 1) := by decide +kernel
theorem dL_law_273 : decode cL_law 273 = .ok (.iconst 2, 1) := by decide +kernel
theorem dL_law_274 : decode cL_law 274 = .ok (.iadd, 1) := by decide +kernel
theorem dL_law_275 : decode cL_law 275 = .ok (.iaload, 1) := by decide +kernel
theorem dL_law_276 : decode cL_law 276 = .ok (.invokevirtual 39, 3) := by decide +kernel
theorem dL_law_279 : decode cL_law 279 = .ok (.if_icmp .eq 605, 3) := by decide +kernel
theorem dL_law_282 : decode cL_law 282 = .ok (.iconst 0, 1) := by decide +kernel
theorem dL_law_283 : decode cL_law 283 = .ok (.ireturn, 1) := by decide +kernel
theorem dL_law_284 : decode cL_law 284 = .ok (.aload_n 1, 1) := by decide +kernel
theorem dL_law_285 : decode cL_law 285 = .ok (.aload_n 0, 1) := by decide +kernel
theorem dL_law_286 : decode cL_law 286 = .ok (.iload_n 3, 1) := by decide +kernel
theorem dL_law_287 : decode cL_law 287 = .ok (.iconst 1, 1) := by decide +kernel
theorem dL_law_288 : decode cL_law 288 = .ok (.iadd, 1) := by decide +kernel
theorem dL_law_289 : decode cL_law 289 = .ok (.iaload, 1) := by decide +kernel
theorem dL_law_290 : decode cL_law 290 = .ok (.aload_n 0, 1) := by decide +kernel
theorem dL_law_291 : decode cL_law 291 = .ok (.iload_n 3, 1) := by decide +kernel
theorem dL_law_292 : decode cL_law 292 = .ok (.iconst 2, 1) := by decide +kernel
theorem dL_law_293 : decode cL_law 293 = .ok (.iadd, 1) := by decide +kernel
theorem dL_law_294 : decode cL_law 294 = .ok (.iaload, 1) := by decide +kernel
theorem dL_law_295 : decode cL_law 295 = .ok (.aload_n 0, 1) := by decide +kernel
theorem dL_law_296 : decode cL_law 296 = .ok (.iload_n 3, 1) := by decide +kernel
theorem dL_law_297 : decode cL_law 297 = .ok (.iconst 3, 1) := by decide +kernel
theorem dL_law_298 : decode cL_law 298 = .ok (.iadd, 1) := by decide +kernel
theorem dL_law_299 : decode cL_law 299 = .ok (.iaload, 1) := by decide +kernel
theorem dL_law_300 : decode cL_law 300 = .ok (.invokevirtual 40, 3) := by decide +kernel
theorem dL_law_303 : decode cL_law 303 = .ok (.aload_n 2, 1) := by decide +kernel
theorem dL_law_304 : decode cL_law 304 = .ok (.aload_n 0, 1) := by decide +kernel
theorem dL_law_305 : decode cL_law 305 = .ok (.iload_n 3, 1) := by decide +kernel
theorem dL_law_306 : decode cL_law 306 = .ok (.iconst 1, 1) := by decide +kernel
theorem dL_law_307 : decode cL_law 307 = .ok (.iadd, 1) := by decide +kernel
theorem dL_law_308 : decode cL_law 308 = .ok (.iaload, 1) := by decide +kernel
theorem dL_law_309 : decode cL_law 309 = .ok (.aload_n 0, 1) := by decide +kernel
theorem dL_law_310 : decode cL_law 310 = .ok (.iload_n 3, 1) := by decide +kernel
theorem dL_law_311 : decode cL_law 311 = .ok (.iconst 2, 1) := by decide +kernel
theorem dL_law_312 : decode cL_law 312 = .ok (.iadd, 1) := by decide +kernel
theorem dL_law_313 : decode cL_law 313 = .ok (.iaload, 1) := by decide +kernel
theorem dL_law_314 : decode cL_law 314 = .ok (.aload_n 0, 1) := by decide +kernel
theorem dL_law_315 : decode cL_law 315 = .ok (.iload_n 3, 1) := by decide +kernel
theorem dL_law_316 : decode cL_law 316 = .ok (.iconst 3, 1) := by decide +kernel
theorem dL_law_317 : decode cL_law 317 = .ok (.iadd, 1) := by decide +kernel
theorem dL_law_318 : decode cL_law 318 = .ok (.iaload, 1) := by decide +kernel
theorem dL_law_319 : decode cL_law 319 = .ok (.invokevirtual 44, 3) := by decide +kernel
theorem dL_law_322 : decode cL_law 322 = .ok (.if_icmp .eq 562, 3) := by decide +kernel
theorem dL_law_325 : decode cL_law 325 = .ok (.iconst 0, 1) := by decide +kernel
theorem dL_law_326 : decode cL_law 326 = .ok (.ireturn, 1) := by decide +kernel
theorem dL_law_327 : decode cL_law 327 = .ok (.aload_n 1, 1) := by decide +kernel
theorem dL_law_328 : decode cL_law 328 = .ok (.aload_n 0, 1) := by decide +kernel
theorem dL_law_329 : decode cL_law 329 = .ok (.iload_n 3, 1) := by decide +kernel
theorem dL_law_330 : decode cL_law 330 = .ok (.iconst 1, 1) := by decide +kernel
theorem dL_law_331 : decode cL_law 331 = .ok (.iadd, 1) := by decide +kernel
theorem dL_law_332 : decode cL_law 332 = .ok (.iaload, 1) := by decide +kernel
theorem dL_law_333 : decode cL_law 333 = .ok (.aload_n 0, 1) := by decide +kernel
theorem dL_law_334 : decode cL_law 334 = .ok (.iload_n 3, 1) := by decide +kernel
theorem dL_law_335 : decode cL_law 335 = .ok (.iconst 2, 1) := by decide +kernel
theorem dL_law_336 : decode cL_law 336 = .ok (.iadd, 1) := by decide +kernel
theorem dL_law_337 : decode cL_law 337 = .ok (.iaload, 1) := by decide +kernel
theorem dL_law_338 : decode cL_law 338 = .ok (.invokevirtual 45, 3) := by decide +kernel
theorem dL_law_341 : decode cL_law 341 = .ok (.aload_n 2, 1) := by decide +kernel
theorem dL_law_342 : decode cL_law 342 = .ok (.aload_n 0, 1) := by decide +kernel
theorem dL_law_343 : decode cL_law 343 = .ok (.iload_n 3, 1) := by decide +kernel
theorem dL_law_344 : decode cL_law 344 = .ok (.iconst 1, 1) := by decide +kernel
theorem dL_law_345 : decode cL_law 345 = .ok (.iadd, 1) := by decide +kernel
theorem dL_law_346 : decode cL_law 346 = .ok (.iaload, 1) := by decide +kernel
theorem dL_law_347 : decode cL_law 347 = .ok (.aload_n 0, 1) := by decide +kernel
theorem dL_law_348 : decode cL_law 348 = .ok (.iload_n 3, 1) := by decide +kernel
theorem dL_law_349 : decode cL_law 349 = .ok (.iconst 2, 1) := by decide +kernel
theorem dL_law_350 : decode cL_law 350 = .ok (.iadd, 1) := by decide +kernel
theorem dL_law_351 : decode cL_law 351 = .ok (.iaload, 1) := by decide +kernel
theorem dL_law_352 : decode cL_law 352 = .ok (.invokevirtual 48, 3) := by decide +kernel
theorem dL_law_355 : decode cL_law 355 = .ok (.if_icmp .eq 529, 3) := by decide +kernel
theorem dL_law_358 : decode cL_law 358 = .ok (.iconst 0, 1) := by decide +kernel
theorem dL_law_359 : decode cL_law 359 = .ok (.ireturn, 1) := by decide +kernel
theorem dL_law_360 : decode cL_law 360 = .ok (.aload_n 1, 1) := by decide +kernel
theorem dL_law_361 : decode cL_law 361 = .ok (.aload_n 0, 1) := by decide +kernel
theorem dL_law_362 : decode cL_law 362 = .ok (.iload_n 3, 1) := by decide +kernel
theorem dL_law_363 : decode cL_law 363 = .ok (.iconst 1, 1) := by decide +kernel
theorem dL_law_364 : decode cL_law 364 = .ok (.iadd, 1) := by decide +kernel
theorem dL_law_365 : decode cL_law 365 = .ok (.iaload, 1) := by decide +kernel
theorem dL_law_366 : decode cL_law 366 = .ok (.aload_n 0, 1) := by decide +kernel
theorem dL_law_367 : decode cL_law 367 = .ok (.iload_n 3, 1) := by decide +kernel
theorem dL_law_368 : decode cL_law 368 = .ok (.iconst 2, 1) := by decide +kernel
theorem dL_law_369 : decode cL_law 369 = .ok (.iadd, 1) := by decide +kernel
theorem dL_law_370 : decode cL_law 370 = .ok (.iaload, 1) := by decide +kernel
theorem dL_law_371 : decode cL_law 371 = .ok (.invokevirtual 49, 3) := by decide +kernel
theorem dL_law_374 : decode cL_law 374 = .ok (.aload_n 2, 1) := by decide +kernel
theorem dL_law_375 : decode cL_law 375 = .ok (.aload_n 0, 1) := by decide +kernel
theorem dL_law_376 : decode cL_law 376 = .ok (.iload_n 3, 1) := by decide +kernel
theorem dL_law_377 : decode cL_law 377 = .ok (.iconst 1, 1) := by decide +kernel
theorem dL_law_378 : decode cL_law 378 = .ok (.iadd, 1) := by decide +kernel
theorem dL_law_379 : decode cL_law 379 = .ok (.iaload, 1) := by decide +kernel
theorem dL_law_380 : decode cL_law 380 = .ok (.aload_n 0, 1) := by decide +kernel
theorem dL_law_381 : decode cL_law 381 = .ok (.iload_n 3, 1) := by decide +kernel
theorem dL_law_382 : decode cL_law 382 = .ok (.iconst 2, 1) := by decide +kernel
theorem dL_law_383 : decode cL_law 383 = .ok (.iadd, 1) := by decide +kernel
theorem dL_law_384 : decode cL_law 384 = .ok (.iaload, 1) := by decide +kernel
theorem dL_law_385 : decode cL_law 385 = .ok (.invokevirtual 52, 3) := by decide +kernel
theorem dL_law_388 : decode cL_law 388 = .ok (.if_icmp .eq 496, 3) := by decide +kernel
theorem dL_law_391 : decode cL_law 391 = .ok (.iconst 0, 1) := by decide +kernel
theorem dL_law_392 : decode cL_law 392 = .ok (.ireturn, 1) := by decide +kernel
theorem dL_law_393 : decode cL_law 393 = .ok (.aload_n 1, 1) := by decide +kernel
theorem dL_law_394 : decode cL_law 394 = .ok (.aload_n 0, 1) := by decide +kernel
theorem dL_law_395 : decode cL_law 395 = .ok (.iload_n 3, 1) := by decide +kernel
theorem dL_law_396 : decode cL_law 396 = .ok (.iconst 1, 1) := by decide +kernel
theorem dL_law_397 : decode cL_law 397 = .ok (.iadd, 1) := by decide +kernel
theorem dL_law_398 : decode cL_law 398 = .ok (.iaload, 1) := by decide +kernel
theorem dL_law_399 : decode cL_law 399 = .ok (.aload_n 0, 1) := by decide +kernel
theorem dL_law_400 : decode cL_law 400 = .ok (.iload_n 3, 1) := by decide +kernel
theorem dL_law_401 : decode cL_law 401 = .ok (.iconst 2, 1) := by decide +kernel
theorem dL_law_402 : decode cL_law 402 = .ok (.iadd, 1) := by decide +kernel
theorem dL_law_403 : decode cL_law 403 = .ok (.iaload, 1) := by decide +kernel
theorem dL_law_404 : decode cL_law 404 = .ok (.invokevirtual 53, 3) := by decide +kernel
theorem dL_law_407 : decode cL_law 407 = .ok (.aload_n 2, 1) := by decide +kernel
theorem dL_law_408 : decode cL_law 408 = .ok (.aload_n 0, 1) := by decide +kernel
theorem dL_law_409 : decode cL_law 409 = .ok (.iload_n 3, 1) := by decide +kernel
theorem dL_law_410 : decode cL_law 410 = .ok (.iconst 1, 1) := by decide +kernel
theorem dL_law_411 : decode cL_law 411 = .ok (.iadd, 1) := by decide +kernel
theorem dL_law_412 : decode cL_law 412 = .ok (.iaload, 1) := by decide +kernel
theorem dL_law_413 : decode cL_law 413 = .ok (.aload_n 0, 1) := by decide +kernel
theorem dL_law_414 : decode cL_law 414 = .ok (.iload_n 3, 1) := by decide +kernel
theorem dL_law_415 : decode cL_law 415 = .ok (.iconst 2, 1) := by decide +kernel
theorem dL_law_416 : decode cL_law 416 = .ok (.iadd, 1) := by decide +kernel
theorem dL_law_417 : decode cL_law 417 = .ok (.iaload, 1) := by decide +kernel
theorem dL_law_418 : decode cL_law 418 = .ok (.invokevirtual 56, 3) := by decide +kernel
theorem dL_law_421 : decode cL_law 421 = .ok (.if_icmp .eq 463, 3) := by decide +kernel
theorem dL_law_424 : decode cL_law 424 = .ok (.iconst 0, 1) := by decide +kernel
theorem dL_law_425 : decode cL_law 425 = .ok (.ireturn, 1) := by decide +kernel
theorem dL_law_426 : decode cL_law 426 = .ok (.aload_n 1, 1) := by decide +kernel
theorem dL_law_427 : decode cL_law 427 = .ok (.aload_n 0, 1) := by decide +kernel
theorem dL_law_428 : decode cL_law 428 = .ok (.iload_n 3, 1) := by decide +kernel
theorem dL_law_429 : decode cL_law 429 = .ok (.iconst 1, 1) := by decide +kernel
theorem dL_law_430 : decode cL_law 430 = .ok (.iadd, 1) := by decide +kernel
theorem dL_law_431 : decode cL_law 431 = .ok (.iaload, 1) := by decide +kernel
theorem dL_law_432 : decode cL_law 432 = .ok (.aload_n 0, 1) := by decide +kernel
theorem dL_law_433 : decode cL_law 433 = .ok (.iload_n 3, 1) := by decide +kernel
theorem dL_law_434 : decode cL_law 434 = .ok (.iconst 2, 1) := by decide +kernel
theorem dL_law_435 : decode cL_law 435 = .ok (.iadd, 1) := by decide +kernel
theorem dL_law_436 : decode cL_law 436 = .ok (.iaload, 1) := by decide +kernel
theorem dL_law_437 : decode cL_law 437 = .ok (.invokevirtual 57, 3) := by decide +kernel
theorem dL_law_440 : decode cL_law 440 = .ok (.aload_n 2, 1) := by decide +kernel
theorem dL_law_441 : decode cL_law 441 = .ok (.aload_n 0, 1) := by decide +kernel
theorem dL_law_442 : decode cL_law 442 = .ok (.iload_n 3, 1) := by decide +kernel
theorem dL_law_443 : decode cL_law 443 = .ok (.iconst 1, 1) := by decide +kernel
theorem dL_law_444 : decode cL_law 444 = .ok (.iadd, 1) := by decide +kernel
theorem dL_law_445 : decode cL_law 445 = .ok (.iaload, 1) := by decide +kernel
theorem dL_law_446 : decode cL_law 446 = .ok (.aload_n 0, 1) := by decide +kernel
theorem dL_law_447 : decode cL_law 447 = .ok (.iload_n 3, 1) := by decide +kernel
theorem dL_law_448 : decode cL_law 448 = .ok (.iconst 2, 1) := by decide +kernel
theorem dL_law_449 : decode cL_law 449 = .ok (.iadd, 1) := by decide +kernel
theorem dL_law_450 : decode cL_law 450 = .ok (.iaload, 1) := by decide +kernel
theorem dL_law_451 : decode cL_law 451 = .ok (.invokevirtual 60, 3) := by decide +kernel
theorem dL_law_454 : decode cL_law 454 = .ok (.if_icmp .eq 430, 3) := by decide +kernel
theorem dL_law_457 : decode cL_law 457 = .ok (.iconst 0, 1) := by decide +kernel
theorem dL_law_458 : decode cL_law 458 = .ok (.ireturn, 1) := by decide +kernel
theorem dL_law_459 : decode cL_law 459 = .ok (.aload_n 1, 1) := by decide +kernel
theorem dL_law_460 : decode cL_law 460 = .ok (.aload_n 0, 1) := by decide +kernel
theorem dL_law_461 : decode cL_law 461 = .ok (.iload_n 3, 1) := by decide +kernel
theorem dL_law_462 : decode cL_law 462 = .ok (.iconst 1, 1) := by decide +kernel
theorem dL_law_463 : decode cL_law 463 = .ok (.iadd, 1) := by decide +kernel
theorem dL_law_464 : decode cL_law 464 = .ok (.iaload, 1) := by decide +kernel
theorem dL_law_465 : decode cL_law 465 = .ok (.aload_n 0, 1) := by decide +kernel
theorem dL_law_466 : decode cL_law 466 = .ok (.iload_n 3, 1) := by decide +kernel
theorem dL_law_467 : decode cL_law 467 = .ok (.iconst 2, 1) := by decide +kernel
theorem dL_law_468 : decode cL_law 468 = .ok (.iadd, 1) := by decide +kernel
theorem dL_law_469 : decode cL_law 469 = .ok (.iaload, 1) := by decide +kernel
theorem dL_law_470 : decode cL_law 470 = .ok (.invokevirtual 61, 3) := by decide +kernel
theorem dL_law_473 : decode cL_law 473 = .ok (.aload_n 2, 1) := by decide +kernel
theorem dL_law_474 : decode cL_law 474 = .ok (.aload_n 0, 1) := by decide +kernel
theorem dL_law_475 : decode cL_law 475 = .ok (.iload_n 3, 1) := by decide +kernel
theorem dL_law_476 : decode cL_law 476 = .ok (.iconst 1, 1) := by decide +kernel
theorem dL_law_477 : decode cL_law 477 = .ok (.iadd, 1) := by decide +kernel
theorem dL_law_478 : decode cL_law 478 = .ok (.iaload, 1) := by decide +kernel
theorem dL_law_479 : decode cL_law 479 = .ok (.aload_n 0, 1) := by decide +kernel
theorem dL_law_480 : decode cL_law 480 = .ok (.iload_n 3, 1) := by decide +kernel
theorem dL_law_481 : decode cL_law 481 = .ok (.iconst 2, 1) := by decide +kernel
theorem dL_law_482 : decode cL_law 482 = .ok (.iadd, 1) := by decide +kernel
theorem dL_law_483 : decode cL_law 483 = .ok (.iaload, 1) := by decide +kernel
theorem dL_law_484 : decode cL_law 484 = .ok (.invokevirtual 64, 3) := by decide +kernel
theorem dL_law_487 : decode cL_law 487 = .ok (.if_icmp .eq 397, 3) := by decide +kernel
theorem dL_law_490 : decode cL_law 490 = .ok (.iconst 0, 1) := by decide +kernel
theorem dL_law_491 : decode cL_law 491 = .ok (.ireturn, 1) := by decide +kernel
theorem dL_law_492 : decode cL_law 492 = .ok (.aload_n 1, 1) := by decide +kernel
theorem dL_law_493 : decode cL_law 493 = .ok (.aload_n 0, 1) := by decide +kernel
theorem dL_law_494 : decode cL_law 494 = .ok (.iload_n 3, 1) := by decide +kernel
theorem dL_law_495 : decode cL_law 495 = .ok (.iconst 1, 1) := by decide +kernel
theorem dL_law_496 : decode cL_law 496 = .ok (.iadd, 1) := by decide +kernel
theorem dL_law_497 : decode cL_law 497 = .ok (.iaload, 1) := by decide +kernel
theorem dL_law_498 : decode cL_law 498 = .ok (.aload_n 0, 1) := by decide +kernel
theorem dL_law_499 : decode cL_law 499 = .ok (.iload_n 3, 1) := by decide +kernel
theorem dL_law_500 : decode cL_law 500 = .ok (.iconst 2, 1) := by decide +kernel
theorem dL_law_501 : decode cL_law 501 = .ok (.iadd, 1) := by decide +kernel
theorem dL_law_502 : decode cL_law 502 = .ok (.iaload, 1) := by decide +kernel
theorem dL_law_503 : decode cL_law 503 = .ok (.invokevirtual 65, 3) := by decide +kernel
theorem dL_law_506 : decode cL_law 506 = .ok (.aload_n 2, 1) := by decide +kernel
theorem dL_law_507 : decode cL_law 507 = .ok (.aload_n 0, 1) := by decide +kernel
theorem dL_law_508 : decode cL_law 508 = .ok (.iload_n 3, 1) := by decide +kernel
theorem dL_law_509 : decode cL_law 509 = .ok (.iconst 1, 1) := by decide +kernel
theorem dL_law_510 : decode cL_law 510 = .ok (.iadd, 1) := by decide +kernel
theorem dL_law_511 : decode cL_law 511 = .ok (.iaload, 1) := by decide +kernel
theorem dL_law_512 : decode cL_law 512 = .ok (.aload_n 0, 1) := by decide +kernel
theorem dL_law_513 : decode cL_law 513 = .ok (.iload_n 3, 1) := by decide +kernel
theorem dL_law_514 : decode cL_law 514 = .ok (.iconst 2, 1) := by decide +kernel
theorem dL_law_515 : decode cL_law 515 = .ok (.iadd, 1) := by decide +kernel
theorem dL_law_516 : decode cL_law 516 = .ok (.iaload, 1) := by decide +kernel
theorem dL_law_517 : decode cL_law 517 = .ok (.invokevirtual 68, 3) := by decide +kernel
theorem dL_law_520 : decode cL_law 520 = .ok (.if_icmp .eq 364, 3) := by decide +kernel
theorem dL_law_523 : decode cL_law 523 = .ok (.iconst 0, 1) := by decide +kernel
theorem dL_law_524 : decode cL_law 524 = .ok (.ireturn, 1) := by decide +kernel
theorem dL_law_525 : decode cL_law 525 = .ok (.aload_n 1, 1) := by decide +kernel
theorem dL_law_526 : decode cL_law 526 = .ok (.invokevirtual 69, 3) := by decide +kernel
theorem dL_law_529 : decode cL_law 529 = .ok (.aload_n 2, 1) := by decide +kernel
theorem dL_law_530 : decode cL_law 530 = .ok (.invokevirtual 72, 3) := by decide +kernel
theorem dL_law_533 : decode cL_law 533 = .ok (.if_icmp .eq 351, 3) := by decide +kernel
theorem dL_law_536 : decode cL_law 536 = .ok (.iconst 0, 1) := by decide +kernel
theorem dL_law_537 : decode cL_law 537 = .ok (.ireturn, 1) := by decide +kernel
theorem dL_law_538 : decode cL_law 538 = .ok (.aload_n 1, 1) := by decide +kernel
theorem dL_law_539 : decode cL_law 539 = .ok (.aload_n 0, 1) := by decide +kernel
theorem dL_law_540 : decode cL_law 540 = .ok (.iload_n 3, 1) := by decide +kernel
theorem dL_law_541 : decode cL_law 541 = .ok (.iconst 1, 1) := by decide +kernel
theorem dL_law_542 : decode cL_law 542 = .ok (.iadd, 1) := by decide +kernel
theorem dL_law_543 : decode cL_law 543 = .ok (.iaload, 1) := by decide +kernel
theorem dL_law_544 : decode cL_law 544 = .ok (.invokevirtual 73, 3) := by decide +kernel
theorem dL_law_547 : decode cL_law 547 = .ok (.aload_n 2, 1) := by decide +kernel
theorem dL_law_548 : decode cL_law 548 = .ok (.aload_n 0, 1) := by decide +kernel
theorem dL_law_549 : decode cL_law 549 = .ok (.iload_n 3, 1) := by decide +kernel
theorem dL_law_550 : decode cL_law 550 = .ok (.iconst 1, 1) := by decide +kernel
theorem dL_law_551 : decode cL_law 551 = .ok (.iadd, 1) := by decide +kernel
theorem dL_law_552 : decode cL_law 552 = .ok (.iaload, 1) := by decide +kernel
theorem dL_law_553 : decode cL_law 553 = .ok (.invokevirtual 76, 3) := by decide +kernel
theorem dL_law_556 : decode cL_law 556 = .ok (.if_icmp .eq 328, 3) := by decide +kernel
theorem dL_law_559 : decode cL_law 559 = .ok (.iconst 0, 1) := by decide +kernel
theorem dL_law_560 : decode cL_law 560 = .ok (.ireturn, 1) := by decide +kernel
theorem dL_law_561 : decode cL_law 561 = .ok (.aload_n 1, 1) := by decide +kernel
theorem dL_law_562 : decode cL_law 562 = .ok (.aload_n 0, 1) := by decide +kernel
theorem dL_law_563 : decode cL_law 563 = .ok (.iload_n 3, 1) := by decide +kernel
theorem dL_law_564 : decode cL_law 564 = .ok (.iconst 1, 1) := by decide +kernel
theorem dL_law_565 : decode cL_law 565 = .ok (.iadd, 1) := by decide +kernel
theorem dL_law_566 : decode cL_law 566 = .ok (.iaload, 1) := by decide +kernel
theorem dL_law_567 : decode cL_law 567 = .ok (.invokevirtual 77, 3) := by decide +kernel
theorem dL_law_570 : decode cL_law 570 = .ok (.aload_n 2, 1) := by decide +kernel
theorem dL_law_571 : decode cL_law 571 = .ok (.aload_n 0, 1) := by decide +kernel
theorem dL_law_572 : decode cL_law 572 = .ok (.iload_n 3, 1) := by decide +kernel
theorem dL_law_573 : decode cL_law 573 = .ok (.iconst 1, 1) := by decide +kernel
theorem dL_law_574 : decode cL_law 574 = .ok (.iadd, 1) := by decide +kernel
theorem dL_law_575 : decode cL_law 575 = .ok (.iaload, 1) := by decide +kernel
theorem dL_law_576 : decode cL_law 576 = .ok (.invokevirtual 80, 3) := by decide +kernel
theorem dL_law_579 : decode cL_law 579 = .ok (.if_icmp .eq 305, 3) := by decide +kernel
theorem dL_law_582 : decode cL_law 582 = .ok (.iconst 0, 1) := by decide +kernel
theorem dL_law_583 : decode cL_law 583 = .ok (.ireturn, 1) := by decide +kernel
theorem dL_law_584 : decode cL_law 584 = .ok (.aload_n 1, 1) := by decide +kernel
theorem dL_law_585 : decode cL_law 585 = .ok (.aload_n 0, 1) := by decide +kernel
theorem dL_law_586 : decode cL_law 586 = .ok (.iload_n 3, 1) := by decide +kernel
theorem dL_law_587 : decode cL_law 587 = .ok (.iconst 1, 1) := by decide +kernel
theorem dL_law_588 : decode cL_law 588 = .ok (.iadd, 1) := by decide +kernel
theorem dL_law_589 : decode cL_law 589 = .ok (.iaload, 1) := by decide +kernel
theorem dL_law_590 : decode cL_law 590 = .ok (.aload_n 0, 1) := by decide +kernel
theorem dL_law_591 : decode cL_law 591 = .ok (.iload_n 3, 1) := by decide +kernel
theorem dL_law_592 : decode cL_law 592 = .ok (.iconst 2, 1) := by decide +kernel
theorem dL_law_593 : decode cL_law 593 = .ok (.iadd, 1) := by decide +kernel
theorem dL_law_594 : decode cL_law 594 = .ok (.iaload, 1) := by decide +kernel
theorem dL_law_595 : decode cL_law 595 = .ok (.invokevirtual 81, 3) := by decide +kernel
theorem dL_law_598 : decode cL_law 598 = .ok (.aload_n 2, 1) := by decide +kernel
theorem dL_law_599 : decode cL_law 599 = .ok (.aload_n 0, 1) := by decide +kernel
theorem dL_law_600 : decode cL_law 600 = .ok (.iload_n 3, 1) := by decide +kernel
theorem dL_law_601 : decode cL_law 601 = .ok (.iconst 1, 1) := by decide +kernel
theorem dL_law_602 : decode cL_law 602 = .ok (.iadd, 1) := by decide +kernel
theorem dL_law_603 : decode cL_law 603 = .ok (.iaload, 1) := by decide +kernel
theorem dL_law_604 : decode cL_law 604 = .ok (.aload_n 0, 1) := by decide +kernel
theorem dL_law_605 : decode cL_law 605 = .ok (.iload_n 3, 1) := by decide +kernel
theorem dL_law_606 : decode cL_law 606 = .ok (.iconst 2, 1) := by decide +kernel
theorem dL_law_607 : decode cL_law 607 = .ok (.iadd, 1) := by decide +kernel
theorem dL_law_608 : decode cL_law 608 = .ok (.iaload, 1) := by decide +kernel
theorem dL_law_609 : decode cL_law 609 = .ok (.invokevirtual 84, 3) := by decide +kernel
theorem dL_law_612 : decode cL_law 612 = .ok (.if_icmp .eq 272, 3) := by decide +kernel
theorem dL_law_615 : decode cL_law 615 = .ok (.iconst 0, 1) := by decide +kernel
theorem dL_law_616 : decode cL_law 616 = .ok (.ireturn, 1) := by decide +kernel
theorem dL_law_617 : decode cL_law 617 = .ok (.aload_n 1, 1) := by decide +kernel
theorem dL_law_618 : decode cL_law 618 = .ok (.aload_n 0, 1) := by decide +kernel
theorem dL_law_619 : decode cL_law 619 = .ok (.iload_n 3, 1) := by decide +kernel
theorem dL_law_620 : decode cL_law 620 = .ok (.iconst 1, 1) := by decide +kernel
theorem dL_law_621 : decode cL_law 621 = .ok (.iadd, 1) := by decide +kernel
theorem dL_law_622 : decode cL_law 622 = .ok (.iaload, 1) := by decide +kernel
theorem dL_law_623 : decode cL_law 623 = .ok (.aload_n 0, 1) := by decide +kernel
theorem dL_law_624 : decode cL_law 624 = .ok (.iload_n 3, 1) := by decide +kernel
theorem dL_law_625 : decode cL_law 625 = .ok (.iconst 2, 1) := by decide +kernel
theorem dL_law_626 : decode cL_law 626 = .ok (.iadd, 1) := by decide +kernel
theorem dL_law_627 : decode cL_law 627 = .ok (.iaload, 1) := by decide +kernel
theorem dL_law_628 : decode cL_law 628 = .ok (.aload_n 0, 1) := by decide +kernel
theorem dL_law_629 : decode cL_law 629 = .ok (.iload_n 3, 1) := by decide +kernel
theorem dL_law_630 : decode cL_law 630 = .ok (.iconst 3, 1) := by decide +kernel
theorem dL_law_631 : decode cL_law 631 = .ok (.iadd, 1) := by decide +kernel
theorem dL_law_632 : decode cL_law 632 = .ok (.iaload, 1) := by decide +kernel
theorem dL_law_633 : decode cL_law 633 = .ok (.invokevirtual 85, 3) := by decide +kernel
theorem dL_law_636 : decode cL_law 636 = .ok (.aload_n 2, 1) := by decide +kernel
theorem dL_law_637 : decode cL_law 637 = .ok (.aload_n 0, 1) := by decide +kernel
theorem dL_law_638 : decode cL_law 638 = .ok (.iload_n 3, 1) := by decide +kernel
theorem dL_law_639 : decode cL_law 639 = .ok (.iconst 1, 1) := by decide +kernel
theorem dL_law_640 : decode cL_law 640 = .ok (.iadd, 1) := by decide +kernel
theorem dL_law_641 : decode cL_law 641 = .ok (.iaload, 1) := by decide +kernel
theorem dL_law_642 : decode cL_law 642 = .ok (.aload_n 0, 1) := by decide +kernel
theorem dL_law_643 : decode cL_law 643 = .ok (.iload_n 3, 1) := by decide +kernel
theorem dL_law_644 : decode cL_law 644 = .ok (.iconst 2, 1) := by decide +kernel
theorem dL_law_645 : decode cL_law 645 = .ok (.iadd, 1) := by decide +kernel
theorem dL_law_646 : decode cL_law 646 = .ok (.iaload, 1) := by decide +kernel
theorem dL_law_647 : decode cL_law 647 = .ok (.aload_n 0, 1) := by decide +kernel
theorem dL_law_648 : decode cL_law 648 = .ok (.iload_n 3, 1) := by decide +kernel
theorem dL_law_649 : decode cL_law 649 = .ok (.iconst 3, 1) := by decide +kernel
theorem dL_law_650 : decode cL_law 650 = .ok (.iadd, 1) := by decide +kernel
theorem dL_law_651 : decode cL_law 651 = .ok (.iaload, 1) := by decide +kernel
theorem dL_law_652 : decode cL_law 652 = .ok (.invokevirtual 88, 3) := by decide +kernel
theorem dL_law_655 : decode cL_law 655 = .ok (.if_icmp .eq 229, 3) := by decide +kernel
theorem dL_law_658 : decode cL_law 658 = .ok (.iconst 0, 1) := by decide +kernel
theorem dL_law_659 : decode cL_law 659 = .ok (.ireturn, 1) := by decide +kernel
theorem dL_law_660 : decode cL_law 660 = .ok (.aload_n 1, 1) := by decide +kernel
theorem dL_law_661 : decode cL_law 661 = .ok (.aload_n 0, 1) := by decide +kernel
theorem dL_law_662 : decode cL_law 662 = .ok (.iload_n 3, 1) := by decide +kernel
theorem dL_law_663 : decode cL_law 663 = .ok (.iconst 1, 1) := by decide +kernel
theorem dL_law_664 : decode cL_law 664 = .ok (.iadd, 1) := by decide +kernel
theorem dL_law_665 : decode cL_law 665 = .ok (.iaload, 1) := by decide +kernel
theorem dL_law_666 : decode cL_law 666 = .ok (.aload_n 0, 1) := by decide +kernel
theorem dL_law_667 : decode cL_law 667 = .ok (.iload_n 3, 1) := by decide +kernel
theorem dL_law_668 : decode cL_law 668 = .ok (.iconst 2, 1) := by decide +kernel
theorem dL_law_669 : decode cL_law 669 = .ok (.iadd, 1) := by decide +kernel
theorem dL_law_670 : decode cL_law 670 = .ok (.iaload, 1) := by decide +kernel
theorem dL_law_671 : decode cL_law 671 = .ok (.invokevirtual 89, 3) := by decide +kernel
theorem dL_law_674 : decode cL_law 674 = .ok (.aload_n 2, 1) := by decide +kernel
theorem dL_law_675 : decode cL_law 675 = .ok (.aload_n 0, 1) := by decide +kernel
theorem dL_law_676 : decode cL_law 676 = .ok (.iload_n 3, 1) := by decide +kernel
theorem dL_law_677 : decode cL_law 677 = .ok (.iconst 1, 1) := by decide +kernel
theorem dL_law_678 : decode cL_law 678 = .ok (.iadd, 1) := by decide +kernel
theorem dL_law_679 : decode cL_law 679 = .ok (.iaload, 1) := by decide +kernel
theorem dL_law_680 : decode cL_law 680 = .ok (.aload_n 0, 1) := by decide +kernel
theorem dL_law_681 : decode cL_law 681 = .ok (.iload_n 3, 1) := by decide +kernel
theorem dL_law_682 : decode cL_law 682 = .ok (.iconst 2, 1) := by decide +kernel
theorem dL_law_683 : decode cL_law 683 = .ok (.iadd, 1) := by decide +kernel
theorem dL_law_684 : decode cL_law 684 = .ok (.iaload, 1) := by decide +kernel
theorem dL_law_685 : decode cL_law 685 = .ok (.invokevirtual 92, 3) := by decide +kernel
theorem dL_law_688 : decode cL_law 688 = .ok (.if_icmp .eq 196, 3) := by decide +kernel
theorem dL_law_691 : decode cL_law 691 = .ok (.iconst 0, 1) := by decide +kernel
theorem dL_law_692 : decode cL_law 692 = .ok (.ireturn, 1) := by decide +kernel
theorem dL_law_693 : decode cL_law 693 = .ok (.aload_n 1, 1) := by decide +kernel
theorem dL_law_694 : decode cL_law 694 = .ok (.aload_n 0, 1) := by decide +kernel
theorem dL_law_695 : decode cL_law 695 = .ok (.iload_n 3, 1) := by decide +kernel
theorem dL_law_696 : decode cL_law 696 = .ok (.iconst 1, 1) := by decide +kernel
theorem dL_law_697 : decode cL_law 697 = .ok (.iadd, 1) := by decide +kernel
theorem dL_law_698 : decode cL_law 698 = .ok (.iaload, 1) := by decide +kernel
theorem dL_law_699 : decode cL_law 699 = .ok (.invokevirtual 93, 3) := by decide +kernel
theorem dL_law_702 : decode cL_law 702 = .ok (.aload_n 2, 1) := by decide +kernel
theorem dL_law_703 : decode cL_law 703 = .ok (.aload_n 0, 1) := by decide +kernel
theorem dL_law_704 : decode cL_law 704 = .ok (.iload_n 3, 1) := by decide +kernel
theorem dL_law_705 : decode cL_law 705 = .ok (.iconst 1, 1) := by decide +kernel
theorem dL_law_706 : decode cL_law 706 = .ok (.iadd, 1) := by decide +kernel
theorem dL_law_707 : decode cL_law 707 = .ok (.iaload, 1) := by decide +kernel
theorem dL_law_708 : decode cL_law 708 = .ok (.invokevirtual 96, 3) := by decide +kernel
theorem dL_law_711 : decode cL_law 711 = .ok (.if_icmp .eq 173, 3) := by decide +kernel
theorem dL_law_714 : decode cL_law 714 = .ok (.iconst 0, 1) := by decide +kernel
theorem dL_law_715 : decode cL_law 715 = .ok (.ireturn, 1) := by decide +kernel
theorem dL_law_716 : decode cL_law 716 = .ok (.aload_n 1, 1) := by decide +kernel
theorem dL_law_717 : decode cL_law 717 = .ok (.aload_n 0, 1) := by decide +kernel
theorem dL_law_718 : decode cL_law 718 = .ok (.iload_n 3, 1) := by decide +kernel
theorem dL_law_719 : decode cL_law 719 = .ok (.iconst 1, 1) := by decide +kernel
theorem dL_law_720 : decode cL_law 720 = .ok (.iadd, 1) := by decide +kernel
theorem dL_law_721 : decode cL_law 721 = .ok (.iaload, 1) := by decide +kernel
theorem dL_law_722 : decode cL_law 722 = .ok (.ifCond .eq 7, 3) := by decide +kernel
theorem dL_law_725 : decode cL_law 725 = .ok (.iconst 1, 1) := by decide +kernel
theorem dL_law_726 : decode cL_law 726 = .ok (.goto 4, 3) := by decide +kernel
theorem dL_law_729 : decode cL_law 729 = .ok (.iconst 0, 1) := by decide +kernel
theorem dL_law_730 : decode cL_law 730 = .ok (.invokevirtual 97, 3) := by decide +kernel
theorem dL_law_733 : decode cL_law 733 = .ok (.aload_n 2, 1) := by decide +kernel
theorem dL_law_734 : decode cL_law 734 = .ok (.aload_n 0, 1) := by decide +kernel
theorem dL_law_735 : decode cL_law 735 = .ok (.iload_n 3, 1) := by decide +kernel
theorem dL_law_736 : decode cL_law 736 = .ok (.iconst 1, 1) := by decide +kernel
theorem dL_law_737 : decode cL_law 737 = .ok (.iadd, 1) := by decide +kernel
theorem dL_law_738 : decode cL_law 738 = .ok (.iaload, 1) := by decide +kernel
theorem dL_law_739 : decode cL_law 739 = .ok (.ifCond .eq 7, 3) := by decide +kernel
theorem dL_law_742 : decode cL_law 742 = .ok (.iconst 1, 1) := by decide +kernel
theorem dL_law_743 : decode cL_law 743 = .ok (.goto 4, 3) := by decide +kernel
theorem dL_law_746 : decode cL_law 746 = .ok (.iconst 0, 1) := by decide +kernel
theorem dL_law_747 : decode cL_law 747 = .ok (.invokevirtual 101, 3) := by decide +kernel
theorem dL_law_750 : decode cL_law 750 = .ok (.if_icmp .eq 134, 3) := by decide +kernel
theorem dL_law_753 : decode cL_law 753 = .ok (.iconst 0, 1) := by decide +kernel
theorem dL_law_754 : decode cL_law 754 = .ok (.ireturn, 1) := by decide +kernel
theorem dL_law_755 : decode cL_law 755 = .ok (.aload_n 1, 1) := by decide +kernel
theorem dL_law_756 : decode cL_law 756 = .ok (.aload_n 0, 1) := by decide +kernel
theorem dL_law_757 : decode cL_law 757 = .ok (.iload_n 3, 1) := by decide +kernel
theorem dL_law_758 : decode cL_law 758 = .ok (.iconst 1, 1) := by decide +kernel
theorem dL_law_759 : decode cL_law 759 = .ok (.iadd, 1) := by decide +kernel
theorem dL_law_760 : decode cL_law 760 = .ok (.iaload, 1) := by decide +kernel
theorem dL_law_761 : decode cL_law 761 = .ok (.invokevirtual 102, 3) := by decide +kernel
theorem dL_law_764 : decode cL_law 764 = .ok (.aload_n 2, 1) := by decide +kernel
theorem dL_law_765 : decode cL_law 765 = .ok (.aload_n 0, 1) := by decide +kernel
theorem dL_law_766 : decode cL_law 766 = .ok (.iload_n 3, 1) := by decide +kernel
theorem dL_law_767 : decode cL_law 767 = .ok (.iconst 1, 1) := by decide +kernel
theorem dL_law_768 : decode cL_law 768 = .ok (.iadd, 1) := by decide +kernel
theorem dL_law_769 : decode cL_law 769 = .ok (.iaload, 1) := by decide +kernel
theorem dL_law_770 : decode cL_law 770 = .ok (.invokevirtual 105, 3) := by decide +kernel
theorem dL_law_773 : decode cL_law 773 = .ok (.if_icmp .eq 111, 3) := by decide +kernel
theorem dL_law_776 : decode cL_law 776 = .ok (.iconst 0, 1) := by decide +kernel
theorem dL_law_777 : decode cL_law 777 = .ok (.ireturn, 1) := by decide +kernel
theorem dL_law_778 : decode cL_law 778 = .ok (.aload_n 1, 1) := by decide +kernel
theorem dL_law_779 : decode cL_law 779 = .ok (.aload_n 0, 1) := by decide +kernel
theorem dL_law_780 : decode cL_law 780 = .ok (.iload_n 3, 1) := by decide +kernel
theorem dL_law_781 : decode cL_law 781 = .ok (.iconst 1, 1) := by decide +kernel
theorem dL_law_782 : decode cL_law 782 = .ok (.iadd, 1) := by decide +kernel
theorem dL_law_783 : decode cL_law 783 = .ok (.iaload, 1) := by decide +kernel
theorem dL_law_784 : decode cL_law 784 = .ok (.aload_n 0, 1) := by decide +kernel
theorem dL_law_785 : decode cL_law 785 = .ok (.iload_n 3, 1) := by decide +kernel
theorem dL_law_786 : decode cL_law 786 = .ok (.iconst 2, 1) := by decide +kernel
theorem dL_law_787 : decode cL_law 787 = .ok (.iadd, 1) := by decide +kernel
theorem dL_law_788 : decode cL_law 788 = .ok (.iaload, 1) := by decide +kernel
theorem dL_law_789 : decode cL_law 789 = .ok (.aload_n 0, 1) := by decide +kernel
theorem dL_law_790 : decode cL_law 790 = .ok (.iload_n 3, 1) := by decide +kernel
theorem dL_law_791 : decode cL_law 791 = .ok (.iconst 3, 1) := by decide +kernel
theorem dL_law_792 : decode cL_law 792 = .ok (.iadd, 1) := by decide +kernel
theorem dL_law_793 : decode cL_law 793 = .ok (.iaload, 1) := by decide +kernel
theorem dL_law_794 : decode cL_law 794 = .ok (.invokevirtual 106, 3) := by decide +kernel
theorem dL_law_797 : decode cL_law 797 = .ok (.aload_n 2, 1) := by decide +kernel
theorem dL_law_798 : decode cL_law 798 = .ok (.aload_n 0, 1) := by decide +kernel
theorem dL_law_799 : decode cL_law 799 = .ok (.iload_n 3, 1) := by decide +kernel
theorem dL_law_800 : decode cL_law 800 = .ok (.iconst 1, 1) := by decide +kernel
theorem dL_law_801 : decode cL_law 801 = .ok (.iadd, 1) := by decide +kernel
theorem dL_law_802 : decode cL_law 802 = .ok (.iaload, 1) := by decide +kernel
theorem dL_law_803 : decode cL_law 803 = .ok (.aload_n 0, 1) := by decide +kernel
theorem dL_law_804 : decode cL_law 804 = .ok (.iload_n 3, 1) := by decide +kernel
theorem dL_law_805 : decode cL_law 805 = .ok (.iconst 2, 1) := by decide +kernel
theorem dL_law_806 : decode cL_law 806 = .ok (.iadd, 1) := by decide +kernel
theorem dL_law_807 : decode cL_law 807 = .ok (.iaload, 1) := by decide +kernel
theorem dL_law_808 : decode cL_law 808 = .ok (.aload_n 0, 1) := by decide +kernel
theorem dL_law_809 : decode cL_law 809 = .ok (.iload_n 3, 1) := by decide +kernel
theorem dL_law_810 : decode cL_law 810 = .ok (.iconst 3, 1) := by decide +kernel
theorem dL_law_811 : decode cL_law 811 = .ok (.iadd, 1) := by decide +kernel
theorem dL_law_812 : decode cL_law 812 = .ok (.iaload, 1) := by decide +kernel
theorem dL_law_813 : decode cL_law 813 = .ok (.invokevirtual 109, 3) := by decide +kernel
theorem dL_law_816 : decode cL_law 816 = .ok (.if_icmp .eq 68, 3) := by decide +kernel
theorem dL_law_819 : decode cL_law 819 = .ok (.iconst 0, 1) := by decide +kernel
theorem dL_law_820 : decode cL_law 820 = .ok (.ireturn, 1) := by decide +kernel
theorem dL_law_821 : decode cL_law 821 = .ok (.aload_n 1, 1) := by decide +kernel
theorem dL_law_822 : decode cL_law 822 = .ok (.invokevirtual 110, 3) := by decide +kernel
theorem dL_law_825 : decode cL_law 825 = .ok (.aload_n 2, 1) := by decide +kernel
theorem dL_law_826 : decode cL_law 826 = .ok (.invokevirtual 113, 3) := by decide +kernel
theorem dL_law_829 : decode cL_law 829 = .ok (.if_icmp .eq 55, 3) := by decide +kernel
theorem dL_law_832 : decode cL_law 832 = .ok (.iconst 0, 1) := by decide +kernel
theorem dL_law_833 : decode cL_law 833 = .ok (.ireturn, 1) := by decide +kernel
theorem dL_law_834 : decode cL_law 834 = .ok (.aload_n 1, 1) := by decide +kernel
theorem dL_law_835 : decode cL_law 835 = .ok (.invokevirtual 114, 3) := by decide +kernel
theorem dL_law_838 : decode cL_law 838 = .ok (.aload_n 2, 1) := by decide +kernel
theorem dL_law_839 : decode cL_law 839 = .ok (.invokevirtual 117, 3) := by decide +kernel
theorem dL_law_842 : decode cL_law 842 = .ok (.if_icmp .eq 42, 3) := by decide +kernel
theorem dL_law_845 : decode cL_law 845 = .ok (.iconst 0, 1) := by decide +kernel
theorem dL_law_846 : decode cL_law 846 = .ok (.ireturn, 1) := by decide +kernel
theorem dL_law_847 : decode cL_law 847 = .ok (.aload_n 1, 1) := by decide +kernel
theorem dL_law_848 : decode cL_law 848 = .ok (.aload_n 0, 1) := by decide +kernel
theorem dL_law_849 : decode cL_law 849 = .ok (.iload_n 3, 1) := by decide +kernel
theorem dL_law_850 : decode cL_law 850 = .ok (.iconst 1, 1) := by decide +kernel
theorem dL_law_851 : decode cL_law 851 = .ok (.iadd, 1) := by decide +kernel
theorem dL_law_852 : decode cL_law 852 = .ok (.iaload, 1) := by decide +kernel
theorem dL_law_853 : decode cL_law 853 = .ok (.invokevirtual 118, 3) := by decide +kernel
theorem dL_law_856 : decode cL_law 856 = .ok (.aload_n 2, 1) := by decide +kernel
theorem dL_law_857 : decode cL_law 857 = .ok (.aload_n 0, 1) := by decide +kernel
theorem dL_law_858 : decode cL_law 858 = .ok (.iload_n 3, 1) := by decide +kernel
theorem dL_law_859 : decode cL_law 859 = .ok (.iconst 1, 1) := by decide +kernel
theorem dL_law_860 : decode cL_law 860 = .ok (.iadd, 1) := by decide +kernel
theorem dL_law_861 : decode cL_law 861 = .ok (.iaload, 1) := by decide +kernel
theorem dL_law_862 : decode cL_law 862 = .ok (.invokevirtual 121, 3) := by decide +kernel
theorem dL_law_865 : decode cL_law 865 = .ok (.if_icmp .eq 19, 3) := by decide +kernel
theorem dL_law_868 : decode cL_law 868 = .ok (.iconst 0, 1) := by decide +kernel
theorem dL_law_869 : decode cL_law 869 = .ok (.ireturn, 1) := by decide +kernel
theorem dL_law_870 : decode cL_law 870 = .ok (.aload_n 1, 1) := by decide +kernel
theorem dL_law_871 : decode cL_law 871 = .ok (.invokevirtual 122, 3) := by decide +kernel
theorem dL_law_874 : decode cL_law 874 = .ok (.aload_n 2, 1) := by decide +kernel
theorem dL_law_875 : decode cL_law 875 = .ok (.invokevirtual 126, 3) := by decide +kernel
theorem dL_law_878 : decode cL_law 878 = .ok (.lcmp, 1) := by decide +kernel
theorem dL_law_879 : decode cL_law 879 = .ok (.ifCond .eq 5, 3) := by decide +kernel
theorem dL_law_882 : decode cL_law 882 = .ok (.iconst 0, 1) := by decide +kernel
theorem dL_law_883 : decode cL_law 883 = .ok (.ireturn, 1) := by decide +kernel
theorem dL_law_884 : decode cL_law 884 = .ok (.iinc 3 4, 3) := by decide +kernel
theorem dL_law_887 : decode cL_law 887 = .ok (.goto (-869), 3) := by decide +kernel
theorem dL_law_890 : decode cL_law 890 = .ok (.iconst 1, 1) := by decide +kernel
theorem dL_law_891 : decode cL_law 891 = .ok (.ireturn, 1) := by decide +kernel
end
section
/-! words: the good ones of the tables, each by its place -/
def TW : List Cond := lw_tbl.filter goodWord
theorem TW_of {w : Cond} (i : Nat) (h : lw_tbl[i]? = some w) (g : goodWord w = true) : w ∈ TW := List.mem_filter.mpr ⟨List.mem_of_getElem? h, g⟩
theorem TW_good {w : Cond} (h : w ∈ TW) : goodWord w = true := (List.mem_filter.mp h).2
theorem TW_tbl {w : Cond} (h : w ∈ TW) : w ∈ lw_tbl := (List.mem_filter.mp h).1
theorem TW_in {ws big : List Cond} (h : ∀ w ∈ ws, w ∈ big) (g : ∀ w ∈ ws, w ∈ TW) : GoodIn big ws := fun w hw => ⟨h w hw, good_of_word (TW_good (g w hw))⟩
theorem tL_X5_mayStand : Cond.selects RX5 yX5_mayStand yX5_mayStand ∈ TW := TW_of 0 (by decide +kernel) rfl
theorem tL_X7_firstIn : Cond.selects RX7 yX7_firstIn yX7_firstIn ∈ TW := TW_of 1 (by decide +kernel) rfl
theorem tL_X8_lossIn : Cond.selects RX8 yX8_lossIn yX8_lossIn ∈ TW := TW_of 2 (by decide +kernel) rfl
theorem tL_X8_trialFromNow : Cond.selects RX8 yX8_trialFromNow yX8_trialFromNow ∈ TW := TW_of 3 (by decide +kernel) rfl
theorem tL_X8_firstCellOfGrazing : Cond.selects RX8 yX8_firstCellOfGrazing yX8_firstCellOfGrazing ∈ TW := TW_of 4 (by decide +kernel) rfl
theorem tL_X8_rowsThrough : Cond.selects RX8 yX8_rowsThrough yX8_rowsThrough ∈ TW := TW_of 5 (by decide +kernel) rfl
theorem tL_X8_rowsBehind : Cond.selects RX8 yX8_rowsBehind yX8_rowsBehind ∈ TW := TW_of 6 (by decide +kernel) rfl
theorem tL_X8_fastsOnEnd : Cond.selects RX8 yX8_fastsOnEnd yX8_fastsOnEnd ∈ TW := TW_of 7 (by decide +kernel) rfl
theorem tL_X8_fittingLags : Cond.selects RX8 yX8_fittingLags yX8_fittingLags ∈ TW := TW_of 8 (by decide +kernel) rfl
theorem tL_X8_didJustSo : Cond.selects RX8 yX8_didJustSo yX8_didJustSo ∈ TW := TW_of 9 (by decide +kernel) rfl
theorem tL_X8_fittingKinds : Cond.selects RX8 yX8_fittingKinds yX8_fittingKinds ∈ TW := TW_of 10 (by decide +kernel) rfl
theorem tL_X8_withPacks : Cond.selects RX8 yX8_withPacks yX8_withPacks ∈ TW := TW_of 11 (by decide +kernel) rfl
theorem tL_X8_withFlocks : Cond.selects RX8 yX8_withFlocks yX8_withFlocks ∈ TW := TW_of 12 (by decide +kernel) rfl
theorem tL_X9_readFeasts : Cond.selects RX9 yX9_readFeasts yX9_readFeasts ∈ TW := TW_of 13 (by decide +kernel) rfl
theorem tL_X9_nextState : Cond.selects RX9 yX9_nextState yX9_nextState ∈ TW := TW_of 14 (by decide +kernel) rfl
theorem tL_X9_lastState : Cond.selects RX9 yX9_lastState yX9_lastState ∈ TW := TW_of 15 (by decide +kernel) rfl
theorem tL_X9_dayTold : Cond.selects RX9 yX9_dayTold yX9_dayTold ∈ TW := TW_of 16 (by decide +kernel) rfl
theorem tL_X9_isFeast : Cond.selects RX9 yX9_isFeast yX9_isFeast ∈ TW := TW_of 17 (by decide +kernel) rfl
theorem tL_X9_isPack : Cond.selects RX9 yX9_isPack yX9_isPack ∈ TW := TW_of 18 (by decide +kernel) rfl
theorem tL_X9_packNow : Cond.selects RX9 yX9_packNow yX9_packNow ∈ TW := TW_of 19 (by decide +kernel) rfl
theorem tL_X9_readsNow : Cond.selects RX9 yX9_readsNow yX9_readsNow ∈ TW := TW_of 20 (by decide +kernel) rfl
theorem tL_X9_fasts : Cond.selects RX9 yX9_fasts yX9_fasts ∈ TW := TW_of 21 (by decide +kernel) rfl
theorem tL_X9_fastsBy : Cond.selects RX9 yX9_fastsBy yX9_fastsBy ∈ TW := TW_of 22 (by decide +kernel) rfl
theorem tL_X9_prey : Cond.selects RX9 yX9_prey yX9_prey ∈ TW := TW_of 23 (by decide +kernel) rfl
theorem tL_X9_preyIn : Cond.selects RX9 yX9_preyIn yX9_preyIn ∈ TW := TW_of 24 (by decide +kernel) rfl
theorem tL_X9_eatenMany : Cond.selects RX9 yX9_eatenMany yX9_eatenMany ∈ TW := TW_of 25 (by decide +kernel) rfl
theorem tL_X9_isThere : Cond.selects RX9 yX9_isThere yX9_isThere ∈ TW := TW_of 26 (by decide +kernel) rfl
theorem tL_X9_flockNow : Cond.selects RX9 yX9_flockNow yX9_flockNow ∈ TW := TW_of 27 (by decide +kernel) rfl
theorem tL_X9_isFlock : Cond.selects RX9 yX9_isFlock yX9_isFlock ∈ TW := TW_of 28 (by decide +kernel) rfl
theorem tL_X9_goDay : Cond.selects RX9 yX9_goDay yX9_goDay ∈ TW := TW_of 29 (by decide +kernel) rfl
theorem tL_X9_lossNow : Cond.selects RX9 yX9_lossNow yX9_lossNow ∈ TW := TW_of 30 (by decide +kernel) rfl
theorem tL_X9_eatenAll : Cond.selects RX9 yX9_eatenAll yX9_eatenAll ∈ TW := TW_of 31 (by decide +kernel) rfl
theorem tL_X9_save : Cond.selects RX9 yX9_save yX9_save ∈ TW := TW_of 32 (by decide +kernel) rfl
theorem tL_X9_back : Cond.selects RX9 yX9_back yX9_back ∈ TW := TW_of 33 (by decide +kernel) rfl
theorem tL_X9_fallsNow : Cond.selects RX9 yX9_fallsNow yX9_fallsNow ∈ TW := TW_of 34 (by decide +kernel) rfl
theorem tL_X9_fallsIn : Cond.selects RX9 yX9_fallsIn yX9_fallsIn ∈ TW := TW_of 35 (by decide +kernel) rfl
theorem tL_X9_safeNow : Cond.selects RX9 yX9_safeNow yX9_safeNow ∈ TW := TW_of 36 (by decide +kernel) rfl
theorem tL_X9_grazeNow : Cond.selects RX9 yX9_grazeNow yX9_grazeNow ∈ TW := TW_of 37 (by decide +kernel) rfl
theorem tL_X9_grazesBy : Cond.selects RX9 yX9_grazesBy yX9_grazesBy ∈ TW := TW_of 38 (by decide +kernel) rfl
theorem tL_X9_nailNow : Cond.selects RX9 yX9_nailNow yX9_nailNow ∈ TW := TW_of 39 (by decide +kernel) rfl
theorem tL_X9_fastsOn : Cond.selects RX9 yX9_fastsOn yX9_fastsOn ∈ TW := TW_of 40 (by decide +kernel) rfl
theorem tL_X9_fitsNow : Cond.selects RX9 yX9_fitsNow yX9_fitsNow ∈ TW := TW_of 41 (by decide +kernel) rfl
theorem tL_X9_isSeenSo : Cond.selects RX9 yX9_isSeenSo yX9_isSeenSo ∈ TW := TW_of 42 (by decide +kernel) rfl
theorem tL_X9_yearsNow : Cond.selects RX9 yX9_yearsNow yX9_yearsNow ∈ TW := TW_of 43 (by decide +kernel) rfl
theorem tL_X9_draw : Cond.selects RX9 yX9_draw yX9_draw ∈ TW := TW_of 44 (by decide +kernel) rfl
theorem tL_X9_howMany : Cond.selects RX9 yX9_howMany yX9_howMany ∈ TW := TW_of 45 (by decide +kernel) rfl
theorem tL_X9_forgedMany : Cond.selects RX9 yX9_forgedMany yX9_forgedMany ∈ TW := TW_of 46 (by decide +kernel) rfl
theorem tL_X9_mix : Cond.selects RX9 yX9_mix yX9_mix ∈ TW := TW_of 47 (by decide +kernel) rfl
theorem tL_X9_mixFlock : Cond.selects RX9 yX9_mixFlock yX9_mixFlock ∈ TW := TW_of 48 (by decide +kernel) rfl
theorem tN_L : Cond.initialized RL ∈ TW := TW_of 49 (by decide +kernel) rfl
theorem tN_X8 : Cond.initialized RX8 ∈ TW := TW_of 50 (by decide +kernel) rfl
theorem tN_X5 : Cond.initialized RX5 ∈ TW := TW_of 51 (by decide +kernel) rfl
theorem tN_X1 : Cond.initialized RX1 ∈ TW := TW_of 52 (by decide +kernel) rfl
theorem tN_X7 : Cond.initialized RX7 ∈ TW := TW_of 53 (by decide +kernel) rfl
theorem tN_X6 : Cond.initialized RX6 ∈ TW := TW_of 54 (by decide +kernel) rfl
theorem tN_X4 : Cond.initialized RX4 ∈ TW := TW_of 55 (by decide +kernel) rfl
theorem tN_Jx29ce0 : Cond.initialized RJx29ce0 ∈ TW := TW_of 56 (by decide +kernel) rfl
theorem tN_X3 : Cond.initialized RX3 ∈ TW := TW_of 57 (by decide +kernel) rfl
theorem tN_X2 : Cond.initialized RX2 ∈ TW := TW_of 58 (by decide +kernel) rfl
theorem tN_X0 : Cond.initialized RX0 ∈ TW := TW_of 59 (by decide +kernel) rfl
theorem tN_X9 : Cond.initialized RX9 ∈ TW := TW_of 60 (by decide +kernel) rfl
theorem tN_J9 : Cond.initialized RJ9 ∈ TW := TW_of 61 (by decide +kernel) rfl
theorem tN_J10 : Cond.initialized RJ10 ∈ TW := TW_of 62 (by decide +kernel) rfl
theorem tN_J6 : Cond.initialized RJ6 ∈ TW := TW_of 63 (by decide +kernel) rfl
theorem tC_L_7 : Cond.classLink RL 7 RX8 ∈ TW := TW_of 64 (by decide +kernel) rfl
theorem tO_X8 : Cond.instantiable RX8 9 ∈ TW := TW_of 65 (by decide +kernel) rfl
theorem tM_L_9 : Cond.methodLink RL 9 yX8_init ∈ TW := TW_of 66 (by decide +kernel) rfl
theorem tI_X8_init : Cond.instanceMethod yX8_init ∈ TW := TW_of 67 (by decide +kernel) rfl
theorem tK_X8_init : Cond.code yX8_init cX8_init 1 none ∈ TW := TW_of 68 (by decide +kernel) rfl
theorem tM_X8_3 : Cond.methodLink RX8 3 objectInit ∈ TW := TW_of 69 (by decide +kernel) rfl
theorem tI_objInit : Cond.instanceMethod objectInit ∈ TW := TW_of 70 (by decide +kernel) rfl
theorem tK_objInit : Cond.code objectInit object_method_1_code 1 none ∈ TW := TW_of 71 (by decide +kernel) rfl
theorem tC_X8_9 : Cond.classLink RX8 9 RX5 ∈ TW := TW_of 72 (by decide +kernel) rfl
theorem tO_X5 : Cond.instantiable RX5 2 ∈ TW := TW_of 73 (by decide +kernel) rfl
theorem tI_X5_init : Cond.instanceMethod yX5_init ∈ TW := TW_of 75 (by decide +kernel) rfl
theorem tK_X5_init : Cond.code yX5_init cX5_init 1 none ∈ TW := TW_of 76 (by decide +kernel) rfl
theorem tM_X5_3 : Cond.methodLink RX5 3 objectInit ∈ TW := TW_of 77 (by decide +kernel) rfl
theorem tF_X5_9 : Cond.fieldLink RX5 9 "WolfCalendar$Page" "letters" "[C" ∈ TW := TW_of 78 (by decide +kernel) rfl
theorem tF_X5_15 : Cond.fieldLink RX5 15 "WolfCalendar$Page" "length" "I" ∈ TW := TW_of 80 (by decide +kernel) rfl
theorem tR_char : Cond.arrayClass .char ∈ TW := TW_of 88 (by decide +kernel) rfl
theorem tC_X8_16 : Cond.classLink RX8 16 RX1 ∈ TW := TW_of 89 (by decide +kernel) rfl
theorem tO_X1 : Cond.instantiable RX1 2 ∈ TW := TW_of 90 (by decide +kernel) rfl
theorem tI_X1_init : Cond.instanceMethod yX1_init ∈ TW := TW_of 92 (by decide +kernel) rfl
theorem tK_X1_init : Cond.code yX1_init cX1_init 1 none ∈ TW := TW_of 93 (by decide +kernel) rfl
theorem tM_X1_3 : Cond.methodLink RX1 3 objectInit ∈ TW := TW_of 94 (by decide +kernel) rfl
theorem tF_X1_9 : Cond.fieldLink RX1 9 "WolfCalendar$Feasts" "marks" "[Z" ∈ TW := TW_of 95 (by decide +kernel) rfl
theorem tF_X1_21 : Cond.fieldLink RX1 21 "WolfCalendar$Feasts" "number" "I" ∈ TW := TW_of 96 (by decide +kernel) rfl
theorem tR_boolean : Cond.arrayClass .boolean ∈ TW := TW_of 103 (by decide +kernel) rfl
theorem tC_X8_23 : Cond.classLink RX8 23 RX7 ∈ TW := TW_of 104 (by decide +kernel) rfl
theorem tO_X7 : Cond.instantiable RX7 8 ∈ TW := TW_of 105 (by decide +kernel) rfl
theorem tM_X8_25 : Cond.methodLink RX8 25 yX7_init ∈ TW := TW_of 106 (by decide +kernel) rfl
theorem tI_X7_init : Cond.instanceMethod yX7_init ∈ TW := TW_of 107 (by decide +kernel) rfl
theorem tK_X7_init : Cond.code yX7_init cX7_init 2 none ∈ TW := TW_of 108 (by decide +kernel) rfl
theorem tM_X7_3 : Cond.methodLink RX7 3 objectInit ∈ TW := TW_of 109 (by decide +kernel) rfl
theorem tC_X7_9 : Cond.classLink RX7 9 RX4 ∈ TW := TW_of 110 (by decide +kernel) rfl
theorem tC_X7_17 : Cond.classLink RX7 17 RX2 ∈ TW := TW_of 112 (by decide +kernel) rfl
theorem tC_X7_27 : Cond.classLink RX7 27 RX6 ∈ TW := TW_of 114 (by decide +kernel) rfl
theorem tO_X6 : Cond.instantiable RX6 4 ∈ TW := TW_of 115 (by decide +kernel) rfl
theorem tI_X6_init : Cond.instanceMethod yX6_init ∈ TW := TW_of 117 (by decide +kernel) rfl
theorem tK_X6_init : Cond.code yX6_init cX6_init 1 none ∈ TW := TW_of 118 (by decide +kernel) rfl
theorem tM_X6_3 : Cond.methodLink RX6 3 objectInit ∈ TW := TW_of 119 (by decide +kernel) rfl
theorem tF_X6_9 : Cond.fieldLink RX6 9 "WolfCalendar$Sight" "pack" "I" ∈ TW := TW_of 120 (by decide +kernel) rfl
theorem tF_X6_15 : Cond.fieldLink RX6 15 "WolfCalendar$Sight" "from" "I" ∈ TW := TW_of 122 (by decide +kernel) rfl
theorem tF_X6_18 : Cond.fieldLink RX6 18 "WolfCalendar$Sight" "days" "I" ∈ TW := TW_of 124 (by decide +kernel) rfl
theorem tF_X6_21 : Cond.fieldLink RX6 21 "WolfCalendar$Sight" "hunts" "I" ∈ TW := TW_of 126 (by decide +kernel) rfl
theorem tR_int : Cond.arrayClass .int ∈ TW := TW_of 136 (by decide +kernel) rfl
theorem tO_X4 : Cond.instantiable RX4 3 ∈ TW := TW_of 137 (by decide +kernel) rfl
theorem tI_X4_init : Cond.instanceMethod yX4_init ∈ TW := TW_of 139 (by decide +kernel) rfl
theorem tK_X4_init : Cond.code yX4_init cX4_init 1 none ∈ TW := TW_of 140 (by decide +kernel) rfl
theorem tM_X4_1 : Cond.methodLink RX4 1 objectInit ∈ TW := TW_of 141 (by decide +kernel) rfl
theorem tF_X4_7 : Cond.fieldLink RX4 7 "WolfCalendar$Kind" "PACK" "LWolfCalendar$Kind;" ∈ TW := TW_of 142 (by decide +kernel) rfl
theorem tF_X4_13 : Cond.fieldLink RX4 13 "WolfCalendar$Pack" "kind" "LWolfCalendar$Kind;" ∈ TW := TW_of 144 (by decide +kernel) rfl
theorem tF_X4_18 : Cond.fieldLink RX4 18 "WolfCalendar$Pack" "cell" "I" ∈ TW := TW_of 147 (by decide +kernel) rfl
theorem tF_X4_22 : Cond.fieldLink RX4 22 "WolfCalendar$Pack" "lag" "I" ∈ TW := TW_of 150 (by decide +kernel) rfl
theorem tO_X2 : Cond.instantiable RX2 3 ∈ TW := TW_of 160 (by decide +kernel) rfl
theorem tI_X2_init : Cond.instanceMethod yX2_init ∈ TW := TW_of 162 (by decide +kernel) rfl
theorem tK_X2_init : Cond.code yX2_init cX2_init 1 none ∈ TW := TW_of 163 (by decide +kernel) rfl
theorem tM_X2_1 : Cond.methodLink RX2 1 objectInit ∈ TW := TW_of 164 (by decide +kernel) rfl
theorem tF_X2_7 : Cond.fieldLink RX2 7 "WolfCalendar$Flock" "called" "I" ∈ TW := TW_of 165 (by decide +kernel) rfl
theorem tF_X2_13 : Cond.fieldLink RX2 13 "WolfCalendar$Flock" "cell" "I" ∈ TW := TW_of 168 (by decide +kernel) rfl
theorem tF_X2_16 : Cond.fieldLink RX2 16 "WolfCalendar$Flock" "eater" "I" ∈ TW := TW_of 171 (by decide +kernel) rfl
theorem tF_X7_11 : Cond.fieldLink RX7 11 "WolfCalendar$World" "packs" "[LWolfCalendar$Pack;" ∈ TW := TW_of 181 (by decide +kernel) rfl
theorem tF_X7_19 : Cond.fieldLink RX7 19 "WolfCalendar$World" "flocks" "[LWolfCalendar$Flock;" ∈ TW := TW_of 183 (by decide +kernel) rfl
theorem tF_X7_23 : Cond.fieldLink RX7 23 "WolfCalendar$World" "forged" "[I" ∈ TW := TW_of 185 (by decide +kernel) rfl
theorem tF_X7_30 : Cond.fieldLink RX7 30 "WolfCalendar$World" "sight" "LWolfCalendar$Sight;" ∈ TW := TW_of 187 (by decide +kernel) rfl
theorem tF_X7_36 : Cond.fieldLink RX7 36 "WolfCalendar$World" "packCount" "I" ∈ TW := TW_of 189 (by decide +kernel) rfl
theorem tF_X7_54 : Cond.fieldLink RX7 54 "WolfCalendar$World" "flockCount" "I" ∈ TW := TW_of 191 (by decide +kernel) rfl
theorem tF_X7_70 : Cond.fieldLink RX7 70 "WolfCalendar$World" "today" "I" ∈ TW := TW_of 193 (by decide +kernel) rfl
theorem tF_X7_73 : Cond.fieldLink RX7 73 "WolfCalendar$World" "eaten" "I" ∈ TW := TW_of 195 (by decide +kernel) rfl
theorem tC_X8_36 : Cond.classLink RX8 36 RX0 ∈ TW := TW_of 214 (by decide +kernel) rfl
theorem tO_X0 : Cond.instantiable RX0 1 ∈ TW := TW_of 215 (by decide +kernel) rfl
theorem tI_X0_init : Cond.instanceMethod yX0_init ∈ TW := TW_of 217 (by decide +kernel) rfl
theorem tK_X0_init : Cond.code yX0_init cX0_init 1 none ∈ TW := TW_of 218 (by decide +kernel) rfl
theorem tM_X0_1 : Cond.methodLink RX0 1 objectInit ∈ TW := TW_of 219 (by decide +kernel) rfl
theorem tF_X0_9 : Cond.fieldLink RX0 9 "WolfCalendar$Draws" "seed" "J" ∈ TW := TW_of 220 (by decide +kernel) rfl
theorem tF_X8_12 : Cond.fieldLink RX8 12 "WolfCalendar" "page" "LWolfCalendar$Page;" ∈ TW := TW_of 225 (by decide +kernel) rfl
theorem tF_X8_19 : Cond.fieldLink RX8 19 "WolfCalendar" "calendar" "LWolfCalendar$Feasts;" ∈ TW := TW_of 226 (by decide +kernel) rfl
theorem tF_X8_26 : Cond.fieldLink RX8 26 "WolfCalendar" "now" "LWolfCalendar$World;" ∈ TW := TW_of 227 (by decide +kernel) rfl
theorem tF_X8_30 : Cond.fieldLink RX8 30 "WolfCalendar" "kept" "LWolfCalendar$World;" ∈ TW := TW_of 228 (by decide +kernel) rfl
theorem tF_X8_33 : Cond.fieldLink RX8 33 "WolfCalendar" "trial" "LWolfCalendar$World;" ∈ TW := TW_of 229 (by decide +kernel) rfl
theorem tF_X8_39 : Cond.fieldLink RX8 39 "WolfCalendar" "draws" "LWolfCalendar$Draws;" ∈ TW := TW_of 230 (by decide +kernel) rfl
theorem tF_X8_245 : Cond.fieldLink RX8 245 "WolfCalendar" "imageKept" "Z" ∈ TW := TW_of 231 (by decide +kernel) rfl
theorem tF_X8_66 : Cond.fieldLink RX8 66 "WolfCalendar" "timesRead" "I" ∈ TW := TW_of 232 (by decide +kernel) rfl
theorem tF_X8_187 : Cond.fieldLink RX8 187 "WolfCalendar" "timesGrazed" "I" ∈ TW := TW_of 233 (by decide +kernel) rfl
theorem tM_L_13 : Cond.methodLink RL 13 yX8_letter ∈ TW := TW_of 253 (by decide +kernel) rfl
theorem tI_X8_letter : Cond.instanceMethod yX8_letter ∈ TW := TW_of 254 (by decide +kernel) rfl
theorem tL_X8_letter : Cond.selects RX8 yX8_letter yX8_letter ∈ TW := TW_of 255 (by decide +kernel) rfl
theorem tK_X8_letter : Cond.code yX8_letter cX8_letter 2 (some .int) ∈ TW := TW_of 256 (by decide +kernel) rfl
theorem tM_X8_43 : Cond.methodLink RX8 43 yX5_put ∈ TW := TW_of 257 (by decide +kernel) rfl
theorem tI_X5_put : Cond.instanceMethod yX5_put ∈ TW := TW_of 258 (by decide +kernel) rfl
theorem tL_X5_put : Cond.selects RX5 yX5_put yX5_put ∈ TW := TW_of 259 (by decide +kernel) rfl
theorem tK_X5_put : Cond.code yX5_put cX5_put 2 (some .boolean) ∈ TW := TW_of 260 (by decide +kernel) rfl
theorem tM_L_18 : Cond.methodLink RL 18 yX8_blank ∈ TW := TW_of 261 (by decide +kernel) rfl
theorem tI_X8_blank : Cond.instanceMethod yX8_blank ∈ TW := TW_of 262 (by decide +kernel) rfl
theorem tL_X8_blank : Cond.selects RX8 yX8_blank yX8_blank ∈ TW := TW_of 263 (by decide +kernel) rfl
theorem tK_X8_blank : Cond.code yX8_blank cX8_blank 2 (some .int) ∈ TW := TW_of 264 (by decide +kernel) rfl
theorem tM_X8_51 : Cond.methodLink RX8 51 yX5_clear ∈ TW := TW_of 265 (by decide +kernel) rfl
theorem tI_X5_clear : Cond.instanceMethod yX5_clear ∈ TW := TW_of 266 (by decide +kernel) rfl
theorem tL_X5_clear : Cond.selects RX5 yX5_clear yX5_clear ∈ TW := TW_of 267 (by decide +kernel) rfl
theorem tK_X5_clear : Cond.code yX5_clear cX5_clear 1 none ∈ TW := TW_of 268 (by decide +kernel) rfl
theorem tM_L_23 : Cond.methodLink RL 23 yX8_fault ∈ TW := TW_of 269 (by decide +kernel) rfl
theorem tI_X8_fault : Cond.instanceMethod yX8_fault ∈ TW := TW_of 270 (by decide +kernel) rfl
theorem tL_X8_fault : Cond.selects RX8 yX8_fault yX8_fault ∈ TW := TW_of 271 (by decide +kernel) rfl
theorem tK_X8_fault : Cond.code yX8_fault cX8_fault 1 (some .int) ∈ TW := TW_of 272 (by decide +kernel) rfl
theorem tM_X8_54 : Cond.methodLink RX8 54 yX5_firstFault ∈ TW := TW_of 273 (by decide +kernel) rfl
theorem tI_X5_firstFault : Cond.instanceMethod yX5_firstFault ∈ TW := TW_of 274 (by decide +kernel) rfl
theorem tL_X5_firstFault : Cond.selects RX5 yX5_firstFault yX5_firstFault ∈ TW := TW_of 275 (by decide +kernel) rfl
theorem tK_X5_firstFault : Cond.code yX5_firstFault cX5_firstFault 2 (some .int) ∈ TW := TW_of 276 (by decide +kernel) rfl
theorem tM_X5_19 : Cond.methodLink RX5 19 yX5_mayStand ∈ TW := TW_of 277 (by decide +kernel) rfl
theorem tI_X5_mayStand : Cond.instanceMethod yX5_mayStand ∈ TW := TW_of 279 (by decide +kernel) rfl
theorem tK_X5_mayStand : Cond.code yX5_mayStand cX5_mayStand 4 (some .boolean) ∈ TW := TW_of 280 (by decide +kernel) rfl
theorem tM_X5_27 : Cond.methodLink RX5 27 yX5_staysAt ∈ TW := TW_of 281 (by decide +kernel) rfl
theorem tI_X5_staysAt : Cond.instanceMethod yX5_staysAt ∈ TW := TW_of 282 (by decide +kernel) rfl
theorem tL_X5_staysAt : Cond.selects RX5 yX5_staysAt yX5_staysAt ∈ TW := TW_of 283 (by decide +kernel) rfl
theorem tK_X5_staysAt : Cond.code yX5_staysAt cX5_staysAt 2 (some .boolean) ∈ TW := TW_of 284 (by decide +kernel) rfl
theorem tM_L_27 : Cond.methodLink RL 27 yX8_feasts ∈ TW := TW_of 285 (by decide +kernel) rfl
theorem tI_X8_feasts : Cond.instanceMethod yX8_feasts ∈ TW := TW_of 286 (by decide +kernel) rfl
theorem tL_X8_feasts : Cond.selects RX8 yX8_feasts yX8_feasts ∈ TW := TW_of 287 (by decide +kernel) rfl
theorem tK_X8_feasts : Cond.code yX8_feasts cX8_feasts 1 (some .int) ∈ TW := TW_of 288 (by decide +kernel) rfl
theorem tM_X8_58 : Cond.methodLink RX8 58 yX5_isWhole ∈ TW := TW_of 289 (by decide +kernel) rfl
theorem tI_X5_isWhole : Cond.instanceMethod yX5_isWhole ∈ TW := TW_of 290 (by decide +kernel) rfl
theorem tL_X5_isWhole : Cond.selects RX5 yX5_isWhole yX5_isWhole ∈ TW := TW_of 291 (by decide +kernel) rfl
theorem tK_X5_isWhole : Cond.code yX5_isWhole cX5_isWhole 1 (some .boolean) ∈ TW := TW_of 292 (by decide +kernel) rfl
theorem tM_X5_23 : Cond.methodLink RX5 23 yX5_firstFault ∈ TW := TW_of 293 (by decide +kernel) rfl
theorem tM_X8_62 : Cond.methodLink RX8 62 yX1_readFrom ∈ TW := TW_of 294 (by decide +kernel) rfl
theorem tI_X1_readFrom : Cond.instanceMethod yX1_readFrom ∈ TW := TW_of 295 (by decide +kernel) rfl
theorem tL_X1_readFrom : Cond.selects RX1 yX1_readFrom yX1_readFrom ∈ TW := TW_of 296 (by decide +kernel) rfl
theorem tK_X1_readFrom : Cond.code yX1_readFrom cX1_readFrom 8 none ∈ TW := TW_of 297 (by decide +kernel) rfl
theorem tM_X1_24 : Cond.methodLink RX1 24 yX5_digitAt ∈ TW := TW_of 298 (by decide +kernel) rfl
theorem tI_X5_digitAt : Cond.instanceMethod yX5_digitAt ∈ TW := TW_of 299 (by decide +kernel) rfl
theorem tL_X5_digitAt : Cond.selects RX5 yX5_digitAt yX5_digitAt ∈ TW := TW_of 300 (by decide +kernel) rfl
theorem tK_X5_digitAt : Cond.code yX5_digitAt cX5_digitAt 2 (some .int) ∈ TW := TW_of 301 (by decide +kernel) rfl
theorem tM_X1_28 : Cond.methodLink RX1 28 yX5_staysAt ∈ TW := TW_of 302 (by decide +kernel) rfl
theorem tM_X1_32 : Cond.methodLink RX1 32 yX1_placeOfWeekday ∈ TW := TW_of 303 (by decide +kernel) rfl
theorem tS_X1_placeOfWeekday : Cond.static yX1_placeOfWeekday ∈ TW := TW_of 304 (by decide +kernel) rfl
theorem tK_X1_placeOfWeekday : Cond.code yX1_placeOfWeekday cX1_placeOfWeekday 3 (some .int) ∈ TW := TW_of 305 (by decide +kernel) rfl
theorem tM_X1_36 : Cond.methodLink RX1 36 yJ9_floorMod_7cf53 ∈ TW := TW_of 306 (by decide +kernel) rfl
theorem tS_J9_floorMod_7cf53 : Cond.static yJ9_floorMod_7cf53 ∈ TW := TW_of 307 (by decide +kernel) rfl
theorem tK_J9_floorMod_7cf53 : Cond.code yJ9_floorMod_7cf53 cJ9_floorMod_7cf53 3 (some .int) ∈ TW := TW_of 308 (by decide +kernel) rfl
theorem tM_L_31 : Cond.methodLink RL 31 yX8_dayOf ∈ TW := TW_of 309 (by decide +kernel) rfl
theorem tI_X8_dayOf : Cond.instanceMethod yX8_dayOf ∈ TW := TW_of 310 (by decide +kernel) rfl
theorem tL_X8_dayOf : Cond.selects RX8 yX8_dayOf yX8_dayOf ∈ TW := TW_of 311 (by decide +kernel) rfl
theorem tK_X8_dayOf : Cond.code yX8_dayOf cX8_dayOf 3 (some .int) ∈ TW := TW_of 312 (by decide +kernel) rfl
theorem tM_X8_72 : Cond.methodLink RX8 72 yX8_nameOfDay ∈ TW := TW_of 313 (by decide +kernel) rfl
theorem tS_X8_nameOfDay : Cond.static yX8_nameOfDay ∈ TW := TW_of 314 (by decide +kernel) rfl
theorem tK_X8_nameOfDay : Cond.code yX8_nameOfDay cX8_nameOfDay 1 (some .int) ∈ TW := TW_of 315 (by decide +kernel) rfl
theorem tM_X8_76 : Cond.methodLink RX8 76 yX1_isFeast ∈ TW := TW_of 316 (by decide +kernel) rfl
theorem tI_X1_isFeast : Cond.instanceMethod yX1_isFeast ∈ TW := TW_of 317 (by decide +kernel) rfl
theorem tL_X1_isFeast : Cond.selects RX1 yX1_isFeast yX1_isFeast ∈ TW := TW_of 318 (by decide +kernel) rfl
theorem tK_X1_isFeast : Cond.code yX1_isFeast cX1_isFeast 2 (some .boolean) ∈ TW := TW_of 319 (by decide +kernel) rfl
theorem tM_L_36 : Cond.methodLink RL 36 yX8_forge ∈ TW := TW_of 320 (by decide +kernel) rfl
theorem tI_X8_forge : Cond.instanceMethod yX8_forge ∈ TW := TW_of 321 (by decide +kernel) rfl
theorem tL_X8_forge : Cond.selects RX8 yX8_forge yX8_forge ∈ TW := TW_of 322 (by decide +kernel) rfl
theorem tK_X8_forge : Cond.code yX8_forge cX8_forge 4 (some .int) ∈ TW := TW_of 323 (by decide +kernel) rfl
theorem tM_X8_80 : Cond.methodLink RX8 80 yX8_isCell ∈ TW := TW_of 324 (by decide +kernel) rfl
theorem tS_X8_isCell : Cond.static yX8_isCell ∈ TW := TW_of 325 (by decide +kernel) rfl
theorem tK_X8_isCell : Cond.code yX8_isCell cX8_isCell 1 (some .boolean) ∈ TW := TW_of 326 (by decide +kernel) rfl
theorem tM_L_40 : Cond.methodLink RL 40 yX8_pack ∈ TW := TW_of 327 (by decide +kernel) rfl
theorem tI_X8_pack : Cond.instanceMethod yX8_pack ∈ TW := TW_of 328 (by decide +kernel) rfl
theorem tL_X8_pack : Cond.selects RX8 yX8_pack yX8_pack ∈ TW := TW_of 329 (by decide +kernel) rfl
theorem tK_X8_pack : Cond.code yX8_pack cX8_pack 4 (some .int) ∈ TW := TW_of 330 (by decide +kernel) rfl
theorem tM_X8_87 : Cond.methodLink RX8 87 yX8_isKind ∈ TW := TW_of 331 (by decide +kernel) rfl
theorem tS_X8_isKind : Cond.static yX8_isKind ∈ TW := TW_of 332 (by decide +kernel) rfl
theorem tK_X8_isKind : Cond.code yX8_isKind cX8_isKind 1 (some .boolean) ∈ TW := TW_of 333 (by decide +kernel) rfl
theorem tF_X8_97 : Cond.fieldLink RX8 97 "WolfCalendar" "KINDS" "[LWolfCalendar$Kind;" ∈ TW := TW_of 334 (by decide +kernel) rfl
theorem tM_X8_101 : Cond.methodLink RX8 101 yX4_become ∈ TW := TW_of 336 (by decide +kernel) rfl
theorem tI_X4_become : Cond.instanceMethod yX4_become ∈ TW := TW_of 337 (by decide +kernel) rfl
theorem tL_X4_become : Cond.selects RX4 yX4_become yX4_become ∈ TW := TW_of 338 (by decide +kernel) rfl
theorem tK_X4_become : Cond.code yX4_become cX4_become 4 none ∈ TW := TW_of 339 (by decide +kernel) rfl
theorem tM_L_45 : Cond.methodLink RL 45 yX8_about ∈ TW := TW_of 340 (by decide +kernel) rfl
theorem tI_X8_about : Cond.instanceMethod yX8_about ∈ TW := TW_of 341 (by decide +kernel) rfl
theorem tL_X8_about : Cond.selects RX8 yX8_about yX8_about ∈ TW := TW_of 342 (by decide +kernel) rfl
theorem tK_X8_about : Cond.code yX8_about cX8_about 4 (some .int) ∈ TW := TW_of 343 (by decide +kernel) rfl
theorem tM_X8_107 : Cond.methodLink RX8 107 yX7_hasPack ∈ TW := TW_of 344 (by decide +kernel) rfl
theorem tI_X7_hasPack : Cond.instanceMethod yX7_hasPack ∈ TW := TW_of 345 (by decide +kernel) rfl
theorem tL_X7_hasPack : Cond.selects RX7 yX7_hasPack yX7_hasPack ∈ TW := TW_of 346 (by decide +kernel) rfl
theorem tK_X7_hasPack : Cond.code yX7_hasPack cX7_hasPack 2 (some .boolean) ∈ TW := TW_of 347 (by decide +kernel) rfl
theorem tM_X8_123 : Cond.methodLink RX8 123 yX7_readBy ∈ TW := TW_of 348 (by decide +kernel) rfl
theorem tI_X7_readBy : Cond.instanceMethod yX7_readBy ∈ TW := TW_of 349 (by decide +kernel) rfl
theorem tL_X7_readBy : Cond.selects RX7 yX7_readBy yX7_readBy ∈ TW := TW_of 350 (by decide +kernel) rfl
theorem tK_X7_readBy : Cond.code yX7_readBy cX7_readBy 2 (some .int) ∈ TW := TW_of 351 (by decide +kernel) rfl
theorem tM_X7_96 : Cond.methodLink RX7 96 yX3_reads ∈ TW := TW_of 352 (by decide +kernel) rfl
theorem tI_X3_reads : Cond.instanceMethod yX3_reads ∈ TW := TW_of 353 (by decide +kernel) rfl
theorem tL_X3_reads : Cond.selects RX3 yX3_reads yX3_reads ∈ TW := TW_of 354 (by decide +kernel) rfl
theorem tK_X3_reads : Cond.code yX3_reads cX3_reads 4 (some .int) ∈ TW := TW_of 355 (by decide +kernel) rfl
theorem tM_X8_127 : Cond.methodLink RX8 127 yX3_fastsOn ∈ TW := TW_of 356 (by decide +kernel) rfl
theorem tI_X3_fastsOn : Cond.instanceMethod yX3_fastsOn ∈ TW := TW_of 357 (by decide +kernel) rfl
theorem tL_X3_fastsOn : Cond.selects RX3 yX3_fastsOn yX3_fastsOn ∈ TW := TW_of 358 (by decide +kernel) rfl
theorem tK_X3_fastsOn : Cond.code yX3_fastsOn cX3_fastsOn 3 (some .boolean) ∈ TW := TW_of 359 (by decide +kernel) rfl
theorem tM_X3_57 : Cond.methodLink RX3 57 yX1_isFeast ∈ TW := TW_of 360 (by decide +kernel) rfl
theorem tM_X8_131 : Cond.methodLink RX8 131 yX7_preyOf ∈ TW := TW_of 361 (by decide +kernel) rfl
theorem tI_X7_preyOf : Cond.instanceMethod yX7_preyOf ∈ TW := TW_of 362 (by decide +kernel) rfl
theorem tL_X7_preyOf : Cond.selects RX7 yX7_preyOf yX7_preyOf ∈ TW := TW_of 363 (by decide +kernel) rfl
theorem tK_X7_preyOf : Cond.code yX7_preyOf cX7_preyOf 6 (some .int) ∈ TW := TW_of 364 (by decide +kernel) rfl
theorem tM_X7_102 : Cond.methodLink RX7 102 yX7_readBy ∈ TW := TW_of 365 (by decide +kernel) rfl
theorem tM_X7_106 : Cond.methodLink RX7 106 yX3_fastsOn ∈ TW := TW_of 366 (by decide +kernel) rfl
theorem tM_X7_113 : Cond.methodLink RX7 113 yX7_firstIn ∈ TW := TW_of 368 (by decide +kernel) rfl
theorem tI_X7_firstIn : Cond.instanceMethod yX7_firstIn ∈ TW := TW_of 370 (by decide +kernel) rfl
theorem tK_X7_firstIn : Cond.code yX7_firstIn cX7_firstIn 5 (some .int) ∈ TW := TW_of 371 (by decide +kernel) rfl
theorem tM_X7_84 : Cond.methodLink RX7 84 yX7_isEaten ∈ TW := TW_of 372 (by decide +kernel) rfl
theorem tI_X7_isEaten : Cond.instanceMethod yX7_isEaten ∈ TW := TW_of 373 (by decide +kernel) rfl
theorem tL_X7_isEaten : Cond.selects RX7 yX7_isEaten yX7_isEaten ∈ TW := TW_of 374 (by decide +kernel) rfl
theorem tK_X7_isEaten : Cond.code yX7_isEaten cX7_isEaten 2 (some .boolean) ∈ TW := TW_of 375 (by decide +kernel) rfl
theorem tM_X8_135 : Cond.methodLink RX8 135 yX7_eatenBy ∈ TW := TW_of 376 (by decide +kernel) rfl
theorem tI_X7_eatenBy : Cond.instanceMethod yX7_eatenBy ∈ TW := TW_of 377 (by decide +kernel) rfl
theorem tL_X7_eatenBy : Cond.selects RX7 yX7_eatenBy yX7_eatenBy ∈ TW := TW_of 378 (by decide +kernel) rfl
theorem tK_X7_eatenBy : Cond.code yX7_eatenBy cX7_eatenBy 4 (some .int) ∈ TW := TW_of 379 (by decide +kernel) rfl
theorem tM_L_49 : Cond.methodLink RL 49 yX8_as ∈ TW := TW_of 380 (by decide +kernel) rfl
theorem tI_X8_as : Cond.instanceMethod yX8_as ∈ TW := TW_of 381 (by decide +kernel) rfl
theorem tL_X8_as : Cond.selects RX8 yX8_as yX8_as ∈ TW := TW_of 382 (by decide +kernel) rfl
theorem tK_X8_as : Cond.code yX8_as cX8_as 3 (some .int) ∈ TW := TW_of 383 (by decide +kernel) rfl
theorem tM_X8_138 : Cond.methodLink RX8 138 yX3_isSuch ∈ TW := TW_of 384 (by decide +kernel) rfl
theorem tI_X3_isSuch : Cond.instanceMethod yX3_isSuch ∈ TW := TW_of 385 (by decide +kernel) rfl
theorem tL_X3_isSuch : Cond.selects RX3 yX3_isSuch yX3_isSuch ∈ TW := TW_of 386 (by decide +kernel) rfl
theorem tK_X3_isSuch : Cond.code yX3_isSuch cX3_isSuch 2 (some .boolean) ∈ TW := TW_of 387 (by decide +kernel) rfl
theorem tF_X3_5 : Cond.fieldLink RX3 5 "WolfCalendar$Kind" "PACK" "LWolfCalendar$Kind;" ∈ TW := TW_of 388 (by decide +kernel) rfl
theorem tF_X3_18 : Cond.fieldLink RX3 18 "WolfCalendar$Kind" "PILGRIM" "LWolfCalendar$Kind;" ∈ TW := TW_of 389 (by decide +kernel) rfl
theorem tF_X3_15 : Cond.fieldLink RX3 15 "WolfCalendar$Kind" "HERETIC" "LWolfCalendar$Kind;" ∈ TW := TW_of 391 (by decide +kernel) rfl
theorem tM_L_53 : Cond.methodLink RL 53 yX8_flock ∈ TW := TW_of 393 (by decide +kernel) rfl
theorem tI_X8_flock : Cond.instanceMethod yX8_flock ∈ TW := TW_of 394 (by decide +kernel) rfl
theorem tL_X8_flock : Cond.selects RX8 yX8_flock yX8_flock ∈ TW := TW_of 395 (by decide +kernel) rfl
theorem tK_X8_flock : Cond.code yX8_flock cX8_flock 3 (some .int) ∈ TW := TW_of 396 (by decide +kernel) rfl
theorem tM_X8_142 : Cond.methodLink RX8 142 yX8_isName ∈ TW := TW_of 397 (by decide +kernel) rfl
theorem tS_X8_isName : Cond.static yX8_isName ∈ TW := TW_of 398 (by decide +kernel) rfl
theorem tK_X8_isName : Cond.code yX8_isName cX8_isName 1 (some .boolean) ∈ TW := TW_of 399 (by decide +kernel) rfl
theorem tM_X8_152 : Cond.methodLink RX8 152 yX2_become ∈ TW := TW_of 400 (by decide +kernel) rfl
theorem tI_X2_become : Cond.instanceMethod yX2_become ∈ TW := TW_of 401 (by decide +kernel) rfl
theorem tL_X2_become : Cond.selects RX2 yX2_become yX2_become ∈ TW := TW_of 402 (by decide +kernel) rfl
theorem tK_X2_become : Cond.code yX2_become cX2_become 3 none ∈ TW := TW_of 403 (by decide +kernel) rfl
theorem tM_L_57 : Cond.methodLink RL 57 yX8_flockOf ∈ TW := TW_of 404 (by decide +kernel) rfl
theorem tI_X8_flockOf : Cond.instanceMethod yX8_flockOf ∈ TW := TW_of 405 (by decide +kernel) rfl
theorem tL_X8_flockOf : Cond.selects RX8 yX8_flockOf yX8_flockOf ∈ TW := TW_of 406 (by decide +kernel) rfl
theorem tK_X8_flockOf : Cond.code yX8_flockOf cX8_flockOf 4 (some .int) ∈ TW := TW_of 407 (by decide +kernel) rfl
theorem tM_X8_157 : Cond.methodLink RX8 157 yX7_hasFlock ∈ TW := TW_of 408 (by decide +kernel) rfl
theorem tI_X7_hasFlock : Cond.instanceMethod yX7_hasFlock ∈ TW := TW_of 409 (by decide +kernel) rfl
theorem tL_X7_hasFlock : Cond.selects RX7 yX7_hasFlock yX7_hasFlock ∈ TW := TW_of 410 (by decide +kernel) rfl
theorem tK_X7_hasFlock : Cond.code yX7_hasFlock cX7_hasFlock 2 (some .boolean) ∈ TW := TW_of 411 (by decide +kernel) rfl
theorem tM_X8_164 : Cond.methodLink RX8 164 yX7_isEaten ∈ TW := TW_of 412 (by decide +kernel) rfl
theorem tM_L_61 : Cond.methodLink RL 61 yX8_name ∈ TW := TW_of 413 (by decide +kernel) rfl
theorem tI_X8_name : Cond.instanceMethod yX8_name ∈ TW := TW_of 414 (by decide +kernel) rfl
theorem tL_X8_name : Cond.selects RX8 yX8_name yX8_name ∈ TW := TW_of 415 (by decide +kernel) rfl
theorem tK_X8_name : Cond.code yX8_name cX8_name 4 (some .int) ∈ TW := TW_of 416 (by decide +kernel) rfl
theorem tM_X8_170 : Cond.methodLink RX8 170 yX7_isGrazing ∈ TW := TW_of 417 (by decide +kernel) rfl
theorem tI_X7_isGrazing : Cond.instanceMethod yX7_isGrazing ∈ TW := TW_of 418 (by decide +kernel) rfl
theorem tL_X7_isGrazing : Cond.selects RX7 yX7_isGrazing yX7_isGrazing ∈ TW := TW_of 419 (by decide +kernel) rfl
theorem tK_X7_isGrazing : Cond.code yX7_isGrazing cX7_isGrazing 2 (some .boolean) ∈ TW := TW_of 420 (by decide +kernel) rfl
theorem tM_X7_80 : Cond.methodLink RX7 80 yX7_hasFlock ∈ TW := TW_of 421 (by decide +kernel) rfl
theorem tM_L_65 : Cond.methodLink RL 65 yX8_move ∈ TW := TW_of 422 (by decide +kernel) rfl
theorem tI_X8_move : Cond.instanceMethod yX8_move ∈ TW := TW_of 423 (by decide +kernel) rfl
theorem tL_X8_move : Cond.selects RX8 yX8_move yX8_move ∈ TW := TW_of 424 (by decide +kernel) rfl
theorem tK_X8_move : Cond.code yX8_move cX8_move 4 (some .int) ∈ TW := TW_of 425 (by decide +kernel) rfl
theorem tM_L_69 : Cond.methodLink RL 69 yX8_day ∈ TW := TW_of 426 (by decide +kernel) rfl
theorem tI_X8_day : Cond.instanceMethod yX8_day ∈ TW := TW_of 427 (by decide +kernel) rfl
theorem tL_X8_day : Cond.selects RX8 yX8_day yX8_day ∈ TW := TW_of 428 (by decide +kernel) rfl
theorem tK_X8_day : Cond.code yX8_day cX8_day 1 (some .int) ∈ TW := TW_of 429 (by decide +kernel) rfl
theorem tM_X8_173 : Cond.methodLink RX8 173 yX7_passDay ∈ TW := TW_of 430 (by decide +kernel) rfl
theorem tI_X7_passDay : Cond.instanceMethod yX7_passDay ∈ TW := TW_of 431 (by decide +kernel) rfl
theorem tL_X7_passDay : Cond.selects RX7 yX7_passDay yX7_passDay ∈ TW := TW_of 432 (by decide +kernel) rfl
theorem tK_X7_passDay : Cond.code yX7_passDay cX7_passDay 5 (some .int) ∈ TW := TW_of 433 (by decide +kernel) rfl
theorem tM_X7_121 : Cond.methodLink RX7 121 yX7_preyOf ∈ TW := TW_of 434 (by decide +kernel) rfl
theorem tM_L_73 : Cond.methodLink RL 73 yX8_loss ∈ TW := TW_of 435 (by decide +kernel) rfl
theorem tI_X8_loss : Cond.instanceMethod yX8_loss ∈ TW := TW_of 436 (by decide +kernel) rfl
theorem tL_X8_loss : Cond.selects RX8 yX8_loss yX8_loss ∈ TW := TW_of 437 (by decide +kernel) rfl
theorem tK_X8_loss : Cond.code yX8_loss cX8_loss 2 (some .int) ∈ TW := TW_of 438 (by decide +kernel) rfl
theorem tM_X8_177 : Cond.methodLink RX8 177 yX8_lossIn ∈ TW := TW_of 439 (by decide +kernel) rfl
theorem tI_X8_lossIn : Cond.instanceMethod yX8_lossIn ∈ TW := TW_of 441 (by decide +kernel) rfl
theorem tK_X8_lossIn : Cond.code yX8_lossIn cX8_lossIn 3 (some .int) ∈ TW := TW_of 442 (by decide +kernel) rfl
theorem tM_X8_180 : Cond.methodLink RX8 180 yX8_trialFromNow ∈ TW := TW_of 443 (by decide +kernel) rfl
theorem tI_X8_trialFromNow : Cond.instanceMethod yX8_trialFromNow ∈ TW := TW_of 445 (by decide +kernel) rfl
theorem tK_X8_trialFromNow : Cond.code yX8_trialFromNow cX8_trialFromNow 1 none ∈ TW := TW_of 446 (by decide +kernel) rfl
theorem tM_X8_241 : Cond.methodLink RX8 241 yX7_copyFrom ∈ TW := TW_of 447 (by decide +kernel) rfl
theorem tI_X7_copyFrom : Cond.instanceMethod yX7_copyFrom ∈ TW := TW_of 448 (by decide +kernel) rfl
theorem tL_X7_copyFrom : Cond.selects RX7 yX7_copyFrom yX7_copyFrom ∈ TW := TW_of 449 (by decide +kernel) rfl
theorem tK_X7_copyFrom : Cond.code yX7_copyFrom cX7_copyFrom 4 none ∈ TW := TW_of 450 (by decide +kernel) rfl
theorem tM_X7_50 : Cond.methodLink RX7 50 yX4_become ∈ TW := TW_of 451 (by decide +kernel) rfl
theorem tM_X7_57 : Cond.methodLink RX7 57 yX2_copyFrom ∈ TW := TW_of 452 (by decide +kernel) rfl
theorem tI_X2_copyFrom : Cond.instanceMethod yX2_copyFrom ∈ TW := TW_of 453 (by decide +kernel) rfl
theorem tL_X2_copyFrom : Cond.selects RX2 yX2_copyFrom yX2_copyFrom ∈ TW := TW_of 454 (by decide +kernel) rfl
theorem tK_X2_copyFrom : Cond.code yX2_copyFrom cX2_copyFrom 2 none ∈ TW := TW_of 455 (by decide +kernel) rfl
theorem tM_X7_61 : Cond.methodLink RX7 61 arraycopyName ∈ TW := TW_of 456 (by decide +kernel) rfl
theorem tS_acopy : Cond.static arraycopyName ∈ TW := TW_of 457 (by decide +kernel) rfl
theorem tA_acopy : Cond.native arraycopyName ∈ TW := TW_of 458 (by decide +kernel) rfl
theorem tM_X7_67 : Cond.methodLink RX7 67 yX6_copyFrom ∈ TW := TW_of 459 (by decide +kernel) rfl
theorem tI_X6_copyFrom : Cond.instanceMethod yX6_copyFrom ∈ TW := TW_of 460 (by decide +kernel) rfl
theorem tL_X6_copyFrom : Cond.selects RX6 yX6_copyFrom yX6_copyFrom ∈ TW := TW_of 461 (by decide +kernel) rfl
theorem tK_X6_copyFrom : Cond.code yX6_copyFrom cX6_copyFrom 2 none ∈ TW := TW_of 462 (by decide +kernel) rfl
theorem tM_X7_76 : Cond.methodLink RX7 76 yX7_goBackTo ∈ TW := TW_of 463 (by decide +kernel) rfl
theorem tI_X7_goBackTo : Cond.instanceMethod yX7_goBackTo ∈ TW := TW_of 464 (by decide +kernel) rfl
theorem tL_X7_goBackTo : Cond.selects RX7 yX7_goBackTo yX7_goBackTo ∈ TW := TW_of 465 (by decide +kernel) rfl
theorem tK_X7_goBackTo : Cond.code yX7_goBackTo cX7_goBackTo 3 none ∈ TW := TW_of 466 (by decide +kernel) rfl
theorem tM_X8_238 : Cond.methodLink RX8 238 yX7_eatenInAll ∈ TW := TW_of 467 (by decide +kernel) rfl
theorem tI_X7_eatenInAll : Cond.instanceMethod yX7_eatenInAll ∈ TW := TW_of 468 (by decide +kernel) rfl
theorem tL_X7_eatenInAll : Cond.selects RX7 yX7_eatenInAll yX7_eatenInAll ∈ TW := TW_of 469 (by decide +kernel) rfl
theorem tK_X7_eatenInAll : Cond.code yX7_eatenInAll cX7_eatenInAll 1 (some .int) ∈ TW := TW_of 470 (by decide +kernel) rfl
theorem tM_X7_87 : Cond.methodLink RX7 87 yJ6_bitCount_0f7a4 ∈ TW := TW_of 471 (by decide +kernel) rfl
theorem tS_J6_bitCount_0f7a4 : Cond.static yJ6_bitCount_0f7a4 ∈ TW := TW_of 472 (by decide +kernel) rfl
theorem tK_J6_bitCount_0f7a4 : Cond.code yJ6_bitCount_0f7a4 cJ6_bitCount_0f7a4 1 (some .int) ∈ TW := TW_of 473 (by decide +kernel) rfl
theorem tV_J6_265 : Cond.constant RJ6 265 (1431655765) ∈ TW := TW_of 474 (by decide +kernel) rfl
theorem tV_J6_266 : Cond.constant RJ6 266 (858993459) ∈ TW := TW_of 475 (by decide +kernel) rfl
theorem tV_J6_267 : Cond.constant RJ6 267 (252645135) ∈ TW := TW_of 476 (by decide +kernel) rfl
theorem tM_L_77 : Cond.methodLink RL 77 yX8_falls ∈ TW := TW_of 477 (by decide +kernel) rfl
theorem tI_X8_falls : Cond.instanceMethod yX8_falls ∈ TW := TW_of 478 (by decide +kernel) rfl
theorem tL_X8_falls : Cond.selects RX8 yX8_falls yX8_falls ∈ TW := TW_of 479 (by decide +kernel) rfl
theorem tK_X8_falls : Cond.code yX8_falls cX8_falls 2 (some .int) ∈ TW := TW_of 480 (by decide +kernel) rfl
theorem tM_X8_183 : Cond.methodLink RX8 183 yX7_daysUntilEaten ∈ TW := TW_of 481 (by decide +kernel) rfl
theorem tI_X7_daysUntilEaten : Cond.instanceMethod yX7_daysUntilEaten ∈ TW := TW_of 482 (by decide +kernel) rfl
theorem tL_X7_daysUntilEaten : Cond.selects RX7 yX7_daysUntilEaten yX7_daysUntilEaten ∈ TW := TW_of 483 (by decide +kernel) rfl
theorem tK_X7_daysUntilEaten : Cond.code yX7_daysUntilEaten cX7_daysUntilEaten 5 (some .int) ∈ TW := TW_of 484 (by decide +kernel) rfl
theorem tM_X7_125 : Cond.methodLink RX7 125 yX7_passDay ∈ TW := TW_of 485 (by decide +kernel) rfl
theorem tM_L_81 : Cond.methodLink RL 81 yX8_safe ∈ TW := TW_of 486 (by decide +kernel) rfl
theorem tI_X8_safe : Cond.instanceMethod yX8_safe ∈ TW := TW_of 487 (by decide +kernel) rfl
theorem tL_X8_safe : Cond.selects RX8 yX8_safe yX8_safe ∈ TW := TW_of 488 (by decide +kernel) rfl
theorem tK_X8_safe : Cond.code yX8_safe cX8_safe 4 (some .int) ∈ TW := TW_of 489 (by decide +kernel) rfl
theorem tM_L_85 : Cond.methodLink RL 85 yX8_graze ∈ TW := TW_of 490 (by decide +kernel) rfl
theorem tI_X8_graze : Cond.instanceMethod yX8_graze ∈ TW := TW_of 491 (by decide +kernel) rfl
theorem tL_X8_graze : Cond.selects RX8 yX8_graze yX8_graze ∈ TW := TW_of 492 (by decide +kernel) rfl
theorem tK_X8_graze : Cond.code yX8_graze cX8_graze 4 (some .int) ∈ TW := TW_of 493 (by decide +kernel) rfl
theorem tM_X8_190 : Cond.methodLink RX8 190 yX8_firstCellOfGrazing ∈ TW := TW_of 494 (by decide +kernel) rfl
theorem tI_X8_firstCellOfGrazing : Cond.instanceMethod yX8_firstCellOfGrazing ∈ TW := TW_of 496 (by decide +kernel) rfl
theorem tK_X8_firstCellOfGrazing : Cond.code yX8_firstCellOfGrazing cX8_firstCellOfGrazing 5 (some .int) ∈ TW := TW_of 497 (by decide +kernel) rfl
theorem tM_X8_281 : Cond.methodLink RX8 281 yX7_goBackTo ∈ TW := TW_of 498 (by decide +kernel) rfl
theorem tM_X8_284 : Cond.methodLink RX8 284 yX8_rowsThrough ∈ TW := TW_of 499 (by decide +kernel) rfl
theorem tI_X8_rowsThrough : Cond.instanceMethod yX8_rowsThrough ∈ TW := TW_of 501 (by decide +kernel) rfl
theorem tK_X8_rowsThrough : Cond.code yX8_rowsThrough cX8_rowsThrough 4 (some .int) ∈ TW := TW_of 502 (by decide +kernel) rfl
theorem tM_X8_194 : Cond.methodLink RX8 194 yX8_rowsBehind ∈ TW := TW_of 503 (by decide +kernel) rfl
theorem tI_X8_rowsBehind : Cond.instanceMethod yX8_rowsBehind ∈ TW := TW_of 505 (by decide +kernel) rfl
theorem tK_X8_rowsBehind : Cond.code yX8_rowsBehind cX8_rowsBehind 8 (some .int) ∈ TW := TW_of 506 (by decide +kernel) rfl
theorem tM_L_89 : Cond.methodLink RL 89 yX8_nail ∈ TW := TW_of 507 (by decide +kernel) rfl
theorem tI_X8_nail : Cond.instanceMethod yX8_nail ∈ TW := TW_of 508 (by decide +kernel) rfl
theorem tL_X8_nail : Cond.selects RX8 yX8_nail yX8_nail ∈ TW := TW_of 509 (by decide +kernel) rfl
theorem tK_X8_nail : Cond.code yX8_nail cX8_nail 7 (some .int) ∈ TW := TW_of 510 (by decide +kernel) rfl
theorem tM_X8_197 : Cond.methodLink RX8 197 yX8_fastsOnEnd ∈ TW := TW_of 511 (by decide +kernel) rfl
theorem tI_X8_fastsOnEnd : Cond.instanceMethod yX8_fastsOnEnd ∈ TW := TW_of 513 (by decide +kernel) rfl
theorem tK_X8_fastsOnEnd : Cond.code yX8_fastsOnEnd cX8_fastsOnEnd 5 (some .int) ∈ TW := TW_of 514 (by decide +kernel) rfl
theorem tM_X8_288 : Cond.methodLink RX8 288 yX3_reads ∈ TW := TW_of 515 (by decide +kernel) rfl
theorem tM_L_93 : Cond.methodLink RL 93 yX8_watch ∈ TW := TW_of 516 (by decide +kernel) rfl
theorem tI_X8_watch : Cond.instanceMethod yX8_watch ∈ TW := TW_of 517 (by decide +kernel) rfl
theorem tL_X8_watch : Cond.selects RX8 yX8_watch yX8_watch ∈ TW := TW_of 518 (by decide +kernel) rfl
theorem tK_X8_watch : Cond.code yX8_watch cX8_watch 3 (some .int) ∈ TW := TW_of 519 (by decide +kernel) rfl
theorem tM_X8_213 : Cond.methodLink RX8 213 yX6_beginWith ∈ TW := TW_of 520 (by decide +kernel) rfl
theorem tI_X6_beginWith : Cond.instanceMethod yX6_beginWith ∈ TW := TW_of 521 (by decide +kernel) rfl
theorem tL_X6_beginWith : Cond.selects RX6 yX6_beginWith yX6_beginWith ∈ TW := TW_of 522 (by decide +kernel) rfl
theorem tK_X6_beginWith : Cond.code yX6_beginWith cX6_beginWith 3 none ∈ TW := TW_of 523 (by decide +kernel) rfl
theorem tM_L_97 : Cond.methodLink RL 97 yX8_seen ∈ TW := TW_of 524 (by decide +kernel) rfl
theorem tI_X8_seen : Cond.instanceMethod yX8_seen ∈ TW := TW_of 525 (by decide +kernel) rfl
theorem tL_X8_seen : Cond.selects RX8 yX8_seen yX8_seen ∈ TW := TW_of 526 (by decide +kernel) rfl
theorem tK_X8_seen : Cond.code yX8_seen cX8_seen 2 (some .int) ∈ TW := TW_of 527 (by decide +kernel) rfl
theorem tM_X8_216 : Cond.methodLink RX8 216 yX6_hasBegun ∈ TW := TW_of 528 (by decide +kernel) rfl
theorem tI_X6_hasBegun : Cond.instanceMethod yX6_hasBegun ∈ TW := TW_of 529 (by decide +kernel) rfl
theorem tL_X6_hasBegun : Cond.selects RX6 yX6_hasBegun yX6_hasBegun ∈ TW := TW_of 530 (by decide +kernel) rfl
theorem tK_X6_hasBegun : Cond.code yX6_hasBegun cX6_hasBegun 1 (some .boolean) ∈ TW := TW_of 531 (by decide +kernel) rfl
theorem tM_X8_219 : Cond.methodLink RX8 219 yX6_put ∈ TW := TW_of 532 (by decide +kernel) rfl
theorem tI_X6_put : Cond.instanceMethod yX6_put ∈ TW := TW_of 533 (by decide +kernel) rfl
theorem tL_X6_put : Cond.selects RX6 yX6_put yX6_put ∈ TW := TW_of 534 (by decide +kernel) rfl
theorem tK_X6_put : Cond.code yX6_put cX6_put 2 none ∈ TW := TW_of 535 (by decide +kernel) rfl
theorem tM_L_102 : Cond.methodLink RL 102 yX8_fits ∈ TW := TW_of 536 (by decide +kernel) rfl
theorem tI_X8_fits : Cond.instanceMethod yX8_fits ∈ TW := TW_of 537 (by decide +kernel) rfl
theorem tL_X8_fits : Cond.selects RX8 yX8_fits yX8_fits ∈ TW := TW_of 538 (by decide +kernel) rfl
theorem tK_X8_fits : Cond.code yX8_fits cX8_fits 3 (some .int) ∈ TW := TW_of 539 (by decide +kernel) rfl
theorem tM_X8_225 : Cond.methodLink RX8 225 yX8_fittingLags ∈ TW := TW_of 540 (by decide +kernel) rfl
theorem tI_X8_fittingLags : Cond.instanceMethod yX8_fittingLags ∈ TW := TW_of 542 (by decide +kernel) rfl
theorem tK_X8_fittingLags : Cond.code yX8_fittingLags cX8_fittingLags 4 (some .int) ∈ TW := TW_of 543 (by decide +kernel) rfl
theorem tF_X8_291 : Cond.fieldLink RX8 291 "WolfCalendar$Kind" "HERETIC" "LWolfCalendar$Kind;" ∈ TW := TW_of 544 (by decide +kernel) rfl
theorem tM_X8_294 : Cond.methodLink RX8 294 yX8_didJustSo ∈ TW := TW_of 545 (by decide +kernel) rfl
theorem tI_X8_didJustSo : Cond.instanceMethod yX8_didJustSo ∈ TW := TW_of 547 (by decide +kernel) rfl
theorem tK_X8_didJustSo : Cond.code yX8_didJustSo cX8_didJustSo 6 (some .boolean) ∈ TW := TW_of 548 (by decide +kernel) rfl
theorem tM_X8_301 : Cond.methodLink RX8 301 yX6_huntedAt ∈ TW := TW_of 549 (by decide +kernel) rfl
theorem tI_X6_huntedAt : Cond.instanceMethod yX6_huntedAt ∈ TW := TW_of 550 (by decide +kernel) rfl
theorem tL_X6_huntedAt : Cond.selects RX6 yX6_huntedAt yX6_huntedAt ∈ TW := TW_of 551 (by decide +kernel) rfl
theorem tK_X6_huntedAt : Cond.code yX6_huntedAt cX6_huntedAt 2 (some .boolean) ∈ TW := TW_of 552 (by decide +kernel) rfl
theorem tM_X8_228 : Cond.methodLink RX8 228 yX8_fittingKinds ∈ TW := TW_of 553 (by decide +kernel) rfl
theorem tI_X8_fittingKinds : Cond.instanceMethod yX8_fittingKinds ∈ TW := TW_of 555 (by decide +kernel) rfl
theorem tK_X8_fittingKinds : Cond.code yX8_fittingKinds cX8_fittingKinds 4 (some .int) ∈ TW := TW_of 556 (by decide +kernel) rfl
theorem tM_L_106 : Cond.methodLink RL 106 yX8_years ∈ TW := TW_of 557 (by decide +kernel) rfl
theorem tI_X8_years : Cond.instanceMethod yX8_years ∈ TW := TW_of 558 (by decide +kernel) rfl
theorem tL_X8_years : Cond.selects RX8 yX8_years yX8_years ∈ TW := TW_of 559 (by decide +kernel) rfl
theorem tK_X8_years : Cond.code yX8_years cX8_years 6 (some .int) ∈ TW := TW_of 560 (by decide +kernel) rfl
theorem tM_X8_235 : Cond.methodLink RX8 235 yX0_next ∈ TW := TW_of 561 (by decide +kernel) rfl
theorem tI_X0_next : Cond.instanceMethod yX0_next ∈ TW := TW_of 562 (by decide +kernel) rfl
theorem tL_X0_next : Cond.selects RX0 yX0_next yX0_next ∈ TW := TW_of 563 (by decide +kernel) rfl
theorem tK_X0_next : Cond.code yX0_next cX0_next 1 (some .int) ∈ TW := TW_of 564 (by decide +kernel) rfl
theorem tV_X0_7 : Cond.constantLong RX0 7 (1103515245) ∈ TW := TW_of 565 (by decide +kernel) rfl
theorem tV_X0_15 : Cond.constantLong RX0 15 (12345) ∈ TW := TW_of 566 (by decide +kernel) rfl
theorem tV_X0_17 : Cond.constantLong RX0 17 (2147483648) ∈ TW := TW_of 567 (by decide +kernel) rfl
theorem tV_X0_19 : Cond.constantLong RX0 19 (65536) ∈ TW := TW_of 568 (by decide +kernel) rfl
theorem tM_L_110 : Cond.methodLink RL 110 yX8_image ∈ TW := TW_of 569 (by decide +kernel) rfl
theorem tI_X8_image : Cond.instanceMethod yX8_image ∈ TW := TW_of 570 (by decide +kernel) rfl
theorem tL_X8_image : Cond.selects RX8 yX8_image yX8_image ∈ TW := TW_of 571 (by decide +kernel) rfl
theorem tK_X8_image : Cond.code yX8_image cX8_image 1 (some .int) ∈ TW := TW_of 572 (by decide +kernel) rfl
theorem tM_L_114 : Cond.methodLink RL 114 yX8_restore ∈ TW := TW_of 573 (by decide +kernel) rfl
theorem tI_X8_restore : Cond.instanceMethod yX8_restore ∈ TW := TW_of 574 (by decide +kernel) rfl
theorem tL_X8_restore : Cond.selects RX8 yX8_restore yX8_restore ∈ TW := TW_of 575 (by decide +kernel) rfl
theorem tK_X8_restore : Cond.code yX8_restore cX8_restore 1 (some .int) ∈ TW := TW_of 576 (by decide +kernel) rfl
theorem tM_L_118 : Cond.methodLink RL 118 yX8_count ∈ TW := TW_of 577 (by decide +kernel) rfl
theorem tI_X8_count : Cond.instanceMethod yX8_count ∈ TW := TW_of 578 (by decide +kernel) rfl
theorem tL_X8_count : Cond.selects RX8 yX8_count yX8_count ∈ TW := TW_of 579 (by decide +kernel) rfl
theorem tK_X8_count : Cond.code yX8_count cX8_count 2 (some .int) ∈ TW := TW_of 580 (by decide +kernel) rfl
theorem tM_X8_249 : Cond.methodLink RX8 249 yX7_forgedCells ∈ TW := TW_of 581 (by decide +kernel) rfl
theorem tI_X7_forgedCells : Cond.instanceMethod yX7_forgedCells ∈ TW := TW_of 582 (by decide +kernel) rfl
theorem tL_X7_forgedCells : Cond.selects RX7 yX7_forgedCells yX7_forgedCells ∈ TW := TW_of 583 (by decide +kernel) rfl
theorem tK_X7_forgedCells : Cond.code yX7_forgedCells cX7_forgedCells 3 (some .int) ∈ TW := TW_of 584 (by decide +kernel) rfl
theorem tM_L_122 : Cond.methodLink RL 122 yX8_digest ∈ TW := TW_of 585 (by decide +kernel) rfl
theorem tI_X8_digest : Cond.instanceMethod yX8_digest ∈ TW := TW_of 586 (by decide +kernel) rfl
theorem tL_X8_digest : Cond.selects RX8 yX8_digest yX8_digest ∈ TW := TW_of 587 (by decide +kernel) rfl
theorem tK_X8_digest : Cond.code yX8_digest cX8_digest 4 (some .long) ∈ TW := TW_of 588 (by decide +kernel) rfl
theorem tV_X8_252 : Cond.constantLong RX8 252 (743) ∈ TW := TW_of 589 (by decide +kernel) rfl
theorem tM_X8_254 : Cond.methodLink RX8 254 yX8_dayOf ∈ TW := TW_of 590 (by decide +kernel) rfl
theorem tM_X8_257 : Cond.methodLink RX8 257 yX8_mixed ∈ TW := TW_of 591 (by decide +kernel) rfl
theorem tS_X8_mixed : Cond.static yX8_mixed ∈ TW := TW_of 592 (by decide +kernel) rfl
theorem tK_X8_mixed : Cond.code yX8_mixed cX8_mixed 4 (some .long) ∈ TW := TW_of 593 (by decide +kernel) rfl
theorem tV_X8_304 : Cond.constantLong RX8 304 (31) ∈ TW := TW_of 594 (by decide +kernel) rfl
theorem tM_X8_261 : Cond.methodLink RX8 261 yX8_withPacks ∈ TW := TW_of 595 (by decide +kernel) rfl
theorem tI_X8_withPacks : Cond.instanceMethod yX8_withPacks ∈ TW := TW_of 597 (by decide +kernel) rfl
theorem tK_X8_withPacks : Cond.code yX8_withPacks cX8_withPacks 5 (some .long) ∈ TW := TW_of 598 (by decide +kernel) rfl
theorem tM_X8_306 : Cond.methodLink RX8 306 yX8_about ∈ TW := TW_of 599 (by decide +kernel) rfl
theorem tM_X8_309 : Cond.methodLink RX8 309 yX8_nail ∈ TW := TW_of 600 (by decide +kernel) rfl
theorem tM_X8_265 : Cond.methodLink RX8 265 yX8_withFlocks ∈ TW := TW_of 601 (by decide +kernel) rfl
theorem tI_X8_withFlocks : Cond.instanceMethod yX8_withFlocks ∈ TW := TW_of 603 (by decide +kernel) rfl
theorem tK_X8_withFlocks : Cond.code yX8_withFlocks cX8_withFlocks 5 (some .long) ∈ TW := TW_of 604 (by decide +kernel) rfl
theorem tM_X8_312 : Cond.methodLink RX8 312 yX8_flockOf ∈ TW := TW_of 605 (by decide +kernel) rfl
theorem tM_X8_268 : Cond.methodLink RX8 268 yX8_fits ∈ TW := TW_of 606 (by decide +kernel) rfl
theorem tM_X8_275 : Cond.methodLink RX8 275 yX8_count ∈ TW := TW_of 607 (by decide +kernel) rfl
theorem tC_L_10 : Cond.classLink RL 10 RX9 ∈ TW := TW_of 608 (by decide +kernel) rfl
theorem tO_X9 : Cond.instantiable RX9 43 ∈ TW := TW_of 609 (by decide +kernel) rfl
theorem tM_L_12 : Cond.methodLink RL 12 yX9_init ∈ TW := TW_of 610 (by decide +kernel) rfl
theorem tI_X9_init : Cond.instanceMethod yX9_init ∈ TW := TW_of 611 (by decide +kernel) rfl
theorem tK_X9_init : Cond.code yX9_init cX9_init 1 none ∈ TW := TW_of 612 (by decide +kernel) rfl
theorem tM_X9_1 : Cond.methodLink RX9 1 objectInit ∈ TW := TW_of 613 (by decide +kernel) rfl
theorem tF_X9_105 : Cond.fieldLink RX9 105 "WolfCalendarModel" "reads" "I" ∈ TW := TW_of 614 (by decide +kernel) rfl
theorem tF_X9_102 : Cond.fieldLink RX9 102 "WolfCalendarModel" "feasts" "I" ∈ TW := TW_of 615 (by decide +kernel) rfl
theorem tF_X9_7 : Cond.fieldLink RX9 7 "WolfCalendarModel" "feastOf" "[I" ∈ TW := TW_of 616 (by decide +kernel) rfl
theorem tF_X9_146 : Cond.fieldLink RX9 146 "WolfCalendarModel" "day" "I" ∈ TW := TW_of 617 (by decide +kernel) rfl
theorem tF_X9_13 : Cond.fieldLink RX9 13 "WolfCalendarModel" "forgedOf" "[I" ∈ TW := TW_of 618 (by decide +kernel) rfl
theorem tF_X9_122 : Cond.fieldLink RX9 122 "WolfCalendarModel" "packs" "I" ∈ TW := TW_of 619 (by decide +kernel) rfl
theorem tF_X9_16 : Cond.fieldLink RX9 16 "WolfCalendarModel" "kindOf" "[I" ∈ TW := TW_of 620 (by decide +kernel) rfl
theorem tF_X9_19 : Cond.fieldLink RX9 19 "WolfCalendarModel" "cellOf" "[I" ∈ TW := TW_of 621 (by decide +kernel) rfl
theorem tF_X9_22 : Cond.fieldLink RX9 22 "WolfCalendarModel" "lagOf" "[I" ∈ TW := TW_of 622 (by decide +kernel) rfl
theorem tF_X9_133 : Cond.fieldLink RX9 133 "WolfCalendarModel" "flocks" "I" ∈ TW := TW_of 623 (by decide +kernel) rfl
theorem tF_X9_25 : Cond.fieldLink RX9 25 "WolfCalendarModel" "nameOf" "[I" ∈ TW := TW_of 624 (by decide +kernel) rfl
theorem tF_X9_28 : Cond.fieldLink RX9 28 "WolfCalendarModel" "flockCell" "[I" ∈ TW := TW_of 625 (by decide +kernel) rfl
theorem tF_X9_31 : Cond.fieldLink RX9 31 "WolfCalendarModel" "eatenBy" "[I" ∈ TW := TW_of 626 (by decide +kernel) rfl
theorem tF_X9_34 : Cond.fieldLink RX9 34 "WolfCalendarModel" "watched" "I" ∈ TW := TW_of 627 (by decide +kernel) rfl
theorem tF_X9_223 : Cond.fieldLink RX9 223 "WolfCalendarModel" "watchedFrom" "I" ∈ TW := TW_of 628 (by decide +kernel) rfl
theorem tF_X9_220 : Cond.fieldLink RX9 220 "WolfCalendarModel" "seen" "I" ∈ TW := TW_of 629 (by decide +kernel) rfl
theorem tF_X9_38 : Cond.fieldLink RX9 38 "WolfCalendarModel" "seenOf" "[I" ∈ TW := TW_of 630 (by decide +kernel) rfl
theorem tF_X9_207 : Cond.fieldLink RX9 207 "WolfCalendarModel" "asks" "I" ∈ TW := TW_of 631 (by decide +kernel) rfl
theorem tF_X9_79 : Cond.fieldLink RX9 79 "WolfCalendarModel" "pageLength" "I" ∈ TW := TW_of 632 (by decide +kernel) rfl
theorem tF_X9_41 : Cond.fieldLink RX9 41 "WolfCalendarModel" "page" "[B" ∈ TW := TW_of 633 (by decide +kernel) rfl
theorem tF_X9_92 : Cond.fieldLink RX9 92 "WolfCalendarModel" "faultAt" "I" ∈ TW := TW_of 634 (by decide +kernel) rfl
theorem tF_X9_95 : Cond.fieldLink RX9 95 "WolfCalendarModel" "isWhole" "Z" ∈ TW := TW_of 635 (by decide +kernel) rfl
theorem tF_X9_82 : Cond.fieldLink RX9 82 "WolfCalendarModel" "newFeasts" "I" ∈ TW := TW_of 636 (by decide +kernel) rfl
theorem tF_X9_45 : Cond.fieldLink RX9 45 "WolfCalendarModel" "newFeast" "[I" ∈ TW := TW_of 637 (by decide +kernel) rfl
theorem tF_X9_177 : Cond.fieldLink RX9 177 "WolfCalendarModel" "savedDay" "I" ∈ TW := TW_of 638 (by decide +kernel) rfl
theorem tF_X9_48 : Cond.fieldLink RX9 48 "WolfCalendarModel" "savedForged" "[I" ∈ TW := TW_of 639 (by decide +kernel) rfl
theorem tF_X9_51 : Cond.fieldLink RX9 51 "WolfCalendarModel" "savedName" "[I" ∈ TW := TW_of 640 (by decide +kernel) rfl
theorem tF_X9_54 : Cond.fieldLink RX9 54 "WolfCalendarModel" "savedCell" "[I" ∈ TW := TW_of 641 (by decide +kernel) rfl
theorem tF_X9_57 : Cond.fieldLink RX9 57 "WolfCalendarModel" "savedBy" "[I" ∈ TW := TW_of 642 (by decide +kernel) rfl
theorem tF_X9_234 : Cond.fieldLink RX9 234 "WolfCalendarModel" "seedNow" "J" ∈ TW := TW_of 643 (by decide +kernel) rfl
theorem tF_X9_250 : Cond.fieldLink RX9 250 "WolfCalendarModel" "isKept" "Z" ∈ TW := TW_of 644 (by decide +kernel) rfl
theorem tF_X9_253 : Cond.fieldLink RX9 253 "WolfCalendarModel" "keptDay" "I" ∈ TW := TW_of 645 (by decide +kernel) rfl
theorem tF_X9_256 : Cond.fieldLink RX9 256 "WolfCalendarModel" "keptPacks" "I" ∈ TW := TW_of 646 (by decide +kernel) rfl
theorem tF_X9_259 : Cond.fieldLink RX9 259 "WolfCalendarModel" "keptFlocks" "I" ∈ TW := TW_of 647 (by decide +kernel) rfl
theorem tF_X9_262 : Cond.fieldLink RX9 262 "WolfCalendarModel" "keptWatched" "I" ∈ TW := TW_of 648 (by decide +kernel) rfl
theorem tF_X9_265 : Cond.fieldLink RX9 265 "WolfCalendarModel" "keptFrom" "I" ∈ TW := TW_of 649 (by decide +kernel) rfl
theorem tF_X9_268 : Cond.fieldLink RX9 268 "WolfCalendarModel" "keptSeen" "I" ∈ TW := TW_of 650 (by decide +kernel) rfl
theorem tF_X9_60 : Cond.fieldLink RX9 60 "WolfCalendarModel" "keptSeenOf" "[I" ∈ TW := TW_of 651 (by decide +kernel) rfl
theorem tF_X9_63 : Cond.fieldLink RX9 63 "WolfCalendarModel" "keptForged" "[I" ∈ TW := TW_of 652 (by decide +kernel) rfl
theorem tF_X9_66 : Cond.fieldLink RX9 66 "WolfCalendarModel" "keptName" "[I" ∈ TW := TW_of 653 (by decide +kernel) rfl
theorem tF_X9_69 : Cond.fieldLink RX9 69 "WolfCalendarModel" "keptCell" "[I" ∈ TW := TW_of 654 (by decide +kernel) rfl
theorem tF_X9_72 : Cond.fieldLink RX9 72 "WolfCalendarModel" "keptBy" "[I" ∈ TW := TW_of 655 (by decide +kernel) rfl
theorem tF_X9_279 : Cond.fieldLink RX9 279 "WolfCalendarModel" "h" "J" ∈ TW := TW_of 656 (by decide +kernel) rfl
theorem tR_byte : Cond.arrayClass .byte ∈ TW := TW_of 744 (by decide +kernel) rfl
theorem tM_L_17 : Cond.methodLink RL 17 yX9_letter ∈ TW := TW_of 745 (by decide +kernel) rfl
theorem tI_X9_letter : Cond.instanceMethod yX9_letter ∈ TW := TW_of 746 (by decide +kernel) rfl
theorem tL_X9_letter : Cond.selects RX9 yX9_letter yX9_letter ∈ TW := TW_of 747 (by decide +kernel) rfl
theorem tK_X9_letter : Cond.code yX9_letter cX9_letter 2 (some .int) ∈ TW := TW_of 748 (by decide +kernel) rfl
theorem tM_X9_75 : Cond.methodLink RX9 75 yX9_within ∈ TW := TW_of 749 (by decide +kernel) rfl
theorem tS_X9_within : Cond.static yX9_within ∈ TW := TW_of 750 (by decide +kernel) rfl
theorem tK_X9_within : Cond.code yX9_within cX9_within 3 (some .boolean) ∈ TW := TW_of 751 (by decide +kernel) rfl
theorem tM_L_22 : Cond.methodLink RL 22 yX9_blank ∈ TW := TW_of 752 (by decide +kernel) rfl
theorem tI_X9_blank : Cond.instanceMethod yX9_blank ∈ TW := TW_of 753 (by decide +kernel) rfl
theorem tL_X9_blank : Cond.selects RX9 yX9_blank yX9_blank ∈ TW := TW_of 754 (by decide +kernel) rfl
theorem tK_X9_blank : Cond.code yX9_blank cX9_blank 2 (some .int) ∈ TW := TW_of 755 (by decide +kernel) rfl
theorem tM_L_26 : Cond.methodLink RL 26 yX9_fault ∈ TW := TW_of 756 (by decide +kernel) rfl
theorem tI_X9_fault : Cond.instanceMethod yX9_fault ∈ TW := TW_of 757 (by decide +kernel) rfl
theorem tL_X9_fault : Cond.selects RX9 yX9_fault yX9_fault ∈ TW := TW_of 758 (by decide +kernel) rfl
theorem tK_X9_fault : Cond.code yX9_fault cX9_fault 1 (some .int) ∈ TW := TW_of 759 (by decide +kernel) rfl
theorem tM_X9_99 : Cond.methodLink RX9 99 yX9_readFeasts ∈ TW := TW_of 760 (by decide +kernel) rfl
theorem tI_X9_readFeasts : Cond.instanceMethod yX9_readFeasts ∈ TW := TW_of 762 (by decide +kernel) rfl
theorem tK_X9_readFeasts : Cond.code yX9_readFeasts cX9_readFeasts 5 none ∈ TW := TW_of 763 (by decide +kernel) rfl
theorem tM_X9_89 : Cond.methodLink RX9 89 yX9_nextState ∈ TW := TW_of 764 (by decide +kernel) rfl
theorem tI_X9_nextState : Cond.instanceMethod yX9_nextState ∈ TW := TW_of 766 (by decide +kernel) rfl
theorem tK_X9_nextState : Cond.code yX9_nextState cX9_nextState 4 (some .int) ∈ TW := TW_of 767 (by decide +kernel) rfl
theorem tM_X9_85 : Cond.methodLink RX9 85 yX9_lastState ∈ TW := TW_of 768 (by decide +kernel) rfl
theorem tI_X9_lastState : Cond.instanceMethod yX9_lastState ∈ TW := TW_of 770 (by decide +kernel) rfl
theorem tK_X9_lastState : Cond.code yX9_lastState cX9_lastState 4 (some .int) ∈ TW := TW_of 771 (by decide +kernel) rfl
theorem tM_L_30 : Cond.methodLink RL 30 yX9_feasts ∈ TW := TW_of 772 (by decide +kernel) rfl
theorem tI_X9_feasts : Cond.instanceMethod yX9_feasts ∈ TW := TW_of 773 (by decide +kernel) rfl
theorem tL_X9_feasts : Cond.selects RX9 yX9_feasts yX9_feasts ∈ TW := TW_of 774 (by decide +kernel) rfl
theorem tK_X9_feasts : Cond.code yX9_feasts cX9_feasts 2 (some .int) ∈ TW := TW_of 775 (by decide +kernel) rfl
theorem tM_L_35 : Cond.methodLink RL 35 yX9_dayOf ∈ TW := TW_of 776 (by decide +kernel) rfl
theorem tI_X9_dayOf : Cond.instanceMethod yX9_dayOf ∈ TW := TW_of 777 (by decide +kernel) rfl
theorem tL_X9_dayOf : Cond.selects RX9 yX9_dayOf yX9_dayOf ∈ TW := TW_of 778 (by decide +kernel) rfl
theorem tK_X9_dayOf : Cond.code yX9_dayOf cX9_dayOf 3 (some .int) ∈ TW := TW_of 779 (by decide +kernel) rfl
theorem tM_X9_116 : Cond.methodLink RX9 116 yX9_dayTold ∈ TW := TW_of 780 (by decide +kernel) rfl
theorem tI_X9_dayTold : Cond.instanceMethod yX9_dayTold ∈ TW := TW_of 782 (by decide +kernel) rfl
theorem tK_X9_dayTold : Cond.code yX9_dayTold cX9_dayTold 3 (some .int) ∈ TW := TW_of 783 (by decide +kernel) rfl
theorem tM_X9_108 : Cond.methodLink RX9 108 yX9_nameOn ∈ TW := TW_of 784 (by decide +kernel) rfl
theorem tS_X9_nameOn : Cond.static yX9_nameOn ∈ TW := TW_of 785 (by decide +kernel) rfl
theorem tK_X9_nameOn : Cond.code yX9_nameOn cX9_nameOn 1 (some .int) ∈ TW := TW_of 786 (by decide +kernel) rfl
theorem tM_X9_112 : Cond.methodLink RX9 112 yX9_isFeast ∈ TW := TW_of 787 (by decide +kernel) rfl
theorem tI_X9_isFeast : Cond.instanceMethod yX9_isFeast ∈ TW := TW_of 789 (by decide +kernel) rfl
theorem tK_X9_isFeast : Cond.code yX9_isFeast cX9_isFeast 6 (some .boolean) ∈ TW := TW_of 790 (by decide +kernel) rfl
theorem tM_L_39 : Cond.methodLink RL 39 yX9_forge ∈ TW := TW_of 791 (by decide +kernel) rfl
theorem tI_X9_forge : Cond.instanceMethod yX9_forge ∈ TW := TW_of 792 (by decide +kernel) rfl
theorem tL_X9_forge : Cond.selects RX9 yX9_forge yX9_forge ∈ TW := TW_of 793 (by decide +kernel) rfl
theorem tK_X9_forge : Cond.code yX9_forge cX9_forge 4 (some .int) ∈ TW := TW_of 794 (by decide +kernel) rfl
theorem tM_X9_119 : Cond.methodLink RX9 119 yX9_isCell ∈ TW := TW_of 795 (by decide +kernel) rfl
theorem tS_X9_isCell : Cond.static yX9_isCell ∈ TW := TW_of 796 (by decide +kernel) rfl
theorem tK_X9_isCell : Cond.code yX9_isCell cX9_isCell 1 (some .boolean) ∈ TW := TW_of 797 (by decide +kernel) rfl
theorem tM_L_44 : Cond.methodLink RL 44 yX9_pack ∈ TW := TW_of 798 (by decide +kernel) rfl
theorem tI_X9_pack : Cond.instanceMethod yX9_pack ∈ TW := TW_of 799 (by decide +kernel) rfl
theorem tL_X9_pack : Cond.selects RX9 yX9_pack yX9_pack ∈ TW := TW_of 800 (by decide +kernel) rfl
theorem tK_X9_pack : Cond.code yX9_pack cX9_pack 4 (some .int) ∈ TW := TW_of 801 (by decide +kernel) rfl
theorem tM_L_48 : Cond.methodLink RL 48 yX9_about ∈ TW := TW_of 802 (by decide +kernel) rfl
theorem tI_X9_about : Cond.instanceMethod yX9_about ∈ TW := TW_of 803 (by decide +kernel) rfl
theorem tL_X9_about : Cond.selects RX9 yX9_about yX9_about ∈ TW := TW_of 804 (by decide +kernel) rfl
theorem tK_X9_about : Cond.code yX9_about cX9_about 3 (some .int) ∈ TW := TW_of 805 (by decide +kernel) rfl
theorem tM_X9_155 : Cond.methodLink RX9 155 yX9_isPack ∈ TW := TW_of 806 (by decide +kernel) rfl
theorem tI_X9_isPack : Cond.instanceMethod yX9_isPack ∈ TW := TW_of 808 (by decide +kernel) rfl
theorem tK_X9_isPack : Cond.code yX9_isPack cX9_isPack 2 (some .boolean) ∈ TW := TW_of 809 (by decide +kernel) rfl
theorem tM_X9_158 : Cond.methodLink RX9 158 yX9_packNow ∈ TW := TW_of 810 (by decide +kernel) rfl
theorem tI_X9_packNow : Cond.instanceMethod yX9_packNow ∈ TW := TW_of 812 (by decide +kernel) rfl
theorem tK_X9_packNow : Cond.code yX9_packNow cX9_packNow 3 (some .int) ∈ TW := TW_of 813 (by decide +kernel) rfl
theorem tM_X9_140 : Cond.methodLink RX9 140 yX9_readsNow ∈ TW := TW_of 814 (by decide +kernel) rfl
theorem tI_X9_readsNow : Cond.instanceMethod yX9_readsNow ∈ TW := TW_of 816 (by decide +kernel) rfl
theorem tK_X9_readsNow : Cond.code yX9_readsNow cX9_readsNow 3 (some .int) ∈ TW := TW_of 817 (by decide +kernel) rfl
theorem tM_X9_125 : Cond.methodLink RX9 125 yX9_readsBy ∈ TW := TW_of 818 (by decide +kernel) rfl
theorem tS_X9_readsBy : Cond.static yX9_readsBy ∈ TW := TW_of 819 (by decide +kernel) rfl
theorem tK_X9_readsBy : Cond.code yX9_readsBy cX9_readsBy 4 (some .int) ∈ TW := TW_of 820 (by decide +kernel) rfl
theorem tM_X9_136 : Cond.methodLink RX9 136 yX9_fasts ∈ TW := TW_of 821 (by decide +kernel) rfl
theorem tI_X9_fasts : Cond.instanceMethod yX9_fasts ∈ TW := TW_of 823 (by decide +kernel) rfl
theorem tK_X9_fasts : Cond.code yX9_fasts cX9_fasts 3 (some .boolean) ∈ TW := TW_of 824 (by decide +kernel) rfl
theorem tM_X9_129 : Cond.methodLink RX9 129 yX9_fastsBy ∈ TW := TW_of 825 (by decide +kernel) rfl
theorem tI_X9_fastsBy : Cond.instanceMethod yX9_fastsBy ∈ TW := TW_of 827 (by decide +kernel) rfl
theorem tK_X9_fastsBy : Cond.code yX9_fastsBy cX9_fastsBy 7 (some .boolean) ∈ TW := TW_of 828 (by decide +kernel) rfl
theorem tM_X9_149 : Cond.methodLink RX9 149 yX9_prey ∈ TW := TW_of 829 (by decide +kernel) rfl
theorem tI_X9_prey : Cond.instanceMethod yX9_prey ∈ TW := TW_of 831 (by decide +kernel) rfl
theorem tK_X9_prey : Cond.code yX9_prey cX9_prey 6 (some .int) ∈ TW := TW_of 832 (by decide +kernel) rfl
theorem tM_X9_143 : Cond.methodLink RX9 143 yX9_preyIn ∈ TW := TW_of 833 (by decide +kernel) rfl
theorem tI_X9_preyIn : Cond.instanceMethod yX9_preyIn ∈ TW := TW_of 835 (by decide +kernel) rfl
theorem tK_X9_preyIn : Cond.code yX9_preyIn cX9_preyIn 5 (some .int) ∈ TW := TW_of 836 (by decide +kernel) rfl
theorem tM_X9_152 : Cond.methodLink RX9 152 yX9_eatenMany ∈ TW := TW_of 837 (by decide +kernel) rfl
theorem tI_X9_eatenMany : Cond.instanceMethod yX9_eatenMany ∈ TW := TW_of 839 (by decide +kernel) rfl
theorem tK_X9_eatenMany : Cond.code yX9_eatenMany cX9_eatenMany 4 (some .int) ∈ TW := TW_of 840 (by decide +kernel) rfl
theorem tM_L_52 : Cond.methodLink RL 52 yX9_as ∈ TW := TW_of 841 (by decide +kernel) rfl
theorem tI_X9_as : Cond.instanceMethod yX9_as ∈ TW := TW_of 842 (by decide +kernel) rfl
theorem tL_X9_as : Cond.selects RX9 yX9_as yX9_as ∈ TW := TW_of 843 (by decide +kernel) rfl
theorem tK_X9_as : Cond.code yX9_as cX9_as 4 (some .int) ∈ TW := TW_of 844 (by decide +kernel) rfl
theorem tM_L_56 : Cond.methodLink RL 56 yX9_flock ∈ TW := TW_of 845 (by decide +kernel) rfl
theorem tI_X9_flock : Cond.instanceMethod yX9_flock ∈ TW := TW_of 846 (by decide +kernel) rfl
theorem tL_X9_flock : Cond.selects RX9 yX9_flock yX9_flock ∈ TW := TW_of 847 (by decide +kernel) rfl
theorem tK_X9_flock : Cond.code yX9_flock cX9_flock 3 (some .int) ∈ TW := TW_of 848 (by decide +kernel) rfl
theorem tM_X9_164 : Cond.methodLink RX9 164 yX9_isName ∈ TW := TW_of 849 (by decide +kernel) rfl
theorem tS_X9_isName : Cond.static yX9_isName ∈ TW := TW_of 850 (by decide +kernel) rfl
theorem tK_X9_isName : Cond.code yX9_isName cX9_isName 1 (some .boolean) ∈ TW := TW_of 851 (by decide +kernel) rfl
theorem tM_L_60 : Cond.methodLink RL 60 yX9_flockOf ∈ TW := TW_of 852 (by decide +kernel) rfl
theorem tI_X9_flockOf : Cond.instanceMethod yX9_flockOf ∈ TW := TW_of 853 (by decide +kernel) rfl
theorem tL_X9_flockOf : Cond.selects RX9 yX9_flockOf yX9_flockOf ∈ TW := TW_of 854 (by decide +kernel) rfl
theorem tK_X9_flockOf : Cond.code yX9_flockOf cX9_flockOf 3 (some .int) ∈ TW := TW_of 855 (by decide +kernel) rfl
theorem tM_X9_161 : Cond.methodLink RX9 161 yX9_isThere ∈ TW := TW_of 856 (by decide +kernel) rfl
theorem tI_X9_isThere : Cond.instanceMethod yX9_isThere ∈ TW := TW_of 858 (by decide +kernel) rfl
theorem tK_X9_isThere : Cond.code yX9_isThere cX9_isThere 2 (some .boolean) ∈ TW := TW_of 859 (by decide +kernel) rfl
theorem tM_X9_167 : Cond.methodLink RX9 167 yX9_flockNow ∈ TW := TW_of 860 (by decide +kernel) rfl
theorem tI_X9_flockNow : Cond.instanceMethod yX9_flockNow ∈ TW := TW_of 862 (by decide +kernel) rfl
theorem tK_X9_flockNow : Cond.code yX9_flockNow cX9_flockNow 3 (some .int) ∈ TW := TW_of 863 (by decide +kernel) rfl
theorem tM_L_64 : Cond.methodLink RL 64 yX9_name ∈ TW := TW_of 864 (by decide +kernel) rfl
theorem tI_X9_name : Cond.instanceMethod yX9_name ∈ TW := TW_of 865 (by decide +kernel) rfl
theorem tL_X9_name : Cond.selects RX9 yX9_name yX9_name ∈ TW := TW_of 866 (by decide +kernel) rfl
theorem tK_X9_name : Cond.code yX9_name cX9_name 4 (some .int) ∈ TW := TW_of 867 (by decide +kernel) rfl
theorem tM_X9_170 : Cond.methodLink RX9 170 yX9_isFlock ∈ TW := TW_of 868 (by decide +kernel) rfl
theorem tI_X9_isFlock : Cond.instanceMethod yX9_isFlock ∈ TW := TW_of 870 (by decide +kernel) rfl
theorem tK_X9_isFlock : Cond.code yX9_isFlock cX9_isFlock 2 (some .boolean) ∈ TW := TW_of 871 (by decide +kernel) rfl
theorem tM_L_68 : Cond.methodLink RL 68 yX9_move ∈ TW := TW_of 872 (by decide +kernel) rfl
theorem tI_X9_move : Cond.instanceMethod yX9_move ∈ TW := TW_of 873 (by decide +kernel) rfl
theorem tL_X9_move : Cond.selects RX9 yX9_move yX9_move ∈ TW := TW_of 874 (by decide +kernel) rfl
theorem tK_X9_move : Cond.code yX9_move cX9_move 4 (some .int) ∈ TW := TW_of 875 (by decide +kernel) rfl
theorem tM_L_72 : Cond.methodLink RL 72 yX9_day ∈ TW := TW_of 876 (by decide +kernel) rfl
theorem tI_X9_day : Cond.instanceMethod yX9_day ∈ TW := TW_of 877 (by decide +kernel) rfl
theorem tL_X9_day : Cond.selects RX9 yX9_day yX9_day ∈ TW := TW_of 878 (by decide +kernel) rfl
theorem tK_X9_day : Cond.code yX9_day cX9_day 1 (some .int) ∈ TW := TW_of 879 (by decide +kernel) rfl
theorem tM_X9_173 : Cond.methodLink RX9 173 yX9_goDay ∈ TW := TW_of 880 (by decide +kernel) rfl
theorem tI_X9_goDay : Cond.instanceMethod yX9_goDay ∈ TW := TW_of 882 (by decide +kernel) rfl
theorem tK_X9_goDay : Cond.code yX9_goDay cX9_goDay 4 (some .int) ∈ TW := TW_of 883 (by decide +kernel) rfl
theorem tM_L_76 : Cond.methodLink RL 76 yX9_loss ∈ TW := TW_of 884 (by decide +kernel) rfl
theorem tI_X9_loss : Cond.instanceMethod yX9_loss ∈ TW := TW_of 885 (by decide +kernel) rfl
theorem tL_X9_loss : Cond.selects RX9 yX9_loss yX9_loss ∈ TW := TW_of 886 (by decide +kernel) rfl
theorem tK_X9_loss : Cond.code yX9_loss cX9_loss 2 (some .int) ∈ TW := TW_of 887 (by decide +kernel) rfl
theorem tM_X9_189 : Cond.methodLink RX9 189 yX9_lossNow ∈ TW := TW_of 888 (by decide +kernel) rfl
theorem tI_X9_lossNow : Cond.instanceMethod yX9_lossNow ∈ TW := TW_of 890 (by decide +kernel) rfl
theorem tK_X9_lossNow : Cond.code yX9_lossNow cX9_lossNow 4 (some .int) ∈ TW := TW_of 891 (by decide +kernel) rfl
theorem tM_X9_180 : Cond.methodLink RX9 180 yX9_eatenAll ∈ TW := TW_of 892 (by decide +kernel) rfl
theorem tI_X9_eatenAll : Cond.instanceMethod yX9_eatenAll ∈ TW := TW_of 894 (by decide +kernel) rfl
theorem tK_X9_eatenAll : Cond.code yX9_eatenAll cX9_eatenAll 3 (some .int) ∈ TW := TW_of 895 (by decide +kernel) rfl
theorem tM_X9_183 : Cond.methodLink RX9 183 yX9_save ∈ TW := TW_of 896 (by decide +kernel) rfl
theorem tI_X9_save : Cond.instanceMethod yX9_save ∈ TW := TW_of 898 (by decide +kernel) rfl
theorem tK_X9_save : Cond.code yX9_save cX9_save 2 none ∈ TW := TW_of 899 (by decide +kernel) rfl
theorem tM_X9_186 : Cond.methodLink RX9 186 yX9_back ∈ TW := TW_of 900 (by decide +kernel) rfl
theorem tI_X9_back : Cond.instanceMethod yX9_back ∈ TW := TW_of 902 (by decide +kernel) rfl
theorem tK_X9_back : Cond.code yX9_back cX9_back 2 none ∈ TW := TW_of 903 (by decide +kernel) rfl
theorem tM_L_80 : Cond.methodLink RL 80 yX9_falls ∈ TW := TW_of 904 (by decide +kernel) rfl
theorem tI_X9_falls : Cond.instanceMethod yX9_falls ∈ TW := TW_of 905 (by decide +kernel) rfl
theorem tL_X9_falls : Cond.selects RX9 yX9_falls yX9_falls ∈ TW := TW_of 906 (by decide +kernel) rfl
theorem tK_X9_falls : Cond.code yX9_falls cX9_falls 2 (some .int) ∈ TW := TW_of 907 (by decide +kernel) rfl
theorem tM_X9_195 : Cond.methodLink RX9 195 yX9_fallsNow ∈ TW := TW_of 908 (by decide +kernel) rfl
theorem tI_X9_fallsNow : Cond.instanceMethod yX9_fallsNow ∈ TW := TW_of 910 (by decide +kernel) rfl
theorem tK_X9_fallsNow : Cond.code yX9_fallsNow cX9_fallsNow 3 (some .int) ∈ TW := TW_of 911 (by decide +kernel) rfl
theorem tM_X9_192 : Cond.methodLink RX9 192 yX9_fallsIn ∈ TW := TW_of 912 (by decide +kernel) rfl
theorem tI_X9_fallsIn : Cond.instanceMethod yX9_fallsIn ∈ TW := TW_of 914 (by decide +kernel) rfl
theorem tK_X9_fallsIn : Cond.code yX9_fallsIn cX9_fallsIn 5 (some .int) ∈ TW := TW_of 915 (by decide +kernel) rfl
theorem tM_L_84 : Cond.methodLink RL 84 yX9_safe ∈ TW := TW_of 916 (by decide +kernel) rfl
theorem tI_X9_safe : Cond.instanceMethod yX9_safe ∈ TW := TW_of 917 (by decide +kernel) rfl
theorem tL_X9_safe : Cond.selects RX9 yX9_safe yX9_safe ∈ TW := TW_of 918 (by decide +kernel) rfl
theorem tK_X9_safe : Cond.code yX9_safe cX9_safe 3 (some .int) ∈ TW := TW_of 919 (by decide +kernel) rfl
theorem tM_X9_198 : Cond.methodLink RX9 198 yX9_safeNow ∈ TW := TW_of 920 (by decide +kernel) rfl
theorem tI_X9_safeNow : Cond.instanceMethod yX9_safeNow ∈ TW := TW_of 922 (by decide +kernel) rfl
theorem tK_X9_safeNow : Cond.code yX9_safeNow cX9_safeNow 5 (some .int) ∈ TW := TW_of 923 (by decide +kernel) rfl
theorem tM_L_88 : Cond.methodLink RL 88 yX9_graze ∈ TW := TW_of 924 (by decide +kernel) rfl
theorem tI_X9_graze : Cond.instanceMethod yX9_graze ∈ TW := TW_of 925 (by decide +kernel) rfl
theorem tL_X9_graze : Cond.selects RX9 yX9_graze yX9_graze ∈ TW := TW_of 926 (by decide +kernel) rfl
theorem tK_X9_graze : Cond.code yX9_graze cX9_graze 4 (some .int) ∈ TW := TW_of 927 (by decide +kernel) rfl
theorem tM_X9_210 : Cond.methodLink RX9 210 yX9_grazeNow ∈ TW := TW_of 928 (by decide +kernel) rfl
theorem tI_X9_grazeNow : Cond.instanceMethod yX9_grazeNow ∈ TW := TW_of 930 (by decide +kernel) rfl
theorem tK_X9_grazeNow : Cond.code yX9_grazeNow cX9_grazeNow 8 (some .int) ∈ TW := TW_of 931 (by decide +kernel) rfl
theorem tM_X9_201 : Cond.methodLink RX9 201 yX9_power ∈ TW := TW_of 932 (by decide +kernel) rfl
theorem tS_X9_power : Cond.static yX9_power ∈ TW := TW_of 933 (by decide +kernel) rfl
theorem tK_X9_power : Cond.code yX9_power cX9_power 3 (some .int) ∈ TW := TW_of 934 (by decide +kernel) rfl
theorem tM_X9_204 : Cond.methodLink RX9 204 yX9_grazesBy ∈ TW := TW_of 935 (by decide +kernel) rfl
theorem tI_X9_grazesBy : Cond.instanceMethod yX9_grazesBy ∈ TW := TW_of 937 (by decide +kernel) rfl
theorem tK_X9_grazesBy : Cond.code yX9_grazesBy cX9_grazesBy 7 (some .boolean) ∈ TW := TW_of 938 (by decide +kernel) rfl
theorem tM_L_92 : Cond.methodLink RL 92 yX9_nail ∈ TW := TW_of 939 (by decide +kernel) rfl
theorem tI_X9_nail : Cond.instanceMethod yX9_nail ∈ TW := TW_of 940 (by decide +kernel) rfl
theorem tL_X9_nail : Cond.selects RX9 yX9_nail yX9_nail ∈ TW := TW_of 941 (by decide +kernel) rfl
theorem tK_X9_nail : Cond.code yX9_nail cX9_nail 3 (some .int) ∈ TW := TW_of 942 (by decide +kernel) rfl
theorem tM_X9_217 : Cond.methodLink RX9 217 yX9_nailNow ∈ TW := TW_of 943 (by decide +kernel) rfl
theorem tI_X9_nailNow : Cond.instanceMethod yX9_nailNow ∈ TW := TW_of 945 (by decide +kernel) rfl
theorem tK_X9_nailNow : Cond.code yX9_nailNow cX9_nailNow 7 (some .int) ∈ TW := TW_of 946 (by decide +kernel) rfl
theorem tM_X9_214 : Cond.methodLink RX9 214 yX9_fastsOn ∈ TW := TW_of 947 (by decide +kernel) rfl
theorem tI_X9_fastsOn : Cond.instanceMethod yX9_fastsOn ∈ TW := TW_of 949 (by decide +kernel) rfl
theorem tK_X9_fastsOn : Cond.code yX9_fastsOn cX9_fastsOn 4 (some .int) ∈ TW := TW_of 950 (by decide +kernel) rfl
theorem tM_L_96 : Cond.methodLink RL 96 yX9_watch ∈ TW := TW_of 951 (by decide +kernel) rfl
theorem tI_X9_watch : Cond.instanceMethod yX9_watch ∈ TW := TW_of 952 (by decide +kernel) rfl
theorem tL_X9_watch : Cond.selects RX9 yX9_watch yX9_watch ∈ TW := TW_of 953 (by decide +kernel) rfl
theorem tK_X9_watch : Cond.code yX9_watch cX9_watch 3 (some .int) ∈ TW := TW_of 954 (by decide +kernel) rfl
theorem tM_L_101 : Cond.methodLink RL 101 yX9_seen ∈ TW := TW_of 955 (by decide +kernel) rfl
theorem tI_X9_seen : Cond.instanceMethod yX9_seen ∈ TW := TW_of 956 (by decide +kernel) rfl
theorem tL_X9_seen : Cond.selects RX9 yX9_seen yX9_seen ∈ TW := TW_of 957 (by decide +kernel) rfl
theorem tK_X9_seen : Cond.code yX9_seen cX9_seen 2 (some .int) ∈ TW := TW_of 958 (by decide +kernel) rfl
theorem tM_L_105 : Cond.methodLink RL 105 yX9_fits ∈ TW := TW_of 959 (by decide +kernel) rfl
theorem tI_X9_fits : Cond.instanceMethod yX9_fits ∈ TW := TW_of 960 (by decide +kernel) rfl
theorem tL_X9_fits : Cond.selects RX9 yX9_fits yX9_fits ∈ TW := TW_of 961 (by decide +kernel) rfl
theorem tK_X9_fits : Cond.code yX9_fits cX9_fits 2 (some .int) ∈ TW := TW_of 962 (by decide +kernel) rfl
theorem tM_X9_229 : Cond.methodLink RX9 229 yX9_fitsNow ∈ TW := TW_of 963 (by decide +kernel) rfl
theorem tI_X9_fitsNow : Cond.instanceMethod yX9_fitsNow ∈ TW := TW_of 965 (by decide +kernel) rfl
theorem tK_X9_fitsNow : Cond.code yX9_fitsNow cX9_fitsNow 5 (some .int) ∈ TW := TW_of 966 (by decide +kernel) rfl
theorem tM_X9_226 : Cond.methodLink RX9 226 yX9_isSeenSo ∈ TW := TW_of 967 (by decide +kernel) rfl
theorem tI_X9_isSeenSo : Cond.instanceMethod yX9_isSeenSo ∈ TW := TW_of 969 (by decide +kernel) rfl
theorem tK_X9_isSeenSo : Cond.code yX9_isSeenSo cX9_isSeenSo 6 (some .boolean) ∈ TW := TW_of 970 (by decide +kernel) rfl
theorem tM_L_109 : Cond.methodLink RL 109 yX9_years ∈ TW := TW_of 971 (by decide +kernel) rfl
theorem tI_X9_years : Cond.instanceMethod yX9_years ∈ TW := TW_of 972 (by decide +kernel) rfl
theorem tL_X9_years : Cond.selects RX9 yX9_years yX9_years ∈ TW := TW_of 973 (by decide +kernel) rfl
theorem tK_X9_years : Cond.code yX9_years cX9_years 4 (some .int) ∈ TW := TW_of 974 (by decide +kernel) rfl
theorem tM_X9_247 : Cond.methodLink RX9 247 yX9_yearsNow ∈ TW := TW_of 975 (by decide +kernel) rfl
theorem tI_X9_yearsNow : Cond.instanceMethod yX9_yearsNow ∈ TW := TW_of 977 (by decide +kernel) rfl
theorem tK_X9_yearsNow : Cond.code yX9_yearsNow cX9_yearsNow 6 (some .int) ∈ TW := TW_of 978 (by decide +kernel) rfl
theorem tM_X9_244 : Cond.methodLink RX9 244 yX9_draw ∈ TW := TW_of 979 (by decide +kernel) rfl
theorem tI_X9_draw : Cond.instanceMethod yX9_draw ∈ TW := TW_of 981 (by decide +kernel) rfl
theorem tK_X9_draw : Cond.code yX9_draw cX9_draw 2 (some .int) ∈ TW := TW_of 982 (by decide +kernel) rfl
theorem tV_X9_232 : Cond.constantLong RX9 232 (1103515245) ∈ TW := TW_of 983 (by decide +kernel) rfl
theorem tV_X9_238 : Cond.constantLong RX9 238 (12345) ∈ TW := TW_of 984 (by decide +kernel) rfl
theorem tV_X9_240 : Cond.constantLong RX9 240 (2147483647) ∈ TW := TW_of 985 (by decide +kernel) rfl
theorem tV_X9_242 : Cond.constantLong RX9 242 (65536) ∈ TW := TW_of 986 (by decide +kernel) rfl
theorem tM_L_113 : Cond.methodLink RL 113 yX9_image ∈ TW := TW_of 987 (by decide +kernel) rfl
theorem tI_X9_image : Cond.instanceMethod yX9_image ∈ TW := TW_of 988 (by decide +kernel) rfl
theorem tL_X9_image : Cond.selects RX9 yX9_image yX9_image ∈ TW := TW_of 989 (by decide +kernel) rfl
theorem tK_X9_image : Cond.code yX9_image cX9_image 2 (some .int) ∈ TW := TW_of 990 (by decide +kernel) rfl
theorem tM_L_117 : Cond.methodLink RL 117 yX9_restore ∈ TW := TW_of 991 (by decide +kernel) rfl
theorem tI_X9_restore : Cond.instanceMethod yX9_restore ∈ TW := TW_of 992 (by decide +kernel) rfl
theorem tL_X9_restore : Cond.selects RX9 yX9_restore yX9_restore ∈ TW := TW_of 993 (by decide +kernel) rfl
theorem tK_X9_restore : Cond.code yX9_restore cX9_restore 2 (some .int) ∈ TW := TW_of 994 (by decide +kernel) rfl
theorem tM_L_121 : Cond.methodLink RL 121 yX9_count ∈ TW := TW_of 995 (by decide +kernel) rfl
theorem tI_X9_count : Cond.instanceMethod yX9_count ∈ TW := TW_of 996 (by decide +kernel) rfl
theorem tL_X9_count : Cond.selects RX9 yX9_count yX9_count ∈ TW := TW_of 997 (by decide +kernel) rfl
theorem tK_X9_count : Cond.code yX9_count cX9_count 2 (some .int) ∈ TW := TW_of 998 (by decide +kernel) rfl
theorem tM_X9_274 : Cond.methodLink RX9 274 yX9_howMany ∈ TW := TW_of 999 (by decide +kernel) rfl
theorem tI_X9_howMany : Cond.instanceMethod yX9_howMany ∈ TW := TW_of 1001 (by decide +kernel) rfl
theorem tK_X9_howMany : Cond.code yX9_howMany cX9_howMany 2 (some .int) ∈ TW := TW_of 1002 (by decide +kernel) rfl
theorem tM_X9_271 : Cond.methodLink RX9 271 yX9_forgedMany ∈ TW := TW_of 1003 (by decide +kernel) rfl
theorem tI_X9_forgedMany : Cond.instanceMethod yX9_forgedMany ∈ TW := TW_of 1005 (by decide +kernel) rfl
theorem tK_X9_forgedMany : Cond.code yX9_forgedMany cX9_forgedMany 3 (some .int) ∈ TW := TW_of 1006 (by decide +kernel) rfl
theorem tM_L_126 : Cond.methodLink RL 126 yX9_digest ∈ TW := TW_of 1007 (by decide +kernel) rfl
theorem tI_X9_digest : Cond.instanceMethod yX9_digest ∈ TW := TW_of 1008 (by decide +kernel) rfl
theorem tL_X9_digest : Cond.selects RX9 yX9_digest yX9_digest ∈ TW := TW_of 1009 (by decide +kernel) rfl
theorem tK_X9_digest : Cond.code yX9_digest cX9_digest 3 (some .long) ∈ TW := TW_of 1010 (by decide +kernel) rfl
theorem tV_X9_282 : Cond.constantLong RX9 282 (743) ∈ TW := TW_of 1011 (by decide +kernel) rfl
theorem tM_X9_284 : Cond.methodLink RX9 284 yX9_mix ∈ TW := TW_of 1012 (by decide +kernel) rfl
theorem tI_X9_mix : Cond.instanceMethod yX9_mix ∈ TW := TW_of 1014 (by decide +kernel) rfl
theorem tK_X9_mix : Cond.code yX9_mix cX9_mix 3 none ∈ TW := TW_of 1015 (by decide +kernel) rfl
theorem tV_X9_277 : Cond.constantLong RX9 277 (31) ∈ TW := TW_of 1016 (by decide +kernel) rfl
theorem tM_X9_288 : Cond.methodLink RX9 288 yX9_mixFlock ∈ TW := TW_of 1017 (by decide +kernel) rfl
theorem tI_X9_mixFlock : Cond.instanceMethod yX9_mixFlock ∈ TW := TW_of 1019 (by decide +kernel) rfl
theorem tK_X9_mixFlock : Cond.code yX9_mixFlock cX9_mixFlock 3 none ∈ TW := TW_of 1020 (by decide +kernel) rfl
theorem tF_X3_51 : Cond.fieldLink RX3 51 "WolfCalendar$Kind" "lagsBehind" "Z" ∈ TW := TW_of 1022 (by decide +kernel) rfl
theorem tF_X3_44 : Cond.fieldLink RX3 44 "WolfCalendar$Kind" "keepsFridays" "Z" ∈ TW := TW_of 1023 (by decide +kernel) rfl
theorem tF_X3_48 : Cond.fieldLink RX3 48 "WolfCalendar$Kind" "keepsFeasts" "Z" ∈ TW := TW_of 1024 (by decide +kernel) rfl
theorem tF_X3_54 : Cond.fieldLink RX3 54 "WolfCalendar$Kind" "looksAhead" "Z" ∈ TW := TW_of 1025 (by decide +kernel) rfl
theorem tY_X0_0 : u_lay RX0 TX0 0 ∈ TW := TW_of 222 (by decide +kernel) (by decide +kernel)
theorem wT_X0 : ∀ w ∈ u_ws RX0 TX0 1, w ∈ TW := by
  intro w h
  obtain ⟨k, hk, rfl⟩ := List.mem_map.mp h
  have hk := List.mem_range.mp hk
  match k, hk with
  | 0, _ => exact tY_X0_0
  | k + 1, hk => omega
theorem tY_X1_0 : u_lay RX1 TX1 0 ∈ TW := TW_of 98 (by decide +kernel) (by decide +kernel)
theorem tY_X1_1 : u_lay RX1 TX1 1 ∈ TW := TW_of 100 (by decide +kernel) (by decide +kernel)
theorem wT_X1 : ∀ w ∈ u_ws RX1 TX1 2, w ∈ TW := by
  intro w h
  obtain ⟨k, hk, rfl⟩ := List.mem_map.mp h
  have hk := List.mem_range.mp hk
  match k, hk with
  | 0, _ => exact tY_X1_0
  | 1, _ => exact tY_X1_1
  | k + 2, hk => omega
theorem tY_X2_0 : u_lay RX2 TX2 0 ∈ TW := TW_of 174 (by decide +kernel) (by decide +kernel)
theorem tY_X2_1 : u_lay RX2 TX2 1 ∈ TW := TW_of 176 (by decide +kernel) (by decide +kernel)
theorem tY_X2_2 : u_lay RX2 TX2 2 ∈ TW := TW_of 178 (by decide +kernel) (by decide +kernel)
theorem wT_X2 : ∀ w ∈ u_ws RX2 TX2 3, w ∈ TW := by
  intro w h
  obtain ⟨k, hk, rfl⟩ := List.mem_map.mp h
  have hk := List.mem_range.mp hk
  match k, hk with
  | 0, _ => exact tY_X2_0
  | 1, _ => exact tY_X2_1
  | 2, _ => exact tY_X2_2
  | k + 3, hk => omega
theorem wT_X3 : ∀ w ∈ u_ws RX3 TX3 0, w ∈ TW := fun w h => by simp [u_ws] at h
theorem tY_X4_0 : u_lay RX4 TX4 0 ∈ TW := TW_of 153 (by decide +kernel) (by decide +kernel)
theorem tY_X4_1 : u_lay RX4 TX4 1 ∈ TW := TW_of 155 (by decide +kernel) (by decide +kernel)
theorem tY_X4_2 : u_lay RX4 TX4 2 ∈ TW := TW_of 157 (by decide +kernel) (by decide +kernel)
theorem wT_X4 : ∀ w ∈ u_ws RX4 TX4 3, w ∈ TW := by
  intro w h
  obtain ⟨k, hk, rfl⟩ := List.mem_map.mp h
  have hk := List.mem_range.mp hk
  match k, hk with
  | 0, _ => exact tY_X4_0
  | 1, _ => exact tY_X4_1
  | 2, _ => exact tY_X4_2
  | k + 3, hk => omega
theorem tY_X5_0 : u_lay RX5 TX5 0 ∈ TW := TW_of 83 (by decide +kernel) (by decide +kernel)
theorem tY_X5_1 : u_lay RX5 TX5 1 ∈ TW := TW_of 85 (by decide +kernel) (by decide +kernel)
theorem wT_X5 : ∀ w ∈ u_ws RX5 TX5 2, w ∈ TW := by
  intro w h
  obtain ⟨k, hk, rfl⟩ := List.mem_map.mp h
  have hk := List.mem_range.mp hk
  match k, hk with
  | 0, _ => exact tY_X5_0
  | 1, _ => exact tY_X5_1
  | k + 2, hk => omega
theorem tY_X6_0 : u_lay RX6 TX6 0 ∈ TW := TW_of 127 (by decide +kernel) (by decide +kernel)
theorem tY_X6_1 : u_lay RX6 TX6 1 ∈ TW := TW_of 129 (by decide +kernel) (by decide +kernel)
theorem tY_X6_2 : u_lay RX6 TX6 2 ∈ TW := TW_of 131 (by decide +kernel) (by decide +kernel)
theorem tY_X6_3 : u_lay RX6 TX6 3 ∈ TW := TW_of 133 (by decide +kernel) (by decide +kernel)
theorem wT_X6 : ∀ w ∈ u_ws RX6 TX6 4, w ∈ TW := by
  intro w h
  obtain ⟨k, hk, rfl⟩ := List.mem_map.mp h
  have hk := List.mem_range.mp hk
  match k, hk with
  | 0, _ => exact tY_X6_0
  | 1, _ => exact tY_X6_1
  | 2, _ => exact tY_X6_2
  | 3, _ => exact tY_X6_3
  | k + 4, hk => omega
theorem tY_X7_0 : u_lay RX7 TX7 0 ∈ TW := TW_of 197 (by decide +kernel) (by decide +kernel)
theorem tY_X7_1 : u_lay RX7 TX7 1 ∈ TW := TW_of 199 (by decide +kernel) (by decide +kernel)
theorem tY_X7_2 : u_lay RX7 TX7 2 ∈ TW := TW_of 201 (by decide +kernel) (by decide +kernel)
theorem tY_X7_3 : u_lay RX7 TX7 3 ∈ TW := TW_of 203 (by decide +kernel) (by decide +kernel)
theorem tY_X7_4 : u_lay RX7 TX7 4 ∈ TW := TW_of 205 (by decide +kernel) (by decide +kernel)
theorem tY_X7_5 : u_lay RX7 TX7 5 ∈ TW := TW_of 207 (by decide +kernel) (by decide +kernel)
theorem tY_X7_6 : u_lay RX7 TX7 6 ∈ TW := TW_of 209 (by decide +kernel) (by decide +kernel)
theorem tY_X7_7 : u_lay RX7 TX7 7 ∈ TW := TW_of 211 (by decide +kernel) (by decide +kernel)
theorem wT_X7 : ∀ w ∈ u_ws RX7 TX7 8, w ∈ TW := by
  intro w h
  obtain ⟨k, hk, rfl⟩ := List.mem_map.mp h
  have hk := List.mem_range.mp hk
  match k, hk with
  | 0, _ => exact tY_X7_0
  | 1, _ => exact tY_X7_1
  | 2, _ => exact tY_X7_2
  | 3, _ => exact tY_X7_3
  | 4, _ => exact tY_X7_4
  | 5, _ => exact tY_X7_5
  | 6, _ => exact tY_X7_6
  | 7, _ => exact tY_X7_7
  | k + 8, hk => omega
theorem tY_X8_0 : u_lay RX8 TX8 0 ∈ TW := TW_of 234 (by decide +kernel) (by decide +kernel)
theorem tY_X8_1 : u_lay RX8 TX8 1 ∈ TW := TW_of 236 (by decide +kernel) (by decide +kernel)
theorem tY_X8_2 : u_lay RX8 TX8 2 ∈ TW := TW_of 238 (by decide +kernel) (by decide +kernel)
theorem tY_X8_3 : u_lay RX8 TX8 3 ∈ TW := TW_of 240 (by decide +kernel) (by decide +kernel)
theorem tY_X8_4 : u_lay RX8 TX8 4 ∈ TW := TW_of 242 (by decide +kernel) (by decide +kernel)
theorem tY_X8_5 : u_lay RX8 TX8 5 ∈ TW := TW_of 244 (by decide +kernel) (by decide +kernel)
theorem tY_X8_6 : u_lay RX8 TX8 6 ∈ TW := TW_of 246 (by decide +kernel) (by decide +kernel)
theorem tY_X8_7 : u_lay RX8 TX8 7 ∈ TW := TW_of 248 (by decide +kernel) (by decide +kernel)
theorem tY_X8_8 : u_lay RX8 TX8 8 ∈ TW := TW_of 250 (by decide +kernel) (by decide +kernel)
theorem wT_X8 : ∀ w ∈ u_ws RX8 TX8 9, w ∈ TW := by
  intro w h
  obtain ⟨k, hk, rfl⟩ := List.mem_map.mp h
  have hk := List.mem_range.mp hk
  match k, hk with
  | 0, _ => exact tY_X8_0
  | 1, _ => exact tY_X8_1
  | 2, _ => exact tY_X8_2
  | 3, _ => exact tY_X8_3
  | 4, _ => exact tY_X8_4
  | 5, _ => exact tY_X8_5
  | 6, _ => exact tY_X8_6
  | 7, _ => exact tY_X8_7
  | 8, _ => exact tY_X8_8
  | k + 9, hk => omega
theorem tY_X9_0 : u_lay RX9 TX9 0 ∈ TW := TW_of 657 (by decide +kernel) (by decide +kernel)
theorem tY_X9_1 : u_lay RX9 TX9 1 ∈ TW := TW_of 659 (by decide +kernel) (by decide +kernel)
theorem tY_X9_2 : u_lay RX9 TX9 2 ∈ TW := TW_of 661 (by decide +kernel) (by decide +kernel)
theorem tY_X9_3 : u_lay RX9 TX9 3 ∈ TW := TW_of 663 (by decide +kernel) (by decide +kernel)
theorem tY_X9_4 : u_lay RX9 TX9 4 ∈ TW := TW_of 665 (by decide +kernel) (by decide +kernel)
theorem tY_X9_5 : u_lay RX9 TX9 5 ∈ TW := TW_of 667 (by decide +kernel) (by decide +kernel)
theorem tY_X9_6 : u_lay RX9 TX9 6 ∈ TW := TW_of 669 (by decide +kernel) (by decide +kernel)
theorem tY_X9_7 : u_lay RX9 TX9 7 ∈ TW := TW_of 671 (by decide +kernel) (by decide +kernel)
theorem tY_X9_8 : u_lay RX9 TX9 8 ∈ TW := TW_of 673 (by decide +kernel) (by decide +kernel)
theorem tY_X9_9 : u_lay RX9 TX9 9 ∈ TW := TW_of 675 (by decide +kernel) (by decide +kernel)
theorem tY_X9_10 : u_lay RX9 TX9 10 ∈ TW := TW_of 677 (by decide +kernel) (by decide +kernel)
theorem tY_X9_11 : u_lay RX9 TX9 11 ∈ TW := TW_of 679 (by decide +kernel) (by decide +kernel)
theorem tY_X9_12 : u_lay RX9 TX9 12 ∈ TW := TW_of 681 (by decide +kernel) (by decide +kernel)
theorem tY_X9_13 : u_lay RX9 TX9 13 ∈ TW := TW_of 683 (by decide +kernel) (by decide +kernel)
theorem tY_X9_14 : u_lay RX9 TX9 14 ∈ TW := TW_of 685 (by decide +kernel) (by decide +kernel)
theorem tY_X9_15 : u_lay RX9 TX9 15 ∈ TW := TW_of 687 (by decide +kernel) (by decide +kernel)
theorem tY_X9_16 : u_lay RX9 TX9 16 ∈ TW := TW_of 689 (by decide +kernel) (by decide +kernel)
theorem tY_X9_17 : u_lay RX9 TX9 17 ∈ TW := TW_of 691 (by decide +kernel) (by decide +kernel)
theorem tY_X9_18 : u_lay RX9 TX9 18 ∈ TW := TW_of 693 (by decide +kernel) (by decide +kernel)
theorem tY_X9_19 : u_lay RX9 TX9 19 ∈ TW := TW_of 695 (by decide +kernel) (by decide +kernel)
theorem tY_X9_20 : u_lay RX9 TX9 20 ∈ TW := TW_of 697 (by decide +kernel) (by decide +kernel)
theorem tY_X9_21 : u_lay RX9 TX9 21 ∈ TW := TW_of 699 (by decide +kernel) (by decide +kernel)
theorem tY_X9_22 : u_lay RX9 TX9 22 ∈ TW := TW_of 701 (by decide +kernel) (by decide +kernel)
theorem tY_X9_23 : u_lay RX9 TX9 23 ∈ TW := TW_of 703 (by decide +kernel) (by decide +kernel)
theorem tY_X9_24 : u_lay RX9 TX9 24 ∈ TW := TW_of 705 (by decide +kernel) (by decide +kernel)
theorem tY_X9_25 : u_lay RX9 TX9 25 ∈ TW := TW_of 707 (by decide +kernel) (by decide +kernel)
theorem tY_X9_26 : u_lay RX9 TX9 26 ∈ TW := TW_of 709 (by decide +kernel) (by decide +kernel)
theorem tY_X9_27 : u_lay RX9 TX9 27 ∈ TW := TW_of 711 (by decide +kernel) (by decide +kernel)
theorem tY_X9_28 : u_lay RX9 TX9 28 ∈ TW := TW_of 713 (by decide +kernel) (by decide +kernel)
theorem tY_X9_29 : u_lay RX9 TX9 29 ∈ TW := TW_of 715 (by decide +kernel) (by decide +kernel)
theorem tY_X9_30 : u_lay RX9 TX9 30 ∈ TW := TW_of 717 (by decide +kernel) (by decide +kernel)
theorem tY_X9_31 : u_lay RX9 TX9 31 ∈ TW := TW_of 719 (by decide +kernel) (by decide +kernel)
theorem tY_X9_32 : u_lay RX9 TX9 32 ∈ TW := TW_of 721 (by decide +kernel) (by decide +kernel)
theorem tY_X9_33 : u_lay RX9 TX9 33 ∈ TW := TW_of 723 (by decide +kernel) (by decide +kernel)
theorem tY_X9_34 : u_lay RX9 TX9 34 ∈ TW := TW_of 725 (by decide +kernel) (by decide +kernel)
theorem tY_X9_35 : u_lay RX9 TX9 35 ∈ TW := TW_of 727 (by decide +kernel) (by decide +kernel)
theorem tY_X9_36 : u_lay RX9 TX9 36 ∈ TW := TW_of 729 (by decide +kernel) (by decide +kernel)
theorem tY_X9_37 : u_lay RX9 TX9 37 ∈ TW := TW_of 731 (by decide +kernel) (by decide +kernel)
theorem tY_X9_38 : u_lay RX9 TX9 38 ∈ TW := TW_of 733 (by decide +kernel) (by decide +kernel)
theorem tY_X9_39 : u_lay RX9 TX9 39 ∈ TW := TW_of 735 (by decide +kernel) (by decide +kernel)
theorem tY_X9_40 : u_lay RX9 TX9 40 ∈ TW := TW_of 737 (by decide +kernel) (by decide +kernel)
theorem tY_X9_41 : u_lay RX9 TX9 41 ∈ TW := TW_of 739 (by decide +kernel) (by decide +kernel)
theorem tY_X9_42 : u_lay RX9 TX9 42 ∈ TW := TW_of 741 (by decide +kernel) (by decide +kernel)
theorem wT_X9 : ∀ w ∈ u_ws RX9 TX9 43, w ∈ TW := by
  intro w h
  obtain ⟨k, hk, rfl⟩ := List.mem_map.mp h
  have hk := List.mem_range.mp hk
  match k, hk with
  | 0, _ => exact tY_X9_0
  | 1, _ => exact tY_X9_1
  | 2, _ => exact tY_X9_2
  | 3, _ => exact tY_X9_3
  | 4, _ => exact tY_X9_4
  | 5, _ => exact tY_X9_5
  | 6, _ => exact tY_X9_6
  | 7, _ => exact tY_X9_7
  | 8, _ => exact tY_X9_8
  | 9, _ => exact tY_X9_9
  | 10, _ => exact tY_X9_10
  | 11, _ => exact tY_X9_11
  | 12, _ => exact tY_X9_12
  | 13, _ => exact tY_X9_13
  | 14, _ => exact tY_X9_14
  | 15, _ => exact tY_X9_15
  | 16, _ => exact tY_X9_16
  | 17, _ => exact tY_X9_17
  | 18, _ => exact tY_X9_18
  | 19, _ => exact tY_X9_19
  | 20, _ => exact tY_X9_20
  | 21, _ => exact tY_X9_21
  | 22, _ => exact tY_X9_22
  | 23, _ => exact tY_X9_23
  | 24, _ => exact tY_X9_24
  | 25, _ => exact tY_X9_25
  | 26, _ => exact tY_X9_26
  | 27, _ => exact tY_X9_27
  | 28, _ => exact tY_X9_28
  | 29, _ => exact tY_X9_29
  | 30, _ => exact tY_X9_30
  | 31, _ => exact tY_X9_31
  | 32, _ => exact tY_X9_32
  | 33, _ => exact tY_X9_33
  | 34, _ => exact tY_X9_34
  | 35, _ => exact tY_X9_35
  | 36, _ => exact tY_X9_36
  | 37, _ => exact tY_X9_37
  | 38, _ => exact tY_X9_38
  | 39, _ => exact tY_X9_39
  | 40, _ => exact tY_X9_40
  | 41, _ => exact tY_X9_41
  | 42, _ => exact tY_X9_42
  | k + 43, hk => omega
def NLF : List (String × Nat × String × String × String × String) := [(RX8, 271, "WolfCalendar$Page", "letters", "[C", "WolfCalendar"), (RX8, 47, "WolfCalendar$Page", "length", "I", "WolfCalendar"), (RX1, 15, "WolfCalendar$Page", "length", "I", "WolfCalendar"), (RX8, 69, "WolfCalendar$Feasts", "number", "I", "WolfCalendar"), (RX8, 222, "WolfCalendar$Sight", "pack", "I", "WolfCalendar"), (RX8, 298, "WolfCalendar$Sight", "from", "I", "WolfCalendar"), (RX8, 205, "WolfCalendar$Sight", "days", "I", "WolfCalendar"), (RX7, 40, "WolfCalendar$Pack", "kind", "LWolfCalendar$Kind;", "WolfCalendar"), (RX8, 110, "WolfCalendar$Pack", "kind", "LWolfCalendar$Kind;", "WolfCalendar"), (RX7, 44, "WolfCalendar$Pack", "cell", "I", "WolfCalendar"), (RX8, 117, "WolfCalendar$Pack", "cell", "I", "WolfCalendar"), (RX7, 47, "WolfCalendar$Pack", "lag", "I", "WolfCalendar"), (RX8, 120, "WolfCalendar$Pack", "lag", "I", "WolfCalendar"), (RX8, 160, "WolfCalendar$Flock", "called", "I", "WolfCalendar"), (RX7, 118, "WolfCalendar$Flock", "called", "I", "WolfCalendar"), (RX8, 163, "WolfCalendar$Flock", "cell", "I", "WolfCalendar"), (RX7, 117, "WolfCalendar$Flock", "cell", "I", "WolfCalendar"), (RX7, 93, "WolfCalendar$Flock", "eater", "I", "WolfCalendar"), (RX8, 167, "WolfCalendar$Flock", "eater", "I", "WolfCalendar"), (RX8, 93, "WolfCalendar$World", "packs", "[LWolfCalendar$Pack;", "WolfCalendar"), (RX8, 148, "WolfCalendar$World", "flocks", "[LWolfCalendar$Flock;", "WolfCalendar"), (RX8, 83, "WolfCalendar$World", "forged", "[I", "WolfCalendar"), (RX8, 201, "WolfCalendar$World", "sight", "LWolfCalendar$Sight;", "WolfCalendar"), (RX8, 90, "WolfCalendar$World", "packCount", "I", "WolfCalendar"), (RX8, 145, "WolfCalendar$World", "flockCount", "I", "WolfCalendar"), (RX8, 210, "WolfCalendar$World", "today", "I", "WolfCalendar"), (RX8, 278, "WolfCalendar$World", "eaten", "I", "WolfCalendar"), (RX8, 231, "WolfCalendar$Draws", "seed", "J", "WolfCalendar"), (RX8, 114, "WolfCalendar$Kind", "number", "I", "WolfCalendar")]
def NLM : List (String × Nat × MethodName × String) := [(RX8, 11, yX5_init, "WolfCalendar"), (RX8, 18, yX1_init, "WolfCalendar"), (RX7, 29, yX6_init, "WolfCalendar"), (RX7, 34, yX4_init, "WolfCalendar"), (RX7, 35, yX2_init, "WolfCalendar"), (RX8, 38, yX0_init, "WolfCalendar"), (RX7, 110, yX8_nameOfDay, "WolfCalendar")]
def NW (U : State) : Prop := (∀ q ∈ NLF, va_Nw (.fieldLinkNest q.1 q.2.1 q.2.2.1 q.2.2.2.1 q.2.2.2.2.1 q.2.2.2.2.2) U) ∧ (∀ q ∈ NLM, va_Nw (.methodLinkNest q.1 q.2.1 q.2.2.1 q.2.2.2) U)
theorem NW.warm {s U : State} (hW : s.WarmedH U.vm) (h : NW s) : NW U := ⟨fun q hq => va_Nw.warmF hW (h.1 q hq), fun q hq => va_Nw.warmM hW (h.2 q hq)⟩
theorem NW.same {u U : State} (e : u.vm = U.vm) (h : NW u) : NW U := ⟨fun q hq => va_Nw.same rfl e (h.1 q hq), fun q hq => va_Nw.same rfl e (h.2 q hq)⟩
theorem nF_X8_271 {U : State} (h : NW U) : va_Nw (.fieldLinkNest RX8 271 "WolfCalendar$Page" "letters" "[C" "WolfCalendar") U := h.1 (RX8, 271, "WolfCalendar$Page", "letters", "[C", "WolfCalendar") (List.mem_of_getElem? (i := 0) rfl)
theorem nF_X8_47 {U : State} (h : NW U) : va_Nw (.fieldLinkNest RX8 47 "WolfCalendar$Page" "length" "I" "WolfCalendar") U := h.1 (RX8, 47, "WolfCalendar$Page", "length", "I", "WolfCalendar") (List.mem_of_getElem? (i := 1) rfl)
theorem nF_X1_15 {U : State} (h : NW U) : va_Nw (.fieldLinkNest RX1 15 "WolfCalendar$Page" "length" "I" "WolfCalendar") U := h.1 (RX1, 15, "WolfCalendar$Page", "length", "I", "WolfCalendar") (List.mem_of_getElem? (i := 2) rfl)
theorem nF_X8_69 {U : State} (h : NW U) : va_Nw (.fieldLinkNest RX8 69 "WolfCalendar$Feasts" "number" "I" "WolfCalendar") U := h.1 (RX8, 69, "WolfCalendar$Feasts", "number", "I", "WolfCalendar") (List.mem_of_getElem? (i := 3) rfl)
theorem nF_X8_222 {U : State} (h : NW U) : va_Nw (.fieldLinkNest RX8 222 "WolfCalendar$Sight" "pack" "I" "WolfCalendar") U := h.1 (RX8, 222, "WolfCalendar$Sight", "pack", "I", "WolfCalendar") (List.mem_of_getElem? (i := 4) rfl)
theorem nF_X8_298 {U : State} (h : NW U) : va_Nw (.fieldLinkNest RX8 298 "WolfCalendar$Sight" "from" "I" "WolfCalendar") U := h.1 (RX8, 298, "WolfCalendar$Sight", "from", "I", "WolfCalendar") (List.mem_of_getElem? (i := 5) rfl)
theorem nF_X8_205 {U : State} (h : NW U) : va_Nw (.fieldLinkNest RX8 205 "WolfCalendar$Sight" "days" "I" "WolfCalendar") U := h.1 (RX8, 205, "WolfCalendar$Sight", "days", "I", "WolfCalendar") (List.mem_of_getElem? (i := 6) rfl)
theorem nF_X7_40 {U : State} (h : NW U) : va_Nw (.fieldLinkNest RX7 40 "WolfCalendar$Pack" "kind" "LWolfCalendar$Kind;" "WolfCalendar") U := h.1 (RX7, 40, "WolfCalendar$Pack", "kind", "LWolfCalendar$Kind;", "WolfCalendar") (List.mem_of_getElem? (i := 7) rfl)
theorem nF_X8_110 {U : State} (h : NW U) : va_Nw (.fieldLinkNest RX8 110 "WolfCalendar$Pack" "kind" "LWolfCalendar$Kind;" "WolfCalendar") U := h.1 (RX8, 110, "WolfCalendar$Pack", "kind", "LWolfCalendar$Kind;", "WolfCalendar") (List.mem_of_getElem? (i := 8) rfl)
theorem nF_X7_44 {U : State} (h : NW U) : va_Nw (.fieldLinkNest RX7 44 "WolfCalendar$Pack" "cell" "I" "WolfCalendar") U := h.1 (RX7, 44, "WolfCalendar$Pack", "cell", "I", "WolfCalendar") (List.mem_of_getElem? (i := 9) rfl)
theorem nF_X8_117 {U : State} (h : NW U) : va_Nw (.fieldLinkNest RX8 117 "WolfCalendar$Pack" "cell" "I" "WolfCalendar") U := h.1 (RX8, 117, "WolfCalendar$Pack", "cell", "I", "WolfCalendar") (List.mem_of_getElem? (i := 10) rfl)
theorem nF_X7_47 {U : State} (h : NW U) : va_Nw (.fieldLinkNest RX7 47 "WolfCalendar$Pack" "lag" "I" "WolfCalendar") U := h.1 (RX7, 47, "WolfCalendar$Pack", "lag", "I", "WolfCalendar") (List.mem_of_getElem? (i := 11) rfl)
theorem nF_X8_120 {U : State} (h : NW U) : va_Nw (.fieldLinkNest RX8 120 "WolfCalendar$Pack" "lag" "I" "WolfCalendar") U := h.1 (RX8, 120, "WolfCalendar$Pack", "lag", "I", "WolfCalendar") (List.mem_of_getElem? (i := 12) rfl)
theorem nF_X8_160 {U : State} (h : NW U) : va_Nw (.fieldLinkNest RX8 160 "WolfCalendar$Flock" "called" "I" "WolfCalendar") U := h.1 (RX8, 160, "WolfCalendar$Flock", "called", "I", "WolfCalendar") (List.mem_of_getElem? (i := 13) rfl)
theorem nF_X7_118 {U : State} (h : NW U) : va_Nw (.fieldLinkNest RX7 118 "WolfCalendar$Flock" "called" "I" "WolfCalendar") U := h.1 (RX7, 118, "WolfCalendar$Flock", "called", "I", "WolfCalendar") (List.mem_of_getElem? (i := 14) rfl)
theorem nF_X8_163 {U : State} (h : NW U) : va_Nw (.fieldLinkNest RX8 163 "WolfCalendar$Flock" "cell" "I" "WolfCalendar") U := h.1 (RX8, 163, "WolfCalendar$Flock", "cell", "I", "WolfCalendar") (List.mem_of_getElem? (i := 15) rfl)
theorem nF_X7_117 {U : State} (h : NW U) : va_Nw (.fieldLinkNest RX7 117 "WolfCalendar$Flock" "cell" "I" "WolfCalendar") U := h.1 (RX7, 117, "WolfCalendar$Flock", "cell", "I", "WolfCalendar") (List.mem_of_getElem? (i := 16) rfl)
theorem nF_X7_93 {U : State} (h : NW U) : va_Nw (.fieldLinkNest RX7 93 "WolfCalendar$Flock" "eater" "I" "WolfCalendar") U := h.1 (RX7, 93, "WolfCalendar$Flock", "eater", "I", "WolfCalendar") (List.mem_of_getElem? (i := 17) rfl)
theorem nF_X8_167 {U : State} (h : NW U) : va_Nw (.fieldLinkNest RX8 167 "WolfCalendar$Flock" "eater" "I" "WolfCalendar") U := h.1 (RX8, 167, "WolfCalendar$Flock", "eater", "I", "WolfCalendar") (List.mem_of_getElem? (i := 18) rfl)
theorem nF_X8_93 {U : State} (h : NW U) : va_Nw (.fieldLinkNest RX8 93 "WolfCalendar$World" "packs" "[LWolfCalendar$Pack;" "WolfCalendar") U := h.1 (RX8, 93, "WolfCalendar$World", "packs", "[LWolfCalendar$Pack;", "WolfCalendar") (List.mem_of_getElem? (i := 19) rfl)
theorem nF_X8_148 {U : State} (h : NW U) : va_Nw (.fieldLinkNest RX8 148 "WolfCalendar$World" "flocks" "[LWolfCalendar$Flock;" "WolfCalendar") U := h.1 (RX8, 148, "WolfCalendar$World", "flocks", "[LWolfCalendar$Flock;", "WolfCalendar") (List.mem_of_getElem? (i := 20) rfl)
theorem nF_X8_83 {U : State} (h : NW U) : va_Nw (.fieldLinkNest RX8 83 "WolfCalendar$World" "forged" "[I" "WolfCalendar") U := h.1 (RX8, 83, "WolfCalendar$World", "forged", "[I", "WolfCalendar") (List.mem_of_getElem? (i := 21) rfl)
theorem nF_X8_201 {U : State} (h : NW U) : va_Nw (.fieldLinkNest RX8 201 "WolfCalendar$World" "sight" "LWolfCalendar$Sight;" "WolfCalendar") U := h.1 (RX8, 201, "WolfCalendar$World", "sight", "LWolfCalendar$Sight;", "WolfCalendar") (List.mem_of_getElem? (i := 22) rfl)
theorem nF_X8_90 {U : State} (h : NW U) : va_Nw (.fieldLinkNest RX8 90 "WolfCalendar$World" "packCount" "I" "WolfCalendar") U := h.1 (RX8, 90, "WolfCalendar$World", "packCount", "I", "WolfCalendar") (List.mem_of_getElem? (i := 23) rfl)
theorem nF_X8_145 {U : State} (h : NW U) : va_Nw (.fieldLinkNest RX8 145 "WolfCalendar$World" "flockCount" "I" "WolfCalendar") U := h.1 (RX8, 145, "WolfCalendar$World", "flockCount", "I", "WolfCalendar") (List.mem_of_getElem? (i := 24) rfl)
theorem nF_X8_210 {U : State} (h : NW U) : va_Nw (.fieldLinkNest RX8 210 "WolfCalendar$World" "today" "I" "WolfCalendar") U := h.1 (RX8, 210, "WolfCalendar$World", "today", "I", "WolfCalendar") (List.mem_of_getElem? (i := 25) rfl)
theorem nF_X8_278 {U : State} (h : NW U) : va_Nw (.fieldLinkNest RX8 278 "WolfCalendar$World" "eaten" "I" "WolfCalendar") U := h.1 (RX8, 278, "WolfCalendar$World", "eaten", "I", "WolfCalendar") (List.mem_of_getElem? (i := 26) rfl)
theorem nF_X8_231 {U : State} (h : NW U) : va_Nw (.fieldLinkNest RX8 231 "WolfCalendar$Draws" "seed" "J" "WolfCalendar") U := h.1 (RX8, 231, "WolfCalendar$Draws", "seed", "J", "WolfCalendar") (List.mem_of_getElem? (i := 27) rfl)
theorem nF_X8_114 {U : State} (h : NW U) : va_Nw (.fieldLinkNest RX8 114 "WolfCalendar$Kind" "number" "I" "WolfCalendar") U := h.1 (RX8, 114, "WolfCalendar$Kind", "number", "I", "WolfCalendar") (List.mem_of_getElem? (i := 28) rfl)
theorem nM_X8_11 {U : State} (h : NW U) : va_Nw (.methodLinkNest RX8 11 yX5_init "WolfCalendar") U := h.2 (RX8, 11, yX5_init, "WolfCalendar") (List.mem_of_getElem? (i := 0) rfl)
theorem nM_X8_18 {U : State} (h : NW U) : va_Nw (.methodLinkNest RX8 18 yX1_init "WolfCalendar") U := h.2 (RX8, 18, yX1_init, "WolfCalendar") (List.mem_of_getElem? (i := 1) rfl)
theorem nM_X7_29 {U : State} (h : NW U) : va_Nw (.methodLinkNest RX7 29 yX6_init "WolfCalendar") U := h.2 (RX7, 29, yX6_init, "WolfCalendar") (List.mem_of_getElem? (i := 2) rfl)
theorem nM_X7_34 {U : State} (h : NW U) : va_Nw (.methodLinkNest RX7 34 yX4_init "WolfCalendar") U := h.2 (RX7, 34, yX4_init, "WolfCalendar") (List.mem_of_getElem? (i := 3) rfl)
theorem nM_X7_35 {U : State} (h : NW U) : va_Nw (.methodLinkNest RX7 35 yX2_init "WolfCalendar") U := h.2 (RX7, 35, yX2_init, "WolfCalendar") (List.mem_of_getElem? (i := 4) rfl)
theorem nM_X8_38 {U : State} (h : NW U) : va_Nw (.methodLinkNest RX8 38 yX0_init "WolfCalendar") U := h.2 (RX8, 38, yX0_init, "WolfCalendar") (List.mem_of_getElem? (i := 5) rfl)
theorem nM_X7_110 {U : State} (h : NW U) : va_Nw (.methodLinkNest RX7 110 yX8_nameOfDay "WolfCalendar") U := h.2 (RX7, 110, yX8_nameOfDay, "WolfCalendar") (List.mem_of_getElem? (i := 6) rfl)
theorem NW_start {s : State} {args : Array Value} (h : ∀ w ∈ lw_tbl, w.before args s = true) : NW s := by
  refine ⟨fun q hq => ?_, fun q hq => ?_⟩
  · have hq2 : ∃ i : Nat, lw_tbl[i]? = some (.fieldLinkNest q.1 q.2.1 q.2.2.1 q.2.2.2.1 q.2.2.2.2.1 q.2.2.2.2.2) := by
      have key : (NLF.zip [79, 81, 82, 97, 121, 123, 125, 145, 146, 148, 149, 151, 152, 166, 167, 169, 170, 172, 173, 182, 184, 186, 188, 190, 192, 194, 196, 221, 1021]).all (fun r => decide (lw_tbl[r.2]? = some (.fieldLinkNest r.1.1 r.1.2.1 r.1.2.2.1 r.1.2.2.2.1 r.1.2.2.2.2.1 r.1.2.2.2.2.2))) = true := by decide +kernel
      have hm : q ∈ (NLF.zip [79, 81, 82, 97, 121, 123, 125, 145, 146, 148, 149, 151, 152, 166, 167, 169, 170, 172, 173, 182, 184, 186, 188, 190, 192, 194, 196, 221, 1021]).map Prod.fst := by
        have e : (NLF.zip [79, 81, 82, 97, 121, 123, 125, 145, 146, 148, 149, 151, 152, 166, 167, 169, 170, 172, 173, 182, 184, 186, 188, 190, 192, 194, 196, 221, 1021]).map Prod.fst = NLF := by decide +kernel
        rw [e]; exact hq
      obtain ⟨r, hr, rfl⟩ := List.mem_map.mp hm
      exact ⟨r.2, of_decide_eq_true (List.all_eq_true.mp key r hr)⟩
    obtain ⟨i, hi⟩ := hq2
    exact va_Nw.of rfl (h _ (List.mem_of_getElem? hi))
  · have hq2 : ∃ i : Nat, lw_tbl[i]? = some (.methodLinkNest q.1 q.2.1 q.2.2.1 q.2.2.2) := by
      have key : (NLM.zip [74, 91, 116, 138, 161, 216, 367]).all (fun r => decide (lw_tbl[r.2]? = some (.methodLinkNest r.1.1 r.1.2.1 r.1.2.2.1 r.1.2.2.2))) = true := by decide +kernel
      have hm : q ∈ (NLM.zip [74, 91, 116, 138, 161, 216, 367]).map Prod.fst := by
        have e : (NLM.zip [74, 91, 116, 138, 161, 216, 367]).map Prod.fst = NLM := by decide +kernel
        rw [e]; exact hq
      obtain ⟨r, hr, rfl⟩ := List.mem_map.mp hm
      exact ⟨r.2, of_decide_eq_true (List.all_eq_true.mp key r hr)⟩
    obtain ⟨i, hi⟩ := hq2
    exact va_Nw.of rfl (h _ (List.mem_of_getElem? hi))
end
section
/-! whole numbers in registers -/
def iN (z : Int) : Int32 := Int32.ofInt z
def lL (z : Int) : Int64 := Int64.ofInt z
def bI (b : Bool) : Int32 := if b then 1 else 0
def inR (a : Int) : Prop := -2147483648 ≤ a ∧ a < 2147483648
def inL (a : Int) : Prop := -9223372036854775808 ≤ a ∧ a < 9223372036854775808
theorem iN_add (a b : Int) : iN a + iN b = iN (a + b) := (Int32.ofInt_add a b).symm
theorem iN_sub (a b : Int) : iN a - iN b = iN (a - b) := (Int32.ofInt_sub a b).symm
theorem iN_mul (a b : Int) : iN a * iN b = iN (a * b) := (Int32.ofInt_mul a b).symm
theorem iN_toInt {a : Int} (h : inR a) : (iN a).toInt = a := Int32.toInt_ofInt_of_le (by unfold inR at h; omega) (by unfold inR at h; omega)
theorem iN_asI (x : Int32) : iN x.toInt = x := Int32.ofInt_toInt x
theorem inR_of (x : Int32) : inR x.toInt := ⟨by have := x.le_toInt; omega, by have := x.toInt_lt; omega⟩
theorem iN_ex (x : Int32) : ∃ z : Int, x = iN z ∧ inR z := ⟨x.toInt, (iN_asI x).symm, inR_of x⟩
theorem iN_inj {a b : Int} (ha : inR a) (hb : inR b) : iN a = iN b ↔ a = b := ⟨fun h => by rw [← iN_toInt ha, ← iN_toInt hb, h], fun h => by rw [h]⟩
theorem iN_lt {a b : Int} (ha : inR a) (hb : inR b) : iN a < iN b ↔ a < b := by rw [Int32.lt_iff_toInt_lt, iN_toInt ha, iN_toInt hb]
theorem iN_le {a b : Int} (ha : inR a) (hb : inR b) : iN a ≤ iN b ↔ a ≤ b := by rw [Int32.le_iff_toInt_le, iN_toInt ha, iN_toInt hb]
theorem iN_0 : (0 : Int32) = iN 0 := by decide +kernel
theorem iN_1 : (1 : Int32) = iN 1 := by decide +kernel
theorem inR_0 : inR 0 := by unfold inR; omega
theorem iN_eq0 {a : Int} (ha : inR a) : iN a = 0 ↔ a = 0 := by rw [iN_0]; exact iN_inj ha inR_0
theorem iN_nat (z : Int) (h : 0 ≤ z) (h2 : z < 2147483648) : (iN z).toNatClampNeg = z.toNat := by
  show (iN z).toInt.toNat = z.toNat
  rw [iN_toInt ⟨by omega, h2⟩]
theorem iN_vin {z : Int} {n : Nat} (h : 0 ≤ z) (h1 : z < n) (hn : n < 2147483648) : vp_in (iN z) n := by
  rw [vp_in_iff, iN_toInt ⟨by omega, by omega⟩]; exact ⟨h, h1⟩
theorem iN_ofNat (n : Nat) : Int32.ofNat n = iN n := (Int32.ofInt_eq_ofNat).symm
theorem iN_div {a b : Int} (ha : 0 ≤ a) (ha2 : a < 2147483648) (hb : 0 < b) (hb2 : b < 2147483648) : iN a / iN b = iN (a / b) := by
  have rb : inR b := ⟨by omega, hb2⟩
  have hq0 : 0 ≤ a / b := Int.ediv_nonneg ha (by omega)
  have hq1 : a / b ≤ a := Int.ediv_le_self b ha
  have hne : iN b ≠ -1 := by
    intro h
    have h2 := congrArg Int32.toInt h
    rw [iN_toInt rb, show ((-1 : Int32)).toInt = -1 by decide +kernel] at h2
    omega
  apply Int32.toInt_inj.mp
  rw [Int32.toInt_div_of_ne_right _ _ hne, iN_toInt ⟨by omega, ha2⟩, iN_toInt rb, iN_toInt ⟨by omega, by omega⟩, Int.tdiv_eq_ediv_of_nonneg ha]
theorem iN_mod {a b : Int} (ha : 0 ≤ a) (ha2 : a < 2147483648) (hb : 0 < b) (hb2 : b < 2147483648) : iN a - iN a / iN b * iN b = iN (a % b) := by
  rw [iN_div ha ha2 hb hb2, iN_mul, iN_sub, Int.emod_def, Int.mul_comm]
theorem bI_t : bI true = iN 1 := by decide +kernel
theorem bI_f : bI false = iN 0 := by decide +kernel
theorem bI_if (b : Bool) : bI b = iN (if b then 1 else 0) := by cases b <;> decide +kernel
theorem bI_eq0 (b : Bool) : bI b = 0 ↔ b = false := by cases b <;> decide +kernel
theorem lL_add (a b : Int) : lL a + lL b = lL (a + b) := (Int64.ofInt_add a b).symm
theorem lL_mul (a b : Int) : lL a * lL b = lL (a * b) := (Int64.ofInt_mul a b).symm
theorem lL_toInt {a : Int} (h : inL a) : (lL a).toInt = a := Int64.toInt_ofInt_of_le (by unfold inL at h; omega) (by unfold inL at h; omega)
theorem lL_i {a : Int} (h : inR a) : (iN a).toInt64 = lL a := by
  apply Int64.toInt_inj.mp
  rw [Int32.toInt_toInt64, iN_toInt h, lL_toInt ⟨by unfold inR at h; omega, by unfold inR at h; omega⟩]
theorem lL_to32 (a : Int) : (lL a).toInt32 = iN a := Int64.toInt32_ofInt
theorem lL_div {a b : Int} (ha : 0 ≤ a) (ha2 : a < 9223372036854775808) (hb : 0 < b) (hb2 : b < 9223372036854775808) : lL a / lL b = lL (a / b) := by
  have rb : inL b := ⟨by omega, hb2⟩
  have hq0 : 0 ≤ a / b := Int.ediv_nonneg ha (by omega)
  have hq1 : a / b ≤ a := Int.ediv_le_self b ha
  have hne : lL b ≠ -1 := by
    intro h
    have h2 := congrArg Int64.toInt h
    rw [lL_toInt rb, show ((-1 : Int64)).toInt = -1 by decide +kernel] at h2
    omega
  apply Int64.toInt_inj.mp
  rw [Int64.toInt_div_of_ne_right _ _ hne, lL_toInt ⟨by omega, ha2⟩, lL_toInt rb, lL_toInt ⟨by omega, by omega⟩, Int.tdiv_eq_ediv_of_nonneg ha]
theorem lL_sub (a b : Int) : lL a - lL b = lL (a - b) := (Int64.ofInt_sub a b).symm
theorem lL_mod {a b : Int} (ha : 0 ≤ a) (ha2 : a < 9223372036854775808) (hb : 0 < b) (hb2 : b < 9223372036854775808) : lL a - lL a / lL b * lL b = lL (a % b) := by
  rw [lL_div ha ha2 hb hb2, lL_mul, lL_sub, Int.emod_def, Int.mul_comm]
/-! the machine's room by depth; what a walk stands on -/
abbrev EV : Type := Program × Launch × Env × Room × State × MethodId × Array Value × List Frame × Method × Code × Nat × Nat
def OK (E : EV) (cc : ByteArray) (nL : Nat) (own : String) (ret : Option FieldType) : Prop := match E with
  | (p, _, _, R, s, m, args, _, meth, c, kc, ks) => p.tables.exec = Jvm.exec ∧ c.code = cc ∧ c.maxLocals = nL ∧ s.vm.findClass own = some m.cls ∧ (∀ w ∈ TW, w.before args s = true) ∧ NW s ∧ meth.locks = false ∧ meth.sig.returnType = ret ∧ kc ≤ R.cells ∧ ks ≤ R.slots
def lvh (ls : Array Slot) (nL : Nat) (lv : List (Option Value)) : Prop := ls.size = nL ∧ lv_wf ls ∧ lv.length = nL ∧ ∀ (i : Nat) (v : Value), lv[i]? = some (some v) → ls[i]? = some (.val v)
def VV (E : EV) (nL : Nat) (A : Nat → Prop) (Q : State → Prop) (J : Heap → Prop) (pc : Nat) (lv : List (Option Value)) (st : List Value) : Prop := match E with
  | (p, l, e, R, s, m, args, below, meth, c, k, n) => ∀ (H : Heap) (locs : List Loc) (ls : Array Slot), J H → va_S A s.heap H locs → lvh ls nL lv → W p l e R s m args below meth c H locs k n Q (F0 m pc ls st)
/-- the locals as kit's list -/
def lvL : Nat → List (Option Value) → List (Nat × Value)
  | _, [] => []
  | i, none :: r => lvL (i + 1) r
  | i, some v :: r => (i, v) :: lvL (i + 1) r
theorem lvL_mem : ∀ (lv : List (Option Value)) (k : Nat) (q : Nat × Value), q ∈ lvL k lv ↔ ∃ j : Nat, q.1 = k + j ∧ lv[j]? = some (some q.2)
  | [], k, q => by simp [lvL]
  | none :: r, k, q => by
    rw [lvL, lvL_mem r (k + 1) q]
    constructor
    · rintro ⟨j, h1, h2⟩
      exact ⟨j + 1, by omega, by simpa using h2⟩
    · rintro ⟨j, h1, h2⟩
      cases j with
      | zero => simp at h2
      | succ j => exact ⟨j, by omega, by simpa using h2⟩
  | some v :: r, k, q => by
    rw [lvL, List.mem_cons, lvL_mem r (k + 1) q]
    constructor
    · rintro (rfl | ⟨j, h1, h2⟩)
      · exact ⟨0, by simp, by simp⟩
      · exact ⟨j + 1, by omega, by simpa using h2⟩
    · rintro ⟨j, h1, h2⟩
      cases j with
      | zero =>
        left
        obtain ⟨a, b⟩ := q
        simp at h1 h2
        rw [h1, h2]
      | succ j => exact Or.inr ⟨j, by omega, by simpa using h2⟩
theorem lvh.has {ls : Array Slot} {nL : Nat} {lv : List (Option Value)} (h : lvh ls nL lv) : lv_has ls nL (lvL 0 lv) := by
  refine ⟨h.1, h.2.1, fun q hq => ?_⟩
  obtain ⟨j, h1, h2⟩ := (lvL_mem lv 0 q).mp hq
  rw [h1, Nat.zero_add]
  exact h.2.2.2 j q.2 h2
theorem lvh.at {ls : Array Slot} {nL : Nat} {lv : List (Option Value)} (h : lvh ls nL lv) {i : Nat} {v : Value} (hv : lv[i]? = some (some v)) : ls[i]? = some (.val v) := h.2.2.2 i v hv
/-- no long stands just ahead of place i -/
def catok (lv : List (Option Value)) (i : Nat) : Bool := match i with
  | 0 => true
  | j + 1 => match lv[j]? with
    | some (some v) => v.category == 1
    | _ => true
theorem lvh.put1 {ls ls' : Array Slot} {nL : Nat} {lv : List (Option Value)} {i : Nat} {x : Value} (h : lvh ls nL lv) (hi : i < nL) (hc : catok lv i = true) (h' : lv_has ls' nL ((i, x) :: (lvL 0 lv).filter (fun q => !(q.1 == i) && !(q.1 + 1 == i && q.2.category == 2)))) : lvh ls' nL (lv.set i (some x)) := by
  refine ⟨h'.1, h'.2.1, by rw [List.length_set]; exact h.2.2.1, fun j v hj => ?_⟩
  rw [List.getElem?_set] at hj
  by_cases e : i = j
  · subst e
    rw [if_pos rfl, if_pos (by rw [h.2.2.1]; exact hi)] at hj
    cases hj
    exact h'.2.2 (i, x) List.mem_cons_self
  · rw [if_neg e] at hj
    refine h'.2.2 (j, v) (List.mem_cons_of_mem _ (List.mem_filter.mpr ⟨(lvL_mem lv 0 (j, v)).mpr ⟨j, by simp, hj⟩, ?_⟩))
    have e1 : (j == i) = false := by simp; omega
    have e2 : (j + 1 == i && v.category == 2) = false := by
      by_cases e3 : j + 1 = i
      · subst e3
        simp only [catok, hj] at hc
        simp only [beq_iff_eq] at hc
        simp [hc]
      · simp [e3]
    simp [e1, e2]
theorem lvh.put2 {ls ls' : Array Slot} {nL : Nat} {lv : List (Option Value)} {i : Nat} {x : Value} (h : lvh ls nL lv) (hi : i + 1 < nL) (hc : catok lv i = true) (h' : lv_has ls' nL ((i, x) :: (lvL 0 lv).filter (fun q => !(q.1 == i) && (!(q.1 == i + 1) && !(q.1 + 1 == i && q.2.category == 2))))) : lvh ls' nL ((lv.set i (some x)).set (i + 1) none) := by
  refine ⟨h'.1, h'.2.1, by rw [List.length_set, List.length_set]; exact h.2.2.1, fun j v hj => ?_⟩
  rw [List.getElem?_set] at hj
  by_cases e0 : i + 1 = j
  · rw [if_pos e0] at hj
    split at hj <;> cases hj
  rw [if_neg e0, List.getElem?_set] at hj
  by_cases e : i = j
  · subst e
    rw [if_pos rfl, if_pos (by rw [h.2.2.1]; omega)] at hj
    cases hj
    exact h'.2.2 (i, x) List.mem_cons_self
  · rw [if_neg e] at hj
    refine h'.2.2 (j, v) (List.mem_cons_of_mem _ (List.mem_filter.mpr ⟨(lvL_mem lv 0 (j, v)).mpr ⟨j, by simp, hj⟩, ?_⟩))
    have e1 : (j == i) = false := by simp; omega
    have e3 : (j == i + 1) = false := by simp; omega
    have e2 : (j + 1 == i && v.category == 2) = false := by
      by_cases e3 : j + 1 = i
      · subst e3
        simp only [catok, hj] at hc
        simp only [beq_iff_eq] at hc
        simp [hc]
      · simp [e3]
    simp [e1, e2, e3]
section XR
variable {E : EV} {cc : ByteArray} {nL : Nat} {own : String} {ret : Option FieldType} {A : Nat → Prop} {Q : State → Prop} {J : Heap → Prop} {pc pc' tgt : Nat} {lv lv' : List (Option Value)} {st st' : List Value}
/-- another spelling of what is known -/
theorem x_st (h : st = st') (k : VV E nL A Q J pc lv st') : VV E nL A Q J pc lv st := h ▸ k
theorem x_lv (h : ∀ (i : Nat) (v : Value), lv'[i]? = some (some v) → lv[i]? = some (some v)) (hl : lv'.length = lv.length) (k : VV E nL A Q J pc lv' st) : VV E nL A Q J pc lv st := by
  obtain ⟨p, l, e, R, s, m, args, below, meth, c, kc, ks⟩ := E
  intro H locs ls hJ hS h1
  exact k H locs ls hJ hS ⟨h1.1, h1.2.1, hl.trans h1.2.2.1, fun i v hv => h1.2.2.2 i v (h i v hv)⟩
theorem x_J {J' : Heap → Prop} (h : ∀ H, J H → J' H) (k : VV E nL A Q J' pc lv st) : VV E nL A Q J pc lv st := by
  obtain ⟨p, l, e, R, s, m, args, below, meth, c, kc, ks⟩ := E
  intro H locs ls hJ hS h1
  exact k H locs ls (h H hJ) hS h1
theorem x_iconst {z : Int} (hE : OK E cc nL own ret) (hd : decode cc pc = .ok (.iconst z, 1)) (hp : pc' = pc + 1) (k : VV E nL A Q J pc' lv (.int (iN z) :: st)) : VV E nL A Q J pc lv (st) := by
  obtain ⟨p, l, e, R, s, m, args, below, meth, c, kc, ks⟩ := E
  obtain ⟨hx, hb, -, hown, hts, -, -, -⟩ := id hE
  subst hp
  intro H locs ls hJ hS hl
  exact lv_iconst hx hb hd rfl (k H locs ls hJ hS hl)
theorem x_bipush {z : Int} (hE : OK E cc nL own ret) (hd : decode cc pc = .ok (.bipush z, 2)) (hp : pc' = pc + 2) (hz : (Int8.ofInt z).toInt32 = iN z) (k : VV E nL A Q J pc' lv (.int (iN z) :: st)) : VV E nL A Q J pc lv (st) := by
  obtain ⟨p, l, e, R, s, m, args, below, meth, c, kc, ks⟩ := E
  obtain ⟨hx, hb, -, hown, hts, -, -, -⟩ := id hE
  subst hp
  intro H locs ls hJ hS hl
  exact lv_bipush hx hb hd hz (k H locs ls hJ hS hl)
theorem x_sipush {z : Int} (hE : OK E cc nL own ret) (hd : decode cc pc = .ok (.sipush z, 3)) (hp : pc' = pc + 3) (hz : (Int16.ofInt z).toInt32 = iN z) (k : VV E nL A Q J pc' lv (.int (iN z) :: st)) : VV E nL A Q J pc lv (st) := by
  obtain ⟨p, l, e, R, s, m, args, below, meth, c, kc, ks⟩ := E
  obtain ⟨hx, hb, -, hown, hts, -, -, -⟩ := id hE
  subst hp
  intro H locs ls hJ hS hl
  exact lv_sipush hx hb hd hz (k H locs ls hJ hS hl)
theorem x_ldcw {ix : Nat} {v : Int32} (hE : OK E cc nL own ret) (hd : decode cc pc = .ok (.ldc_w ix, 3)) (hp : pc' = pc + 3) (hw : Cond.constant own ix v ∈ TW) (k : VV E nL A Q J pc' lv (.int v :: st)) : VV E nL A Q J pc lv (st) := by
  obtain ⟨p, l, e, R, s, m, args, below, meth, c, kc, ks⟩ := E
  obtain ⟨hx, hb, -, hown, hts, -, -, -⟩ := id hE
  subst hp
  intro H locs ls hJ hS hl
  exact lv_ldcw hx hb hown (hts _ hw) hd (k H locs ls hJ hS hl)
theorem x_ldc2 {ix : Nat} {v : Int64} (hE : OK E cc nL own ret) (hd : decode cc pc = .ok (.ldc2_w ix, 3)) (hp : pc' = pc + 3) (hw : Cond.constantLong own ix v ∈ TW) (k : VV E nL A Q J pc' lv (.long v :: st)) : VV E nL A Q J pc lv (st) := by
  obtain ⟨p, l, e, R, s, m, args, below, meth, c, kc, ks⟩ := E
  obtain ⟨hx, hb, -, hown, hts, -, -, -⟩ := id hE
  subst hp
  intro H locs ls hJ hS hl
  exact lv_ldc2 hx hb hown (hts _ hw) hd (k H locs ls hJ hS hl)
theorem x_null (hE : OK E cc nL own ret) (hd : decode cc pc = .ok (.aconst_null, 1)) (hp : pc' = pc + 1) (k : VV E nL A Q J pc' lv (.null :: st)) : VV E nL A Q J pc lv (st) := by
  obtain ⟨p, l, e, R, s, m, args, below, meth, c, kc, ks⟩ := E
  obtain ⟨hx, hb, -, hown, hts, -, -, -⟩ := id hE
  subst hp
  intro H locs ls hJ hS hl
  exact lv_null hx hb hd (k H locs ls hJ hS hl)
theorem x_iload_n {i : Fin 4} {x : Int32} (hE : OK E cc nL own ret) (hd : decode cc pc = .ok (.iload_n i, 1)) (hp : pc' = pc + 1) (hv : lv[(i : Nat)]? = some (some (.int x))) (k : VV E nL A Q J pc' lv (.int x :: st)) : VV E nL A Q J pc lv (st) := by
  obtain ⟨p, l, e, R, s, m, args, below, meth, c, kc, ks⟩ := E
  obtain ⟨hx, hb, -, hown, hts, -, -, -⟩ := id hE
  subst hp
  intro H locs ls hJ hS hl
  exact lv_iload_n hx hb hd rfl (hl.at hv) (k H locs ls hJ hS hl)
theorem x_iload {i : Nat} {x : Int32} (hE : OK E cc nL own ret) (hd : decode cc pc = .ok (.iload i, 2)) (hp : pc' = pc + 2) (hv : lv[i]? = some (some (.int x))) (k : VV E nL A Q J pc' lv (.int x :: st)) : VV E nL A Q J pc lv (st) := by
  obtain ⟨p, l, e, R, s, m, args, below, meth, c, kc, ks⟩ := E
  obtain ⟨hx, hb, -, hown, hts, -, -, -⟩ := id hE
  subst hp
  intro H locs ls hJ hS hl
  exact lv_iload hx hb hd (hl.at hv) (k H locs ls hJ hS hl)
theorem x_aload_n {i : Fin 4} {x : Nat} (hE : OK E cc nL own ret) (hd : decode cc pc = .ok (.aload_n i, 1)) (hp : pc' = pc + 1) (hv : lv[(i : Nat)]? = some (some (.ref x))) (k : VV E nL A Q J pc' lv (.ref x :: st)) : VV E nL A Q J pc lv (st) := by
  obtain ⟨p, l, e, R, s, m, args, below, meth, c, kc, ks⟩ := E
  obtain ⟨hx, hb, -, hown, hts, -, -, -⟩ := id hE
  subst hp
  intro H locs ls hJ hS hl
  exact lv_aload_n hx hb hd rfl (hl.at hv) (k H locs ls hJ hS hl)
theorem x_aload {i : Nat} {x : Nat} (hE : OK E cc nL own ret) (hd : decode cc pc = .ok (.aload i, 2)) (hp : pc' = pc + 2) (hv : lv[i]? = some (some (.ref x))) (k : VV E nL A Q J pc' lv (.ref x :: st)) : VV E nL A Q J pc lv (st) := by
  obtain ⟨p, l, e, R, s, m, args, below, meth, c, kc, ks⟩ := E
  obtain ⟨hx, hb, -, hown, hts, -, -, -⟩ := id hE
  subst hp
  intro H locs ls hJ hS hl
  exact lv_aload hx hb hd (hl.at hv) (k H locs ls hJ hS hl)
theorem x_lload_n {i : Fin 4} {x : Int64} (hE : OK E cc nL own ret) (hd : decode cc pc = .ok (.lload_n i, 1)) (hp : pc' = pc + 1) (hv : lv[(i : Nat)]? = some (some (.long x))) (k : VV E nL A Q J pc' lv (.long x :: st)) : VV E nL A Q J pc lv (st) := by
  obtain ⟨p, l, e, R, s, m, args, below, meth, c, kc, ks⟩ := E
  obtain ⟨hx, hb, -, hown, hts, -, -, -⟩ := id hE
  subst hp
  intro H locs ls hJ hS hl
  exact lv_lload_n hx hb hd rfl (hl.at hv) (k H locs ls hJ hS hl)
theorem x_lload {i : Nat} {x : Int64} (hE : OK E cc nL own ret) (hd : decode cc pc = .ok (.lload i, 2)) (hp : pc' = pc + 2) (hv : lv[i]? = some (some (.long x))) (k : VV E nL A Q J pc' lv (.long x :: st)) : VV E nL A Q J pc lv (st) := by
  obtain ⟨p, l, e, R, s, m, args, below, meth, c, kc, ks⟩ := E
  obtain ⟨hx, hb, -, hown, hts, -, -, -⟩ := id hE
  subst hp
  intro H locs ls hJ hS hl
  exact lv_lload hx hb hd (hl.at hv) (k H locs ls hJ hS hl)
theorem x_istore_n {i : Fin 4} {x : Int32} (hE : OK E cc nL own ret) (hd : decode cc pc = .ok (.istore_n i, 1)) (hp : pc' = pc + 1) (hi : (i : Nat) < nL) (hc : catok lv i = true) (hv : lv.set (i : Nat) (some (.int x)) = lv') (k : VV E nL A Q J pc' lv' (st)) : VV E nL A Q J pc lv (.int x :: st) := by
  obtain ⟨p, l, e, R, s, m, args, below, meth, c, kc, ks⟩ := E
  obtain ⟨hx, hb, -, hown, hts, -, -, -⟩ := id hE
  subst hp
  intro H locs ls hJ hS hl
  subst hv
  exact lv_istore_n hx hb hd rfl hl.has hi rfl (fun ls' h' => k H locs ls' hJ hS (hl.put1 hi hc h'))
theorem x_istore {i : Nat} {x : Int32} (hE : OK E cc nL own ret) (hd : decode cc pc = .ok (.istore i, 2)) (hp : pc' = pc + 2) (hi : i < nL) (hc : catok lv i = true) (hv : lv.set i (some (.int x)) = lv') (k : VV E nL A Q J pc' lv' (st)) : VV E nL A Q J pc lv (.int x :: st) := by
  obtain ⟨p, l, e, R, s, m, args, below, meth, c, kc, ks⟩ := E
  obtain ⟨hx, hb, -, hown, hts, -, -, -⟩ := id hE
  subst hp
  intro H locs ls hJ hS hl
  subst hv
  exact lv_istore hx hb hd hl.has hi rfl (fun ls' h' => k H locs ls' hJ hS (hl.put1 hi hc h'))
theorem x_astore_n {i : Fin 4} {x : Nat} (hE : OK E cc nL own ret) (hd : decode cc pc = .ok (.astore_n i, 1)) (hp : pc' = pc + 1) (hi : (i : Nat) < nL) (hc : catok lv i = true) (hv : lv.set (i : Nat) (some (.ref x)) = lv') (k : VV E nL A Q J pc' lv' (st)) : VV E nL A Q J pc lv (.ref x :: st) := by
  obtain ⟨p, l, e, R, s, m, args, below, meth, c, kc, ks⟩ := E
  obtain ⟨hx, hb, -, hown, hts, -, -, -⟩ := id hE
  subst hp
  intro H locs ls hJ hS hl
  subst hv
  exact lv_astore_n hx hb hd rfl hl.has hi rfl (fun ls' h' => k H locs ls' hJ hS (hl.put1 hi hc h'))
theorem x_astore {i : Nat} {x : Nat} (hE : OK E cc nL own ret) (hd : decode cc pc = .ok (.astore i, 2)) (hp : pc' = pc + 2) (hi : i < nL) (hc : catok lv i = true) (hv : lv.set i (some (.ref x)) = lv') (k : VV E nL A Q J pc' lv' (st)) : VV E nL A Q J pc lv (.ref x :: st) := by
  obtain ⟨p, l, e, R, s, m, args, below, meth, c, kc, ks⟩ := E
  obtain ⟨hx, hb, -, hown, hts, -, -, -⟩ := id hE
  subst hp
  intro H locs ls hJ hS hl
  subst hv
  exact lv_astore hx hb hd hl.has hi rfl (fun ls' h' => k H locs ls' hJ hS (hl.put1 hi hc h'))
theorem x_lstore_n {i : Fin 4} {x : Int64} (hE : OK E cc nL own ret) (hd : decode cc pc = .ok (.lstore_n i, 1)) (hp : pc' = pc + 1) (hi : (i : Nat) + 1 < nL) (hc : catok lv i = true) (hv : (lv.set (i : Nat) (some (.long x))).set ((i : Nat) + 1) none = lv') (k : VV E nL A Q J pc' lv' (st)) : VV E nL A Q J pc lv (.long x :: st) := by
  obtain ⟨p, l, e, R, s, m, args, below, meth, c, kc, ks⟩ := E
  obtain ⟨hx, hb, -, hown, hts, -, -, -⟩ := id hE
  subst hp
  intro H locs ls hJ hS hl
  subst hv
  exact lv_lstore_n hx hb hd rfl hl.has hi rfl (fun ls' h' => k H locs ls' hJ hS (hl.put2 hi hc h'))
theorem lvL_get {lv : List (Option Value)} {i : Nat} {v : Value} (h : lv[i]? = some (some v)) : ∃ k : Nat, (lvL 0 lv)[k]? = some (i, v) := List.getElem?_of_mem ((lvL_mem lv 0 (i, v)).mpr ⟨i, by simp, h⟩)
theorem x_iinc {i : Nat} {n a : Int} (hE : OK E cc nL own ret) (hd : decode cc pc = .ok (.iinc i n, 3)) (hp : pc' = pc + 3) (hg : lv[i]? = some (some (.int (iN a)))) (hi : i < nL) (hc : catok lv i = true) (hv : lv.set i (some (.int (iN (a + n)))) = lv') (k : VV E nL A Q J pc' lv' (st)) : VV E nL A Q J pc lv (st) := by
  obtain ⟨p, l, e, R, s, m, args, below, meth, c, kc, ks⟩ := E
  obtain ⟨hx, hb, -, hown, hts, -, -, -⟩ := id hE
  subst hp
  intro H locs ls hJ hS hl
  subst hv
  obtain ⟨k9, hk9⟩ := lvL_get hg
  exact lv_iinc (v := iN (a + n)) hx hb hd hl.has hk9 (by rw [← iN_add]; rfl) hi rfl (fun ls' h' => k H locs ls' hJ hS (hl.put1 hi hc h'))
theorem x_iadd {a b : Int} (hE : OK E cc nL own ret) (hd : decode cc pc = .ok (.iadd, 1)) (hp : pc' = pc + 1) (k : VV E nL A Q J pc' lv (.int (iN (a + b)) :: st)) : VV E nL A Q J pc lv (.int (iN b) :: .int (iN a) :: st) := by
  obtain ⟨p, l, e, R, s, m, args, below, meth, c, kc, ks⟩ := E
  obtain ⟨hx, hb, -, hown, hts, -, -, -⟩ := id hE
  subst hp
  intro H locs ls hJ hS hl
  exact lv_iadd hx hb hd (by rw [iN_add]; exact k H locs ls hJ hS hl)
theorem x_isub {a b : Int} (hE : OK E cc nL own ret) (hd : decode cc pc = .ok (.isub, 1)) (hp : pc' = pc + 1) (k : VV E nL A Q J pc' lv (.int (iN (a - b)) :: st)) : VV E nL A Q J pc lv (.int (iN b) :: .int (iN a) :: st) := by
  obtain ⟨p, l, e, R, s, m, args, below, meth, c, kc, ks⟩ := E
  obtain ⟨hx, hb, -, hown, hts, -, -, -⟩ := id hE
  subst hp
  intro H locs ls hJ hS hl
  exact lv_isub hx hb hd (by rw [iN_sub]; exact k H locs ls hJ hS hl)
theorem x_imul {a b : Int} (hE : OK E cc nL own ret) (hd : decode cc pc = .ok (.imul, 1)) (hp : pc' = pc + 1) (k : VV E nL A Q J pc' lv (.int (iN (a * b)) :: st)) : VV E nL A Q J pc lv (.int (iN b) :: .int (iN a) :: st) := by
  obtain ⟨p, l, e, R, s, m, args, below, meth, c, kc, ks⟩ := E
  obtain ⟨hx, hb, -, hown, hts, -, -, -⟩ := id hE
  subst hp
  intro H locs ls hJ hS hl
  exact lv_imul hx hb hd (by rw [iN_mul]; exact k H locs ls hJ hS hl)
theorem x_idiv {a b : Int} (hE : OK E cc nL own ret) (hd : decode cc pc = .ok (.idiv, 1)) (hp : pc' = pc + 1) (ha : 0 ≤ a) (ha2 : a < 2147483648) (hb1 : 0 < b) (hb2 : b < 2147483648) (k : VV E nL A Q J pc' lv (.int (iN (a / b)) :: st)) : VV E nL A Q J pc lv (.int (iN b) :: .int (iN a) :: st) := by
  obtain ⟨p, l, e, R, s, m, args, below, meth, c, kc, ks⟩ := E
  obtain ⟨hx, hb, -, hown, hts, -, -, -⟩ := id hE
  subst hp
  intro H locs ls hJ hS hl
  refine lv_idiv hx hb hd (fun h9 => ?_) (by rw [iN_div ha ha2 hb1 hb2]; exact k H locs ls hJ hS hl)
  rw [iN_eq0 ⟨by omega, hb2⟩] at h9
  omega
theorem x_irem {a b : Int} (hE : OK E cc nL own ret) (hd : decode cc pc = .ok (.irem, 1)) (hp : pc' = pc + 1) (ha : 0 ≤ a) (ha2 : a < 2147483648) (hb1 : 0 < b) (hb2 : b < 2147483648) (k : VV E nL A Q J pc' lv (.int (iN (a % b)) :: st)) : VV E nL A Q J pc lv (.int (iN b) :: .int (iN a) :: st) := by
  obtain ⟨p, l, e, R, s, m, args, below, meth, c, kc, ks⟩ := E
  obtain ⟨hx, hb, -, hown, hts, -, -, -⟩ := id hE
  subst hp
  intro H locs ls hJ hS hl
  refine lv_irem hx hb hd (fun h9 => ?_) (by rw [iN_mod ha ha2 hb1 hb2]; exact k H locs ls hJ hS hl)
  rw [iN_eq0 ⟨by omega, hb2⟩] at h9
  omega
theorem x_iand {x y : Int32} (hE : OK E cc nL own ret) (hd : decode cc pc = .ok (.iand, 1)) (hp : pc' = pc + 1) (k : VV E nL A Q J pc' lv (.int (x &&& y) :: st)) : VV E nL A Q J pc lv (.int y :: .int x :: st) := by
  obtain ⟨p, l, e, R, s, m, args, below, meth, c, kc, ks⟩ := E
  obtain ⟨hx, hb, -, hown, hts, -, -, -⟩ := id hE
  subst hp
  intro H locs ls hJ hS hl
  exact lv_iand hx hb hd (k H locs ls hJ hS hl)
theorem x_ior {x y : Int32} (hE : OK E cc nL own ret) (hd : decode cc pc = .ok (.ior, 1)) (hp : pc' = pc + 1) (k : VV E nL A Q J pc' lv (.int (x ||| y) :: st)) : VV E nL A Q J pc lv (.int y :: .int x :: st) := by
  obtain ⟨p, l, e, R, s, m, args, below, meth, c, kc, ks⟩ := E
  obtain ⟨hx, hb, -, hown, hts, -, -, -⟩ := id hE
  subst hp
  intro H locs ls hJ hS hl
  exact lv_ior hx hb hd (k H locs ls hJ hS hl)
theorem x_ixor {x y : Int32} (hE : OK E cc nL own ret) (hd : decode cc pc = .ok (.ixor, 1)) (hp : pc' = pc + 1) (k : VV E nL A Q J pc' lv (.int (x ^^^ y) :: st)) : VV E nL A Q J pc lv (.int y :: .int x :: st) := by
  obtain ⟨p, l, e, R, s, m, args, below, meth, c, kc, ks⟩ := E
  obtain ⟨hx, hb, -, hown, hts, -, -, -⟩ := id hE
  subst hp
  intro H locs ls hJ hS hl
  exact lv_ixor hx hb hd (k H locs ls hJ hS hl)
theorem x_iaddR {x y : Int32} (hE : OK E cc nL own ret) (hd : decode cc pc = .ok (.iadd, 1)) (hp : pc' = pc + 1) (k : VV E nL A Q J pc' lv (.int (x + y) :: st)) : VV E nL A Q J pc lv (.int y :: .int x :: st) := by
  obtain ⟨p, l, e, R, s, m, args, below, meth, c, kc, ks⟩ := E
  obtain ⟨hx, hb, -, hown, hts, -, -, -⟩ := id hE
  subst hp
  intro H locs ls hJ hS hl
  exact lv_iadd hx hb hd (k H locs ls hJ hS hl)
theorem x_isubR {x y : Int32} (hE : OK E cc nL own ret) (hd : decode cc pc = .ok (.isub, 1)) (hp : pc' = pc + 1) (k : VV E nL A Q J pc' lv (.int (x - y) :: st)) : VV E nL A Q J pc lv (.int y :: .int x :: st) := by
  obtain ⟨p, l, e, R, s, m, args, below, meth, c, kc, ks⟩ := E
  obtain ⟨hx, hb, -, hown, hts, -, -, -⟩ := id hE
  subst hp
  intro H locs ls hJ hS hl
  exact lv_isub hx hb hd (k H locs ls hJ hS hl)
theorem x_imulR {x y : Int32} (hE : OK E cc nL own ret) (hd : decode cc pc = .ok (.imul, 1)) (hp : pc' = pc + 1) (k : VV E nL A Q J pc' lv (.int (x * y) :: st)) : VV E nL A Q J pc lv (.int y :: .int x :: st) := by
  obtain ⟨p, l, e, R, s, m, args, below, meth, c, kc, ks⟩ := E
  obtain ⟨hx, hb, -, hown, hts, -, -, -⟩ := id hE
  subst hp
  intro H locs ls hJ hS hl
  exact lv_imul hx hb hd (k H locs ls hJ hS hl)
theorem x_idivR {x y : Int32} (hE : OK E cc nL own ret) (hd : decode cc pc = .ok (.idiv, 1)) (hp : pc' = pc + 1) (hy : ¬ y = 0) (k : VV E nL A Q J pc' lv (.int (x / y) :: st)) : VV E nL A Q J pc lv (.int y :: .int x :: st) := by
  obtain ⟨p, l, e, R, s, m, args, below, meth, c, kc, ks⟩ := E
  obtain ⟨hx, hb, -, hown, hts, -, -, -⟩ := id hE
  subst hp
  intro H locs ls hJ hS hl
  exact lv_idiv hx hb hd hy (k H locs ls hJ hS hl)
theorem x_iremR {x y : Int32} (hE : OK E cc nL own ret) (hd : decode cc pc = .ok (.irem, 1)) (hp : pc' = pc + 1) (hy : ¬ y = 0) (k : VV E nL A Q J pc' lv (.int (x - x / y * y) :: st)) : VV E nL A Q J pc lv (.int y :: .int x :: st) := by
  obtain ⟨p, l, e, R, s, m, args, below, meth, c, kc, ks⟩ := E
  obtain ⟨hx, hb, -, hown, hts, -, -, -⟩ := id hE
  subst hp
  intro H locs ls hJ hS hl
  exact lv_irem hx hb hd hy (k H locs ls hJ hS hl)
theorem x_ishl {x y : Int32} (hE : OK E cc nL own ret) (hd : decode cc pc = .ok (.ishl, 1)) (hp : pc' = pc + 1) (k : VV E nL A Q J pc' lv (.int (x <<< (y &&& 31)) :: st)) : VV E nL A Q J pc lv (.int y :: .int x :: st) := by
  obtain ⟨p, l, e, R, s, m, args, below, meth, c, kc, ks⟩ := E
  obtain ⟨hx, hb, -, hown, hts, -, -, -⟩ := id hE
  subst hp
  intro H locs ls hJ hS hl
  exact lv_ishl hx hb hd (k H locs ls hJ hS hl)
theorem x_ishr {x y : Int32} (hE : OK E cc nL own ret) (hd : decode cc pc = .ok (.ishr, 1)) (hp : pc' = pc + 1) (k : VV E nL A Q J pc' lv (.int (x >>> (y &&& 31)) :: st)) : VV E nL A Q J pc lv (.int y :: .int x :: st) := by
  obtain ⟨p, l, e, R, s, m, args, below, meth, c, kc, ks⟩ := E
  obtain ⟨hx, hb, -, hown, hts, -, -, -⟩ := id hE
  subst hp
  intro H locs ls hJ hS hl
  exact lv_ishr hx hb hd (k H locs ls hJ hS hl)
theorem x_iushr {x y : Int32} (hE : OK E cc nL own ret) (hd : decode cc pc = .ok (.iushr, 1)) (hp : pc' = pc + 1) (k : VV E nL A Q J pc' lv (.int (x.toUInt32 >>> (y.toUInt32 &&& Int32.toUInt32 31)).toInt32 :: st)) : VV E nL A Q J pc lv (.int y :: .int x :: st) := by
  obtain ⟨p, l, e, R, s, m, args, below, meth, c, kc, ks⟩ := E
  obtain ⟨hx, hb, -, hown, hts, -, -, -⟩ := id hE
  subst hp
  intro H locs ls hJ hS hl
  exact lv_iushr hx hb hd rfl (k H locs ls hJ hS hl)
theorem x_i2l {a : Int} (hE : OK E cc nL own ret) (hd : decode cc pc = .ok (.i2l, 1)) (hp : pc' = pc + 1) (ha : inR a) (k : VV E nL A Q J pc' lv (.long (lL a) :: st)) : VV E nL A Q J pc lv (.int (iN a) :: st) := by
  obtain ⟨p, l, e, R, s, m, args, below, meth, c, kc, ks⟩ := E
  obtain ⟨hx, hb, -, hown, hts, -, -, -⟩ := id hE
  subst hp
  intro H locs ls hJ hS hl
  exact lv_i2l hx hb hd (lL_i ha) (k H locs ls hJ hS hl)
theorem x_l2i {a : Int} (hE : OK E cc nL own ret) (hd : decode cc pc = .ok (.l2i, 1)) (hp : pc' = pc + 1) (k : VV E nL A Q J pc' lv (.int (iN a) :: st)) : VV E nL A Q J pc lv (.long (lL a) :: st) := by
  obtain ⟨p, l, e, R, s, m, args, below, meth, c, kc, ks⟩ := E
  obtain ⟨hx, hb, -, hown, hts, -, -, -⟩ := id hE
  subst hp
  intro H locs ls hJ hS hl
  exact lv_l2i hx hb hd (lL_to32 a) (k H locs ls hJ hS hl)
theorem x_i2c {a : Int} (hE : OK E cc nL own ret) (hd : decode cc pc = .ok (.i2c, 1)) (hp : pc' = pc + 1) (hv : ((iN a).toUInt32 % 65536).toInt32 = iN a) (k : VV E nL A Q J pc' lv (.int (iN a) :: st)) : VV E nL A Q J pc lv (.int (iN a) :: st) := by
  obtain ⟨p, l, e, R, s, m, args, below, meth, c, kc, ks⟩ := E
  obtain ⟨hx, hb, -, hown, hts, -, -, -⟩ := id hE
  subst hp
  intro H locs ls hJ hS hl
  exact lv_i2c hx hb hd hv (k H locs ls hJ hS hl)
theorem x_i2b {a : Int} (hE : OK E cc nL own ret) (hd : decode cc pc = .ok (.i2b, 1)) (hp : pc' = pc + 1) (hv : (iN a).toInt8.toInt32 = iN a) (k : VV E nL A Q J pc' lv (.int (iN a) :: st)) : VV E nL A Q J pc lv (.int (iN a) :: st) := by
  obtain ⟨p, l, e, R, s, m, args, below, meth, c, kc, ks⟩ := E
  obtain ⟨hx, hb, -, hown, hts, -, -, -⟩ := id hE
  subst hp
  intro H locs ls hJ hS hl
  exact lv_i2b hx hb hd hv (k H locs ls hJ hS hl)
theorem x_ladd {x y : Int64} (hE : OK E cc nL own ret) (hd : decode cc pc = .ok (.ladd, 1)) (hp : pc' = pc + 1) (k : VV E nL A Q J pc' lv (.long (x + y) :: st)) : VV E nL A Q J pc lv (.long y :: .long x :: st) := by
  obtain ⟨p, l, e, R, s, m, args, below, meth, c, kc, ks⟩ := E
  obtain ⟨hx, hb, -, hown, hts, -, -, -⟩ := id hE
  subst hp
  intro H locs ls hJ hS hl
  exact lv_ladd hx hb hd (k H locs ls hJ hS hl)
theorem x_lmul {x y : Int64} (hE : OK E cc nL own ret) (hd : decode cc pc = .ok (.lmul, 1)) (hp : pc' = pc + 1) (k : VV E nL A Q J pc' lv (.long (x * y) :: st)) : VV E nL A Q J pc lv (.long y :: .long x :: st) := by
  obtain ⟨p, l, e, R, s, m, args, below, meth, c, kc, ks⟩ := E
  obtain ⟨hx, hb, -, hown, hts, -, -, -⟩ := id hE
  subst hp
  intro H locs ls hJ hS hl
  exact lv_lmul hx hb hd (k H locs ls hJ hS hl)
theorem x_land {x y : Int64} (hE : OK E cc nL own ret) (hd : decode cc pc = .ok (.land, 1)) (hp : pc' = pc + 1) (k : VV E nL A Q J pc' lv (.long (x &&& y) :: st)) : VV E nL A Q J pc lv (.long y :: .long x :: st) := by
  obtain ⟨p, l, e, R, s, m, args, below, meth, c, kc, ks⟩ := E
  obtain ⟨hx, hb, -, hown, hts, -, -, -⟩ := id hE
  subst hp
  intro H locs ls hJ hS hl
  exact lv_land hx hb hd (k H locs ls hJ hS hl)
theorem x_ldiv {a b : Int} (hE : OK E cc nL own ret) (hd : decode cc pc = .ok (.ldiv, 1)) (hp : pc' = pc + 1) (ha : 0 ≤ a) (ha2 : a < 9223372036854775808) (hb1 : 0 < b) (hb2 : b < 9223372036854775808) (k : VV E nL A Q J pc' lv (.long (lL (a / b)) :: st)) : VV E nL A Q J pc lv (.long (lL b) :: .long (lL a) :: st) := by
  obtain ⟨p, l, e, R, s, m, args, below, meth, c, kc, ks⟩ := E
  obtain ⟨hx, hb, -, hown, hts, -, -, -⟩ := id hE
  subst hp
  intro H locs ls hJ hS hl
  refine lv_ldiv hx hb hd (fun h9 => ?_) (by rw [lL_div ha ha2 hb1 hb2]; exact k H locs ls hJ hS hl)
  have h8 := congrArg Int64.toInt h9
  rw [lL_toInt ⟨by omega, hb2⟩, show ((0 : Int64)).toInt = 0 by decide +kernel] at h8
  omega
theorem x_lrem {a b : Int} (hE : OK E cc nL own ret) (hd : decode cc pc = .ok (.lrem, 1)) (hp : pc' = pc + 1) (ha : 0 ≤ a) (ha2 : a < 9223372036854775808) (hb1 : 0 < b) (hb2 : b < 9223372036854775808) (k : VV E nL A Q J pc' lv (.long (lL (a % b)) :: st)) : VV E nL A Q J pc lv (.long (lL b) :: .long (lL a) :: st) := by
  obtain ⟨p, l, e, R, s, m, args, below, meth, c, kc, ks⟩ := E
  obtain ⟨hx, hb, -, hown, hts, -, -, -⟩ := id hE
  subst hp
  intro H locs ls hJ hS hl
  refine lv_lrem hx hb hd (fun h9 => ?_) (by rw [lL_mod ha ha2 hb1 hb2]; exact k H locs ls hJ hS hl)
  have h8 := congrArg Int64.toInt h9
  rw [lL_toInt ⟨by omega, hb2⟩, show ((0 : Int64)).toInt = 0 by decide +kernel] at h8
  omega
theorem x_dup {va : Value} (hE : OK E cc nL own ret) (hd : decode cc pc = .ok (.dup, 1)) (hp : pc' = pc + 1) (hv : va.category = 1) (k : VV E nL A Q J pc' lv (va :: va :: st)) : VV E nL A Q J pc lv (va :: st) := by
  obtain ⟨p, l, e, R, s, m, args, below, meth, c, kc, ks⟩ := E
  obtain ⟨hx, hb, -, hown, hts, -, -, -⟩ := id hE
  subst hp
  intro H locs ls hJ hS hl
  exact lv_dup hx hb hd hv (k H locs ls hJ hS hl)
theorem x_pop {va : Value} (hE : OK E cc nL own ret) (hd : decode cc pc = .ok (.pop, 1)) (hp : pc' = pc + 1) (hv : va.category = 1) (k : VV E nL A Q J pc' lv (st)) : VV E nL A Q J pc lv (va :: st) := by
  obtain ⟨p, l, e, R, s, m, args, below, meth, c, kc, ks⟩ := E
  obtain ⟨hx, hb, -, hown, hts, -, -, -⟩ := id hE
  subst hp
  intro H locs ls hJ hS hl
  exact lv_pop hx hb hd hv (k H locs ls hJ hS hl)
theorem x_dup_x1 {va vb : Value} (hE : OK E cc nL own ret) (hd : decode cc pc = .ok (.dup_x1, 1)) (hp : pc' = pc + 1) (hv : va.category = 1) (hw : vb.category = 1) (k : VV E nL A Q J pc' lv (va :: vb :: va :: st)) : VV E nL A Q J pc lv (va :: vb :: st) := by
  obtain ⟨p, l, e, R, s, m, args, below, meth, c, kc, ks⟩ := E
  obtain ⟨hx, hb, -, hown, hts, -, -, -⟩ := id hE
  subst hp
  intro H locs ls hJ hS hl
  exact lv_dup_x1 hx hb hd hv hw (k H locs ls hJ hS hl)
theorem x_dup2 {va vb : Value} (hE : OK E cc nL own ret) (hd : decode cc pc = .ok (.dup2, 1)) (hp : pc' = pc + 1) (hv : va.category = 1) (hw : vb.category = 1) (k : VV E nL A Q J pc' lv (va :: vb :: va :: vb :: st)) : VV E nL A Q J pc lv (va :: vb :: st) := by
  obtain ⟨p, l, e, R, s, m, args, below, meth, c, kc, ks⟩ := E
  obtain ⟨hx, hb, -, hown, hts, -, -, -⟩ := id hE
  subst hp
  intro H locs ls hJ hS hl
  exact lv_dup2_11 hx hb hd hv hw (k H locs ls hJ hS hl)
theorem x_goto {off : Int} (hE : OK E cc nL own ret) (hd : decode cc pc = .ok (.goto off, 3)) (ht : (pc : Int) + off = (tgt : Int)) (k : VV E nL A Q J tgt lv st) : VV E nL A Q J pc lv st := by
  obtain ⟨p, l, e, R, s, m, args, below, meth, c, kc, ks⟩ := E
  obtain ⟨hx, hb, -, hown, hts, -, -, -⟩ := id hE
  intro H locs ls hJ hS hl
  exact lv_goto hx hb hd ht (k H locs ls hJ hS hl)
theorem x_ifeq {a : Int} {off : Int} (hE : OK E cc nL own ret) (hd : decode cc pc = .ok (.ifCond .eq off, 3)) (ht : (pc : Int) + off = (tgt : Int)) (hp : pc' = pc + 3) (ha : inR a) (kt : a = 0 → VV E nL A Q J tgt lv st) (kf : ¬ a = 0 → VV E nL A Q J pc' lv st) : VV E nL A Q J pc lv (.int (iN a) :: st) := by
  obtain ⟨p, l, e, R, s, m, args, below, meth, c, kc, ks⟩ := E
  obtain ⟨hx, hb, -, hown, hts, -, -, -⟩ := id hE
  subst hp
  intro H locs ls hJ hS hl
  exact lv_if_eq hx hb hd ht (fun h9 => kt ((iN_eq0 ha).mp h9) H locs ls hJ hS hl) (fun h9 => kf (fun z => h9 ((iN_eq0 ha).mpr z)) H locs ls hJ hS hl)
theorem x_ifne {a : Int} {off : Int} (hE : OK E cc nL own ret) (hd : decode cc pc = .ok (.ifCond .ne off, 3)) (ht : (pc : Int) + off = (tgt : Int)) (hp : pc' = pc + 3) (ha : inR a) (kt : ¬ a = 0 → VV E nL A Q J tgt lv st) (kf : a = 0 → VV E nL A Q J pc' lv st) : VV E nL A Q J pc lv (.int (iN a) :: st) := by
  obtain ⟨p, l, e, R, s, m, args, below, meth, c, kc, ks⟩ := E
  obtain ⟨hx, hb, -, hown, hts, -, -, -⟩ := id hE
  subst hp
  intro H locs ls hJ hS hl
  exact lv_if_ne hx hb hd ht (fun h9 => kt (fun z => h9 ((iN_eq0 ha).mpr z)) H locs ls hJ hS hl) (fun h9 => kf (by first | exact (iN_eq0 ha).mp h9 | exact (iN_eq0 ha).mp (Decidable.not_not.mp h9)) H locs ls hJ hS hl)
theorem x_iflt {a : Int} {off : Int} (hE : OK E cc nL own ret) (hd : decode cc pc = .ok (.ifCond .lt off, 3)) (ht : (pc : Int) + off = (tgt : Int)) (hp : pc' = pc + 3) (ha : inR a) (kt : a < 0 → VV E nL A Q J tgt lv st) (kf : 0 ≤ a → VV E nL A Q J pc' lv st) : VV E nL A Q J pc lv (.int (iN a) :: st) := by
  obtain ⟨p, l, e, R, s, m, args, below, meth, c, kc, ks⟩ := E
  obtain ⟨hx, hb, -, hown, hts, -, -, -⟩ := id hE
  subst hp
  intro H locs ls hJ hS hl
  exact lv_if_lt hx hb hd ht (fun h9 => kt (by rw [iN_0, iN_lt ha inR_0] at h9; exact h9) H locs ls hJ hS hl) (fun h9 => kf (by rw [iN_0, iN_lt ha inR_0] at h9; omega) H locs ls hJ hS hl)
theorem x_ifge {a : Int} {off : Int} (hE : OK E cc nL own ret) (hd : decode cc pc = .ok (.ifCond .ge off, 3)) (ht : (pc : Int) + off = (tgt : Int)) (hp : pc' = pc + 3) (ha : inR a) (kt : 0 ≤ a → VV E nL A Q J tgt lv st) (kf : a < 0 → VV E nL A Q J pc' lv st) : VV E nL A Q J pc lv (.int (iN a) :: st) := by
  obtain ⟨p, l, e, R, s, m, args, below, meth, c, kc, ks⟩ := E
  obtain ⟨hx, hb, -, hown, hts, -, -, -⟩ := id hE
  subst hp
  intro H locs ls hJ hS hl
  exact lv_if_ge hx hb hd ht (fun h9 => kt (by rw [iN_0, iN_le inR_0 ha] at h9; exact h9) H locs ls hJ hS hl) (fun h9 => kf (by rw [iN_0, iN_le inR_0 ha] at h9; omega) H locs ls hJ hS hl)
theorem x_ifgt {a : Int} {off : Int} (hE : OK E cc nL own ret) (hd : decode cc pc = .ok (.ifCond .gt off, 3)) (ht : (pc : Int) + off = (tgt : Int)) (hp : pc' = pc + 3) (ha : inR a) (kt : 0 < a → VV E nL A Q J tgt lv st) (kf : a ≤ 0 → VV E nL A Q J pc' lv st) : VV E nL A Q J pc lv (.int (iN a) :: st) := by
  obtain ⟨p, l, e, R, s, m, args, below, meth, c, kc, ks⟩ := E
  obtain ⟨hx, hb, -, hown, hts, -, -, -⟩ := id hE
  subst hp
  intro H locs ls hJ hS hl
  exact lv_if_gt hx hb hd ht (fun h9 => kt (by rw [iN_0, iN_lt inR_0 ha] at h9; exact h9) H locs ls hJ hS hl) (fun h9 => kf (by rw [iN_0, iN_lt inR_0 ha] at h9; omega) H locs ls hJ hS hl)
theorem x_ifle {a : Int} {off : Int} (hE : OK E cc nL own ret) (hd : decode cc pc = .ok (.ifCond .le off, 3)) (ht : (pc : Int) + off = (tgt : Int)) (hp : pc' = pc + 3) (ha : inR a) (kt : a ≤ 0 → VV E nL A Q J tgt lv st) (kf : 0 < a → VV E nL A Q J pc' lv st) : VV E nL A Q J pc lv (.int (iN a) :: st) := by
  obtain ⟨p, l, e, R, s, m, args, below, meth, c, kc, ks⟩ := E
  obtain ⟨hx, hb, -, hown, hts, -, -, -⟩ := id hE
  subst hp
  intro H locs ls hJ hS hl
  exact lv_if_le hx hb hd ht (fun h9 => kt (by rw [iN_0, iN_le ha inR_0] at h9; exact h9) H locs ls hJ hS hl) (fun h9 => kf (by rw [iN_0, iN_le ha inR_0] at h9; omega) H locs ls hJ hS hl)
theorem x_icmpeq {a b : Int} {off : Int} (hE : OK E cc nL own ret) (hd : decode cc pc = .ok (.if_icmp .eq off, 3)) (ht : (pc : Int) + off = (tgt : Int)) (hp : pc' = pc + 3) (ha : inR a) (hb1 : inR b) (kt : a = b → VV E nL A Q J tgt lv st) (kf : ¬ a = b → VV E nL A Q J pc' lv st) : VV E nL A Q J pc lv (.int (iN b) :: .int (iN a) :: st) := by
  obtain ⟨p, l, e, R, s, m, args, below, meth, c, kc, ks⟩ := E
  obtain ⟨hx, hb, -, hown, hts, -, -, -⟩ := id hE
  subst hp
  intro H locs ls hJ hS hl
  exact lv_icmp_eq hx hb hd ht (fun h9 => kt ((iN_inj ha hb1).mp h9) H locs ls hJ hS hl) (fun h9 => kf (fun z => h9 ((iN_inj ha hb1).mpr z)) H locs ls hJ hS hl)
theorem x_icmpne {a b : Int} {off : Int} (hE : OK E cc nL own ret) (hd : decode cc pc = .ok (.if_icmp .ne off, 3)) (ht : (pc : Int) + off = (tgt : Int)) (hp : pc' = pc + 3) (ha : inR a) (hb1 : inR b) (kt : ¬ a = b → VV E nL A Q J tgt lv st) (kf : a = b → VV E nL A Q J pc' lv st) : VV E nL A Q J pc lv (.int (iN b) :: .int (iN a) :: st) := by
  obtain ⟨p, l, e, R, s, m, args, below, meth, c, kc, ks⟩ := E
  obtain ⟨hx, hb, -, hown, hts, -, -, -⟩ := id hE
  subst hp
  intro H locs ls hJ hS hl
  exact lv_icmp_ne hx hb hd ht (fun h9 => kt (fun z => h9 ((iN_inj ha hb1).mpr z)) H locs ls hJ hS hl) (fun h9 => kf (by first | exact (iN_inj ha hb1).mp h9 | exact (iN_inj ha hb1).mp (Decidable.not_not.mp h9)) H locs ls hJ hS hl)
theorem x_icmplt {a b : Int} {off : Int} (hE : OK E cc nL own ret) (hd : decode cc pc = .ok (.if_icmp .lt off, 3)) (ht : (pc : Int) + off = (tgt : Int)) (hp : pc' = pc + 3) (ha : inR a) (hb1 : inR b) (kt : a < b → VV E nL A Q J tgt lv st) (kf : b ≤ a → VV E nL A Q J pc' lv st) : VV E nL A Q J pc lv (.int (iN b) :: .int (iN a) :: st) := by
  obtain ⟨p, l, e, R, s, m, args, below, meth, c, kc, ks⟩ := E
  obtain ⟨hx, hb, -, hown, hts, -, -, -⟩ := id hE
  subst hp
  intro H locs ls hJ hS hl
  exact lv_icmp_lt hx hb hd ht (fun h9 => kt (by rw [iN_lt ha hb1] at h9; exact h9) H locs ls hJ hS hl) (fun h9 => kf (by rw [iN_lt ha hb1] at h9; omega) H locs ls hJ hS hl)
theorem x_icmpge {a b : Int} {off : Int} (hE : OK E cc nL own ret) (hd : decode cc pc = .ok (.if_icmp .ge off, 3)) (ht : (pc : Int) + off = (tgt : Int)) (hp : pc' = pc + 3) (ha : inR a) (hb1 : inR b) (kt : b ≤ a → VV E nL A Q J tgt lv st) (kf : a < b → VV E nL A Q J pc' lv st) : VV E nL A Q J pc lv (.int (iN b) :: .int (iN a) :: st) := by
  obtain ⟨p, l, e, R, s, m, args, below, meth, c, kc, ks⟩ := E
  obtain ⟨hx, hb, -, hown, hts, -, -, -⟩ := id hE
  subst hp
  intro H locs ls hJ hS hl
  exact lv_icmp_ge hx hb hd ht (fun h9 => kt (by first | (rw [ge_iff_le, iN_le hb1 ha] at h9; exact h9) | (rw [iN_le hb1 ha] at h9; exact h9)) H locs ls hJ hS hl) (fun h9 => kf (by first | (rw [ge_iff_le, iN_le hb1 ha] at h9; omega) | (rw [iN_le hb1 ha] at h9; omega)) H locs ls hJ hS hl)
theorem x_icmpgt {a b : Int} {off : Int} (hE : OK E cc nL own ret) (hd : decode cc pc = .ok (.if_icmp .gt off, 3)) (ht : (pc : Int) + off = (tgt : Int)) (hp : pc' = pc + 3) (ha : inR a) (hb1 : inR b) (kt : b < a → VV E nL A Q J tgt lv st) (kf : a ≤ b → VV E nL A Q J pc' lv st) : VV E nL A Q J pc lv (.int (iN b) :: .int (iN a) :: st) := by
  obtain ⟨p, l, e, R, s, m, args, below, meth, c, kc, ks⟩ := E
  obtain ⟨hx, hb, -, hown, hts, -, -, -⟩ := id hE
  subst hp
  intro H locs ls hJ hS hl
  exact lv_icmp_gt hx hb hd ht (fun h9 => kt (by first | (rw [gt_iff_lt, iN_lt hb1 ha] at h9; exact h9) | (rw [iN_lt hb1 ha] at h9; exact h9)) H locs ls hJ hS hl) (fun h9 => kf (by first | (rw [gt_iff_lt, iN_lt hb1 ha] at h9; omega) | (rw [iN_lt hb1 ha] at h9; omega)) H locs ls hJ hS hl)
theorem x_icmple {a b : Int} {off : Int} (hE : OK E cc nL own ret) (hd : decode cc pc = .ok (.if_icmp .le off, 3)) (ht : (pc : Int) + off = (tgt : Int)) (hp : pc' = pc + 3) (ha : inR a) (hb1 : inR b) (kt : a ≤ b → VV E nL A Q J tgt lv st) (kf : b < a → VV E nL A Q J pc' lv st) : VV E nL A Q J pc lv (.int (iN b) :: .int (iN a) :: st) := by
  obtain ⟨p, l, e, R, s, m, args, below, meth, c, kc, ks⟩ := E
  obtain ⟨hx, hb, -, hown, hts, -, -, -⟩ := id hE
  subst hp
  intro H locs ls hJ hS hl
  exact lv_icmp_le hx hb hd ht (fun h9 => kt (by rw [iN_le ha hb1] at h9; exact h9) H locs ls hJ hS hl) (fun h9 => kf (by rw [iN_le ha hb1] at h9; omega) H locs ls hJ hS hl)
theorem x_ifeqB {b : Bool} {off : Int} (hE : OK E cc nL own ret) (hd : decode cc pc = .ok (.ifCond .eq off, 3)) (ht : (pc : Int) + off = (tgt : Int)) (hp : pc' = pc + 3) (kt : b = false → VV E nL A Q J tgt lv st) (kf : b = true → VV E nL A Q J pc' lv st) : VV E nL A Q J pc lv (.int (bI b) :: st) := by
  obtain ⟨p, l, e, R, s, m, args, below, meth, c, kc, ks⟩ := E
  obtain ⟨hx, hb, -, hown, hts, -, -, -⟩ := id hE
  subst hp
  intro H locs ls hJ hS hl
  exact lv_if_eq hx hb hd ht (fun h9 => kt ((bI_eq0 b).mp h9) H locs ls hJ hS hl) (fun h9 => kf (by cases b; exact absurd rfl h9; rfl) H locs ls hJ hS hl)
theorem x_ifneB {b : Bool} {off : Int} (hE : OK E cc nL own ret) (hd : decode cc pc = .ok (.ifCond .ne off, 3)) (ht : (pc : Int) + off = (tgt : Int)) (hp : pc' = pc + 3) (kt : b = true → VV E nL A Q J tgt lv st) (kf : b = false → VV E nL A Q J pc' lv st) : VV E nL A Q J pc lv (.int (bI b) :: st) := by
  obtain ⟨p, l, e, R, s, m, args, below, meth, c, kc, ks⟩ := E
  obtain ⟨hx, hb, -, hown, hts, -, -, -⟩ := id hE
  subst hp
  intro H locs ls hJ hS hl
  exact lv_if_ne hx hb hd ht (fun h9 => kt (by cases b; exact absurd rfl h9; rfl) H locs ls hJ hS hl) (fun h9 => kf (by first | exact (bI_eq0 b).mp h9 | exact (bI_eq0 b).mp (Decidable.not_not.mp h9)) H locs ls hJ hS hl)
theorem x_icmpeqB {b d : Bool} {off : Int} (hE : OK E cc nL own ret) (hd : decode cc pc = .ok (.if_icmp .eq off, 3)) (ht : (pc : Int) + off = (tgt : Int)) (hp : pc' = pc + 3) (kt : b = d → VV E nL A Q J tgt lv st) (kf : ¬ b = d → VV E nL A Q J pc' lv st) : VV E nL A Q J pc lv (.int (bI d) :: .int (bI b) :: st) := by
  obtain ⟨p, l, e, R, s, m, args, below, meth, c, kc, ks⟩ := E
  obtain ⟨hx, hb, -, hown, hts, -, -, -⟩ := id hE
  subst hp
  intro H locs ls hJ hS hl
  exact lv_icmp_eq hx hb hd ht (fun h9 => kt (by cases b <;> cases d <;> first | rfl | (exact absurd h9 (by decide +kernel)) | (intro z; cases z) | (exact fun z => absurd rfl h9)) H locs ls hJ hS hl) (fun h9 => kf (by cases b <;> cases d <;> first | rfl | (exact absurd h9 (by decide +kernel)) | (intro z; cases z) | (exact fun z => absurd rfl h9) | (exact absurd (by decide +kernel) h9)) H locs ls hJ hS hl)
theorem x_icmpneB {b d : Bool} {off : Int} (hE : OK E cc nL own ret) (hd : decode cc pc = .ok (.if_icmp .ne off, 3)) (ht : (pc : Int) + off = (tgt : Int)) (hp : pc' = pc + 3) (kt : ¬ b = d → VV E nL A Q J tgt lv st) (kf : b = d → VV E nL A Q J pc' lv st) : VV E nL A Q J pc lv (.int (bI d) :: .int (bI b) :: st) := by
  obtain ⟨p, l, e, R, s, m, args, below, meth, c, kc, ks⟩ := E
  obtain ⟨hx, hb, -, hown, hts, -, -, -⟩ := id hE
  subst hp
  intro H locs ls hJ hS hl
  exact lv_icmp_ne hx hb hd ht (fun h9 => kt (by cases b <;> cases d <;> first | rfl | (exact absurd h9 (by decide +kernel)) | (intro z; cases z) | (exact fun z => absurd rfl h9)) H locs ls hJ hS hl) (fun h9 => kf (by cases b <;> cases d <;> first | rfl | (exact absurd h9 (by decide +kernel)) | (intro z; cases z) | (exact fun z => absurd rfl h9) | (exact absurd (by decide +kernel) h9)) H locs ls hJ hS hl)
theorem x_tabIn {dflt lo hi : Int} {offs : Array Int} {len : Nat} {a off : Int} (hE : OK E cc nL own ret) (hd : decode cc pc = .ok (.tableswitch dflt lo hi offs, len)) (ha : inR a) (h1 : lo ≤ a) (h2 : a ≤ hi) (ho : offs[(a - lo).toNat]? = some off) (ht : (pc : Int) + off = (tgt : Int)) (k : VV E nL A Q J tgt lv st) : VV E nL A Q J pc lv (.int (iN a) :: st) := by
  obtain ⟨p, l, e, R, s, m, args, below, meth, c, kc, ks⟩ := E
  obtain ⟨hx, hb, -, hown, hts, -, -, -⟩ := id hE
  intro H locs ls hJ hS hl
  exact lv_tableIn hx hb hd (by rw [iN_toInt ha]; omega) (by rw [iN_toInt ha]; omega) (by rw [iN_toInt ha]; exact ho) ht (k H locs ls hJ hS hl)
theorem x_tabOut {dflt lo hi : Int} {offs : Array Int} {len : Nat} {a : Int} (hE : OK E cc nL own ret) (hd : decode cc pc = .ok (.tableswitch dflt lo hi offs, len)) (ha : inR a) (h1 : a < lo ∨ hi < a) (ht : (pc : Int) + dflt = (tgt : Int)) (k : VV E nL A Q J tgt lv st) : VV E nL A Q J pc lv (.int (iN a) :: st) := by
  obtain ⟨p, l, e, R, s, m, args, below, meth, c, kc, ks⟩ := E
  obtain ⟨hx, hb, -, hown, hts, -, -, -⟩ := id hE
  intro H locs ls hJ hS hl
  exact lv_tableOut hx hb hd (by rw [iN_toInt ha]; exact h1) ht (k H locs ls hJ hS hl)
end XR
end
section
/-! a system: its cells by kind, world, number, each told by a row of whole numbers -/
abbrev SY : Type := va_G × List (ClassId × FieldType) × (Nat → Nat → Int → Nat) × List (Nat × Nat × Int) × (Nat → Nat → Int → (Int → Int) → va_E) × (State → Heap → Prop)
abbrev St : Type := Nat → Nat → Int → Int → Int
abbrev yD (Y : SY) : va_G := Y.1
abbrev yT (Y : SY) : List (ClassId × FieldType) := Y.2.1
abbrev yA (Y : SY) : Nat → Nat → Int → Nat := Y.2.2.1
abbrev yI (Y : SY) : List (Nat × Nat × Int) := Y.2.2.2.1
abbrev yC (Y : SY) : Nat → Nat → Int → (Int → Int) → va_E := Y.2.2.2.2.1
abbrev yS (Y : SY) : State → Heap → Prop := Y.2.2.2.2.2
def wsY (Y : SY) (σ : St) : va_W := (yI Y).map (fun q => (yA Y q.1 q.2.1 q.2.2, yC Y q.1 q.2.1 q.2.2 (σ q.1 q.2.1 q.2.2)))
def AS (Y : SY) : Nat → Prop := fun a => ∃ q ∈ yI Y, a = yA Y q.1 q.2.1 q.2.2
def Rh (Y : SY) (σ : St) (H : Heap) : Prop := va_P (yD Y) vwCl (wsY Y σ) H ∧ va_D (AS Y) (wsY Y σ)
def Mem (Y : SY) (E : EV) : Prop := match E with
  | (_, _, _, _, s, _, _, _, _, _, _, _) => va_K (yD Y) vwCl (yT Y) s ∧ yS Y s s.heap
def YOk (Y : SY) : Prop := ∀ (u U : State) (H H1 : Heap), u.vm.Alike U.vm → yS Y u H → (∀ a : Nat, a < H.size → ¬ AS Y a → H1[a]? = H[a]?) → yS Y U H1
def Rp (Y : SY) (σ : St) (U : State) : Prop := Rh Y σ U.heap ∧ va_K (yD Y) vwCl (yT Y) U ∧ NW U ∧ yS Y U U.heap
def up (σ : St) (kd w : Nat) (i j v : Int) : St := fun a b c d => if a = kd ∧ b = w ∧ c = i ∧ d = j then v else σ a b c d
theorem up_s (σ : St) (kd w : Nat) (i j v : Int) : up σ kd w i j v kd w i j = v := by simp [up]
theorem up_n {σ : St} {kd w : Nat} {i j v : Int} {a b : Nat} {c d : Int} (h : ¬ (a = kd ∧ b = w ∧ c = i ∧ d = j)) : up σ kd w i j v a b c d = σ a b c d := by simp [up, h]
theorem up_row {σ : St} {kd w : Nat} {i j v : Int} (r : Nat × Nat × Int) (h : r ≠ (kd, w, i)) : up σ kd w i j v r.1 r.2.1 r.2.2 = σ r.1 r.2.1 r.2.2 := by
  funext d
  refine up_n (fun q => h ?_)
  obtain ⟨a, b, c⟩ := r
  simp at q
  simp [q]
theorem ws_get {Y : SY} {σ : St} {q : Nat × Nat × Int} (hq : q ∈ yI Y) : ∃ k : Nat, (yI Y)[k]? = some q ∧ (wsY Y σ)[k]? = some (yA Y q.1 q.2.1 q.2.2, yC Y q.1 q.2.1 q.2.2 (σ q.1 q.2.1 q.2.2)) := by
  obtain ⟨k, hk⟩ := List.getElem?_of_mem hq
  exact ⟨k, hk, by simp [wsY, hk]⟩
theorem ws_set {Y : SY} {A : Nat → Prop} {σ σ' : St} {q : Nat × Nat × Int} {k : Nat} {e : va_E} (hD : va_D A (wsY Y σ)) (hk : (yI Y)[k]? = some q) (he : yC Y q.1 q.2.1 q.2.2 (σ' q.1 q.2.1 q.2.2) = e) (ho : ∀ r : Nat × Nat × Int, r ≠ q → σ' r.1 r.2.1 r.2.2 = σ r.1 r.2.1 r.2.2) : (wsY Y σ).set k (yA Y q.1 q.2.1 q.2.2, e) = wsY Y σ' := by
  apply List.ext_getElem?
  intro j
  have hkl : k < (wsY Y σ).length := by
    have := (List.getElem?_eq_some_iff.mp hk).1
    simpa [wsY] using this
  rw [List.getElem?_set]
  by_cases hj : k = j
  · subst hj
    rw [if_pos rfl, if_pos hkl, wsY, List.getElem?_map, hk]
    simp [he]
  · rw [if_neg hj, wsY, wsY, List.getElem?_map, List.getElem?_map]
    cases hr : (yI Y)[j]? with
    | none => rfl
    | some r =>
      have hne : r ≠ q := by
        intro h
        subst h
        exact hj (hD.1 k j _ _ (by rw [wsY, List.getElem?_map, hk]; rfl) (by rw [wsY, List.getElem?_map, hr]; rfl) rfl)
      simp [ho r hne]
theorem ws_adr {Y : SY} {A : Nat → Prop} {σ : St} (σ' : St) (h : va_D A (wsY Y σ)) : va_D A (wsY Y σ') := by
  have key : ∀ (τ : St) (k : Nat) (x : Nat × va_E), (wsY Y τ)[k]? = some x → ∃ y, (wsY Y σ)[k]? = some y ∧ y.1 = x.1 := by
    intro τ k x hx
    rw [wsY, List.getElem?_map] at hx
    cases hq : (yI Y)[k]? with
    | none => rw [hq] at hx; cases hx
    | some q =>
      rw [hq] at hx
      cases hx
      exact ⟨(yA Y q.1 q.2.1 q.2.2, yC Y q.1 q.2.1 q.2.2 (σ q.1 q.2.1 q.2.2)), by rw [wsY, List.getElem?_map, hq]; rfl, rfl⟩
  refine ⟨fun i j x y hx hy hxy => ?_, fun k x hx => ?_⟩
  · obtain ⟨x0, h1, h2⟩ := key σ' i x hx
    obtain ⟨y0, h3, h4⟩ := key σ' j y hy
    exact h.1 i j x0 y0 h1 h3 (h2.trans (hxy.trans h4.symm))
  · obtain ⟨x0, h1, h2⟩ := key σ' k x hx
    rw [← h2]
    exact h.2 k x0 h1
theorem ws_lt {Y : SY} {σ : St} {H : Heap} (h : Rh Y σ H) {a : Nat} (ha : AS Y a) : a < H.size := by
  obtain ⟨q, hq, rfl⟩ := ha
  obtain ⟨k, -, hk⟩ := ws_get (σ := σ) hq
  exact (h.1 k _ hk).lt
/-! contracts -/
def rmD (d : Nat) : Room := { frames := d, cells := 0, slots := 0, locals := 41 * d + 41 }
def QcOf (Y : SY) (post : Option Value → St → Prop) : Array Value → State → Outcome → State → Prop := fun _ st o t => ∃ (v : Option Value) (σ' : St), o = .returned v ∧ post v σ' ∧ Rh Y σ' t.heap ∧ va_F (AS Y) st t
def Ct (l : Launch) (Y : SY) (y : MethodName) (cd : Cond) (d : Nat) (av : List Value) (σ : St) (post : Option Value → St → Prop) : Prop :=
  Met l y (cd :: TW) (rmD d) (va_Pc av (Rp Y σ)) (QcOf Y post) 0 0 (AS Y)
def Qm (Y : SY) (post : Option Value → St → Prop) (E : EV) : State → Prop := match E with
  | (_, _, _, _, s, _, args, below, _, _, k, n) => MQ below (QcOf Y post) args s k n (AS Y)
def EL (E : EV) : Launch := E.2.1
def ER (E : EV) : Room := E.2.2.2.1
def lvE : List Value → List (Option Value)
  | [] => []
  | v :: r => if v.category = 2 then some v :: none :: lvE r else some v :: lvE r
def lvOf (av : List Value) (n : Nat) : List (Option Value) := lvE av ++ List.replicate (n - (lvE av).length) none
theorem lvE_len : ∀ av : List Value, (lvE av).length = (lg_sl av).length
  | [] => rfl
  | v :: r => by
    have ih := lvE_len r
    by_cases h : v.category = 2
    · simp [lvE, lg_sl, h, ih]
    · simp [lvE, lg_sl, h, ih]
theorem lvE_args : ∀ (av : List Value) (k i : Nat) (v : Value), (lvE av)[i]? = some (some v) → (k + i, v) ∈ lv_args k av
  | [], k, i, v, h => by simp [lvE] at h
  | x :: r, k, i, v, h => by
    by_cases hc : x.category = 2
    · rw [lvE, if_pos hc] at h
      rw [lv_args, if_pos hc]
      match i, h with
      | 0, h => simp at h; subst h; exact List.mem_cons_self
      | 1, h => simp at h
      | i + 2, h =>
        have := lvE_args r (k + 2) i v (by simpa using h)
        rw [show k + (i + 2) = k + 2 + i by omega]
        exact List.mem_cons_of_mem _ this
    · rw [lvE, if_neg hc] at h
      rw [lv_args, if_neg hc]
      match i, h with
      | 0, h => simp at h; subst h; exact List.mem_cons_self
      | i + 1, h =>
        have := lvE_args r (k + 1) i v (by simpa using h)
        rw [show k + (i + 1) = k + 1 + i by omega]
        exact List.mem_cons_of_mem _ this
theorem lvh_entry {av : List Value} {n : Nat} (h : (lvE av).length ≤ n) : lvh ((lg_sl av ++ List.replicate (n - (lg_sl av).length) Slot.unset).toArray) n (lvOf av n) := by
  have h1 := lv_entry av (n := n) (by rw [← lvE_len]; exact h)
  refine ⟨h1.1, h1.2.1, by simp [lvOf]; omega, fun i v hv => ?_⟩
  by_cases hi : i < (lvE av).length
  · rw [lvOf, List.getElem?_append_left hi] at hv
    have := lvE_args av 0 i v hv
    rw [Nat.zero_add] at this
    exact h1.2.2 (i, v) this
  · rw [lvOf, List.getElem?_append_right (by omega)] at hv
    have := List.eq_of_mem_replicate (List.mem_of_getElem? hv)
    cases this
theorem Ct_of {l : Launch} {Y : SY} {y : MethodName} {cc : ByteArray} {nL : Nat} {ret : Option FieldType} {d : Nat} {av : List Value} {σ : St} {post : Option Value → St → Prop} {own : String} (lv : List (Option Value)) (hy : plainName y.cls = true) (hyc : y.cls = own) (hn : (lvE av).length ≤ nL) (hlv : lvOf av nL = lv)
    (body : ∀ E : EV, OK E cc nL own ret → Mem Y E → EL E = l → ER E = rmD d → VV E nL (AS Y) (Qm Y post E) (Rh Y σ) 0 lv []) : Ct l Y y (.code y cc nL ret) d av σ post := by
  refine Met.ofW (cc := cc) (maxL := nL) (ret := ret) hy rfl ?_
  intro p e s m args below meth c s₁ B hml hv
  obtain ⟨rfl, hR, hK, hN, hSt⟩ := hv
  have hts := atoms_spec (ws := Cond.code y cc nL ret :: TW) B.pre
  have hown : s.vm.findClass y.cls = some m.cls := findClass_of_methodNamed B.named
  have key := body (p, l, e, (headSpec (Cond.code y cc nL ret :: TW) (rmD d)).room, s, m, av.toArray, below, meth, c, 0, 0) ⟨B.exec, B.bytes, hml, hyc ▸ hown, fun w hw => hts w (List.mem_cons_of_mem _ hw), hN, B.notSynchronized, B.returns, Nat.zero_le _, Nat.zero_le _⟩ ⟨hK, hSt⟩ rfl rfl
  have hl := lvh_entry hn
  rw [hlv] at hl
  rw [lg_entry_eq]
  exact key s.heap [] _ hR va_S.rf hl
/-! a call goes on behind it -/
theorem run_go {p : Program} {l : Launch} {e : Env} {R : Room} {s : State} {m : MethodId} {args : Array Value} {below : List Frame} {meth : Method} {c : Code} {H : Heap} {locs : List Loc} {cells slots : Nat} {Q : State → Prop} {Y : SY} {post : Option Value → St → Prop} {pc : Nat} {ls : Array Slot} {st0 rest : List Value} {a : Array Value} {A0 : Nat → Prop} {H0 : Heap}
    (hr : va_Run p l e R s m args below meth c H locs cells slots 0 0 (F0 m pc ls st0) rest (QcOf Y post a) (AS Y)) (hS : va_S A0 H0 H locs) (hA : ∀ q, AS Y q → A0 q)
    (kk : ∀ (v : Option Value) (σ' : St) (H1 : Heap) (locs1 : List Loc), post v σ' → Rh Y σ' H1 → H.size ≤ H1.size → (∀ q : Nat, q < H.size → ¬ AS Y q → H1[q]? = H[q]?) → va_S A0 H0 H1 locs1 → W p l e R s m args below meth c H1 locs1 cells slots Q (F0 m (pc + 3) ls (v.toList ++ rest))) : W p l e R s m args below meth c H locs cells slots Q (F0 m pc ls st0) := by
  intro T hT X
  obtain ⟨v, st₀, t, T', L, h0, X', hL, e1, e2, ⟨v', σ', hv, hp, hR, hz, hk⟩, st⟩ := hr T hT X
  cases hv
  rw [h0] at hz hk
  obtain ⟨t2, a1, b1⟩ := kk v σ' T'.heap (locs ++ L) hp (by rw [e1]; exact hR) (by rw [e1]; exact hz) (fun q h1 h2 => by rw [e1]; exact hk q h1 h2)
    ⟨Nat.le_trans hS.1 (by rw [e1]; exact hz), fun q h1 h2 => by rw [e1, hk q (Nat.lt_of_lt_of_le h1 hS.1) (fun z => h2 (hA q z))]; exact hS.2.1 q h1 h2, fun q hq => by
      rcases List.mem_append.mp hq with h | h
      · exact hS.2.2 q h
      · exact hA _ (hL q h)⟩ T' rfl X'
  exact ⟨t2, st t2 a1, b1⟩
def Callee (y : MethodName) (C : String) (bytes : ByteArray) (maxL : Nat) (rt : Option FieldType) (n : Nat) : Prop :=
  y.cls = C ∧ (y.cls ≠ "java/lang/invoke/MethodHandle" ∧ y.cls ≠ "java/lang/invoke/VarHandle" ∧ (parseMethodDescriptor y.desc).map (fun d => d.parameters.length) = some n) ∧ maxL ≤ 20 ∧ Cond.instanceMethod y ∈ TW ∧ Cond.selects C y y ∈ TW ∧ Cond.initialized C ∈ TW ∧ Cond.code y bytes maxL rt ∈ TW
def CalleeS (y : MethodName) (C : String) (bytes : ByteArray) (maxL : Nat) (rt : Option FieldType) (n : Nat) : Prop :=
  y.cls = C ∧ (y.cls ≠ "java/lang/invoke/MethodHandle" ∧ y.cls ≠ "java/lang/invoke/VarHandle" ∧ (parseMethodDescriptor y.desc).map (fun d => d.parameters.length) = some n) ∧ maxL ≤ 20 ∧ Cond.static y ∈ TW ∧ Cond.initialized C ∈ TW ∧ Cond.code y bytes maxL rt ∈ TW
def Recv (Y : SY) (E : EV) (σ : St) (b : Nat) (C : String) : Prop := match E with
  | (_, _, _, _, s, _, _, _, _, _, _, _) => ∀ (H : Heap) (locs : List Loc), Rh Y σ H → va_S (AS Y) s.heap H locs → ∃ cellB : Cell, H[b]? = some cellB ∧ cellB.vm.isStatics = false ∧ s.vm.findClass C = some cellB.cls
theorem rcv_of {Y : SY} {E : EV} {σ : St} (hM : Mem Y E) {q : Nat × Nat × Int} (hq : q ∈ yI Y) {ci : Nat} {fs : List Value} {r : vw_C} (hc : yC Y q.1 q.2.1 q.2.2 (σ q.1 q.2.1 q.2.2) = .inr (ci, fs)) (hcl : vwCl[ci]? = some r) : Recv Y E σ (yA Y q.1 q.2.1 q.2.2) r.1 := by
  obtain ⟨p, l, e, R, s, m, args, below, meth, c, kc, ks⟩ := E
  intro H locs hR hS
  obtain ⟨k, -, hk⟩ := ws_get (σ := σ) hq
  rw [hc] at hk
  exact va_recv hM.1 hR.1 hcl hk
theorem blind_Rp {Y : SY} (hY : YOk Y) (av : List Value) (σ : St) : FrameBlind (va_Pc av (Rp Y σ)) := fun a U g mk q => by
  obtain ⟨q0, qR, qK, qN, qS⟩ := q
  exact ⟨q0, qR, va_K.moved (u := U) (U := U.calling g mk a) (Vm.Alike.refl U.vm) qK, NW.same rfl qN, hY U (U.calling g mk a) U.heap _ (Vm.Alike.refl U.vm) qS (fun _ _ _ => rfl)⟩
theorem pre_Rp {Y : SY} (hY : YOk Y) {av : List Value} {σ : St} {s : State} {H : Heap} {locs : List Loc} (hK : va_K (yD Y) vwCl (yT Y) s) (hSt : yS Y s s.heap) (hN : NW s) (hR : Rh Y σ H) (hk : ∀ q : Nat, q < s.heap.size → ¬ AS Y q → H[q]? = s.heap[q]?) (U : State) (hU : U.heap = H) (hW : s.WarmedH U.vm) : va_Pc av (Rp Y σ) av.toArray U :=
  ⟨rfl, by rw [hU]; exact hR, va_K.moved hW.alike hK, NW.warm hW hN, hY s U s.heap U.heap hW.alike hSt (fun a h1 h2 => by rw [hU]; exact hk a h1 h2)⟩
section XC
variable {E : EV} {cc : ByteArray} {nL : Nat} {own : String} {ret : Option FieldType} {A : Nat → Prop} {Q : State → Prop} {pc pc' tgt : Nat} {lv lv' : List (Option Value)} {st stk : List Value} {Y : SY} {σ σ' : St} {l : Launch} {y : MethodName} {bytes : ByteArray} {maxL d d' idx b : Nat} {rt : Option FieldType} {As : List Value} {C host : String} {post : Option Value → St → Prop}
theorem x_callV (hE : OK E cc nL own ret) (hM : Mem Y E) (hY : YOk Y) (hl : EL E = l) (hR : ER E = rmD d) (hC : Ct l Y y (.code y bytes maxL rt) d' (.ref b :: As) σ post) (hcal : Callee y C bytes maxL rt As.length) (hlink : Cond.methodLink own idx y ∈ TW) (hrec : Recv Y E σ b C) (hdep : d' + 1 ≤ d)
    (hd : decode cc pc = .ok (.invokevirtual idx, 3)) (hp : pc' = pc + 3) (hstk : stk = As.reverse ++ .ref b :: st) (hcat : (st.map fun v => v.category).sum ≤ 8) (k : ∀ (v : Option Value) (σ' : St), post v σ' → VV E nL (AS Y) Q (Rh Y σ') pc' lv (v.toList ++ st)) : VV E nL (AS Y) Q (Rh Y σ) pc lv stk := by
  obtain ⟨p, l0, e, R, s, m, args, below, meth, c, kc, ks⟩ := E
  obtain ⟨hx, hb, hml, hown, hts, hN, hlocks, hret, hkc, hks⟩ := id hE
  obtain ⟨h1, h2, h3, h4, h5, h6, h7⟩ := hcal
  have hl : l0 = l := hl
  have hR : R = rmD d := hR
  subst hl; subst hR; subst hp; subst hstk
  intro H locs ls hJ hS hlv
  have hG : GoodIn TW (wsV own idx C y (Cond.code y bytes maxL rt :: TW)) := by
    have a1 : ∀ w ∈ wsV own idx C y (Cond.code y bytes maxL rt :: TW), w ∈ TW := by
      intro w hw
      simp only [wsV, List.cons_append, List.nil_append, List.mem_cons] at hw
      rcases hw with rfl | rfl | rfl | rfl | rfl | hw
      · exact hlink
      · exact h4
      · exact h5
      · exact h6
      · exact h7
      · exact hw
    exact TW_in a1 a1
  exact run_go (va_runV (As := As) (rest := st) ⟨hx, hb, hml, hown, hts⟩ hC (cwV As.length hts hG rfl rfl rfl ⟨h1, h2⟩ ⟨hdep, by show 8 + (maxL + 11) + (41 * d' + 41) ≤ 41 * d + 41; omega⟩)
    ⟨blind_Rp hY _ _, hrec H locs hJ hS, pre_Rp (locs := locs) hY hM.1 hM.2 hN hJ hS.2.1⟩ rfl rfl hlv.1 rfl (by show 2 * 0 + _ ≤ 8; omega) hd ⟨hkc, hks⟩) hS (fun q h => h) (fun v σ' H1 locs1 hp hR1 hz hk hS1 => k v σ' hp H1 locs1 ls hR1 hS1 hlv)
theorem x_callS (hE : OK E cc nL own ret) (hM : Mem Y E) (hY : YOk Y) (hl : EL E = l) (hR : ER E = rmD d) (hC : Ct l Y y (.code y bytes maxL rt) d' As σ post) (hcal : CalleeS y C bytes maxL rt As.length) (hlink : Cond.methodLink own idx y ∈ TW) (hdep : d' + 1 ≤ d)
    (hd : decode cc pc = .ok (.invokestatic idx, 3)) (hp : pc' = pc + 3) (hstk : stk = As.reverse ++ st) (hcat : (st.map fun v => v.category).sum ≤ 8) (k : ∀ (v : Option Value) (σ' : St), post v σ' → VV E nL (AS Y) Q (Rh Y σ') pc' lv (v.toList ++ st)) : VV E nL (AS Y) Q (Rh Y σ) pc lv stk := by
  obtain ⟨p, l0, e, R, s, m, args, below, meth, c, kc, ks⟩ := E
  obtain ⟨hx, hb, hml, hown, hts, hN, hlocks, hret, hkc, hks⟩ := id hE
  obtain ⟨h1, h2, h3, h4, h6, h7⟩ := hcal
  have hl : l0 = l := hl
  have hR : R = rmD d := hR
  subst hl; subst hR; subst hp; subst hstk
  intro H locs ls hJ hS hlv
  have hG : GoodIn TW (va_wsS own idx y (Cond.code y bytes maxL rt :: TW)) := by
    have a1 : ∀ w ∈ va_wsS own idx y (Cond.code y bytes maxL rt :: TW), w ∈ TW := by
      intro w hw
      simp only [va_wsS, List.cons_append, List.nil_append, List.mem_cons] at hw
      rcases hw with rfl | rfl | rfl | rfl | hw
      · exact hlink
      · exact h4
      · rw [h1]; exact h6
      · exact h7
      · exact hw
    exact TW_in a1 a1
  exact run_go (va_runS (As := As) (rest := st) ⟨hx, hb, hml, hown, hts⟩ hC (va_cwS As.length hts hG rfl rfl rfl h2 ⟨hdep, by show 8 + (maxL + 11) + (41 * d' + 41) ≤ 41 * d + 41; omega⟩)
    ⟨blind_Rp hY _ _, pre_Rp (locs := locs) hY hM.1 hM.2 hN hJ hS.2.1⟩ rfl rfl hlv.1 rfl (by show 2 * 0 + _ ≤ 8; omega) hd ⟨hkc, hks⟩) hS (fun q h => h) (fun v σ' H1 locs1 hp hR1 hz hk hS1 => k v σ' hp H1 locs1 ls hR1 hS1 hlv)
theorem x_callSN (hE : OK E cc nL own ret) (hM : Mem Y E) (hY : YOk Y) (hl : EL E = l) (hR : ER E = rmD d) (hC : Ct l Y y (.code y bytes maxL rt) d' As σ post) (hcal : CalleeS y C bytes maxL rt As.length) (hlink : ∀ U : State, NW U → va_Nw (.methodLinkNest own idx y host) U) (hdep : d' + 1 ≤ d)
    (hd : decode cc pc = .ok (.invokestatic idx, 3)) (hp : pc' = pc + 3) (hstk : stk = As.reverse ++ st) (hcat : (st.map fun v => v.category).sum ≤ 8) (k : ∀ (v : Option Value) (σ' : St), post v σ' → VV E nL (AS Y) Q (Rh Y σ') pc' lv (v.toList ++ st)) : VV E nL (AS Y) Q (Rh Y σ) pc lv stk := by
  obtain ⟨p, l0, e, R, s, m, args, below, meth, c, kc, ks⟩ := E
  obtain ⟨hx, hb, hml, hown, hts, hN, hlocks, hret, hkc, hks⟩ := id hE
  obtain ⟨h1, h2, h3, h4, h6, h7⟩ := hcal
  have hl : l0 = l := hl
  have hR : R = rmD d := hR
  subst hl; subst hR; subst hp; subst hstk
  intro H locs ls hJ hS hlv
  have hG : GoodIn TW (Cond.code y bytes maxL rt :: TW) := by
    have a1 : ∀ w ∈ (Cond.code y bytes maxL rt :: TW), w ∈ TW := by
      intro w hw
      rcases List.mem_cons.mp hw with rfl | hw
      · exact h7
      · exact hw
    exact TW_in a1 a1
  exact run_go (va_runSN (As := As) (rest := st) ⟨hx, hb, hml, hown, hts⟩ hC ⟨va_cnB As.length hts hG rfl rfl rfl (hlink s hN) (by rw [h1]; exact hts _ h6) h2 ⟨hdep, by show 8 + (maxL + 11) + (41 * d' + 41) ≤ 41 * d + 41; omega⟩, hts _ h4, trivial⟩
    ⟨blind_Rp hY _ _, pre_Rp (locs := locs) hY hM.1 hM.2 hN hJ hS.2.1⟩ rfl rfl hlv.1 rfl (by show 2 * 0 + _ ≤ 8; omega) hd ⟨hkc, hks⟩) hS (fun q h => h) (fun v σ' H1 locs1 hp hR1 hz hk hS1 => k v σ' hp H1 locs1 ls hR1 hS1 hlv)
/-! returns -/
theorem x_iret {x : Int32} (hE : OK E cc nL own (some .int)) (hd : decode cc pc = .ok (.ireturn, 1)) (hq : post (some (.int x)) σ) : VV E nL (AS Y) (Qm Y post E) (Rh Y σ) pc lv [.int x] := by
  obtain ⟨p, l0, e, R, s, m, args, below, meth, c, kc, ks⟩ := E
  obtain ⟨hx, hb, hml, hown, hts, hN, hlocks, hret, hkc, hks⟩ := id hE
  intro H locs ls hJ hS hlv
  exact W.iret (v := x) hx hb hret (fun t ht hW => ⟨_, σ, rfl, hq, by rw [ht]; exact hJ, hS.F ht⟩) hS.2.2 hd hlocks
theorem x_zret {x : Int32} (hE : OK E cc nL own (some .boolean)) (hd : decode cc pc = .ok (.ireturn, 1)) (hn : narrow .boolean (.int x) = .int x) (hq : post (some (.int x)) σ) : VV E nL (AS Y) (Qm Y post E) (Rh Y σ) pc lv [.int x] := by
  obtain ⟨p, l0, e, R, s, m, args, below, meth, c, kc, ks⟩ := E
  obtain ⟨hx, hb, hml, hown, hts, hN, hlocks, hret, hkc, hks⟩ := id hE
  intro H locs ls hJ hS hlv
  exact W.zret (v := x) hx hb hret hn (fun t ht hW => ⟨_, σ, rfl, hq, by rw [ht]; exact hJ, hS.F ht⟩) hS.2.2 hd hlocks
theorem x_lret {x : Int64} (hE : OK E cc nL own (some .long)) (hd : decode cc pc = .ok (.lreturn, 1)) (hq : post (some (.long x)) σ) : VV E nL (AS Y) (Qm Y post E) (Rh Y σ) pc lv [.long x] := by
  obtain ⟨p, l0, e, R, s, m, args, below, meth, c, kc, ks⟩ := E
  obtain ⟨hx, hb, hml, hown, hts, hN, hlocks, hret, hkc, hks⟩ := id hE
  intro H locs ls hJ hS hlv
  exact W.lret (v := x) hx hb hret (fun t ht hW => ⟨_, σ, rfl, hq, by rw [ht]; exact hJ, hS.F ht⟩) hS.2.2 hd hlocks
theorem x_vret (hE : OK E cc nL own none) (hd : decode cc pc = .ok (.return_, 1)) (hq : post none σ) : VV E nL (AS Y) (Qm Y post E) (Rh Y σ) pc lv [] := by
  obtain ⟨p, l0, e, R, s, m, args, below, meth, c, kc, ks⟩ := E
  obtain ⟨hx, hb, hml, hown, hts, hN, hlocks, hret, hkc, hks⟩ := id hE
  intro H locs ls hJ hS hlv
  exact W.vret hx hb hret (fun t ht hW => ⟨_, σ, rfl, hq, by rw [ht]; exact hJ, hS.F ht⟩) hS.2.2 hd hlocks
theorem nz_b (b : Bool) : narrow .boolean (.int (bI b)) = .int (bI b) := by cases b <;> rfl
/-! fields -/
theorem x_get {q : Nat × Nat × Int} {ci N j : Nat} {fs : List Value} {T : u_T} {ref : String} {v : Value} (hE : OK E cc nL own ret) (hM : Mem Y E) (hq : q ∈ yI Y) (hc : yC Y q.1 q.2.1 q.2.2 (σ q.1 q.2.1 q.2.2) = .inr (ci, fs)) (hcl : vwCl[ci]? = some (C, T, N)) (hj : j < N) (hin : ∀ w ∈ u_ws C T N, w ∈ TW) (hlink : Cond.fieldLink own idx ref (T j).2.1 (T j).2.2.1 ∈ TW) (hsame : (T j).1 = ref) (hv : fs[j]? = some v)
    (hd : decode cc pc = .ok (.getfield idx, 3)) (hp : pc' = pc + 3) (k : VV E nL A Q (Rh Y σ) pc' lv (v :: st)) : VV E nL A Q (Rh Y σ) pc lv (.ref (yA Y q.1 q.2.1 q.2.2) :: st) := by
  obtain ⟨p, l0, e, R, s, m, args, below, meth, c, kc, ks⟩ := E
  obtain ⟨hx, hb, hml, hown, hts, hN, hlocks, hret, hkc, hks⟩ := id hE
  subst hp; subst hsame
  intro H locs ls hJ hS hlv
  obtain ⟨kq, -, hk⟩ := ws_get (σ := σ) hq
  rw [hc] at hk
  exact va_get (D := yD Y) hx hb hts hin hown hM.1 hJ.1 kq hk hcl j hj (hts _ hlink) (fun _ h9 => h9) hv hd (k H locs ls hJ hS hlv)
theorem x_getN {q : Nat × Nat × Int} {ci N j : Nat} {fs : List Value} {T : u_T} {ref : String} {v : Value} (hE : OK E cc nL own ret) (hM : Mem Y E) (hq : q ∈ yI Y) (hc : yC Y q.1 q.2.1 q.2.2 (σ q.1 q.2.1 q.2.2) = .inr (ci, fs)) (hcl : vwCl[ci]? = some (C, T, N)) (hj : j < N) (hin : ∀ w ∈ u_ws C T N, w ∈ TW) (hlink : ∀ U : State, NW U → va_Nw (.fieldLinkNest own idx ref (T j).2.1 (T j).2.2.1 host) U) (hsame : (T j).1 = ref) (hv : fs[j]? = some v)
    (hd : decode cc pc = .ok (.getfield idx, 3)) (hp : pc' = pc + 3) (k : VV E nL A Q (Rh Y σ) pc' lv (v :: st)) : VV E nL A Q (Rh Y σ) pc lv (.ref (yA Y q.1 q.2.1 q.2.2) :: st) := by
  obtain ⟨p, l0, e, R, s, m, args, below, meth, c, kc, ks⟩ := E
  obtain ⟨hx, hb, hml, hown, hts, hN, hlocks, hret, hkc, hks⟩ := id hE
  subst hp; subst hsame
  intro H locs ls hJ hS hlv
  obtain ⟨kq, -, hk⟩ := ws_get (σ := σ) hq
  rw [hc] at hk
  exact va_getN (D := yD Y) hx hb hts hin hown hM.1 hJ.1 kq hk hcl j hj (va_Nw.use rfl (hlink s hN)) (fun _ h9 => h9) hv hd (k H locs ls hJ hS hlv)
theorem x_put {q : Nat × Nat × Int} {ci N j : Nat} {fs : List Value} {T : u_T} {tf : Nat → FieldType} {ty : FieldType} {ref : String} {v : Value} (hE : OK E cc nL own ret) (hM : Mem Y E) (hq : q ∈ yI Y) (hc : yC Y q.1 q.2.1 q.2.2 (σ q.1 q.2.1 q.2.2) = .inr (ci, fs)) (hcl : vwCl[ci]? = some (C, T, N)) (hj : j < N) (hin : ∀ w ∈ u_ws C T N, w ∈ TW) (hty : ∀ k, k < N → parseFieldDescriptor (T k).2.2.1 = some (tf k)) (hnm : ∀ a, a < N → ∀ b, b < N → a ≠ b → (T a).2.1 ≠ (T b).2.1) (hlink : Cond.fieldLink own idx ref (T j).2.1 (T j).2.2.1 ∈ TW) (hsame : (T j).1 = ref) (hfin : (T j).2.2.2 = false) (hpd : parseFieldDescriptor (T j).2.2.1 = some ty) (hn : narrow ty v = v) (hfit : fits ty v = true) (hl : j < fs.length) (hc' : yC Y q.1 q.2.1 q.2.2 (σ' q.1 q.2.1 q.2.2) = .inr (ci, fs.set j v)) (ho : ∀ r : Nat × Nat × Int, r ≠ q → σ' r.1 r.2.1 r.2.2 = σ r.1 r.2.1 r.2.2)
    (hd : decode cc pc = .ok (.putfield idx, 3)) (hp : pc' = pc + 3) (k : VV E nL (AS Y) Q (Rh Y σ') pc' lv st) : VV E nL (AS Y) Q (Rh Y σ) pc lv (v :: .ref (yA Y q.1 q.2.1 q.2.2) :: st) := by
  obtain ⟨p, l0, e, R, s, m, args, below, meth, c, kc, ks⟩ := E
  obtain ⟨hx, hb, hml, hown, hts, hN, hlocks, hret, hkc, hks⟩ := id hE
  subst hp; subst hsame
  intro H locs ls hJ hS hlv
  obtain ⟨kq, hk0, hk⟩ := ws_get (σ := σ) hq
  rw [hc] at hk
  exact va_put (D := yD Y) hx hb hts hin tf hty hnm hown hM.1 hJ.1 hJ.2 hS kq hk hcl j hj (hts _ hlink) (fun _ h9 => h9) hfin hpd hn hfit hl hd (fun H1 locs1 hP hD hS1 => by
    have e1 := ws_set hJ.2 hk0 hc' ho
    rw [e1] at hP hD
    exact k H1 locs1 ls ⟨hP, hD⟩ hS1 hlv)
theorem x_putN {q : Nat × Nat × Int} {ci N j : Nat} {fs : List Value} {T : u_T} {tf : Nat → FieldType} {ty : FieldType} {ref : String} {v : Value} (hE : OK E cc nL own ret) (hM : Mem Y E) (hq : q ∈ yI Y) (hc : yC Y q.1 q.2.1 q.2.2 (σ q.1 q.2.1 q.2.2) = .inr (ci, fs)) (hcl : vwCl[ci]? = some (C, T, N)) (hj : j < N) (hin : ∀ w ∈ u_ws C T N, w ∈ TW) (hty : ∀ k, k < N → parseFieldDescriptor (T k).2.2.1 = some (tf k)) (hnm : ∀ a, a < N → ∀ b, b < N → a ≠ b → (T a).2.1 ≠ (T b).2.1) (hlink : ∀ U : State, NW U → va_Nw (.fieldLinkNest own idx ref (T j).2.1 (T j).2.2.1 host) U) (hsame : (T j).1 = ref) (hfin : (T j).2.2.2 = false) (hpd : parseFieldDescriptor (T j).2.2.1 = some ty) (hn : narrow ty v = v) (hfit : fits ty v = true) (hl : j < fs.length) (hc' : yC Y q.1 q.2.1 q.2.2 (σ' q.1 q.2.1 q.2.2) = .inr (ci, fs.set j v)) (ho : ∀ r : Nat × Nat × Int, r ≠ q → σ' r.1 r.2.1 r.2.2 = σ r.1 r.2.1 r.2.2)
    (hd : decode cc pc = .ok (.putfield idx, 3)) (hp : pc' = pc + 3) (k : VV E nL (AS Y) Q (Rh Y σ') pc' lv st) : VV E nL (AS Y) Q (Rh Y σ) pc lv (v :: .ref (yA Y q.1 q.2.1 q.2.2) :: st) := by
  obtain ⟨p, l0, e, R, s, m, args, below, meth, c, kc, ks⟩ := E
  obtain ⟨hx, hb, hml, hown, hts, hN, hlocks, hret, hkc, hks⟩ := id hE
  subst hp; subst hsame
  intro H locs ls hJ hS hlv
  obtain ⟨kq, hk0, hk⟩ := ws_get (σ := σ) hq
  rw [hc] at hk
  exact va_putN (D := yD Y) hx hb hts hin tf hty hnm hown hM.1 hJ.1 hJ.2 hS kq hk hcl j hj (va_Nw.use rfl (hlink s hN)) (fun _ h9 => h9) hfin hpd hn hfit hl hd (fun H1 locs1 hP hD hS1 => by
    have e1 := ws_set hJ.2 hk0 hc' ho
    rw [e1] at hP hD
    exact k H1 locs1 ls ⟨hP, hD⟩ hS1 hlv)
/-! arrays -/
theorem x_iald {q : Nat × Nat × Int} {n t0 : Nat} {cA : ClassId} {ρ : Int → Int} {z : Int} (hE : OK E cc nL own ret) (hM : Mem Y E) (hq : q ∈ yI Y) (hc : yC Y q.1 q.2.1 q.2.2 (σ q.1 q.2.1 q.2.2) = .inl (cA, n, .inl (fun j => iN (ρ j)))) (ht : (yT Y)[t0]? = some (cA, .int)) (hn : n < 2147483648) (h0 : 0 ≤ z) (h1 : z < (n : Int)) (hd : decode cc pc = .ok (.iaload, 1)) (hp : pc' = pc + 1) (k : VV E nL A Q (Rh Y σ) pc' lv (.int (iN (ρ z)) :: st)) : VV E nL A Q (Rh Y σ) pc lv (.int (iN z) :: .ref (yA Y q.1 q.2.1 q.2.2) :: st) := by
  obtain ⟨p, l0, e, R, s, m, args, below, meth, c, kc, ks⟩ := E
  obtain ⟨hx, hb, hml, hown, hts, hN, hlocks, hret, hkc, hks⟩ := id hE
  subst hp
  intro H locs ls hJ hS hlv
  obtain ⟨kq, hk0, hk⟩ := ws_get (σ := σ) hq
  rw [hc] at hk
  refine va_iald (D := yD Y) hx hb hM.1 hJ.1 kq t0 hk ht (iN_vin h0 h1 hn) hd ?_
  show W p l0 e R s m args below meth c H locs kc ks Q (F0 m (pc + 1) ls (.int (iN (ρ ((iN z).toNatClampNeg : Nat))) :: st))
  rw [iN_nat z h0 (by omega), Int.toNat_of_nonneg h0]
  exact k H locs ls hJ hS hlv
theorem x_bald {q : Nat × Nat × Int} {n t0 : Nat} {cA : ClassId} {ρ : Int → Int} {z : Int} (hE : OK E cc nL own ret) (hM : Mem Y E) (hq : q ∈ yI Y) (hc : yC Y q.1 q.2.1 q.2.2 (σ q.1 q.2.1 q.2.2) = .inl (cA, n, .inl (fun j => iN (ρ j)))) (ht : (yT Y)[t0]? = some (cA, .byte)) (hn : n < 2147483648) (h0 : 0 ≤ z) (h1 : z < (n : Int)) (hd : decode cc pc = .ok (.baload, 1)) (hp : pc' = pc + 1) (k : VV E nL A Q (Rh Y σ) pc' lv (.int (iN (ρ z)) :: st)) : VV E nL A Q (Rh Y σ) pc lv (.int (iN z) :: .ref (yA Y q.1 q.2.1 q.2.2) :: st) := by
  obtain ⟨p, l0, e, R, s, m, args, below, meth, c, kc, ks⟩ := E
  obtain ⟨hx, hb, hml, hown, hts, hN, hlocks, hret, hkc, hks⟩ := id hE
  subst hp
  intro H locs ls hJ hS hlv
  obtain ⟨kq, hk0, hk⟩ := ws_get (σ := σ) hq
  rw [hc] at hk
  refine va_bald (D := yD Y) hx hb hM.1 hJ.1 kq t0 hk ht (iN_vin h0 h1 hn) hd ?_
  show W p l0 e R s m args below meth c H locs kc ks Q (F0 m (pc + 1) ls (.int (iN (ρ ((iN z).toNatClampNeg : Nat))) :: st))
  rw [iN_nat z h0 (by omega), Int.toNat_of_nonneg h0]
  exact k H locs ls hJ hS hlv
theorem x_zald {q : Nat × Nat × Int} {n t0 : Nat} {cA : ClassId} {ρ : Int → Int} {z : Int} (hE : OK E cc nL own ret) (hM : Mem Y E) (hq : q ∈ yI Y) (hc : yC Y q.1 q.2.1 q.2.2 (σ q.1 q.2.1 q.2.2) = .inl (cA, n, .inl (fun j => iN (ρ j)))) (ht : (yT Y)[t0]? = some (cA, .boolean)) (hn : n < 2147483648) (h0 : 0 ≤ z) (h1 : z < (n : Int)) (hd : decode cc pc = .ok (.baload, 1)) (hp : pc' = pc + 1) (k : VV E nL A Q (Rh Y σ) pc' lv (.int (iN (ρ z)) :: st)) : VV E nL A Q (Rh Y σ) pc lv (.int (iN z) :: .ref (yA Y q.1 q.2.1 q.2.2) :: st) := by
  obtain ⟨p, l0, e, R, s, m, args, below, meth, c, kc, ks⟩ := E
  obtain ⟨hx, hb, hml, hown, hts, hN, hlocks, hret, hkc, hks⟩ := id hE
  subst hp
  intro H locs ls hJ hS hlv
  obtain ⟨kq, hk0, hk⟩ := ws_get (σ := σ) hq
  rw [hc] at hk
  refine va_zald (D := yD Y) hx hb hM.1 hJ.1 kq t0 hk ht (iN_vin h0 h1 hn) hd ?_
  show W p l0 e R s m args below meth c H locs kc ks Q (F0 m (pc + 1) ls (.int (iN (ρ ((iN z).toNatClampNeg : Nat))) :: st))
  rw [iN_nat z h0 (by omega), Int.toNat_of_nonneg h0]
  exact k H locs ls hJ hS hlv
theorem x_cald {q : Nat × Nat × Int} {n t0 : Nat} {cA : ClassId} {ρ : Int → Int} {z : Int} (hE : OK E cc nL own ret) (hM : Mem Y E) (hq : q ∈ yI Y) (hc : yC Y q.1 q.2.1 q.2.2 (σ q.1 q.2.1 q.2.2) = .inl (cA, n, .inl (fun j => iN (ρ j)))) (ht : (yT Y)[t0]? = some (cA, .char)) (hn : n < 2147483648) (h0 : 0 ≤ z) (h1 : z < (n : Int)) (hd : decode cc pc = .ok (.caload, 1)) (hp : pc' = pc + 1) (k : VV E nL A Q (Rh Y σ) pc' lv (.int (iN (ρ z)) :: st)) : VV E nL A Q (Rh Y σ) pc lv (.int (iN z) :: .ref (yA Y q.1 q.2.1 q.2.2) :: st) := by
  obtain ⟨p, l0, e, R, s, m, args, below, meth, c, kc, ks⟩ := E
  obtain ⟨hx, hb, hml, hown, hts, hN, hlocks, hret, hkc, hks⟩ := id hE
  subst hp
  intro H locs ls hJ hS hlv
  obtain ⟨kq, hk0, hk⟩ := ws_get (σ := σ) hq
  rw [hc] at hk
  refine va_cald (D := yD Y) hx hb hM.1 hJ.1 kq t0 hk ht (iN_vin h0 h1 hn) hd ?_
  show W p l0 e R s m args below meth c H locs kc ks Q (F0 m (pc + 1) ls (.int (iN (ρ ((iN z).toNatClampNeg : Nat))) :: st))
  rw [iN_nat z h0 (by omega), Int.toNat_of_nonneg h0]
  exact k H locs ls hJ hS hlv
theorem x_aald {q : Nat × Nat × Int} {n t0 : Nat} {cA : ClassId} {f : Int → Nat} {z : Int} {Cn : String} (hE : OK E cc nL own ret) (hM : Mem Y E) (hq : q ∈ yI Y) (hc : yC Y q.1 q.2.1 q.2.2 (σ q.1 q.2.1 q.2.2) = .inl (cA, n, .inr (.inr (.inr (.inr (fun j => some (f j))))))) (ht : (yT Y)[t0]? = some (cA, .object Cn)) (hn : n < 2147483648) (h0 : 0 ≤ z) (h1 : z < (n : Int)) (hd : decode cc pc = .ok (.aaload, 1)) (hp : pc' = pc + 1) (k : VV E nL A Q (Rh Y σ) pc' lv (.ref (f z) :: st)) : VV E nL A Q (Rh Y σ) pc lv (.int (iN z) :: .ref (yA Y q.1 q.2.1 q.2.2) :: st) := by
  obtain ⟨p, l0, e, R, s, m, args, below, meth, c, kc, ks⟩ := E
  obtain ⟨hx, hb, hml, hown, hts, hN, hlocks, hret, hkc, hks⟩ := id hE
  subst hp
  intro H locs ls hJ hS hlv
  obtain ⟨kq, hk0, hk⟩ := ws_get (σ := σ) hq
  rw [hc] at hk
  refine va_aldq (D := yD Y) hx hb hM.1 hJ.1 kq t0 hk ht (iN_vin h0 h1 hn) hd ?_
  show W p l0 e R s m args below meth c H locs kc ks Q (F0 m (pc + 1) ls (.ref (f ((iN z).toNatClampNeg : Nat)) :: st))
  rw [iN_nat z h0 (by omega), Int.toNat_of_nonneg h0]
  exact k H locs ls hJ hS hlv
theorem x_alen {q : Nat × Nat × Int} {n t0 : Nat} {cA : ClassId} {a : vp_A} {ty : FieldType} (hE : OK E cc nL own ret) (hM : Mem Y E) (hq : q ∈ yI Y) (hc : yC Y q.1 q.2.1 q.2.2 (σ q.1 q.2.1 q.2.2) = .inl (cA, a)) (ht : (yT Y)[t0]? = some (cA, ty)) (hn : a.1 = n) (hd : decode cc pc = .ok (.arraylength, 1)) (hp : pc' = pc + 1) (k : VV E nL A Q (Rh Y σ) pc' lv (.int (iN n) :: st)) : VV E nL A Q (Rh Y σ) pc lv (.ref (yA Y q.1 q.2.1 q.2.2) :: st) := by
  obtain ⟨p, l0, e, R, s, m, args, below, meth, c, kc, ks⟩ := E
  obtain ⟨hx, hb, hml, hown, hts, hN, hlocks, hret, hkc, hks⟩ := id hE
  subst hp
  intro H locs ls hJ hS hlv
  obtain ⟨kq, hk0, hk⟩ := ws_get (σ := σ) hq
  rw [hc] at hk
  subst hn
  exact va_alen (D := yD Y) hx hb hM.1 hJ.1 kq t0 hk ht (iN_ofNat _) hd (k H locs ls hJ hS hlv)
theorem row_upd {ρ ρ' : Int → Int} {z v : Int} (h0 : 0 ≤ z) (hv : ρ' z = v) (ho : ∀ j : Int, j ≠ z → ρ' j = ρ j) : (fun j : Nat => iN (ρ' j)) = upd (fun j : Nat => iN (ρ j)) z.toNat (iN v) := by
  funext j
  unfold upd
  by_cases h : j = z.toNat
  · subst h
    rw [if_pos rfl, Int.toNat_of_nonneg h0, hv]
  · rw [if_neg h, ho]
    omega
theorem x_iast {q : Nat × Nat × Int} {n t0 : Nat} {cA : ClassId} {ρ ρ' : Int → Int} {z v : Int} (hE : OK E cc nL own ret) (hM : Mem Y E) (hq : q ∈ yI Y) (hc : yC Y q.1 q.2.1 q.2.2 (σ q.1 q.2.1 q.2.2) = .inl (cA, n, .inl (fun j => iN (ρ j)))) (ht : (yT Y)[t0]? = some (cA, .int)) (hn : n < 2147483648) (h0 : 0 ≤ z) (h1 : z < (n : Int)) (hc' : yC Y q.1 q.2.1 q.2.2 (σ' q.1 q.2.1 q.2.2) = .inl (cA, n, .inl (fun j => iN (ρ' j)))) (hw : ρ' z = v) (hw2 : ∀ j : Int, j ≠ z → ρ' j = ρ j) (ho : ∀ r : Nat × Nat × Int, r ≠ q → σ' r.1 r.2.1 r.2.2 = σ r.1 r.2.1 r.2.2) (hd : decode cc pc = .ok (.iastore, 1)) (hp : pc' = pc + 1) (k : VV E nL (AS Y) Q (Rh Y σ') pc' lv st) : VV E nL (AS Y) Q (Rh Y σ) pc lv (.int (iN v) :: .int (iN z) :: .ref (yA Y q.1 q.2.1 q.2.2) :: st) := by
  obtain ⟨p, l0, e, R, s, m, args, below, meth, c, kc, ks⟩ := E
  obtain ⟨hx, hb, hml, hown, hts, hN, hlocks, hret, hkc, hks⟩ := id hE
  subst hp
  intro H locs ls hJ hS hlv
  obtain ⟨kq, hk0, hk⟩ := ws_get (σ := σ) hq
  rw [hc] at hk
  refine va_iast (D := yD Y) hx hb hM.1 hJ.1 hJ.2 hS kq t0 hk ht (iN_vin h0 h1 hn) hd (fun H1 locs1 hP hD hS1 => ?_)
  · rw [iN_nat z h0 (by omega), ← row_upd h0 hw hw2, ← hc'] at hP hD
    have e1 := ws_set hJ.2 hk0 rfl ho
    rw [e1] at hP hD
    exact k H1 locs1 ls ⟨hP, hD⟩ hS1 hlv
theorem x_bast {q : Nat × Nat × Int} {n t0 : Nat} {cA : ClassId} {ρ ρ' : Int → Int} {z v : Int} (hE : OK E cc nL own ret) (hM : Mem Y E) (hq : q ∈ yI Y) (hc : yC Y q.1 q.2.1 q.2.2 (σ q.1 q.2.1 q.2.2) = .inl (cA, n, .inl (fun j => iN (ρ j)))) (ht : (yT Y)[t0]? = some (cA, .byte)) (hn : n < 2147483648) (h0 : 0 ≤ z) (h1 : z < (n : Int)) (hna : vp_nar .byte (iN v) = iN v) (hc' : yC Y q.1 q.2.1 q.2.2 (σ' q.1 q.2.1 q.2.2) = .inl (cA, n, .inl (fun j => iN (ρ' j)))) (hw : ρ' z = v) (hw2 : ∀ j : Int, j ≠ z → ρ' j = ρ j) (ho : ∀ r : Nat × Nat × Int, r ≠ q → σ' r.1 r.2.1 r.2.2 = σ r.1 r.2.1 r.2.2) (hd : decode cc pc = .ok (.bastore, 1)) (hp : pc' = pc + 1) (k : VV E nL (AS Y) Q (Rh Y σ') pc' lv st) : VV E nL (AS Y) Q (Rh Y σ) pc lv (.int (iN v) :: .int (iN z) :: .ref (yA Y q.1 q.2.1 q.2.2) :: st) := by
  obtain ⟨p, l0, e, R, s, m, args, below, meth, c, kc, ks⟩ := E
  obtain ⟨hx, hb, hml, hown, hts, hN, hlocks, hret, hkc, hks⟩ := id hE
  subst hp
  intro H locs ls hJ hS hlv
  obtain ⟨kq, hk0, hk⟩ := ws_get (σ := σ) hq
  rw [hc] at hk
  refine va_bast (D := yD Y) hx hb hM.1 hJ.1 hJ.2 hS kq t0 hk ht (iN_vin h0 h1 hn) hd (fun H1 locs1 hP hD hS1 => ?_)
  · rw [hna] at hP hD
    rw [iN_nat z h0 (by omega), ← row_upd h0 hw hw2, ← hc'] at hP hD
    have e1 := ws_set hJ.2 hk0 rfl ho
    rw [e1] at hP hD
    exact k H1 locs1 ls ⟨hP, hD⟩ hS1 hlv
theorem x_zast {q : Nat × Nat × Int} {n t0 : Nat} {cA : ClassId} {ρ ρ' : Int → Int} {z v : Int} (hE : OK E cc nL own ret) (hM : Mem Y E) (hq : q ∈ yI Y) (hc : yC Y q.1 q.2.1 q.2.2 (σ q.1 q.2.1 q.2.2) = .inl (cA, n, .inl (fun j => iN (ρ j)))) (ht : (yT Y)[t0]? = some (cA, .boolean)) (hn : n < 2147483648) (h0 : 0 ≤ z) (h1 : z < (n : Int)) (hna : vp_nar .boolean (iN v) = iN v) (hc' : yC Y q.1 q.2.1 q.2.2 (σ' q.1 q.2.1 q.2.2) = .inl (cA, n, .inl (fun j => iN (ρ' j)))) (hw : ρ' z = v) (hw2 : ∀ j : Int, j ≠ z → ρ' j = ρ j) (ho : ∀ r : Nat × Nat × Int, r ≠ q → σ' r.1 r.2.1 r.2.2 = σ r.1 r.2.1 r.2.2) (hd : decode cc pc = .ok (.bastore, 1)) (hp : pc' = pc + 1) (k : VV E nL (AS Y) Q (Rh Y σ') pc' lv st) : VV E nL (AS Y) Q (Rh Y σ) pc lv (.int (iN v) :: .int (iN z) :: .ref (yA Y q.1 q.2.1 q.2.2) :: st) := by
  obtain ⟨p, l0, e, R, s, m, args, below, meth, c, kc, ks⟩ := E
  obtain ⟨hx, hb, hml, hown, hts, hN, hlocks, hret, hkc, hks⟩ := id hE
  subst hp
  intro H locs ls hJ hS hlv
  obtain ⟨kq, hk0, hk⟩ := ws_get (σ := σ) hq
  rw [hc] at hk
  refine va_zast (D := yD Y) hx hb hM.1 hJ.1 hJ.2 hS kq t0 hk ht (iN_vin h0 h1 hn) hd (fun H1 locs1 hP hD hS1 => ?_)
  · rw [hna] at hP hD
    rw [iN_nat z h0 (by omega), ← row_upd h0 hw hw2, ← hc'] at hP hD
    have e1 := ws_set hJ.2 hk0 rfl ho
    rw [e1] at hP hD
    exact k H1 locs1 ls ⟨hP, hD⟩ hS1 hlv
theorem x_cast {q : Nat × Nat × Int} {n t0 : Nat} {cA : ClassId} {ρ ρ' : Int → Int} {z v : Int} (hE : OK E cc nL own ret) (hM : Mem Y E) (hq : q ∈ yI Y) (hc : yC Y q.1 q.2.1 q.2.2 (σ q.1 q.2.1 q.2.2) = .inl (cA, n, .inl (fun j => iN (ρ j)))) (ht : (yT Y)[t0]? = some (cA, .char)) (hn : n < 2147483648) (h0 : 0 ≤ z) (h1 : z < (n : Int)) (hna : vp_nar .char (iN v) = iN v) (hc' : yC Y q.1 q.2.1 q.2.2 (σ' q.1 q.2.1 q.2.2) = .inl (cA, n, .inl (fun j => iN (ρ' j)))) (hw : ρ' z = v) (hw2 : ∀ j : Int, j ≠ z → ρ' j = ρ j) (ho : ∀ r : Nat × Nat × Int, r ≠ q → σ' r.1 r.2.1 r.2.2 = σ r.1 r.2.1 r.2.2) (hd : decode cc pc = .ok (.castore, 1)) (hp : pc' = pc + 1) (k : VV E nL (AS Y) Q (Rh Y σ') pc' lv st) : VV E nL (AS Y) Q (Rh Y σ) pc lv (.int (iN v) :: .int (iN z) :: .ref (yA Y q.1 q.2.1 q.2.2) :: st) := by
  obtain ⟨p, l0, e, R, s, m, args, below, meth, c, kc, ks⟩ := E
  obtain ⟨hx, hb, hml, hown, hts, hN, hlocks, hret, hkc, hks⟩ := id hE
  subst hp
  intro H locs ls hJ hS hlv
  obtain ⟨kq, hk0, hk⟩ := ws_get (σ := σ) hq
  rw [hc] at hk
  refine va_cast (D := yD Y) hx hb hM.1 hJ.1 hJ.2 hS kq t0 hk ht (iN_vin h0 h1 hn) hd (fun H1 locs1 hP hD hS1 => ?_)
  · rw [hna] at hP hD
    rw [iN_nat z h0 (by omega), ← row_upd h0 hw hw2, ← hc'] at hP hD
    have e1 := ws_set hJ.2 hk0 rfl ho
    rw [e1] at hP hD
    exact k H1 locs1 ls ⟨hP, hD⟩ hS1 hlv
end XC
end
section
/-! the reference's cells: 0 the object, 1 to 20 its rows (10 the page, of bytes) -/
abbrev GM : Type := va_G × (Nat → Nat) × ClassId × ClassId
def aM (G : GM) (kd : Nat) : Nat := G.2.1 kd
def lenM (kd : Nat) : Nat := [0, 6, 8, 4, 4, 4, 5, 5, 5, 8, 24, 6, 8, 5, 5, 5, 8, 8, 5, 5, 5].getD kd 0
def idsM : List (Nat × Nat × Int) := (List.range 21).map (fun k => (k, 0, 0))
theorem idM {k : Nat} (h : k < 21) : (k, 0, 0) ∈ idsM := List.mem_map.mpr ⟨k, List.mem_range.mpr h, rfl⟩
def cfM (G : GM) (kd _w : Nat) (_i : Int) (ρ : Int → Int) : va_E := if kd = 0 then .inr (8, [.int (iN (ρ 0)), .int (iN (ρ 1)), .ref (aM G 1), .int (iN (ρ 3)), .ref (aM G 2), .int (iN (ρ 5)), .ref (aM G 3), .ref (aM G 4), .ref (aM G 5), .int (iN (ρ 9)), .ref (aM G 6), .ref (aM G 7), .ref (aM G 8), .int (iN (ρ 13)), .int (iN (ρ 14)), .int (iN (ρ 15)), .ref (aM G 9), .int (iN (ρ 17)), .int (iN (ρ 18)), .ref (aM G 10), .int (iN (ρ 20)), .int (iN (ρ 21)), .int (iN (ρ 22)), .ref (aM G 11), .int (iN (ρ 24)), .ref (aM G 12), .ref (aM G 13), .ref (aM G 14), .ref (aM G 15), .long (lL (ρ 29)), .int (iN (ρ 30)), .int (iN (ρ 31)), .int (iN (ρ 32)), .int (iN (ρ 33)), .int (iN (ρ 34)), .int (iN (ρ 35)), .int (iN (ρ 36)), .ref (aM G 16), .ref (aM G 17), .ref (aM G 18), .ref (aM G 19), .ref (aM G 20), .long (lL (ρ 42))]) else if kd = 10 then .inl (G.2.2.2, 24, .inl (fun j => iN (ρ j))) else .inl (G.2.2.1, lenM kd, .inl (fun j => iN (ρ j)))
def YM (G : GM) : SY := (G.1, [(G.2.2.1, .int), (G.2.2.2, .byte)], fun kd _ _ => aM G kd, idsM, cfM G, fun _ _ => True)
theorem okM (G : GM) : YOk (YM G) := fun _ _ _ _ _ _ _ => trivial
theorem rcvM {G : GM} {E : EV} {σ : St} (hM : Mem (YM G) E) : Recv (YM G) E σ (aM G 0) RX9 := rcv_of hM (q := (0, 0, 0)) (idM (by decide)) rfl rfl

section MR
variable {E : EV} {cc : ByteArray} {nL : Nat} {own : String} {ret : Option FieldType} {A : Nat → Prop} {Q : State → Prop} {pc pc' idx : Nat} {lv : List (Option Value)} {st : List Value} {σ : St} {G : GM}
theorem gM_0 (hE : OK E cc nL own ret) (hM : Mem (YM G) E) (hw : Cond.fieldLink own idx "WolfCalendarModel" "reads" "I" ∈ TW) (hd : decode cc pc = .ok (.getfield idx, 3)) (hp : pc' = pc + 3) (k : VV E nL A Q (Rh (YM G) σ) pc' lv (.int (iN (σ 0 0 0 0)) :: st)) : VV E nL A Q (Rh (YM G) σ) pc lv (.ref (aM G 0) :: st) :=
  x_get (q := (0, 0, 0)) (j := 0) hE hM (idM (by decide)) rfl rfl (by decide) wT_X9 hw rfl rfl hd hp k
theorem pM_0 {z : Int} (hE : OK E cc nL own ret) (hM : Mem (YM G) E) (hw : Cond.fieldLink own idx "WolfCalendarModel" "reads" "I" ∈ TW) (hd : decode cc pc = .ok (.putfield idx, 3)) (hp : pc' = pc + 3) (k : VV E nL (AS (YM G)) Q (Rh (YM G) (up σ 0 0 0 0 z)) pc' lv st) : VV E nL (AS (YM G)) Q (Rh (YM G) σ) pc lv (.int (iN z) :: .ref (aM G 0) :: st) :=
  x_put (q := (0, 0, 0)) (j := 0) (ty := .int) hE hM (idM (by decide)) rfl rfl (by decide) wT_X9 tyX9_ok nmX9 hw rfl rfl (by decide +kernel) rfl rfl (Nat.le_of_ble_eq_true rfl) rfl (fun r h => up_row r h) hd hp k
theorem gM_1 (hE : OK E cc nL own ret) (hM : Mem (YM G) E) (hw : Cond.fieldLink own idx "WolfCalendarModel" "feasts" "I" ∈ TW) (hd : decode cc pc = .ok (.getfield idx, 3)) (hp : pc' = pc + 3) (k : VV E nL A Q (Rh (YM G) σ) pc' lv (.int (iN (σ 0 0 0 1)) :: st)) : VV E nL A Q (Rh (YM G) σ) pc lv (.ref (aM G 0) :: st) :=
  x_get (q := (0, 0, 0)) (j := 1) hE hM (idM (by decide)) rfl rfl (by decide) wT_X9 hw rfl rfl hd hp k
theorem pM_1 {z : Int} (hE : OK E cc nL own ret) (hM : Mem (YM G) E) (hw : Cond.fieldLink own idx "WolfCalendarModel" "feasts" "I" ∈ TW) (hd : decode cc pc = .ok (.putfield idx, 3)) (hp : pc' = pc + 3) (k : VV E nL (AS (YM G)) Q (Rh (YM G) (up σ 0 0 0 1 z)) pc' lv st) : VV E nL (AS (YM G)) Q (Rh (YM G) σ) pc lv (.int (iN z) :: .ref (aM G 0) :: st) :=
  x_put (q := (0, 0, 0)) (j := 1) (ty := .int) hE hM (idM (by decide)) rfl rfl (by decide) wT_X9 tyX9_ok nmX9 hw rfl rfl (by decide +kernel) rfl rfl (Nat.le_of_ble_eq_true rfl) rfl (fun r h => up_row r h) hd hp k
theorem gM_2 (hE : OK E cc nL own ret) (hM : Mem (YM G) E) (hw : Cond.fieldLink own idx "WolfCalendarModel" "feastOf" "[I" ∈ TW) (hd : decode cc pc = .ok (.getfield idx, 3)) (hp : pc' = pc + 3) (k : VV E nL A Q (Rh (YM G) σ) pc' lv (.ref (aM G 1) :: st)) : VV E nL A Q (Rh (YM G) σ) pc lv (.ref (aM G 0) :: st) :=
  x_get (q := (0, 0, 0)) (j := 2) hE hM (idM (by decide)) rfl rfl (by decide) wT_X9 hw rfl rfl hd hp k
theorem gM_3 (hE : OK E cc nL own ret) (hM : Mem (YM G) E) (hw : Cond.fieldLink own idx "WolfCalendarModel" "day" "I" ∈ TW) (hd : decode cc pc = .ok (.getfield idx, 3)) (hp : pc' = pc + 3) (k : VV E nL A Q (Rh (YM G) σ) pc' lv (.int (iN (σ 0 0 0 3)) :: st)) : VV E nL A Q (Rh (YM G) σ) pc lv (.ref (aM G 0) :: st) :=
  x_get (q := (0, 0, 0)) (j := 3) hE hM (idM (by decide)) rfl rfl (by decide) wT_X9 hw rfl rfl hd hp k
theorem pM_3 {z : Int} (hE : OK E cc nL own ret) (hM : Mem (YM G) E) (hw : Cond.fieldLink own idx "WolfCalendarModel" "day" "I" ∈ TW) (hd : decode cc pc = .ok (.putfield idx, 3)) (hp : pc' = pc + 3) (k : VV E nL (AS (YM G)) Q (Rh (YM G) (up σ 0 0 0 3 z)) pc' lv st) : VV E nL (AS (YM G)) Q (Rh (YM G) σ) pc lv (.int (iN z) :: .ref (aM G 0) :: st) :=
  x_put (q := (0, 0, 0)) (j := 3) (ty := .int) hE hM (idM (by decide)) rfl rfl (by decide) wT_X9 tyX9_ok nmX9 hw rfl rfl (by decide +kernel) rfl rfl (Nat.le_of_ble_eq_true rfl) rfl (fun r h => up_row r h) hd hp k
theorem gM_4 (hE : OK E cc nL own ret) (hM : Mem (YM G) E) (hw : Cond.fieldLink own idx "WolfCalendarModel" "forgedOf" "[I" ∈ TW) (hd : decode cc pc = .ok (.getfield idx, 3)) (hp : pc' = pc + 3) (k : VV E nL A Q (Rh (YM G) σ) pc' lv (.ref (aM G 2) :: st)) : VV E nL A Q (Rh (YM G) σ) pc lv (.ref (aM G 0) :: st) :=
  x_get (q := (0, 0, 0)) (j := 4) hE hM (idM (by decide)) rfl rfl (by decide) wT_X9 hw rfl rfl hd hp k
theorem gM_5 (hE : OK E cc nL own ret) (hM : Mem (YM G) E) (hw : Cond.fieldLink own idx "WolfCalendarModel" "packs" "I" ∈ TW) (hd : decode cc pc = .ok (.getfield idx, 3)) (hp : pc' = pc + 3) (k : VV E nL A Q (Rh (YM G) σ) pc' lv (.int (iN (σ 0 0 0 5)) :: st)) : VV E nL A Q (Rh (YM G) σ) pc lv (.ref (aM G 0) :: st) :=
  x_get (q := (0, 0, 0)) (j := 5) hE hM (idM (by decide)) rfl rfl (by decide) wT_X9 hw rfl rfl hd hp k
theorem pM_5 {z : Int} (hE : OK E cc nL own ret) (hM : Mem (YM G) E) (hw : Cond.fieldLink own idx "WolfCalendarModel" "packs" "I" ∈ TW) (hd : decode cc pc = .ok (.putfield idx, 3)) (hp : pc' = pc + 3) (k : VV E nL (AS (YM G)) Q (Rh (YM G) (up σ 0 0 0 5 z)) pc' lv st) : VV E nL (AS (YM G)) Q (Rh (YM G) σ) pc lv (.int (iN z) :: .ref (aM G 0) :: st) :=
  x_put (q := (0, 0, 0)) (j := 5) (ty := .int) hE hM (idM (by decide)) rfl rfl (by decide) wT_X9 tyX9_ok nmX9 hw rfl rfl (by decide +kernel) rfl rfl (Nat.le_of_ble_eq_true rfl) rfl (fun r h => up_row r h) hd hp k
theorem gM_6 (hE : OK E cc nL own ret) (hM : Mem (YM G) E) (hw : Cond.fieldLink own idx "WolfCalendarModel" "kindOf" "[I" ∈ TW) (hd : decode cc pc = .ok (.getfield idx, 3)) (hp : pc' = pc + 3) (k : VV E nL A Q (Rh (YM G) σ) pc' lv (.ref (aM G 3) :: st)) : VV E nL A Q (Rh (YM G) σ) pc lv (.ref (aM G 0) :: st) :=
  x_get (q := (0, 0, 0)) (j := 6) hE hM (idM (by decide)) rfl rfl (by decide) wT_X9 hw rfl rfl hd hp k
theorem gM_7 (hE : OK E cc nL own ret) (hM : Mem (YM G) E) (hw : Cond.fieldLink own idx "WolfCalendarModel" "cellOf" "[I" ∈ TW) (hd : decode cc pc = .ok (.getfield idx, 3)) (hp : pc' = pc + 3) (k : VV E nL A Q (Rh (YM G) σ) pc' lv (.ref (aM G 4) :: st)) : VV E nL A Q (Rh (YM G) σ) pc lv (.ref (aM G 0) :: st) :=
  x_get (q := (0, 0, 0)) (j := 7) hE hM (idM (by decide)) rfl rfl (by decide) wT_X9 hw rfl rfl hd hp k
theorem gM_8 (hE : OK E cc nL own ret) (hM : Mem (YM G) E) (hw : Cond.fieldLink own idx "WolfCalendarModel" "lagOf" "[I" ∈ TW) (hd : decode cc pc = .ok (.getfield idx, 3)) (hp : pc' = pc + 3) (k : VV E nL A Q (Rh (YM G) σ) pc' lv (.ref (aM G 5) :: st)) : VV E nL A Q (Rh (YM G) σ) pc lv (.ref (aM G 0) :: st) :=
  x_get (q := (0, 0, 0)) (j := 8) hE hM (idM (by decide)) rfl rfl (by decide) wT_X9 hw rfl rfl hd hp k
theorem gM_9 (hE : OK E cc nL own ret) (hM : Mem (YM G) E) (hw : Cond.fieldLink own idx "WolfCalendarModel" "flocks" "I" ∈ TW) (hd : decode cc pc = .ok (.getfield idx, 3)) (hp : pc' = pc + 3) (k : VV E nL A Q (Rh (YM G) σ) pc' lv (.int (iN (σ 0 0 0 9)) :: st)) : VV E nL A Q (Rh (YM G) σ) pc lv (.ref (aM G 0) :: st) :=
  x_get (q := (0, 0, 0)) (j := 9) hE hM (idM (by decide)) rfl rfl (by decide) wT_X9 hw rfl rfl hd hp k
theorem pM_9 {z : Int} (hE : OK E cc nL own ret) (hM : Mem (YM G) E) (hw : Cond.fieldLink own idx "WolfCalendarModel" "flocks" "I" ∈ TW) (hd : decode cc pc = .ok (.putfield idx, 3)) (hp : pc' = pc + 3) (k : VV E nL (AS (YM G)) Q (Rh (YM G) (up σ 0 0 0 9 z)) pc' lv st) : VV E nL (AS (YM G)) Q (Rh (YM G) σ) pc lv (.int (iN z) :: .ref (aM G 0) :: st) :=
  x_put (q := (0, 0, 0)) (j := 9) (ty := .int) hE hM (idM (by decide)) rfl rfl (by decide) wT_X9 tyX9_ok nmX9 hw rfl rfl (by decide +kernel) rfl rfl (Nat.le_of_ble_eq_true rfl) rfl (fun r h => up_row r h) hd hp k
theorem gM_10 (hE : OK E cc nL own ret) (hM : Mem (YM G) E) (hw : Cond.fieldLink own idx "WolfCalendarModel" "nameOf" "[I" ∈ TW) (hd : decode cc pc = .ok (.getfield idx, 3)) (hp : pc' = pc + 3) (k : VV E nL A Q (Rh (YM G) σ) pc' lv (.ref (aM G 6) :: st)) : VV E nL A Q (Rh (YM G) σ) pc lv (.ref (aM G 0) :: st) :=
  x_get (q := (0, 0, 0)) (j := 10) hE hM (idM (by decide)) rfl rfl (by decide) wT_X9 hw rfl rfl hd hp k
theorem gM_11 (hE : OK E cc nL own ret) (hM : Mem (YM G) E) (hw : Cond.fieldLink own idx "WolfCalendarModel" "flockCell" "[I" ∈ TW) (hd : decode cc pc = .ok (.getfield idx, 3)) (hp : pc' = pc + 3) (k : VV E nL A Q (Rh (YM G) σ) pc' lv (.ref (aM G 7) :: st)) : VV E nL A Q (Rh (YM G) σ) pc lv (.ref (aM G 0) :: st) :=
  x_get (q := (0, 0, 0)) (j := 11) hE hM (idM (by decide)) rfl rfl (by decide) wT_X9 hw rfl rfl hd hp k
theorem gM_12 (hE : OK E cc nL own ret) (hM : Mem (YM G) E) (hw : Cond.fieldLink own idx "WolfCalendarModel" "eatenBy" "[I" ∈ TW) (hd : decode cc pc = .ok (.getfield idx, 3)) (hp : pc' = pc + 3) (k : VV E nL A Q (Rh (YM G) σ) pc' lv (.ref (aM G 8) :: st)) : VV E nL A Q (Rh (YM G) σ) pc lv (.ref (aM G 0) :: st) :=
  x_get (q := (0, 0, 0)) (j := 12) hE hM (idM (by decide)) rfl rfl (by decide) wT_X9 hw rfl rfl hd hp k
theorem gM_13 (hE : OK E cc nL own ret) (hM : Mem (YM G) E) (hw : Cond.fieldLink own idx "WolfCalendarModel" "watched" "I" ∈ TW) (hd : decode cc pc = .ok (.getfield idx, 3)) (hp : pc' = pc + 3) (k : VV E nL A Q (Rh (YM G) σ) pc' lv (.int (iN (σ 0 0 0 13)) :: st)) : VV E nL A Q (Rh (YM G) σ) pc lv (.ref (aM G 0) :: st) :=
  x_get (q := (0, 0, 0)) (j := 13) hE hM (idM (by decide)) rfl rfl (by decide) wT_X9 hw rfl rfl hd hp k
theorem pM_13 {z : Int} (hE : OK E cc nL own ret) (hM : Mem (YM G) E) (hw : Cond.fieldLink own idx "WolfCalendarModel" "watched" "I" ∈ TW) (hd : decode cc pc = .ok (.putfield idx, 3)) (hp : pc' = pc + 3) (k : VV E nL (AS (YM G)) Q (Rh (YM G) (up σ 0 0 0 13 z)) pc' lv st) : VV E nL (AS (YM G)) Q (Rh (YM G) σ) pc lv (.int (iN z) :: .ref (aM G 0) :: st) :=
  x_put (q := (0, 0, 0)) (j := 13) (ty := .int) hE hM (idM (by decide)) rfl rfl (by decide) wT_X9 tyX9_ok nmX9 hw rfl rfl (by decide +kernel) rfl rfl (Nat.le_of_ble_eq_true rfl) rfl (fun r h => up_row r h) hd hp k
theorem gM_14 (hE : OK E cc nL own ret) (hM : Mem (YM G) E) (hw : Cond.fieldLink own idx "WolfCalendarModel" "watchedFrom" "I" ∈ TW) (hd : decode cc pc = .ok (.getfield idx, 3)) (hp : pc' = pc + 3) (k : VV E nL A Q (Rh (YM G) σ) pc' lv (.int (iN (σ 0 0 0 14)) :: st)) : VV E nL A Q (Rh (YM G) σ) pc lv (.ref (aM G 0) :: st) :=
  x_get (q := (0, 0, 0)) (j := 14) hE hM (idM (by decide)) rfl rfl (by decide) wT_X9 hw rfl rfl hd hp k
theorem pM_14 {z : Int} (hE : OK E cc nL own ret) (hM : Mem (YM G) E) (hw : Cond.fieldLink own idx "WolfCalendarModel" "watchedFrom" "I" ∈ TW) (hd : decode cc pc = .ok (.putfield idx, 3)) (hp : pc' = pc + 3) (k : VV E nL (AS (YM G)) Q (Rh (YM G) (up σ 0 0 0 14 z)) pc' lv st) : VV E nL (AS (YM G)) Q (Rh (YM G) σ) pc lv (.int (iN z) :: .ref (aM G 0) :: st) :=
  x_put (q := (0, 0, 0)) (j := 14) (ty := .int) hE hM (idM (by decide)) rfl rfl (by decide) wT_X9 tyX9_ok nmX9 hw rfl rfl (by decide +kernel) rfl rfl (Nat.le_of_ble_eq_true rfl) rfl (fun r h => up_row r h) hd hp k
theorem gM_15 (hE : OK E cc nL own ret) (hM : Mem (YM G) E) (hw : Cond.fieldLink own idx "WolfCalendarModel" "seen" "I" ∈ TW) (hd : decode cc pc = .ok (.getfield idx, 3)) (hp : pc' = pc + 3) (k : VV E nL A Q (Rh (YM G) σ) pc' lv (.int (iN (σ 0 0 0 15)) :: st)) : VV E nL A Q (Rh (YM G) σ) pc lv (.ref (aM G 0) :: st) :=
  x_get (q := (0, 0, 0)) (j := 15) hE hM (idM (by decide)) rfl rfl (by decide) wT_X9 hw rfl rfl hd hp k
theorem pM_15 {z : Int} (hE : OK E cc nL own ret) (hM : Mem (YM G) E) (hw : Cond.fieldLink own idx "WolfCalendarModel" "seen" "I" ∈ TW) (hd : decode cc pc = .ok (.putfield idx, 3)) (hp : pc' = pc + 3) (k : VV E nL (AS (YM G)) Q (Rh (YM G) (up σ 0 0 0 15 z)) pc' lv st) : VV E nL (AS (YM G)) Q (Rh (YM G) σ) pc lv (.int (iN z) :: .ref (aM G 0) :: st) :=
  x_put (q := (0, 0, 0)) (j := 15) (ty := .int) hE hM (idM (by decide)) rfl rfl (by decide) wT_X9 tyX9_ok nmX9 hw rfl rfl (by decide +kernel) rfl rfl (Nat.le_of_ble_eq_true rfl) rfl (fun r h => up_row r h) hd hp k
theorem gM_16 (hE : OK E cc nL own ret) (hM : Mem (YM G) E) (hw : Cond.fieldLink own idx "WolfCalendarModel" "seenOf" "[I" ∈ TW) (hd : decode cc pc = .ok (.getfield idx, 3)) (hp : pc' = pc + 3) (k : VV E nL A Q (Rh (YM G) σ) pc' lv (.ref (aM G 9) :: st)) : VV E nL A Q (Rh (YM G) σ) pc lv (.ref (aM G 0) :: st) :=
  x_get (q := (0, 0, 0)) (j := 16) hE hM (idM (by decide)) rfl rfl (by decide) wT_X9 hw rfl rfl hd hp k
theorem gM_17 (hE : OK E cc nL own ret) (hM : Mem (YM G) E) (hw : Cond.fieldLink own idx "WolfCalendarModel" "asks" "I" ∈ TW) (hd : decode cc pc = .ok (.getfield idx, 3)) (hp : pc' = pc + 3) (k : VV E nL A Q (Rh (YM G) σ) pc' lv (.int (iN (σ 0 0 0 17)) :: st)) : VV E nL A Q (Rh (YM G) σ) pc lv (.ref (aM G 0) :: st) :=
  x_get (q := (0, 0, 0)) (j := 17) hE hM (idM (by decide)) rfl rfl (by decide) wT_X9 hw rfl rfl hd hp k
theorem pM_17 {z : Int} (hE : OK E cc nL own ret) (hM : Mem (YM G) E) (hw : Cond.fieldLink own idx "WolfCalendarModel" "asks" "I" ∈ TW) (hd : decode cc pc = .ok (.putfield idx, 3)) (hp : pc' = pc + 3) (k : VV E nL (AS (YM G)) Q (Rh (YM G) (up σ 0 0 0 17 z)) pc' lv st) : VV E nL (AS (YM G)) Q (Rh (YM G) σ) pc lv (.int (iN z) :: .ref (aM G 0) :: st) :=
  x_put (q := (0, 0, 0)) (j := 17) (ty := .int) hE hM (idM (by decide)) rfl rfl (by decide) wT_X9 tyX9_ok nmX9 hw rfl rfl (by decide +kernel) rfl rfl (Nat.le_of_ble_eq_true rfl) rfl (fun r h => up_row r h) hd hp k
theorem gM_18 (hE : OK E cc nL own ret) (hM : Mem (YM G) E) (hw : Cond.fieldLink own idx "WolfCalendarModel" "pageLength" "I" ∈ TW) (hd : decode cc pc = .ok (.getfield idx, 3)) (hp : pc' = pc + 3) (k : VV E nL A Q (Rh (YM G) σ) pc' lv (.int (iN (σ 0 0 0 18)) :: st)) : VV E nL A Q (Rh (YM G) σ) pc lv (.ref (aM G 0) :: st) :=
  x_get (q := (0, 0, 0)) (j := 18) hE hM (idM (by decide)) rfl rfl (by decide) wT_X9 hw rfl rfl hd hp k
theorem pM_18 {z : Int} (hE : OK E cc nL own ret) (hM : Mem (YM G) E) (hw : Cond.fieldLink own idx "WolfCalendarModel" "pageLength" "I" ∈ TW) (hd : decode cc pc = .ok (.putfield idx, 3)) (hp : pc' = pc + 3) (k : VV E nL (AS (YM G)) Q (Rh (YM G) (up σ 0 0 0 18 z)) pc' lv st) : VV E nL (AS (YM G)) Q (Rh (YM G) σ) pc lv (.int (iN z) :: .ref (aM G 0) :: st) :=
  x_put (q := (0, 0, 0)) (j := 18) (ty := .int) hE hM (idM (by decide)) rfl rfl (by decide) wT_X9 tyX9_ok nmX9 hw rfl rfl (by decide +kernel) rfl rfl (Nat.le_of_ble_eq_true rfl) rfl (fun r h => up_row r h) hd hp k
theorem gM_19 (hE : OK E cc nL own ret) (hM : Mem (YM G) E) (hw : Cond.fieldLink own idx "WolfCalendarModel" "page" "[B" ∈ TW) (hd : decode cc pc = .ok (.getfield idx, 3)) (hp : pc' = pc + 3) (k : VV E nL A Q (Rh (YM G) σ) pc' lv (.ref (aM G 10) :: st)) : VV E nL A Q (Rh (YM G) σ) pc lv (.ref (aM G 0) :: st) :=
  x_get (q := (0, 0, 0)) (j := 19) hE hM (idM (by decide)) rfl rfl (by decide) wT_X9 hw rfl rfl hd hp k
theorem gM_20 (hE : OK E cc nL own ret) (hM : Mem (YM G) E) (hw : Cond.fieldLink own idx "WolfCalendarModel" "faultAt" "I" ∈ TW) (hd : decode cc pc = .ok (.getfield idx, 3)) (hp : pc' = pc + 3) (k : VV E nL A Q (Rh (YM G) σ) pc' lv (.int (iN (σ 0 0 0 20)) :: st)) : VV E nL A Q (Rh (YM G) σ) pc lv (.ref (aM G 0) :: st) :=
  x_get (q := (0, 0, 0)) (j := 20) hE hM (idM (by decide)) rfl rfl (by decide) wT_X9 hw rfl rfl hd hp k
theorem pM_20 {z : Int} (hE : OK E cc nL own ret) (hM : Mem (YM G) E) (hw : Cond.fieldLink own idx "WolfCalendarModel" "faultAt" "I" ∈ TW) (hd : decode cc pc = .ok (.putfield idx, 3)) (hp : pc' = pc + 3) (k : VV E nL (AS (YM G)) Q (Rh (YM G) (up σ 0 0 0 20 z)) pc' lv st) : VV E nL (AS (YM G)) Q (Rh (YM G) σ) pc lv (.int (iN z) :: .ref (aM G 0) :: st) :=
  x_put (q := (0, 0, 0)) (j := 20) (ty := .int) hE hM (idM (by decide)) rfl rfl (by decide) wT_X9 tyX9_ok nmX9 hw rfl rfl (by decide +kernel) rfl rfl (Nat.le_of_ble_eq_true rfl) rfl (fun r h => up_row r h) hd hp k
theorem gM_21 (hE : OK E cc nL own ret) (hM : Mem (YM G) E) (hw : Cond.fieldLink own idx "WolfCalendarModel" "isWhole" "Z" ∈ TW) (hd : decode cc pc = .ok (.getfield idx, 3)) (hp : pc' = pc + 3) (k : VV E nL A Q (Rh (YM G) σ) pc' lv (.int (iN (σ 0 0 0 21)) :: st)) : VV E nL A Q (Rh (YM G) σ) pc lv (.ref (aM G 0) :: st) :=
  x_get (q := (0, 0, 0)) (j := 21) hE hM (idM (by decide)) rfl rfl (by decide) wT_X9 hw rfl rfl hd hp k
theorem pM_21 {z : Int} (hE : OK E cc nL own ret) (hM : Mem (YM G) E) (hw : Cond.fieldLink own idx "WolfCalendarModel" "isWhole" "Z" ∈ TW) (hz : z = 0 ∨ z = 1) (hd : decode cc pc = .ok (.putfield idx, 3)) (hp : pc' = pc + 3) (k : VV E nL (AS (YM G)) Q (Rh (YM G) (up σ 0 0 0 21 z)) pc' lv st) : VV E nL (AS (YM G)) Q (Rh (YM G) σ) pc lv (.int (iN z) :: .ref (aM G 0) :: st) :=
  x_put (q := (0, 0, 0)) (j := 21) (ty := .boolean) hE hM (idM (by decide)) rfl rfl (by decide) wT_X9 tyX9_ok nmX9 hw rfl rfl (by decide +kernel) (by rcases hz with rfl | rfl <;> rfl) (by rcases hz with rfl | rfl <;> rfl) (Nat.le_of_ble_eq_true rfl) rfl (fun r h => up_row r h) hd hp k
theorem gM_22 (hE : OK E cc nL own ret) (hM : Mem (YM G) E) (hw : Cond.fieldLink own idx "WolfCalendarModel" "newFeasts" "I" ∈ TW) (hd : decode cc pc = .ok (.getfield idx, 3)) (hp : pc' = pc + 3) (k : VV E nL A Q (Rh (YM G) σ) pc' lv (.int (iN (σ 0 0 0 22)) :: st)) : VV E nL A Q (Rh (YM G) σ) pc lv (.ref (aM G 0) :: st) :=
  x_get (q := (0, 0, 0)) (j := 22) hE hM (idM (by decide)) rfl rfl (by decide) wT_X9 hw rfl rfl hd hp k
theorem pM_22 {z : Int} (hE : OK E cc nL own ret) (hM : Mem (YM G) E) (hw : Cond.fieldLink own idx "WolfCalendarModel" "newFeasts" "I" ∈ TW) (hd : decode cc pc = .ok (.putfield idx, 3)) (hp : pc' = pc + 3) (k : VV E nL (AS (YM G)) Q (Rh (YM G) (up σ 0 0 0 22 z)) pc' lv st) : VV E nL (AS (YM G)) Q (Rh (YM G) σ) pc lv (.int (iN z) :: .ref (aM G 0) :: st) :=
  x_put (q := (0, 0, 0)) (j := 22) (ty := .int) hE hM (idM (by decide)) rfl rfl (by decide) wT_X9 tyX9_ok nmX9 hw rfl rfl (by decide +kernel) rfl rfl (Nat.le_of_ble_eq_true rfl) rfl (fun r h => up_row r h) hd hp k
theorem gM_23 (hE : OK E cc nL own ret) (hM : Mem (YM G) E) (hw : Cond.fieldLink own idx "WolfCalendarModel" "newFeast" "[I" ∈ TW) (hd : decode cc pc = .ok (.getfield idx, 3)) (hp : pc' = pc + 3) (k : VV E nL A Q (Rh (YM G) σ) pc' lv (.ref (aM G 11) :: st)) : VV E nL A Q (Rh (YM G) σ) pc lv (.ref (aM G 0) :: st) :=
  x_get (q := (0, 0, 0)) (j := 23) hE hM (idM (by decide)) rfl rfl (by decide) wT_X9 hw rfl rfl hd hp k
theorem gM_24 (hE : OK E cc nL own ret) (hM : Mem (YM G) E) (hw : Cond.fieldLink own idx "WolfCalendarModel" "savedDay" "I" ∈ TW) (hd : decode cc pc = .ok (.getfield idx, 3)) (hp : pc' = pc + 3) (k : VV E nL A Q (Rh (YM G) σ) pc' lv (.int (iN (σ 0 0 0 24)) :: st)) : VV E nL A Q (Rh (YM G) σ) pc lv (.ref (aM G 0) :: st) :=
  x_get (q := (0, 0, 0)) (j := 24) hE hM (idM (by decide)) rfl rfl (by decide) wT_X9 hw rfl rfl hd hp k
theorem pM_24 {z : Int} (hE : OK E cc nL own ret) (hM : Mem (YM G) E) (hw : Cond.fieldLink own idx "WolfCalendarModel" "savedDay" "I" ∈ TW) (hd : decode cc pc = .ok (.putfield idx, 3)) (hp : pc' = pc + 3) (k : VV E nL (AS (YM G)) Q (Rh (YM G) (up σ 0 0 0 24 z)) pc' lv st) : VV E nL (AS (YM G)) Q (Rh (YM G) σ) pc lv (.int (iN z) :: .ref (aM G 0) :: st) :=
  x_put (q := (0, 0, 0)) (j := 24) (ty := .int) hE hM (idM (by decide)) rfl rfl (by decide) wT_X9 tyX9_ok nmX9 hw rfl rfl (by decide +kernel) rfl rfl (Nat.le_of_ble_eq_true rfl) rfl (fun r h => up_row r h) hd hp k
theorem gM_25 (hE : OK E cc nL own ret) (hM : Mem (YM G) E) (hw : Cond.fieldLink own idx "WolfCalendarModel" "savedForged" "[I" ∈ TW) (hd : decode cc pc = .ok (.getfield idx, 3)) (hp : pc' = pc + 3) (k : VV E nL A Q (Rh (YM G) σ) pc' lv (.ref (aM G 12) :: st)) : VV E nL A Q (Rh (YM G) σ) pc lv (.ref (aM G 0) :: st) :=
  x_get (q := (0, 0, 0)) (j := 25) hE hM (idM (by decide)) rfl rfl (by decide) wT_X9 hw rfl rfl hd hp k
theorem gM_26 (hE : OK E cc nL own ret) (hM : Mem (YM G) E) (hw : Cond.fieldLink own idx "WolfCalendarModel" "savedName" "[I" ∈ TW) (hd : decode cc pc = .ok (.getfield idx, 3)) (hp : pc' = pc + 3) (k : VV E nL A Q (Rh (YM G) σ) pc' lv (.ref (aM G 13) :: st)) : VV E nL A Q (Rh (YM G) σ) pc lv (.ref (aM G 0) :: st) :=
  x_get (q := (0, 0, 0)) (j := 26) hE hM (idM (by decide)) rfl rfl (by decide) wT_X9 hw rfl rfl hd hp k
theorem gM_27 (hE : OK E cc nL own ret) (hM : Mem (YM G) E) (hw : Cond.fieldLink own idx "WolfCalendarModel" "savedCell" "[I" ∈ TW) (hd : decode cc pc = .ok (.getfield idx, 3)) (hp : pc' = pc + 3) (k : VV E nL A Q (Rh (YM G) σ) pc' lv (.ref (aM G 14) :: st)) : VV E nL A Q (Rh (YM G) σ) pc lv (.ref (aM G 0) :: st) :=
  x_get (q := (0, 0, 0)) (j := 27) hE hM (idM (by decide)) rfl rfl (by decide) wT_X9 hw rfl rfl hd hp k
theorem gM_28 (hE : OK E cc nL own ret) (hM : Mem (YM G) E) (hw : Cond.fieldLink own idx "WolfCalendarModel" "savedBy" "[I" ∈ TW) (hd : decode cc pc = .ok (.getfield idx, 3)) (hp : pc' = pc + 3) (k : VV E nL A Q (Rh (YM G) σ) pc' lv (.ref (aM G 15) :: st)) : VV E nL A Q (Rh (YM G) σ) pc lv (.ref (aM G 0) :: st) :=
  x_get (q := (0, 0, 0)) (j := 28) hE hM (idM (by decide)) rfl rfl (by decide) wT_X9 hw rfl rfl hd hp k
theorem gM_29 (hE : OK E cc nL own ret) (hM : Mem (YM G) E) (hw : Cond.fieldLink own idx "WolfCalendarModel" "seedNow" "J" ∈ TW) (hd : decode cc pc = .ok (.getfield idx, 3)) (hp : pc' = pc + 3) (k : VV E nL A Q (Rh (YM G) σ) pc' lv (.long (lL (σ 0 0 0 29)) :: st)) : VV E nL A Q (Rh (YM G) σ) pc lv (.ref (aM G 0) :: st) :=
  x_get (q := (0, 0, 0)) (j := 29) hE hM (idM (by decide)) rfl rfl (by decide) wT_X9 hw rfl rfl hd hp k
theorem pM_29 {z : Int} (hE : OK E cc nL own ret) (hM : Mem (YM G) E) (hw : Cond.fieldLink own idx "WolfCalendarModel" "seedNow" "J" ∈ TW) (hd : decode cc pc = .ok (.putfield idx, 3)) (hp : pc' = pc + 3) (k : VV E nL (AS (YM G)) Q (Rh (YM G) (up σ 0 0 0 29 z)) pc' lv st) : VV E nL (AS (YM G)) Q (Rh (YM G) σ) pc lv (.long (lL z) :: .ref (aM G 0) :: st) :=
  x_put (q := (0, 0, 0)) (j := 29) (ty := .long) hE hM (idM (by decide)) rfl rfl (by decide) wT_X9 tyX9_ok nmX9 hw rfl rfl (by decide +kernel) rfl rfl (Nat.le_of_ble_eq_true rfl) rfl (fun r h => up_row r h) hd hp k
theorem gM_30 (hE : OK E cc nL own ret) (hM : Mem (YM G) E) (hw : Cond.fieldLink own idx "WolfCalendarModel" "isKept" "Z" ∈ TW) (hd : decode cc pc = .ok (.getfield idx, 3)) (hp : pc' = pc + 3) (k : VV E nL A Q (Rh (YM G) σ) pc' lv (.int (iN (σ 0 0 0 30)) :: st)) : VV E nL A Q (Rh (YM G) σ) pc lv (.ref (aM G 0) :: st) :=
  x_get (q := (0, 0, 0)) (j := 30) hE hM (idM (by decide)) rfl rfl (by decide) wT_X9 hw rfl rfl hd hp k
theorem pM_30 {z : Int} (hE : OK E cc nL own ret) (hM : Mem (YM G) E) (hw : Cond.fieldLink own idx "WolfCalendarModel" "isKept" "Z" ∈ TW) (hz : z = 0 ∨ z = 1) (hd : decode cc pc = .ok (.putfield idx, 3)) (hp : pc' = pc + 3) (k : VV E nL (AS (YM G)) Q (Rh (YM G) (up σ 0 0 0 30 z)) pc' lv st) : VV E nL (AS (YM G)) Q (Rh (YM G) σ) pc lv (.int (iN z) :: .ref (aM G 0) :: st) :=
  x_put (q := (0, 0, 0)) (j := 30) (ty := .boolean) hE hM (idM (by decide)) rfl rfl (by decide) wT_X9 tyX9_ok nmX9 hw rfl rfl (by decide +kernel) (by rcases hz with rfl | rfl <;> rfl) (by rcases hz with rfl | rfl <;> rfl) (Nat.le_of_ble_eq_true rfl) rfl (fun r h => up_row r h) hd hp k
theorem gM_31 (hE : OK E cc nL own ret) (hM : Mem (YM G) E) (hw : Cond.fieldLink own idx "WolfCalendarModel" "keptDay" "I" ∈ TW) (hd : decode cc pc = .ok (.getfield idx, 3)) (hp : pc' = pc + 3) (k : VV E nL A Q (Rh (YM G) σ) pc' lv (.int (iN (σ 0 0 0 31)) :: st)) : VV E nL A Q (Rh (YM G) σ) pc lv (.ref (aM G 0) :: st) :=
  x_get (q := (0, 0, 0)) (j := 31) hE hM (idM (by decide)) rfl rfl (by decide) wT_X9 hw rfl rfl hd hp k
theorem pM_31 {z : Int} (hE : OK E cc nL own ret) (hM : Mem (YM G) E) (hw : Cond.fieldLink own idx "WolfCalendarModel" "keptDay" "I" ∈ TW) (hd : decode cc pc = .ok (.putfield idx, 3)) (hp : pc' = pc + 3) (k : VV E nL (AS (YM G)) Q (Rh (YM G) (up σ 0 0 0 31 z)) pc' lv st) : VV E nL (AS (YM G)) Q (Rh (YM G) σ) pc lv (.int (iN z) :: .ref (aM G 0) :: st) :=
  x_put (q := (0, 0, 0)) (j := 31) (ty := .int) hE hM (idM (by decide)) rfl rfl (by decide) wT_X9 tyX9_ok nmX9 hw rfl rfl (by decide +kernel) rfl rfl (Nat.le_of_ble_eq_true rfl) rfl (fun r h => up_row r h) hd hp k
theorem gM_32 (hE : OK E cc nL own ret) (hM : Mem (YM G) E) (hw : Cond.fieldLink own idx "WolfCalendarModel" "keptPacks" "I" ∈ TW) (hd : decode cc pc = .ok (.getfield idx, 3)) (hp : pc' = pc + 3) (k : VV E nL A Q (Rh (YM G) σ) pc' lv (.int (iN (σ 0 0 0 32)) :: st)) : VV E nL A Q (Rh (YM G) σ) pc lv (.ref (aM G 0) :: st) :=
  x_get (q := (0, 0, 0)) (j := 32) hE hM (idM (by decide)) rfl rfl (by decide) wT_X9 hw rfl rfl hd hp k
theorem pM_32 {z : Int} (hE : OK E cc nL own ret) (hM : Mem (YM G) E) (hw : Cond.fieldLink own idx "WolfCalendarModel" "keptPacks" "I" ∈ TW) (hd : decode cc pc = .ok (.putfield idx, 3)) (hp : pc' = pc + 3) (k : VV E nL (AS (YM G)) Q (Rh (YM G) (up σ 0 0 0 32 z)) pc' lv st) : VV E nL (AS (YM G)) Q (Rh (YM G) σ) pc lv (.int (iN z) :: .ref (aM G 0) :: st) :=
  x_put (q := (0, 0, 0)) (j := 32) (ty := .int) hE hM (idM (by decide)) rfl rfl (by decide) wT_X9 tyX9_ok nmX9 hw rfl rfl (by decide +kernel) rfl rfl (Nat.le_of_ble_eq_true rfl) rfl (fun r h => up_row r h) hd hp k
theorem gM_33 (hE : OK E cc nL own ret) (hM : Mem (YM G) E) (hw : Cond.fieldLink own idx "WolfCalendarModel" "keptFlocks" "I" ∈ TW) (hd : decode cc pc = .ok (.getfield idx, 3)) (hp : pc' = pc + 3) (k : VV E nL A Q (Rh (YM G) σ) pc' lv (.int (iN (σ 0 0 0 33)) :: st)) : VV E nL A Q (Rh (YM G) σ) pc lv (.ref (aM G 0) :: st) :=
  x_get (q := (0, 0, 0)) (j := 33) hE hM (idM (by decide)) rfl rfl (by decide) wT_X9 hw rfl rfl hd hp k
theorem pM_33 {z : Int} (hE : OK E cc nL own ret) (hM : Mem (YM G) E) (hw : Cond.fieldLink own idx "WolfCalendarModel" "keptFlocks" "I" ∈ TW) (hd : decode cc pc = .ok (.putfield idx, 3)) (hp : pc' = pc + 3) (k : VV E nL (AS (YM G)) Q (Rh (YM G) (up σ 0 0 0 33 z)) pc' lv st) : VV E nL (AS (YM G)) Q (Rh (YM G) σ) pc lv (.int (iN z) :: .ref (aM G 0) :: st) :=
  x_put (q := (0, 0, 0)) (j := 33) (ty := .int) hE hM (idM (by decide)) rfl rfl (by decide) wT_X9 tyX9_ok nmX9 hw rfl rfl (by decide +kernel) rfl rfl (Nat.le_of_ble_eq_true rfl) rfl (fun r h => up_row r h) hd hp k
theorem gM_34 (hE : OK E cc nL own ret) (hM : Mem (YM G) E) (hw : Cond.fieldLink own idx "WolfCalendarModel" "keptWatched" "I" ∈ TW) (hd : decode cc pc = .ok (.getfield idx, 3)) (hp : pc' = pc + 3) (k : VV E nL A Q (Rh (YM G) σ) pc' lv (.int (iN (σ 0 0 0 34)) :: st)) : VV E nL A Q (Rh (YM G) σ) pc lv (.ref (aM G 0) :: st) :=
  x_get (q := (0, 0, 0)) (j := 34) hE hM (idM (by decide)) rfl rfl (by decide) wT_X9 hw rfl rfl hd hp k
theorem pM_34 {z : Int} (hE : OK E cc nL own ret) (hM : Mem (YM G) E) (hw : Cond.fieldLink own idx "WolfCalendarModel" "keptWatched" "I" ∈ TW) (hd : decode cc pc = .ok (.putfield idx, 3)) (hp : pc' = pc + 3) (k : VV E nL (AS (YM G)) Q (Rh (YM G) (up σ 0 0 0 34 z)) pc' lv st) : VV E nL (AS (YM G)) Q (Rh (YM G) σ) pc lv (.int (iN z) :: .ref (aM G 0) :: st) :=
  x_put (q := (0, 0, 0)) (j := 34) (ty := .int) hE hM (idM (by decide)) rfl rfl (by decide) wT_X9 tyX9_ok nmX9 hw rfl rfl (by decide +kernel) rfl rfl (Nat.le_of_ble_eq_true rfl) rfl (fun r h => up_row r h) hd hp k
theorem gM_35 (hE : OK E cc nL own ret) (hM : Mem (YM G) E) (hw : Cond.fieldLink own idx "WolfCalendarModel" "keptFrom" "I" ∈ TW) (hd : decode cc pc = .ok (.getfield idx, 3)) (hp : pc' = pc + 3) (k : VV E nL A Q (Rh (YM G) σ) pc' lv (.int (iN (σ 0 0 0 35)) :: st)) : VV E nL A Q (Rh (YM G) σ) pc lv (.ref (aM G 0) :: st) :=
  x_get (q := (0, 0, 0)) (j := 35) hE hM (idM (by decide)) rfl rfl (by decide) wT_X9 hw rfl rfl hd hp k
theorem pM_35 {z : Int} (hE : OK E cc nL own ret) (hM : Mem (YM G) E) (hw : Cond.fieldLink own idx "WolfCalendarModel" "keptFrom" "I" ∈ TW) (hd : decode cc pc = .ok (.putfield idx, 3)) (hp : pc' = pc + 3) (k : VV E nL (AS (YM G)) Q (Rh (YM G) (up σ 0 0 0 35 z)) pc' lv st) : VV E nL (AS (YM G)) Q (Rh (YM G) σ) pc lv (.int (iN z) :: .ref (aM G 0) :: st) :=
  x_put (q := (0, 0, 0)) (j := 35) (ty := .int) hE hM (idM (by decide)) rfl rfl (by decide) wT_X9 tyX9_ok nmX9 hw rfl rfl (by decide +kernel) rfl rfl (Nat.le_of_ble_eq_true rfl) rfl (fun r h => up_row r h) hd hp k
theorem gM_36 (hE : OK E cc nL own ret) (hM : Mem (YM G) E) (hw : Cond.fieldLink own idx "WolfCalendarModel" "keptSeen" "I" ∈ TW) (hd : decode cc pc = .ok (.getfield idx, 3)) (hp : pc' = pc + 3) (k : VV E nL A Q (Rh (YM G) σ) pc' lv (.int (iN (σ 0 0 0 36)) :: st)) : VV E nL A Q (Rh (YM G) σ) pc lv (.ref (aM G 0) :: st) :=
  x_get (q := (0, 0, 0)) (j := 36) hE hM (idM (by decide)) rfl rfl (by decide) wT_X9 hw rfl rfl hd hp k
theorem pM_36 {z : Int} (hE : OK E cc nL own ret) (hM : Mem (YM G) E) (hw : Cond.fieldLink own idx "WolfCalendarModel" "keptSeen" "I" ∈ TW) (hd : decode cc pc = .ok (.putfield idx, 3)) (hp : pc' = pc + 3) (k : VV E nL (AS (YM G)) Q (Rh (YM G) (up σ 0 0 0 36 z)) pc' lv st) : VV E nL (AS (YM G)) Q (Rh (YM G) σ) pc lv (.int (iN z) :: .ref (aM G 0) :: st) :=
  x_put (q := (0, 0, 0)) (j := 36) (ty := .int) hE hM (idM (by decide)) rfl rfl (by decide) wT_X9 tyX9_ok nmX9 hw rfl rfl (by decide +kernel) rfl rfl (Nat.le_of_ble_eq_true rfl) rfl (fun r h => up_row r h) hd hp k
theorem gM_37 (hE : OK E cc nL own ret) (hM : Mem (YM G) E) (hw : Cond.fieldLink own idx "WolfCalendarModel" "keptSeenOf" "[I" ∈ TW) (hd : decode cc pc = .ok (.getfield idx, 3)) (hp : pc' = pc + 3) (k : VV E nL A Q (Rh (YM G) σ) pc' lv (.ref (aM G 16) :: st)) : VV E nL A Q (Rh (YM G) σ) pc lv (.ref (aM G 0) :: st) :=
  x_get (q := (0, 0, 0)) (j := 37) hE hM (idM (by decide)) rfl rfl (by decide) wT_X9 hw rfl rfl hd hp k
theorem gM_38 (hE : OK E cc nL own ret) (hM : Mem (YM G) E) (hw : Cond.fieldLink own idx "WolfCalendarModel" "keptForged" "[I" ∈ TW) (hd : decode cc pc = .ok (.getfield idx, 3)) (hp : pc' = pc + 3) (k : VV E nL A Q (Rh (YM G) σ) pc' lv (.ref (aM G 17) :: st)) : VV E nL A Q (Rh (YM G) σ) pc lv (.ref (aM G 0) :: st) :=
  x_get (q := (0, 0, 0)) (j := 38) hE hM (idM (by decide)) rfl rfl (by decide) wT_X9 hw rfl rfl hd hp k
theorem gM_39 (hE : OK E cc nL own ret) (hM : Mem (YM G) E) (hw : Cond.fieldLink own idx "WolfCalendarModel" "keptName" "[I" ∈ TW) (hd : decode cc pc = .ok (.getfield idx, 3)) (hp : pc' = pc + 3) (k : VV E nL A Q (Rh (YM G) σ) pc' lv (.ref (aM G 18) :: st)) : VV E nL A Q (Rh (YM G) σ) pc lv (.ref (aM G 0) :: st) :=
  x_get (q := (0, 0, 0)) (j := 39) hE hM (idM (by decide)) rfl rfl (by decide) wT_X9 hw rfl rfl hd hp k
theorem gM_40 (hE : OK E cc nL own ret) (hM : Mem (YM G) E) (hw : Cond.fieldLink own idx "WolfCalendarModel" "keptCell" "[I" ∈ TW) (hd : decode cc pc = .ok (.getfield idx, 3)) (hp : pc' = pc + 3) (k : VV E nL A Q (Rh (YM G) σ) pc' lv (.ref (aM G 19) :: st)) : VV E nL A Q (Rh (YM G) σ) pc lv (.ref (aM G 0) :: st) :=
  x_get (q := (0, 0, 0)) (j := 40) hE hM (idM (by decide)) rfl rfl (by decide) wT_X9 hw rfl rfl hd hp k
theorem gM_41 (hE : OK E cc nL own ret) (hM : Mem (YM G) E) (hw : Cond.fieldLink own idx "WolfCalendarModel" "keptBy" "[I" ∈ TW) (hd : decode cc pc = .ok (.getfield idx, 3)) (hp : pc' = pc + 3) (k : VV E nL A Q (Rh (YM G) σ) pc' lv (.ref (aM G 20) :: st)) : VV E nL A Q (Rh (YM G) σ) pc lv (.ref (aM G 0) :: st) :=
  x_get (q := (0, 0, 0)) (j := 41) hE hM (idM (by decide)) rfl rfl (by decide) wT_X9 hw rfl rfl hd hp k
theorem gM_42 (hE : OK E cc nL own ret) (hM : Mem (YM G) E) (hw : Cond.fieldLink own idx "WolfCalendarModel" "h" "J" ∈ TW) (hd : decode cc pc = .ok (.getfield idx, 3)) (hp : pc' = pc + 3) (k : VV E nL A Q (Rh (YM G) σ) pc' lv (.long (lL (σ 0 0 0 42)) :: st)) : VV E nL A Q (Rh (YM G) σ) pc lv (.ref (aM G 0) :: st) :=
  x_get (q := (0, 0, 0)) (j := 42) hE hM (idM (by decide)) rfl rfl (by decide) wT_X9 hw rfl rfl hd hp k
theorem pM_42 {z : Int} (hE : OK E cc nL own ret) (hM : Mem (YM G) E) (hw : Cond.fieldLink own idx "WolfCalendarModel" "h" "J" ∈ TW) (hd : decode cc pc = .ok (.putfield idx, 3)) (hp : pc' = pc + 3) (k : VV E nL (AS (YM G)) Q (Rh (YM G) (up σ 0 0 0 42 z)) pc' lv st) : VV E nL (AS (YM G)) Q (Rh (YM G) σ) pc lv (.long (lL z) :: .ref (aM G 0) :: st) :=
  x_put (q := (0, 0, 0)) (j := 42) (ty := .long) hE hM (idM (by decide)) rfl rfl (by decide) wT_X9 tyX9_ok nmX9 hw rfl rfl (by decide +kernel) rfl rfl (Nat.le_of_ble_eq_true rfl) rfl (fun r h => up_row r h) hd hp k
theorem aM_1 {z : Int} (hE : OK E cc nL own ret) (hM : Mem (YM G) E) (h0 : 0 ≤ z) (h1 : z < 6) (hd : decode cc pc = .ok (.iaload, 1)) (hp : pc' = pc + 1) (k : VV E nL A Q (Rh (YM G) σ) pc' lv (.int (iN (σ 1 0 0 z)) :: st)) : VV E nL A Q (Rh (YM G) σ) pc lv (.int (iN z) :: .ref (aM G 1) :: st) :=
  x_iald (q := (1, 0, 0)) (n := 6) (t0 := 0) hE hM (idM (by decide)) rfl rfl (by decide) h0 h1 hd hp k
theorem sM_1 {z v : Int} (hE : OK E cc nL own ret) (hM : Mem (YM G) E) (h0 : 0 ≤ z) (h1 : z < 6) (hd : decode cc pc = .ok (.iastore, 1)) (hp : pc' = pc + 1) (k : VV E nL (AS (YM G)) Q (Rh (YM G) (up σ 1 0 0 z v)) pc' lv st) : VV E nL (AS (YM G)) Q (Rh (YM G) σ) pc lv (.int (iN v) :: .int (iN z) :: .ref (aM G 1) :: st) :=
  x_iast (q := (1, 0, 0)) (n := 6) (t0 := 0) (ρ' := up σ 1 0 0 z v 1 0 0) hE hM (idM (by decide)) rfl rfl (by decide) h0 h1 rfl (up_s _ _ _ _ _ _) (fun j h => up_n (fun q => h q.2.2.2)) (fun r h => up_row r h) hd hp k
theorem aM_2 {z : Int} (hE : OK E cc nL own ret) (hM : Mem (YM G) E) (h0 : 0 ≤ z) (h1 : z < 8) (hd : decode cc pc = .ok (.iaload, 1)) (hp : pc' = pc + 1) (k : VV E nL A Q (Rh (YM G) σ) pc' lv (.int (iN (σ 2 0 0 z)) :: st)) : VV E nL A Q (Rh (YM G) σ) pc lv (.int (iN z) :: .ref (aM G 2) :: st) :=
  x_iald (q := (2, 0, 0)) (n := 8) (t0 := 0) hE hM (idM (by decide)) rfl rfl (by decide) h0 h1 hd hp k
theorem sM_2 {z v : Int} (hE : OK E cc nL own ret) (hM : Mem (YM G) E) (h0 : 0 ≤ z) (h1 : z < 8) (hd : decode cc pc = .ok (.iastore, 1)) (hp : pc' = pc + 1) (k : VV E nL (AS (YM G)) Q (Rh (YM G) (up σ 2 0 0 z v)) pc' lv st) : VV E nL (AS (YM G)) Q (Rh (YM G) σ) pc lv (.int (iN v) :: .int (iN z) :: .ref (aM G 2) :: st) :=
  x_iast (q := (2, 0, 0)) (n := 8) (t0 := 0) (ρ' := up σ 2 0 0 z v 2 0 0) hE hM (idM (by decide)) rfl rfl (by decide) h0 h1 rfl (up_s _ _ _ _ _ _) (fun j h => up_n (fun q => h q.2.2.2)) (fun r h => up_row r h) hd hp k
theorem aM_3 {z : Int} (hE : OK E cc nL own ret) (hM : Mem (YM G) E) (h0 : 0 ≤ z) (h1 : z < 4) (hd : decode cc pc = .ok (.iaload, 1)) (hp : pc' = pc + 1) (k : VV E nL A Q (Rh (YM G) σ) pc' lv (.int (iN (σ 3 0 0 z)) :: st)) : VV E nL A Q (Rh (YM G) σ) pc lv (.int (iN z) :: .ref (aM G 3) :: st) :=
  x_iald (q := (3, 0, 0)) (n := 4) (t0 := 0) hE hM (idM (by decide)) rfl rfl (by decide) h0 h1 hd hp k
theorem sM_3 {z v : Int} (hE : OK E cc nL own ret) (hM : Mem (YM G) E) (h0 : 0 ≤ z) (h1 : z < 4) (hd : decode cc pc = .ok (.iastore, 1)) (hp : pc' = pc + 1) (k : VV E nL (AS (YM G)) Q (Rh (YM G) (up σ 3 0 0 z v)) pc' lv st) : VV E nL (AS (YM G)) Q (Rh (YM G) σ) pc lv (.int (iN v) :: .int (iN z) :: .ref (aM G 3) :: st) :=
  x_iast (q := (3, 0, 0)) (n := 4) (t0 := 0) (ρ' := up σ 3 0 0 z v 3 0 0) hE hM (idM (by decide)) rfl rfl (by decide) h0 h1 rfl (up_s _ _ _ _ _ _) (fun j h => up_n (fun q => h q.2.2.2)) (fun r h => up_row r h) hd hp k
theorem aM_4 {z : Int} (hE : OK E cc nL own ret) (hM : Mem (YM G) E) (h0 : 0 ≤ z) (h1 : z < 4) (hd : decode cc pc = .ok (.iaload, 1)) (hp : pc' = pc + 1) (k : VV E nL A Q (Rh (YM G) σ) pc' lv (.int (iN (σ 4 0 0 z)) :: st)) : VV E nL A Q (Rh (YM G) σ) pc lv (.int (iN z) :: .ref (aM G 4) :: st) :=
  x_iald (q := (4, 0, 0)) (n := 4) (t0 := 0) hE hM (idM (by decide)) rfl rfl (by decide) h0 h1 hd hp k
theorem sM_4 {z v : Int} (hE : OK E cc nL own ret) (hM : Mem (YM G) E) (h0 : 0 ≤ z) (h1 : z < 4) (hd : decode cc pc = .ok (.iastore, 1)) (hp : pc' = pc + 1) (k : VV E nL (AS (YM G)) Q (Rh (YM G) (up σ 4 0 0 z v)) pc' lv st) : VV E nL (AS (YM G)) Q (Rh (YM G) σ) pc lv (.int (iN v) :: .int (iN z) :: .ref (aM G 4) :: st) :=
  x_iast (q := (4, 0, 0)) (n := 4) (t0 := 0) (ρ' := up σ 4 0 0 z v 4 0 0) hE hM (idM (by decide)) rfl rfl (by decide) h0 h1 rfl (up_s _ _ _ _ _ _) (fun j h => up_n (fun q => h q.2.2.2)) (fun r h => up_row r h) hd hp k
theorem aM_5 {z : Int} (hE : OK E cc nL own ret) (hM : Mem (YM G) E) (h0 : 0 ≤ z) (h1 : z < 4) (hd : decode cc pc = .ok (.iaload, 1)) (hp : pc' = pc + 1) (k : VV E nL A Q (Rh (YM G) σ) pc' lv (.int (iN (σ 5 0 0 z)) :: st)) : VV E nL A Q (Rh (YM G) σ) pc lv (.int (iN z) :: .ref (aM G 5) :: st) :=
  x_iald (q := (5, 0, 0)) (n := 4) (t0 := 0) hE hM (idM (by decide)) rfl rfl (by decide) h0 h1 hd hp k
theorem sM_5 {z v : Int} (hE : OK E cc nL own ret) (hM : Mem (YM G) E) (h0 : 0 ≤ z) (h1 : z < 4) (hd : decode cc pc = .ok (.iastore, 1)) (hp : pc' = pc + 1) (k : VV E nL (AS (YM G)) Q (Rh (YM G) (up σ 5 0 0 z v)) pc' lv st) : VV E nL (AS (YM G)) Q (Rh (YM G) σ) pc lv (.int (iN v) :: .int (iN z) :: .ref (aM G 5) :: st) :=
  x_iast (q := (5, 0, 0)) (n := 4) (t0 := 0) (ρ' := up σ 5 0 0 z v 5 0 0) hE hM (idM (by decide)) rfl rfl (by decide) h0 h1 rfl (up_s _ _ _ _ _ _) (fun j h => up_n (fun q => h q.2.2.2)) (fun r h => up_row r h) hd hp k
theorem aM_6 {z : Int} (hE : OK E cc nL own ret) (hM : Mem (YM G) E) (h0 : 0 ≤ z) (h1 : z < 5) (hd : decode cc pc = .ok (.iaload, 1)) (hp : pc' = pc + 1) (k : VV E nL A Q (Rh (YM G) σ) pc' lv (.int (iN (σ 6 0 0 z)) :: st)) : VV E nL A Q (Rh (YM G) σ) pc lv (.int (iN z) :: .ref (aM G 6) :: st) :=
  x_iald (q := (6, 0, 0)) (n := 5) (t0 := 0) hE hM (idM (by decide)) rfl rfl (by decide) h0 h1 hd hp k
theorem sM_6 {z v : Int} (hE : OK E cc nL own ret) (hM : Mem (YM G) E) (h0 : 0 ≤ z) (h1 : z < 5) (hd : decode cc pc = .ok (.iastore, 1)) (hp : pc' = pc + 1) (k : VV E nL (AS (YM G)) Q (Rh (YM G) (up σ 6 0 0 z v)) pc' lv st) : VV E nL (AS (YM G)) Q (Rh (YM G) σ) pc lv (.int (iN v) :: .int (iN z) :: .ref (aM G 6) :: st) :=
  x_iast (q := (6, 0, 0)) (n := 5) (t0 := 0) (ρ' := up σ 6 0 0 z v 6 0 0) hE hM (idM (by decide)) rfl rfl (by decide) h0 h1 rfl (up_s _ _ _ _ _ _) (fun j h => up_n (fun q => h q.2.2.2)) (fun r h => up_row r h) hd hp k
theorem aM_7 {z : Int} (hE : OK E cc nL own ret) (hM : Mem (YM G) E) (h0 : 0 ≤ z) (h1 : z < 5) (hd : decode cc pc = .ok (.iaload, 1)) (hp : pc' = pc + 1) (k : VV E nL A Q (Rh (YM G) σ) pc' lv (.int (iN (σ 7 0 0 z)) :: st)) : VV E nL A Q (Rh (YM G) σ) pc lv (.int (iN z) :: .ref (aM G 7) :: st) :=
  x_iald (q := (7, 0, 0)) (n := 5) (t0 := 0) hE hM (idM (by decide)) rfl rfl (by decide) h0 h1 hd hp k
theorem sM_7 {z v : Int} (hE : OK E cc nL own ret) (hM : Mem (YM G) E) (h0 : 0 ≤ z) (h1 : z < 5) (hd : decode cc pc = .ok (.iastore, 1)) (hp : pc' = pc + 1) (k : VV E nL (AS (YM G)) Q (Rh (YM G) (up σ 7 0 0 z v)) pc' lv st) : VV E nL (AS (YM G)) Q (Rh (YM G) σ) pc lv (.int (iN v) :: .int (iN z) :: .ref (aM G 7) :: st) :=
  x_iast (q := (7, 0, 0)) (n := 5) (t0 := 0) (ρ' := up σ 7 0 0 z v 7 0 0) hE hM (idM (by decide)) rfl rfl (by decide) h0 h1 rfl (up_s _ _ _ _ _ _) (fun j h => up_n (fun q => h q.2.2.2)) (fun r h => up_row r h) hd hp k
theorem aM_8 {z : Int} (hE : OK E cc nL own ret) (hM : Mem (YM G) E) (h0 : 0 ≤ z) (h1 : z < 5) (hd : decode cc pc = .ok (.iaload, 1)) (hp : pc' = pc + 1) (k : VV E nL A Q (Rh (YM G) σ) pc' lv (.int (iN (σ 8 0 0 z)) :: st)) : VV E nL A Q (Rh (YM G) σ) pc lv (.int (iN z) :: .ref (aM G 8) :: st) :=
  x_iald (q := (8, 0, 0)) (n := 5) (t0 := 0) hE hM (idM (by decide)) rfl rfl (by decide) h0 h1 hd hp k
theorem sM_8 {z v : Int} (hE : OK E cc nL own ret) (hM : Mem (YM G) E) (h0 : 0 ≤ z) (h1 : z < 5) (hd : decode cc pc = .ok (.iastore, 1)) (hp : pc' = pc + 1) (k : VV E nL (AS (YM G)) Q (Rh (YM G) (up σ 8 0 0 z v)) pc' lv st) : VV E nL (AS (YM G)) Q (Rh (YM G) σ) pc lv (.int (iN v) :: .int (iN z) :: .ref (aM G 8) :: st) :=
  x_iast (q := (8, 0, 0)) (n := 5) (t0 := 0) (ρ' := up σ 8 0 0 z v 8 0 0) hE hM (idM (by decide)) rfl rfl (by decide) h0 h1 rfl (up_s _ _ _ _ _ _) (fun j h => up_n (fun q => h q.2.2.2)) (fun r h => up_row r h) hd hp k
theorem aM_9 {z : Int} (hE : OK E cc nL own ret) (hM : Mem (YM G) E) (h0 : 0 ≤ z) (h1 : z < 8) (hd : decode cc pc = .ok (.iaload, 1)) (hp : pc' = pc + 1) (k : VV E nL A Q (Rh (YM G) σ) pc' lv (.int (iN (σ 9 0 0 z)) :: st)) : VV E nL A Q (Rh (YM G) σ) pc lv (.int (iN z) :: .ref (aM G 9) :: st) :=
  x_iald (q := (9, 0, 0)) (n := 8) (t0 := 0) hE hM (idM (by decide)) rfl rfl (by decide) h0 h1 hd hp k
theorem sM_9 {z v : Int} (hE : OK E cc nL own ret) (hM : Mem (YM G) E) (h0 : 0 ≤ z) (h1 : z < 8) (hd : decode cc pc = .ok (.iastore, 1)) (hp : pc' = pc + 1) (k : VV E nL (AS (YM G)) Q (Rh (YM G) (up σ 9 0 0 z v)) pc' lv st) : VV E nL (AS (YM G)) Q (Rh (YM G) σ) pc lv (.int (iN v) :: .int (iN z) :: .ref (aM G 9) :: st) :=
  x_iast (q := (9, 0, 0)) (n := 8) (t0 := 0) (ρ' := up σ 9 0 0 z v 9 0 0) hE hM (idM (by decide)) rfl rfl (by decide) h0 h1 rfl (up_s _ _ _ _ _ _) (fun j h => up_n (fun q => h q.2.2.2)) (fun r h => up_row r h) hd hp k
theorem aM_10 {z : Int} (hE : OK E cc nL own ret) (hM : Mem (YM G) E) (h0 : 0 ≤ z) (h1 : z < 24) (hd : decode cc pc = .ok (.baload, 1)) (hp : pc' = pc + 1) (k : VV E nL A Q (Rh (YM G) σ) pc' lv (.int (iN (σ 10 0 0 z)) :: st)) : VV E nL A Q (Rh (YM G) σ) pc lv (.int (iN z) :: .ref (aM G 10) :: st) :=
  x_bald (q := (10, 0, 0)) (n := 24) (t0 := 1) hE hM (idM (by decide)) rfl rfl (by decide) h0 h1 hd hp k
theorem sM_10 {z v : Int} (hE : OK E cc nL own ret) (hM : Mem (YM G) E) (h0 : 0 ≤ z) (h1 : z < 24) (hz : vp_nar .byte (iN v) = iN v) (hd : decode cc pc = .ok (.bastore, 1)) (hp : pc' = pc + 1) (k : VV E nL (AS (YM G)) Q (Rh (YM G) (up σ 10 0 0 z v)) pc' lv st) : VV E nL (AS (YM G)) Q (Rh (YM G) σ) pc lv (.int (iN v) :: .int (iN z) :: .ref (aM G 10) :: st) :=
  x_bast (q := (10, 0, 0)) (n := 24) (t0 := 1) (ρ' := up σ 10 0 0 z v 10 0 0) hE hM (idM (by decide)) rfl rfl (by decide) h0 h1 hz rfl (up_s _ _ _ _ _ _) (fun j h => up_n (fun q => h q.2.2.2)) (fun r h => up_row r h) hd hp k
theorem aM_11 {z : Int} (hE : OK E cc nL own ret) (hM : Mem (YM G) E) (h0 : 0 ≤ z) (h1 : z < 6) (hd : decode cc pc = .ok (.iaload, 1)) (hp : pc' = pc + 1) (k : VV E nL A Q (Rh (YM G) σ) pc' lv (.int (iN (σ 11 0 0 z)) :: st)) : VV E nL A Q (Rh (YM G) σ) pc lv (.int (iN z) :: .ref (aM G 11) :: st) :=
  x_iald (q := (11, 0, 0)) (n := 6) (t0 := 0) hE hM (idM (by decide)) rfl rfl (by decide) h0 h1 hd hp k
theorem sM_11 {z v : Int} (hE : OK E cc nL own ret) (hM : Mem (YM G) E) (h0 : 0 ≤ z) (h1 : z < 6) (hd : decode cc pc = .ok (.iastore, 1)) (hp : pc' = pc + 1) (k : VV E nL (AS (YM G)) Q (Rh (YM G) (up σ 11 0 0 z v)) pc' lv st) : VV E nL (AS (YM G)) Q (Rh (YM G) σ) pc lv (.int (iN v) :: .int (iN z) :: .ref (aM G 11) :: st) :=
  x_iast (q := (11, 0, 0)) (n := 6) (t0 := 0) (ρ' := up σ 11 0 0 z v 11 0 0) hE hM (idM (by decide)) rfl rfl (by decide) h0 h1 rfl (up_s _ _ _ _ _ _) (fun j h => up_n (fun q => h q.2.2.2)) (fun r h => up_row r h) hd hp k
theorem aM_12 {z : Int} (hE : OK E cc nL own ret) (hM : Mem (YM G) E) (h0 : 0 ≤ z) (h1 : z < 8) (hd : decode cc pc = .ok (.iaload, 1)) (hp : pc' = pc + 1) (k : VV E nL A Q (Rh (YM G) σ) pc' lv (.int (iN (σ 12 0 0 z)) :: st)) : VV E nL A Q (Rh (YM G) σ) pc lv (.int (iN z) :: .ref (aM G 12) :: st) :=
  x_iald (q := (12, 0, 0)) (n := 8) (t0 := 0) hE hM (idM (by decide)) rfl rfl (by decide) h0 h1 hd hp k
theorem sM_12 {z v : Int} (hE : OK E cc nL own ret) (hM : Mem (YM G) E) (h0 : 0 ≤ z) (h1 : z < 8) (hd : decode cc pc = .ok (.iastore, 1)) (hp : pc' = pc + 1) (k : VV E nL (AS (YM G)) Q (Rh (YM G) (up σ 12 0 0 z v)) pc' lv st) : VV E nL (AS (YM G)) Q (Rh (YM G) σ) pc lv (.int (iN v) :: .int (iN z) :: .ref (aM G 12) :: st) :=
  x_iast (q := (12, 0, 0)) (n := 8) (t0 := 0) (ρ' := up σ 12 0 0 z v 12 0 0) hE hM (idM (by decide)) rfl rfl (by decide) h0 h1 rfl (up_s _ _ _ _ _ _) (fun j h => up_n (fun q => h q.2.2.2)) (fun r h => up_row r h) hd hp k
theorem aM_13 {z : Int} (hE : OK E cc nL own ret) (hM : Mem (YM G) E) (h0 : 0 ≤ z) (h1 : z < 5) (hd : decode cc pc = .ok (.iaload, 1)) (hp : pc' = pc + 1) (k : VV E nL A Q (Rh (YM G) σ) pc' lv (.int (iN (σ 13 0 0 z)) :: st)) : VV E nL A Q (Rh (YM G) σ) pc lv (.int (iN z) :: .ref (aM G 13) :: st) :=
  x_iald (q := (13, 0, 0)) (n := 5) (t0 := 0) hE hM (idM (by decide)) rfl rfl (by decide) h0 h1 hd hp k
theorem sM_13 {z v : Int} (hE : OK E cc nL own ret) (hM : Mem (YM G) E) (h0 : 0 ≤ z) (h1 : z < 5) (hd : decode cc pc = .ok (.iastore, 1)) (hp : pc' = pc + 1) (k : VV E nL (AS (YM G)) Q (Rh (YM G) (up σ 13 0 0 z v)) pc' lv st) : VV E nL (AS (YM G)) Q (Rh (YM G) σ) pc lv (.int (iN v) :: .int (iN z) :: .ref (aM G 13) :: st) :=
  x_iast (q := (13, 0, 0)) (n := 5) (t0 := 0) (ρ' := up σ 13 0 0 z v 13 0 0) hE hM (idM (by decide)) rfl rfl (by decide) h0 h1 rfl (up_s _ _ _ _ _ _) (fun j h => up_n (fun q => h q.2.2.2)) (fun r h => up_row r h) hd hp k
theorem aM_14 {z : Int} (hE : OK E cc nL own ret) (hM : Mem (YM G) E) (h0 : 0 ≤ z) (h1 : z < 5) (hd : decode cc pc = .ok (.iaload, 1)) (hp : pc' = pc + 1) (k : VV E nL A Q (Rh (YM G) σ) pc' lv (.int (iN (σ 14 0 0 z)) :: st)) : VV E nL A Q (Rh (YM G) σ) pc lv (.int (iN z) :: .ref (aM G 14) :: st) :=
  x_iald (q := (14, 0, 0)) (n := 5) (t0 := 0) hE hM (idM (by decide)) rfl rfl (by decide) h0 h1 hd hp k
theorem sM_14 {z v : Int} (hE : OK E cc nL own ret) (hM : Mem (YM G) E) (h0 : 0 ≤ z) (h1 : z < 5) (hd : decode cc pc = .ok (.iastore, 1)) (hp : pc' = pc + 1) (k : VV E nL (AS (YM G)) Q (Rh (YM G) (up σ 14 0 0 z v)) pc' lv st) : VV E nL (AS (YM G)) Q (Rh (YM G) σ) pc lv (.int (iN v) :: .int (iN z) :: .ref (aM G 14) :: st) :=
  x_iast (q := (14, 0, 0)) (n := 5) (t0 := 0) (ρ' := up σ 14 0 0 z v 14 0 0) hE hM (idM (by decide)) rfl rfl (by decide) h0 h1 rfl (up_s _ _ _ _ _ _) (fun j h => up_n (fun q => h q.2.2.2)) (fun r h => up_row r h) hd hp k
theorem aM_15 {z : Int} (hE : OK E cc nL own ret) (hM : Mem (YM G) E) (h0 : 0 ≤ z) (h1 : z < 5) (hd : decode cc pc = .ok (.iaload, 1)) (hp : pc' = pc + 1) (k : VV E nL A Q (Rh (YM G) σ) pc' lv (.int (iN (σ 15 0 0 z)) :: st)) : VV E nL A Q (Rh (YM G) σ) pc lv (.int (iN z) :: .ref (aM G 15) :: st) :=
  x_iald (q := (15, 0, 0)) (n := 5) (t0 := 0) hE hM (idM (by decide)) rfl rfl (by decide) h0 h1 hd hp k
theorem sM_15 {z v : Int} (hE : OK E cc nL own ret) (hM : Mem (YM G) E) (h0 : 0 ≤ z) (h1 : z < 5) (hd : decode cc pc = .ok (.iastore, 1)) (hp : pc' = pc + 1) (k : VV E nL (AS (YM G)) Q (Rh (YM G) (up σ 15 0 0 z v)) pc' lv st) : VV E nL (AS (YM G)) Q (Rh (YM G) σ) pc lv (.int (iN v) :: .int (iN z) :: .ref (aM G 15) :: st) :=
  x_iast (q := (15, 0, 0)) (n := 5) (t0 := 0) (ρ' := up σ 15 0 0 z v 15 0 0) hE hM (idM (by decide)) rfl rfl (by decide) h0 h1 rfl (up_s _ _ _ _ _ _) (fun j h => up_n (fun q => h q.2.2.2)) (fun r h => up_row r h) hd hp k
theorem aM_16 {z : Int} (hE : OK E cc nL own ret) (hM : Mem (YM G) E) (h0 : 0 ≤ z) (h1 : z < 8) (hd : decode cc pc = .ok (.iaload, 1)) (hp : pc' = pc + 1) (k : VV E nL A Q (Rh (YM G) σ) pc' lv (.int (iN (σ 16 0 0 z)) :: st)) : VV E nL A Q (Rh (YM G) σ) pc lv (.int (iN z) :: .ref (aM G 16) :: st) :=
  x_iald (q := (16, 0, 0)) (n := 8) (t0 := 0) hE hM (idM (by decide)) rfl rfl (by decide) h0 h1 hd hp k
theorem sM_16 {z v : Int} (hE : OK E cc nL own ret) (hM : Mem (YM G) E) (h0 : 0 ≤ z) (h1 : z < 8) (hd : decode cc pc = .ok (.iastore, 1)) (hp : pc' = pc + 1) (k : VV E nL (AS (YM G)) Q (Rh (YM G) (up σ 16 0 0 z v)) pc' lv st) : VV E nL (AS (YM G)) Q (Rh (YM G) σ) pc lv (.int (iN v) :: .int (iN z) :: .ref (aM G 16) :: st) :=
  x_iast (q := (16, 0, 0)) (n := 8) (t0 := 0) (ρ' := up σ 16 0 0 z v 16 0 0) hE hM (idM (by decide)) rfl rfl (by decide) h0 h1 rfl (up_s _ _ _ _ _ _) (fun j h => up_n (fun q => h q.2.2.2)) (fun r h => up_row r h) hd hp k
theorem aM_17 {z : Int} (hE : OK E cc nL own ret) (hM : Mem (YM G) E) (h0 : 0 ≤ z) (h1 : z < 8) (hd : decode cc pc = .ok (.iaload, 1)) (hp : pc' = pc + 1) (k : VV E nL A Q (Rh (YM G) σ) pc' lv (.int (iN (σ 17 0 0 z)) :: st)) : VV E nL A Q (Rh (YM G) σ) pc lv (.int (iN z) :: .ref (aM G 17) :: st) :=
  x_iald (q := (17, 0, 0)) (n := 8) (t0 := 0) hE hM (idM (by decide)) rfl rfl (by decide) h0 h1 hd hp k
theorem sM_17 {z v : Int} (hE : OK E cc nL own ret) (hM : Mem (YM G) E) (h0 : 0 ≤ z) (h1 : z < 8) (hd : decode cc pc = .ok (.iastore, 1)) (hp : pc' = pc + 1) (k : VV E nL (AS (YM G)) Q (Rh (YM G) (up σ 17 0 0 z v)) pc' lv st) : VV E nL (AS (YM G)) Q (Rh (YM G) σ) pc lv (.int (iN v) :: .int (iN z) :: .ref (aM G 17) :: st) :=
  x_iast (q := (17, 0, 0)) (n := 8) (t0 := 0) (ρ' := up σ 17 0 0 z v 17 0 0) hE hM (idM (by decide)) rfl rfl (by decide) h0 h1 rfl (up_s _ _ _ _ _ _) (fun j h => up_n (fun q => h q.2.2.2)) (fun r h => up_row r h) hd hp k
theorem aM_18 {z : Int} (hE : OK E cc nL own ret) (hM : Mem (YM G) E) (h0 : 0 ≤ z) (h1 : z < 5) (hd : decode cc pc = .ok (.iaload, 1)) (hp : pc' = pc + 1) (k : VV E nL A Q (Rh (YM G) σ) pc' lv (.int (iN (σ 18 0 0 z)) :: st)) : VV E nL A Q (Rh (YM G) σ) pc lv (.int (iN z) :: .ref (aM G 18) :: st) :=
  x_iald (q := (18, 0, 0)) (n := 5) (t0 := 0) hE hM (idM (by decide)) rfl rfl (by decide) h0 h1 hd hp k
theorem sM_18 {z v : Int} (hE : OK E cc nL own ret) (hM : Mem (YM G) E) (h0 : 0 ≤ z) (h1 : z < 5) (hd : decode cc pc = .ok (.iastore, 1)) (hp : pc' = pc + 1) (k : VV E nL (AS (YM G)) Q (Rh (YM G) (up σ 18 0 0 z v)) pc' lv st) : VV E nL (AS (YM G)) Q (Rh (YM G) σ) pc lv (.int (iN v) :: .int (iN z) :: .ref (aM G 18) :: st) :=
  x_iast (q := (18, 0, 0)) (n := 5) (t0 := 0) (ρ' := up σ 18 0 0 z v 18 0 0) hE hM (idM (by decide)) rfl rfl (by decide) h0 h1 rfl (up_s _ _ _ _ _ _) (fun j h => up_n (fun q => h q.2.2.2)) (fun r h => up_row r h) hd hp k
theorem aM_19 {z : Int} (hE : OK E cc nL own ret) (hM : Mem (YM G) E) (h0 : 0 ≤ z) (h1 : z < 5) (hd : decode cc pc = .ok (.iaload, 1)) (hp : pc' = pc + 1) (k : VV E nL A Q (Rh (YM G) σ) pc' lv (.int (iN (σ 19 0 0 z)) :: st)) : VV E nL A Q (Rh (YM G) σ) pc lv (.int (iN z) :: .ref (aM G 19) :: st) :=
  x_iald (q := (19, 0, 0)) (n := 5) (t0 := 0) hE hM (idM (by decide)) rfl rfl (by decide) h0 h1 hd hp k
theorem sM_19 {z v : Int} (hE : OK E cc nL own ret) (hM : Mem (YM G) E) (h0 : 0 ≤ z) (h1 : z < 5) (hd : decode cc pc = .ok (.iastore, 1)) (hp : pc' = pc + 1) (k : VV E nL (AS (YM G)) Q (Rh (YM G) (up σ 19 0 0 z v)) pc' lv st) : VV E nL (AS (YM G)) Q (Rh (YM G) σ) pc lv (.int (iN v) :: .int (iN z) :: .ref (aM G 19) :: st) :=
  x_iast (q := (19, 0, 0)) (n := 5) (t0 := 0) (ρ' := up σ 19 0 0 z v 19 0 0) hE hM (idM (by decide)) rfl rfl (by decide) h0 h1 rfl (up_s _ _ _ _ _ _) (fun j h => up_n (fun q => h q.2.2.2)) (fun r h => up_row r h) hd hp k
theorem aM_20 {z : Int} (hE : OK E cc nL own ret) (hM : Mem (YM G) E) (h0 : 0 ≤ z) (h1 : z < 5) (hd : decode cc pc = .ok (.iaload, 1)) (hp : pc' = pc + 1) (k : VV E nL A Q (Rh (YM G) σ) pc' lv (.int (iN (σ 20 0 0 z)) :: st)) : VV E nL A Q (Rh (YM G) σ) pc lv (.int (iN z) :: .ref (aM G 20) :: st) :=
  x_iald (q := (20, 0, 0)) (n := 5) (t0 := 0) hE hM (idM (by decide)) rfl rfl (by decide) h0 h1 hd hp k
theorem sM_20 {z v : Int} (hE : OK E cc nL own ret) (hM : Mem (YM G) E) (h0 : 0 ≤ z) (h1 : z < 5) (hd : decode cc pc = .ok (.iastore, 1)) (hp : pc' = pc + 1) (k : VV E nL (AS (YM G)) Q (Rh (YM G) (up σ 20 0 0 z v)) pc' lv st) : VV E nL (AS (YM G)) Q (Rh (YM G) σ) pc lv (.int (iN v) :: .int (iN z) :: .ref (aM G 20) :: st) :=
  x_iast (q := (20, 0, 0)) (n := 5) (t0 := 0) (ρ' := up σ 20 0 0 z v 20 0 0) hE hM (idM (by decide)) rfl rfl (by decide) h0 h1 rfl (up_s _ _ _ _ _ _) (fun j h => up_n (fun q => h q.2.2.2)) (fun r h => up_row r h) hd hp k
end MR
/-! the class's cells, by kind, world, number: 0 the object, 1 2 the page, 3 4 the feasts, 5 the draws; of each of three worlds 6 itself, 7 8 9 its rows, 10 its sight, 11 its packs, 12 its flocks -/
abbrev GC : Type := va_G × (Nat → Nat → Int → Nat) × (ClassId × ClassId × ClassId × ClassId × ClassId) × (Nat → Nat) × Nat
def aC (G : GC) (kd w : Nat) (i : Int) : Nat := G.2.1 kd w i
def eC (G : GC) (k : Int) : Nat := G.2.2.2.1 k.toNat
def tC (G : GC) : Nat := G.2.2.2.2
def idsC : List (Nat × Nat × Int) := [(0, 0, 0), (1, 0, 0), (2, 0, 0), (3, 0, 0), (4, 0, 0), (5, 0, 0)] ++ (List.range 3).flatMap (fun w => [(6, w, 0), (7, w, 0), (8, w, 0), (9, w, 0), (10, w, 0), (11, w, 0), (11, w, 1), (11, w, 2), (11, w, 3), (12, w, 0), (12, w, 1), (12, w, 2), (12, w, 3), (12, w, 4)])
theorem idC0 {k : Nat} (h : k < 6) : (k, 0, 0) ∈ idsC := by
  have : ∀ k, k < 6 → (k, 0, 0) ∈ idsC := by decide +kernel
  exact this k h
theorem idCw {k w : Nat} (h0 : 6 ≤ k) (h : k < 11) (hw : w < 3) : (k, w, 0) ∈ idsC := by
  have key : ∀ w, w < 3 → ∀ k, k < 11 → (k < 6 ∨ (k, w, 0) ∈ idsC) := by decide +kernel
  rcases key w hw k h with h9 | h9
  · omega
  · exact h9
theorem idCp {w : Nat} {i : Int} (hw : w < 3) (h0 : 0 ≤ i) (h1 : i < 4) : (11, w, i) ∈ idsC := by
  obtain ⟨n, rfl⟩ := Int.eq_ofNat_of_zero_le h0
  have : ∀ w, w < 3 → ∀ n, n < 4 → (11, w, ((n : Nat) : Int)) ∈ idsC := by decide +kernel
  exact this w hw n (by omega)
theorem idCf {w : Nat} {i : Int} (hw : w < 3) (h0 : 0 ≤ i) (h1 : i < 5) : (12, w, i) ∈ idsC := by
  obtain ⟨n, rfl⟩ := Int.eq_ofNat_of_zero_le h0
  have : ∀ w, w < 3 → ∀ n, n < 5 → (12, w, ((n : Nat) : Int)) ∈ idsC := by decide +kernel
  exact this w hw n (by omega)
def cfC (G : GC) (kd w : Nat) (_i : Int) (ρ : Int → Int) : va_E := match G.2.2.1 with
  | (cI, cZ, cC, cP, cF) => if kd = 0 then .inr (7, [.ref (aC G 1 0 0), .ref (aC G 3 0 0), .ref (aC G 6 0 0), .ref (aC G 6 1 0), .ref (aC G 6 2 0), .ref (aC G 5 0 0), .int (iN (ρ 6)), .int (iN (ρ 7)), .int (iN (ρ 8))]) else if kd = 1 then .inr (4, [.ref (aC G 2 0 0), .int (iN (ρ 1))]) else if kd = 2 then .inl (cC, 24, .inl (fun j => iN (ρ j))) else if kd = 3 then .inr (1, [.ref (aC G 4 0 0), .int (iN (ρ 1))]) else if kd = 4 then .inl (cZ, 210, .inl (fun j => iN (ρ j))) else if kd = 5 then .inr (0, [.long (lL (ρ 0))]) else if kd = 6 then .inr (6, [.ref (aC G 7 w 0), .ref (aC G 8 w 0), .ref (aC G 9 w 0), .ref (aC G 10 w 0), .int (iN (ρ 4)), .int (iN (ρ 5)), .int (iN (ρ 6)), .int (iN (ρ 7))]) else if kd = 7 then .inl (cP, 4, .inr (.inr (.inr (.inr (fun j => some (aC G 11 w j)))))) else if kd = 8 then .inl (cF, 5, .inr (.inr (.inr (.inr (fun j => some (aC G 12 w j)))))) else if kd = 9 then .inl (cI, 8, .inl (fun j => iN (ρ j))) else if kd = 10 then .inr (5, [.int (iN (ρ 0)), .int (iN (ρ 1)), .int (iN (ρ 2)), .int (iN (ρ 3))]) else if kd = 11 then .inr (3, [.ref (eC G (ρ 0)), .int (iN (ρ 1)), .int (iN (ρ 2))]) else .inr (2, [.int (iN (ρ 0)), .int (iN (ρ 1)), .int (iN (ρ 2))])
def adC (G : GC) : Nat → Prop := fun a => ∃ q ∈ idsC, a = aC G q.1 q.2.1 q.2.2
def KN : List String := ["PACK", "CUBS", "STARVED", "HERETIC", "PILGRIM"]
def KF : List (String × String × String × List Int32) := [("WolfCalendar$Kind", "number", "I", [0, 1, 2, 3, 4]), ("WolfCalendar$Kind", "keepsFridays", "Z", [1, 1, 0, 1, 1]), ("WolfCalendar$Kind", "keepsFeasts", "Z", [1, 0, 1, 1, 1]), ("WolfCalendar$Kind", "lagsBehind", "Z", [0, 0, 0, 1, 1]), ("WolfCalendar$Kind", "looksAhead", "Z", [0, 0, 0, 0, 1])]
def stC (G : GC) (U : State) (H : Heap) : Prop := va_En "WolfCalendar$Kind" "LWolfCalendar$Kind;" KN KF G.2.2.2.1 (adC G) U H ∧ va_Z "WolfCalendar" "KINDS" "[LWolfCalendar$Kind;" (.ref (tC G)) (adC G) U H ∧ va_T (.object "WolfCalendar$Kind") (tC G) 5 (fun j => .ref (eC G (j : Int))) (adC G) U H
def YC (G : GC) : SY := (G.1, [(G.2.2.1.1, .int), (G.2.2.1.2.1, .boolean), (G.2.2.1.2.2.1, .char), (G.2.2.1.2.2.2.1, .object "WolfCalendar$Pack"), (G.2.2.1.2.2.2.2, .object "WolfCalendar$Flock")], aC G, idsC, cfC G, stC G)
theorem okC (G : GC) : YOk (YC G) := fun _ _ _ _ hvm h hk => ⟨va_En.kept (va_En.moved hvm h.1) hk, va_Z.kept (va_Z.moved hvm h.2.1) hk, va_T.kept (va_T.moved hvm h.2.2) hk⟩

theorem rcv_X8 {G : GC} {E : EV} {σ : St} (hM : Mem (YC G) E) : Recv (YC G) E σ (aC G 0 0 0) RX8 := rcv_of hM (q := (0, 0, 0)) (idC0 (by decide)) rfl rfl
theorem rcv_X5 {G : GC} {E : EV} {σ : St} (hM : Mem (YC G) E) : Recv (YC G) E σ (aC G 1 0 0) RX5 := rcv_of hM (q := (1, 0, 0)) (idC0 (by decide)) rfl rfl
theorem rcv_X1 {G : GC} {E : EV} {σ : St} (hM : Mem (YC G) E) : Recv (YC G) E σ (aC G 3 0 0) RX1 := rcv_of hM (q := (3, 0, 0)) (idC0 (by decide)) rfl rfl
theorem rcv_X0 {G : GC} {E : EV} {σ : St} (hM : Mem (YC G) E) : Recv (YC G) E σ (aC G 5 0 0) RX0 := rcv_of hM (q := (5, 0, 0)) (idC0 (by decide)) rfl rfl
theorem rcv_X7 {G : GC} {E : EV} {σ : St} {w : Nat} (hv : w < 3) (hM : Mem (YC G) E) : Recv (YC G) E σ (aC G 6 w 0) RX7 := rcv_of hM (q := (6, w, 0)) (idCw (by decide) (by decide) hv) rfl rfl
theorem rcv_X6 {G : GC} {E : EV} {σ : St} {w : Nat} (hv : w < 3) (hM : Mem (YC G) E) : Recv (YC G) E σ (aC G 10 w 0) RX6 := rcv_of hM (q := (10, w, 0)) (idCw (by decide) (by decide) hv) rfl rfl
theorem rcv_X4 {G : GC} {E : EV} {σ : St} {w : Nat} {i : Int} (hv : w < 3) (hi0 : 0 ≤ i) (hi1 : i < 4) (hM : Mem (YC G) E) : Recv (YC G) E σ (aC G 11 w i) RX4 := rcv_of hM (q := (11, w, i)) (idCp hv hi0 hi1) rfl rfl
theorem rcv_X2 {G : GC} {E : EV} {σ : St} {w : Nat} {i : Int} (hv : w < 3) (hi0 : 0 ≤ i) (hi1 : i < 5) (hM : Mem (YC G) E) : Recv (YC G) E σ (aC G 12 w i) RX2 := rcv_of hM (q := (12, w, i)) (idCf hv hi0 hi1) rfl rfl
section CR
variable {E : EV} {cc : ByteArray} {nL : Nat} {own : String} {ret : Option FieldType} {A : Nat → Prop} {Q : State → Prop} {pc pc' idx : Nat} {lv : List (Option Value)} {st : List Value} {σ : St} {G : GC}
theorem g_X8_0 (hE : OK E cc nL own ret) (hM : Mem (YC G) E) (hw : Cond.fieldLink own idx "WolfCalendar" "page" "LWolfCalendar$Page;" ∈ TW) (hd : decode cc pc = .ok (.getfield idx, 3)) (hp : pc' = pc + 3) (k : VV E nL A Q (Rh (YC G) σ) pc' lv (.ref (aC G 1 0 0) :: st)) : VV E nL A Q (Rh (YC G) σ) pc lv (.ref (aC G 0 0 0) :: st) :=
  x_get (q := (0, 0, 0)) (j := 0) hE hM (idC0 (by decide)) rfl rfl (by decide) wT_X8 hw rfl rfl hd hp k
theorem gN_X8_0 (hE : OK E cc nL own ret) (hM : Mem (YC G) E) (hw : ∀ U : State, NW U → va_Nw (.fieldLinkNest own idx "WolfCalendar" "page" "LWolfCalendar$Page;" "WolfCalendar") U) (hd : decode cc pc = .ok (.getfield idx, 3)) (hp : pc' = pc + 3) (k : VV E nL A Q (Rh (YC G) σ) pc' lv (.ref (aC G 1 0 0) :: st)) : VV E nL A Q (Rh (YC G) σ) pc lv (.ref (aC G 0 0 0) :: st) :=
  x_getN (q := (0, 0, 0)) (j := 0) hE hM (idC0 (by decide)) rfl rfl (by decide) wT_X8 hw rfl rfl hd hp k
theorem g_X8_1 (hE : OK E cc nL own ret) (hM : Mem (YC G) E) (hw : Cond.fieldLink own idx "WolfCalendar" "calendar" "LWolfCalendar$Feasts;" ∈ TW) (hd : decode cc pc = .ok (.getfield idx, 3)) (hp : pc' = pc + 3) (k : VV E nL A Q (Rh (YC G) σ) pc' lv (.ref (aC G 3 0 0) :: st)) : VV E nL A Q (Rh (YC G) σ) pc lv (.ref (aC G 0 0 0) :: st) :=
  x_get (q := (0, 0, 0)) (j := 1) hE hM (idC0 (by decide)) rfl rfl (by decide) wT_X8 hw rfl rfl hd hp k
theorem gN_X8_1 (hE : OK E cc nL own ret) (hM : Mem (YC G) E) (hw : ∀ U : State, NW U → va_Nw (.fieldLinkNest own idx "WolfCalendar" "calendar" "LWolfCalendar$Feasts;" "WolfCalendar") U) (hd : decode cc pc = .ok (.getfield idx, 3)) (hp : pc' = pc + 3) (k : VV E nL A Q (Rh (YC G) σ) pc' lv (.ref (aC G 3 0 0) :: st)) : VV E nL A Q (Rh (YC G) σ) pc lv (.ref (aC G 0 0 0) :: st) :=
  x_getN (q := (0, 0, 0)) (j := 1) hE hM (idC0 (by decide)) rfl rfl (by decide) wT_X8 hw rfl rfl hd hp k
theorem g_X8_2 (hE : OK E cc nL own ret) (hM : Mem (YC G) E) (hw : Cond.fieldLink own idx "WolfCalendar" "now" "LWolfCalendar$World;" ∈ TW) (hd : decode cc pc = .ok (.getfield idx, 3)) (hp : pc' = pc + 3) (k : VV E nL A Q (Rh (YC G) σ) pc' lv (.ref (aC G 6 0 0) :: st)) : VV E nL A Q (Rh (YC G) σ) pc lv (.ref (aC G 0 0 0) :: st) :=
  x_get (q := (0, 0, 0)) (j := 2) hE hM (idC0 (by decide)) rfl rfl (by decide) wT_X8 hw rfl rfl hd hp k
theorem gN_X8_2 (hE : OK E cc nL own ret) (hM : Mem (YC G) E) (hw : ∀ U : State, NW U → va_Nw (.fieldLinkNest own idx "WolfCalendar" "now" "LWolfCalendar$World;" "WolfCalendar") U) (hd : decode cc pc = .ok (.getfield idx, 3)) (hp : pc' = pc + 3) (k : VV E nL A Q (Rh (YC G) σ) pc' lv (.ref (aC G 6 0 0) :: st)) : VV E nL A Q (Rh (YC G) σ) pc lv (.ref (aC G 0 0 0) :: st) :=
  x_getN (q := (0, 0, 0)) (j := 2) hE hM (idC0 (by decide)) rfl rfl (by decide) wT_X8 hw rfl rfl hd hp k
theorem g_X8_3 (hE : OK E cc nL own ret) (hM : Mem (YC G) E) (hw : Cond.fieldLink own idx "WolfCalendar" "kept" "LWolfCalendar$World;" ∈ TW) (hd : decode cc pc = .ok (.getfield idx, 3)) (hp : pc' = pc + 3) (k : VV E nL A Q (Rh (YC G) σ) pc' lv (.ref (aC G 6 1 0) :: st)) : VV E nL A Q (Rh (YC G) σ) pc lv (.ref (aC G 0 0 0) :: st) :=
  x_get (q := (0, 0, 0)) (j := 3) hE hM (idC0 (by decide)) rfl rfl (by decide) wT_X8 hw rfl rfl hd hp k
theorem gN_X8_3 (hE : OK E cc nL own ret) (hM : Mem (YC G) E) (hw : ∀ U : State, NW U → va_Nw (.fieldLinkNest own idx "WolfCalendar" "kept" "LWolfCalendar$World;" "WolfCalendar") U) (hd : decode cc pc = .ok (.getfield idx, 3)) (hp : pc' = pc + 3) (k : VV E nL A Q (Rh (YC G) σ) pc' lv (.ref (aC G 6 1 0) :: st)) : VV E nL A Q (Rh (YC G) σ) pc lv (.ref (aC G 0 0 0) :: st) :=
  x_getN (q := (0, 0, 0)) (j := 3) hE hM (idC0 (by decide)) rfl rfl (by decide) wT_X8 hw rfl rfl hd hp k
theorem g_X8_4 (hE : OK E cc nL own ret) (hM : Mem (YC G) E) (hw : Cond.fieldLink own idx "WolfCalendar" "trial" "LWolfCalendar$World;" ∈ TW) (hd : decode cc pc = .ok (.getfield idx, 3)) (hp : pc' = pc + 3) (k : VV E nL A Q (Rh (YC G) σ) pc' lv (.ref (aC G 6 2 0) :: st)) : VV E nL A Q (Rh (YC G) σ) pc lv (.ref (aC G 0 0 0) :: st) :=
  x_get (q := (0, 0, 0)) (j := 4) hE hM (idC0 (by decide)) rfl rfl (by decide) wT_X8 hw rfl rfl hd hp k
theorem gN_X8_4 (hE : OK E cc nL own ret) (hM : Mem (YC G) E) (hw : ∀ U : State, NW U → va_Nw (.fieldLinkNest own idx "WolfCalendar" "trial" "LWolfCalendar$World;" "WolfCalendar") U) (hd : decode cc pc = .ok (.getfield idx, 3)) (hp : pc' = pc + 3) (k : VV E nL A Q (Rh (YC G) σ) pc' lv (.ref (aC G 6 2 0) :: st)) : VV E nL A Q (Rh (YC G) σ) pc lv (.ref (aC G 0 0 0) :: st) :=
  x_getN (q := (0, 0, 0)) (j := 4) hE hM (idC0 (by decide)) rfl rfl (by decide) wT_X8 hw rfl rfl hd hp k
theorem g_X8_5 (hE : OK E cc nL own ret) (hM : Mem (YC G) E) (hw : Cond.fieldLink own idx "WolfCalendar" "draws" "LWolfCalendar$Draws;" ∈ TW) (hd : decode cc pc = .ok (.getfield idx, 3)) (hp : pc' = pc + 3) (k : VV E nL A Q (Rh (YC G) σ) pc' lv (.ref (aC G 5 0 0) :: st)) : VV E nL A Q (Rh (YC G) σ) pc lv (.ref (aC G 0 0 0) :: st) :=
  x_get (q := (0, 0, 0)) (j := 5) hE hM (idC0 (by decide)) rfl rfl (by decide) wT_X8 hw rfl rfl hd hp k
theorem gN_X8_5 (hE : OK E cc nL own ret) (hM : Mem (YC G) E) (hw : ∀ U : State, NW U → va_Nw (.fieldLinkNest own idx "WolfCalendar" "draws" "LWolfCalendar$Draws;" "WolfCalendar") U) (hd : decode cc pc = .ok (.getfield idx, 3)) (hp : pc' = pc + 3) (k : VV E nL A Q (Rh (YC G) σ) pc' lv (.ref (aC G 5 0 0) :: st)) : VV E nL A Q (Rh (YC G) σ) pc lv (.ref (aC G 0 0 0) :: st) :=
  x_getN (q := (0, 0, 0)) (j := 5) hE hM (idC0 (by decide)) rfl rfl (by decide) wT_X8 hw rfl rfl hd hp k
theorem g_X8_6 (hE : OK E cc nL own ret) (hM : Mem (YC G) E) (hw : Cond.fieldLink own idx "WolfCalendar" "imageKept" "Z" ∈ TW) (hd : decode cc pc = .ok (.getfield idx, 3)) (hp : pc' = pc + 3) (k : VV E nL A Q (Rh (YC G) σ) pc' lv (.int (iN (σ 0 0 0 6)) :: st)) : VV E nL A Q (Rh (YC G) σ) pc lv (.ref (aC G 0 0 0) :: st) :=
  x_get (q := (0, 0, 0)) (j := 6) hE hM (idC0 (by decide)) rfl rfl (by decide) wT_X8 hw rfl rfl hd hp k
theorem p_X8_6 {z : Int} (hE : OK E cc nL own ret) (hM : Mem (YC G) E) (hw : Cond.fieldLink own idx "WolfCalendar" "imageKept" "Z" ∈ TW) (hz : z = 0 ∨ z = 1) (hd : decode cc pc = .ok (.putfield idx, 3)) (hp : pc' = pc + 3) (k : VV E nL (AS (YC G)) Q (Rh (YC G) (up σ 0 0 0 6 z)) pc' lv st) : VV E nL (AS (YC G)) Q (Rh (YC G) σ) pc lv (.int (iN z) :: .ref (aC G 0 0 0) :: st) :=
  x_put (q := (0, 0, 0)) (j := 6) (ty := .boolean) hE hM (idC0 (by decide)) rfl rfl (by decide) wT_X8 tyX8_ok nmX8 hw rfl rfl (by decide +kernel) (by rcases hz with rfl | rfl <;> rfl) (by rcases hz with rfl | rfl <;> rfl) (Nat.le_of_ble_eq_true rfl) (by first | rfl | simp [yC, YC, cfC, up]) (fun r h => up_row r h) hd hp k
theorem gN_X8_6 (hE : OK E cc nL own ret) (hM : Mem (YC G) E) (hw : ∀ U : State, NW U → va_Nw (.fieldLinkNest own idx "WolfCalendar" "imageKept" "Z" "WolfCalendar") U) (hd : decode cc pc = .ok (.getfield idx, 3)) (hp : pc' = pc + 3) (k : VV E nL A Q (Rh (YC G) σ) pc' lv (.int (iN (σ 0 0 0 6)) :: st)) : VV E nL A Q (Rh (YC G) σ) pc lv (.ref (aC G 0 0 0) :: st) :=
  x_getN (q := (0, 0, 0)) (j := 6) hE hM (idC0 (by decide)) rfl rfl (by decide) wT_X8 hw rfl rfl hd hp k
theorem pN_X8_6 {z : Int} (hE : OK E cc nL own ret) (hM : Mem (YC G) E) (hw : ∀ U : State, NW U → va_Nw (.fieldLinkNest own idx "WolfCalendar" "imageKept" "Z" "WolfCalendar") U) (hz : z = 0 ∨ z = 1) (hd : decode cc pc = .ok (.putfield idx, 3)) (hp : pc' = pc + 3) (k : VV E nL (AS (YC G)) Q (Rh (YC G) (up σ 0 0 0 6 z)) pc' lv st) : VV E nL (AS (YC G)) Q (Rh (YC G) σ) pc lv (.int (iN z) :: .ref (aC G 0 0 0) :: st) :=
  x_putN (q := (0, 0, 0)) (j := 6) (ty := .boolean) hE hM (idC0 (by decide)) rfl rfl (by decide) wT_X8 tyX8_ok nmX8 hw rfl rfl (by decide +kernel) (by rcases hz with rfl | rfl <;> rfl) (by rcases hz with rfl | rfl <;> rfl) (Nat.le_of_ble_eq_true rfl) (by first | rfl | simp [yC, YC, cfC, up]) (fun r h => up_row r h) hd hp k
theorem g_X8_7 (hE : OK E cc nL own ret) (hM : Mem (YC G) E) (hw : Cond.fieldLink own idx "WolfCalendar" "timesRead" "I" ∈ TW) (hd : decode cc pc = .ok (.getfield idx, 3)) (hp : pc' = pc + 3) (k : VV E nL A Q (Rh (YC G) σ) pc' lv (.int (iN (σ 0 0 0 7)) :: st)) : VV E nL A Q (Rh (YC G) σ) pc lv (.ref (aC G 0 0 0) :: st) :=
  x_get (q := (0, 0, 0)) (j := 7) hE hM (idC0 (by decide)) rfl rfl (by decide) wT_X8 hw rfl rfl hd hp k
theorem p_X8_7 {z : Int} (hE : OK E cc nL own ret) (hM : Mem (YC G) E) (hw : Cond.fieldLink own idx "WolfCalendar" "timesRead" "I" ∈ TW) (hd : decode cc pc = .ok (.putfield idx, 3)) (hp : pc' = pc + 3) (k : VV E nL (AS (YC G)) Q (Rh (YC G) (up σ 0 0 0 7 z)) pc' lv st) : VV E nL (AS (YC G)) Q (Rh (YC G) σ) pc lv (.int (iN z) :: .ref (aC G 0 0 0) :: st) :=
  x_put (q := (0, 0, 0)) (j := 7) (ty := .int) hE hM (idC0 (by decide)) rfl rfl (by decide) wT_X8 tyX8_ok nmX8 hw rfl rfl (by decide +kernel) rfl rfl (Nat.le_of_ble_eq_true rfl) (by first | rfl | simp [yC, YC, cfC, up]) (fun r h => up_row r h) hd hp k
theorem gN_X8_7 (hE : OK E cc nL own ret) (hM : Mem (YC G) E) (hw : ∀ U : State, NW U → va_Nw (.fieldLinkNest own idx "WolfCalendar" "timesRead" "I" "WolfCalendar") U) (hd : decode cc pc = .ok (.getfield idx, 3)) (hp : pc' = pc + 3) (k : VV E nL A Q (Rh (YC G) σ) pc' lv (.int (iN (σ 0 0 0 7)) :: st)) : VV E nL A Q (Rh (YC G) σ) pc lv (.ref (aC G 0 0 0) :: st) :=
  x_getN (q := (0, 0, 0)) (j := 7) hE hM (idC0 (by decide)) rfl rfl (by decide) wT_X8 hw rfl rfl hd hp k
theorem pN_X8_7 {z : Int} (hE : OK E cc nL own ret) (hM : Mem (YC G) E) (hw : ∀ U : State, NW U → va_Nw (.fieldLinkNest own idx "WolfCalendar" "timesRead" "I" "WolfCalendar") U) (hd : decode cc pc = .ok (.putfield idx, 3)) (hp : pc' = pc + 3) (k : VV E nL (AS (YC G)) Q (Rh (YC G) (up σ 0 0 0 7 z)) pc' lv st) : VV E nL (AS (YC G)) Q (Rh (YC G) σ) pc lv (.int (iN z) :: .ref (aC G 0 0 0) :: st) :=
  x_putN (q := (0, 0, 0)) (j := 7) (ty := .int) hE hM (idC0 (by decide)) rfl rfl (by decide) wT_X8 tyX8_ok nmX8 hw rfl rfl (by decide +kernel) rfl rfl (Nat.le_of_ble_eq_true rfl) (by first | rfl | simp [yC, YC, cfC, up]) (fun r h => up_row r h) hd hp k
theorem g_X8_8 (hE : OK E cc nL own ret) (hM : Mem (YC G) E) (hw : Cond.fieldLink own idx "WolfCalendar" "timesGrazed" "I" ∈ TW) (hd : decode cc pc = .ok (.getfield idx, 3)) (hp : pc' = pc + 3) (k : VV E nL A Q (Rh (YC G) σ) pc' lv (.int (iN (σ 0 0 0 8)) :: st)) : VV E nL A Q (Rh (YC G) σ) pc lv (.ref (aC G 0 0 0) :: st) :=
  x_get (q := (0, 0, 0)) (j := 8) hE hM (idC0 (by decide)) rfl rfl (by decide) wT_X8 hw rfl rfl hd hp k
theorem p_X8_8 {z : Int} (hE : OK E cc nL own ret) (hM : Mem (YC G) E) (hw : Cond.fieldLink own idx "WolfCalendar" "timesGrazed" "I" ∈ TW) (hd : decode cc pc = .ok (.putfield idx, 3)) (hp : pc' = pc + 3) (k : VV E nL (AS (YC G)) Q (Rh (YC G) (up σ 0 0 0 8 z)) pc' lv st) : VV E nL (AS (YC G)) Q (Rh (YC G) σ) pc lv (.int (iN z) :: .ref (aC G 0 0 0) :: st) :=
  x_put (q := (0, 0, 0)) (j := 8) (ty := .int) hE hM (idC0 (by decide)) rfl rfl (by decide) wT_X8 tyX8_ok nmX8 hw rfl rfl (by decide +kernel) rfl rfl (Nat.le_of_ble_eq_true rfl) (by first | rfl | simp [yC, YC, cfC, up]) (fun r h => up_row r h) hd hp k
theorem gN_X8_8 (hE : OK E cc nL own ret) (hM : Mem (YC G) E) (hw : ∀ U : State, NW U → va_Nw (.fieldLinkNest own idx "WolfCalendar" "timesGrazed" "I" "WolfCalendar") U) (hd : decode cc pc = .ok (.getfield idx, 3)) (hp : pc' = pc + 3) (k : VV E nL A Q (Rh (YC G) σ) pc' lv (.int (iN (σ 0 0 0 8)) :: st)) : VV E nL A Q (Rh (YC G) σ) pc lv (.ref (aC G 0 0 0) :: st) :=
  x_getN (q := (0, 0, 0)) (j := 8) hE hM (idC0 (by decide)) rfl rfl (by decide) wT_X8 hw rfl rfl hd hp k
theorem pN_X8_8 {z : Int} (hE : OK E cc nL own ret) (hM : Mem (YC G) E) (hw : ∀ U : State, NW U → va_Nw (.fieldLinkNest own idx "WolfCalendar" "timesGrazed" "I" "WolfCalendar") U) (hd : decode cc pc = .ok (.putfield idx, 3)) (hp : pc' = pc + 3) (k : VV E nL (AS (YC G)) Q (Rh (YC G) (up σ 0 0 0 8 z)) pc' lv st) : VV E nL (AS (YC G)) Q (Rh (YC G) σ) pc lv (.int (iN z) :: .ref (aC G 0 0 0) :: st) :=
  x_putN (q := (0, 0, 0)) (j := 8) (ty := .int) hE hM (idC0 (by decide)) rfl rfl (by decide) wT_X8 tyX8_ok nmX8 hw rfl rfl (by decide +kernel) rfl rfl (Nat.le_of_ble_eq_true rfl) (by first | rfl | simp [yC, YC, cfC, up]) (fun r h => up_row r h) hd hp k
theorem g_X5_0 (hE : OK E cc nL own ret) (hM : Mem (YC G) E) (hw : Cond.fieldLink own idx "WolfCalendar$Page" "letters" "[C" ∈ TW) (hd : decode cc pc = .ok (.getfield idx, 3)) (hp : pc' = pc + 3) (k : VV E nL A Q (Rh (YC G) σ) pc' lv (.ref (aC G 2 0 0) :: st)) : VV E nL A Q (Rh (YC G) σ) pc lv (.ref (aC G 1 0 0) :: st) :=
  x_get (q := (1, 0, 0)) (j := 0) hE hM (idC0 (by decide)) rfl rfl (by decide) wT_X5 hw rfl rfl hd hp k
theorem gN_X5_0 (hE : OK E cc nL own ret) (hM : Mem (YC G) E) (hw : ∀ U : State, NW U → va_Nw (.fieldLinkNest own idx "WolfCalendar$Page" "letters" "[C" "WolfCalendar") U) (hd : decode cc pc = .ok (.getfield idx, 3)) (hp : pc' = pc + 3) (k : VV E nL A Q (Rh (YC G) σ) pc' lv (.ref (aC G 2 0 0) :: st)) : VV E nL A Q (Rh (YC G) σ) pc lv (.ref (aC G 1 0 0) :: st) :=
  x_getN (q := (1, 0, 0)) (j := 0) hE hM (idC0 (by decide)) rfl rfl (by decide) wT_X5 hw rfl rfl hd hp k
theorem g_X5_1 (hE : OK E cc nL own ret) (hM : Mem (YC G) E) (hw : Cond.fieldLink own idx "WolfCalendar$Page" "length" "I" ∈ TW) (hd : decode cc pc = .ok (.getfield idx, 3)) (hp : pc' = pc + 3) (k : VV E nL A Q (Rh (YC G) σ) pc' lv (.int (iN (σ 1 0 0 1)) :: st)) : VV E nL A Q (Rh (YC G) σ) pc lv (.ref (aC G 1 0 0) :: st) :=
  x_get (q := (1, 0, 0)) (j := 1) hE hM (idC0 (by decide)) rfl rfl (by decide) wT_X5 hw rfl rfl hd hp k
theorem p_X5_1 {z : Int} (hE : OK E cc nL own ret) (hM : Mem (YC G) E) (hw : Cond.fieldLink own idx "WolfCalendar$Page" "length" "I" ∈ TW) (hd : decode cc pc = .ok (.putfield idx, 3)) (hp : pc' = pc + 3) (k : VV E nL (AS (YC G)) Q (Rh (YC G) (up σ 1 0 0 1 z)) pc' lv st) : VV E nL (AS (YC G)) Q (Rh (YC G) σ) pc lv (.int (iN z) :: .ref (aC G 1 0 0) :: st) :=
  x_put (q := (1, 0, 0)) (j := 1) (ty := .int) hE hM (idC0 (by decide)) rfl rfl (by decide) wT_X5 tyX5_ok nmX5 hw rfl rfl (by decide +kernel) rfl rfl (Nat.le_of_ble_eq_true rfl) (by first | rfl | simp [yC, YC, cfC, up]) (fun r h => up_row r h) hd hp k
theorem gN_X5_1 (hE : OK E cc nL own ret) (hM : Mem (YC G) E) (hw : ∀ U : State, NW U → va_Nw (.fieldLinkNest own idx "WolfCalendar$Page" "length" "I" "WolfCalendar") U) (hd : decode cc pc = .ok (.getfield idx, 3)) (hp : pc' = pc + 3) (k : VV E nL A Q (Rh (YC G) σ) pc' lv (.int (iN (σ 1 0 0 1)) :: st)) : VV E nL A Q (Rh (YC G) σ) pc lv (.ref (aC G 1 0 0) :: st) :=
  x_getN (q := (1, 0, 0)) (j := 1) hE hM (idC0 (by decide)) rfl rfl (by decide) wT_X5 hw rfl rfl hd hp k
theorem pN_X5_1 {z : Int} (hE : OK E cc nL own ret) (hM : Mem (YC G) E) (hw : ∀ U : State, NW U → va_Nw (.fieldLinkNest own idx "WolfCalendar$Page" "length" "I" "WolfCalendar") U) (hd : decode cc pc = .ok (.putfield idx, 3)) (hp : pc' = pc + 3) (k : VV E nL (AS (YC G)) Q (Rh (YC G) (up σ 1 0 0 1 z)) pc' lv st) : VV E nL (AS (YC G)) Q (Rh (YC G) σ) pc lv (.int (iN z) :: .ref (aC G 1 0 0) :: st) :=
  x_putN (q := (1, 0, 0)) (j := 1) (ty := .int) hE hM (idC0 (by decide)) rfl rfl (by decide) wT_X5 tyX5_ok nmX5 hw rfl rfl (by decide +kernel) rfl rfl (Nat.le_of_ble_eq_true rfl) (by first | rfl | simp [yC, YC, cfC, up]) (fun r h => up_row r h) hd hp k
theorem g_X1_0 (hE : OK E cc nL own ret) (hM : Mem (YC G) E) (hw : Cond.fieldLink own idx "WolfCalendar$Feasts" "marks" "[Z" ∈ TW) (hd : decode cc pc = .ok (.getfield idx, 3)) (hp : pc' = pc + 3) (k : VV E nL A Q (Rh (YC G) σ) pc' lv (.ref (aC G 4 0 0) :: st)) : VV E nL A Q (Rh (YC G) σ) pc lv (.ref (aC G 3 0 0) :: st) :=
  x_get (q := (3, 0, 0)) (j := 0) hE hM (idC0 (by decide)) rfl rfl (by decide) wT_X1 hw rfl rfl hd hp k
theorem gN_X1_0 (hE : OK E cc nL own ret) (hM : Mem (YC G) E) (hw : ∀ U : State, NW U → va_Nw (.fieldLinkNest own idx "WolfCalendar$Feasts" "marks" "[Z" "WolfCalendar") U) (hd : decode cc pc = .ok (.getfield idx, 3)) (hp : pc' = pc + 3) (k : VV E nL A Q (Rh (YC G) σ) pc' lv (.ref (aC G 4 0 0) :: st)) : VV E nL A Q (Rh (YC G) σ) pc lv (.ref (aC G 3 0 0) :: st) :=
  x_getN (q := (3, 0, 0)) (j := 0) hE hM (idC0 (by decide)) rfl rfl (by decide) wT_X1 hw rfl rfl hd hp k
theorem g_X1_1 (hE : OK E cc nL own ret) (hM : Mem (YC G) E) (hw : Cond.fieldLink own idx "WolfCalendar$Feasts" "number" "I" ∈ TW) (hd : decode cc pc = .ok (.getfield idx, 3)) (hp : pc' = pc + 3) (k : VV E nL A Q (Rh (YC G) σ) pc' lv (.int (iN (σ 3 0 0 1)) :: st)) : VV E nL A Q (Rh (YC G) σ) pc lv (.ref (aC G 3 0 0) :: st) :=
  x_get (q := (3, 0, 0)) (j := 1) hE hM (idC0 (by decide)) rfl rfl (by decide) wT_X1 hw rfl rfl hd hp k
theorem p_X1_1 {z : Int} (hE : OK E cc nL own ret) (hM : Mem (YC G) E) (hw : Cond.fieldLink own idx "WolfCalendar$Feasts" "number" "I" ∈ TW) (hd : decode cc pc = .ok (.putfield idx, 3)) (hp : pc' = pc + 3) (k : VV E nL (AS (YC G)) Q (Rh (YC G) (up σ 3 0 0 1 z)) pc' lv st) : VV E nL (AS (YC G)) Q (Rh (YC G) σ) pc lv (.int (iN z) :: .ref (aC G 3 0 0) :: st) :=
  x_put (q := (3, 0, 0)) (j := 1) (ty := .int) hE hM (idC0 (by decide)) rfl rfl (by decide) wT_X1 tyX1_ok nmX1 hw rfl rfl (by decide +kernel) rfl rfl (Nat.le_of_ble_eq_true rfl) (by first | rfl | simp [yC, YC, cfC, up]) (fun r h => up_row r h) hd hp k
theorem gN_X1_1 (hE : OK E cc nL own ret) (hM : Mem (YC G) E) (hw : ∀ U : State, NW U → va_Nw (.fieldLinkNest own idx "WolfCalendar$Feasts" "number" "I" "WolfCalendar") U) (hd : decode cc pc = .ok (.getfield idx, 3)) (hp : pc' = pc + 3) (k : VV E nL A Q (Rh (YC G) σ) pc' lv (.int (iN (σ 3 0 0 1)) :: st)) : VV E nL A Q (Rh (YC G) σ) pc lv (.ref (aC G 3 0 0) :: st) :=
  x_getN (q := (3, 0, 0)) (j := 1) hE hM (idC0 (by decide)) rfl rfl (by decide) wT_X1 hw rfl rfl hd hp k
theorem pN_X1_1 {z : Int} (hE : OK E cc nL own ret) (hM : Mem (YC G) E) (hw : ∀ U : State, NW U → va_Nw (.fieldLinkNest own idx "WolfCalendar$Feasts" "number" "I" "WolfCalendar") U) (hd : decode cc pc = .ok (.putfield idx, 3)) (hp : pc' = pc + 3) (k : VV E nL (AS (YC G)) Q (Rh (YC G) (up σ 3 0 0 1 z)) pc' lv st) : VV E nL (AS (YC G)) Q (Rh (YC G) σ) pc lv (.int (iN z) :: .ref (aC G 3 0 0) :: st) :=
  x_putN (q := (3, 0, 0)) (j := 1) (ty := .int) hE hM (idC0 (by decide)) rfl rfl (by decide) wT_X1 tyX1_ok nmX1 hw rfl rfl (by decide +kernel) rfl rfl (Nat.le_of_ble_eq_true rfl) (by first | rfl | simp [yC, YC, cfC, up]) (fun r h => up_row r h) hd hp k
theorem g_X0_0 (hE : OK E cc nL own ret) (hM : Mem (YC G) E) (hw : Cond.fieldLink own idx "WolfCalendar$Draws" "seed" "J" ∈ TW) (hd : decode cc pc = .ok (.getfield idx, 3)) (hp : pc' = pc + 3) (k : VV E nL A Q (Rh (YC G) σ) pc' lv (.long (lL (σ 5 0 0 0)) :: st)) : VV E nL A Q (Rh (YC G) σ) pc lv (.ref (aC G 5 0 0) :: st) :=
  x_get (q := (5, 0, 0)) (j := 0) hE hM (idC0 (by decide)) rfl rfl (by decide) wT_X0 hw rfl rfl hd hp k
theorem p_X0_0 {z : Int} (hE : OK E cc nL own ret) (hM : Mem (YC G) E) (hw : Cond.fieldLink own idx "WolfCalendar$Draws" "seed" "J" ∈ TW) (hd : decode cc pc = .ok (.putfield idx, 3)) (hp : pc' = pc + 3) (k : VV E nL (AS (YC G)) Q (Rh (YC G) (up σ 5 0 0 0 z)) pc' lv st) : VV E nL (AS (YC G)) Q (Rh (YC G) σ) pc lv (.long (lL z) :: .ref (aC G 5 0 0) :: st) :=
  x_put (q := (5, 0, 0)) (j := 0) (ty := .long) hE hM (idC0 (by decide)) rfl rfl (by decide) wT_X0 tyX0_ok nmX0 hw rfl rfl (by decide +kernel) rfl rfl (Nat.le_of_ble_eq_true rfl) (by first | rfl | simp [yC, YC, cfC, up]) (fun r h => up_row r h) hd hp k
theorem gN_X0_0 (hE : OK E cc nL own ret) (hM : Mem (YC G) E) (hw : ∀ U : State, NW U → va_Nw (.fieldLinkNest own idx "WolfCalendar$Draws" "seed" "J" "WolfCalendar") U) (hd : decode cc pc = .ok (.getfield idx, 3)) (hp : pc' = pc + 3) (k : VV E nL A Q (Rh (YC G) σ) pc' lv (.long (lL (σ 5 0 0 0)) :: st)) : VV E nL A Q (Rh (YC G) σ) pc lv (.ref (aC G 5 0 0) :: st) :=
  x_getN (q := (5, 0, 0)) (j := 0) hE hM (idC0 (by decide)) rfl rfl (by decide) wT_X0 hw rfl rfl hd hp k
theorem pN_X0_0 {z : Int} (hE : OK E cc nL own ret) (hM : Mem (YC G) E) (hw : ∀ U : State, NW U → va_Nw (.fieldLinkNest own idx "WolfCalendar$Draws" "seed" "J" "WolfCalendar") U) (hd : decode cc pc = .ok (.putfield idx, 3)) (hp : pc' = pc + 3) (k : VV E nL (AS (YC G)) Q (Rh (YC G) (up σ 5 0 0 0 z)) pc' lv st) : VV E nL (AS (YC G)) Q (Rh (YC G) σ) pc lv (.long (lL z) :: .ref (aC G 5 0 0) :: st) :=
  x_putN (q := (5, 0, 0)) (j := 0) (ty := .long) hE hM (idC0 (by decide)) rfl rfl (by decide) wT_X0 tyX0_ok nmX0 hw rfl rfl (by decide +kernel) rfl rfl (Nat.le_of_ble_eq_true rfl) (by first | rfl | simp [yC, YC, cfC, up]) (fun r h => up_row r h) hd hp k
theorem g_X7_0 {w : Nat} (hv : w < 3) (hE : OK E cc nL own ret) (hM : Mem (YC G) E) (hw : Cond.fieldLink own idx "WolfCalendar$World" "packs" "[LWolfCalendar$Pack;" ∈ TW) (hd : decode cc pc = .ok (.getfield idx, 3)) (hp : pc' = pc + 3) (k : VV E nL A Q (Rh (YC G) σ) pc' lv (.ref (aC G 7 w 0) :: st)) : VV E nL A Q (Rh (YC G) σ) pc lv (.ref (aC G 6 w 0) :: st) :=
  x_get (q := (6, w, 0)) (j := 0) hE hM (idCw (by decide) (by decide) hv) rfl rfl (by decide) wT_X7 hw rfl rfl hd hp k
theorem gN_X7_0 {w : Nat} (hv : w < 3) (hE : OK E cc nL own ret) (hM : Mem (YC G) E) (hw : ∀ U : State, NW U → va_Nw (.fieldLinkNest own idx "WolfCalendar$World" "packs" "[LWolfCalendar$Pack;" "WolfCalendar") U) (hd : decode cc pc = .ok (.getfield idx, 3)) (hp : pc' = pc + 3) (k : VV E nL A Q (Rh (YC G) σ) pc' lv (.ref (aC G 7 w 0) :: st)) : VV E nL A Q (Rh (YC G) σ) pc lv (.ref (aC G 6 w 0) :: st) :=
  x_getN (q := (6, w, 0)) (j := 0) hE hM (idCw (by decide) (by decide) hv) rfl rfl (by decide) wT_X7 hw rfl rfl hd hp k
theorem g_X7_1 {w : Nat} (hv : w < 3) (hE : OK E cc nL own ret) (hM : Mem (YC G) E) (hw : Cond.fieldLink own idx "WolfCalendar$World" "flocks" "[LWolfCalendar$Flock;" ∈ TW) (hd : decode cc pc = .ok (.getfield idx, 3)) (hp : pc' = pc + 3) (k : VV E nL A Q (Rh (YC G) σ) pc' lv (.ref (aC G 8 w 0) :: st)) : VV E nL A Q (Rh (YC G) σ) pc lv (.ref (aC G 6 w 0) :: st) :=
  x_get (q := (6, w, 0)) (j := 1) hE hM (idCw (by decide) (by decide) hv) rfl rfl (by decide) wT_X7 hw rfl rfl hd hp k
theorem gN_X7_1 {w : Nat} (hv : w < 3) (hE : OK E cc nL own ret) (hM : Mem (YC G) E) (hw : ∀ U : State, NW U → va_Nw (.fieldLinkNest own idx "WolfCalendar$World" "flocks" "[LWolfCalendar$Flock;" "WolfCalendar") U) (hd : decode cc pc = .ok (.getfield idx, 3)) (hp : pc' = pc + 3) (k : VV E nL A Q (Rh (YC G) σ) pc' lv (.ref (aC G 8 w 0) :: st)) : VV E nL A Q (Rh (YC G) σ) pc lv (.ref (aC G 6 w 0) :: st) :=
  x_getN (q := (6, w, 0)) (j := 1) hE hM (idCw (by decide) (by decide) hv) rfl rfl (by decide) wT_X7 hw rfl rfl hd hp k
theorem g_X7_2 {w : Nat} (hv : w < 3) (hE : OK E cc nL own ret) (hM : Mem (YC G) E) (hw : Cond.fieldLink own idx "WolfCalendar$World" "forged" "[I" ∈ TW) (hd : decode cc pc = .ok (.getfield idx, 3)) (hp : pc' = pc + 3) (k : VV E nL A Q (Rh (YC G) σ) pc' lv (.ref (aC G 9 w 0) :: st)) : VV E nL A Q (Rh (YC G) σ) pc lv (.ref (aC G 6 w 0) :: st) :=
  x_get (q := (6, w, 0)) (j := 2) hE hM (idCw (by decide) (by decide) hv) rfl rfl (by decide) wT_X7 hw rfl rfl hd hp k
theorem gN_X7_2 {w : Nat} (hv : w < 3) (hE : OK E cc nL own ret) (hM : Mem (YC G) E) (hw : ∀ U : State, NW U → va_Nw (.fieldLinkNest own idx "WolfCalendar$World" "forged" "[I" "WolfCalendar") U) (hd : decode cc pc = .ok (.getfield idx, 3)) (hp : pc' = pc + 3) (k : VV E nL A Q (Rh (YC G) σ) pc' lv (.ref (aC G 9 w 0) :: st)) : VV E nL A Q (Rh (YC G) σ) pc lv (.ref (aC G 6 w 0) :: st) :=
  x_getN (q := (6, w, 0)) (j := 2) hE hM (idCw (by decide) (by decide) hv) rfl rfl (by decide) wT_X7 hw rfl rfl hd hp k
theorem g_X7_3 {w : Nat} (hv : w < 3) (hE : OK E cc nL own ret) (hM : Mem (YC G) E) (hw : Cond.fieldLink own idx "WolfCalendar$World" "sight" "LWolfCalendar$Sight;" ∈ TW) (hd : decode cc pc = .ok (.getfield idx, 3)) (hp : pc' = pc + 3) (k : VV E nL A Q (Rh (YC G) σ) pc' lv (.ref (aC G 10 w 0) :: st)) : VV E nL A Q (Rh (YC G) σ) pc lv (.ref (aC G 6 w 0) :: st) :=
  x_get (q := (6, w, 0)) (j := 3) hE hM (idCw (by decide) (by decide) hv) rfl rfl (by decide) wT_X7 hw rfl rfl hd hp k
theorem gN_X7_3 {w : Nat} (hv : w < 3) (hE : OK E cc nL own ret) (hM : Mem (YC G) E) (hw : ∀ U : State, NW U → va_Nw (.fieldLinkNest own idx "WolfCalendar$World" "sight" "LWolfCalendar$Sight;" "WolfCalendar") U) (hd : decode cc pc = .ok (.getfield idx, 3)) (hp : pc' = pc + 3) (k : VV E nL A Q (Rh (YC G) σ) pc' lv (.ref (aC G 10 w 0) :: st)) : VV E nL A Q (Rh (YC G) σ) pc lv (.ref (aC G 6 w 0) :: st) :=
  x_getN (q := (6, w, 0)) (j := 3) hE hM (idCw (by decide) (by decide) hv) rfl rfl (by decide) wT_X7 hw rfl rfl hd hp k
theorem g_X7_4 {w : Nat} (hv : w < 3) (hE : OK E cc nL own ret) (hM : Mem (YC G) E) (hw : Cond.fieldLink own idx "WolfCalendar$World" "packCount" "I" ∈ TW) (hd : decode cc pc = .ok (.getfield idx, 3)) (hp : pc' = pc + 3) (k : VV E nL A Q (Rh (YC G) σ) pc' lv (.int (iN (σ 6 w 0 4)) :: st)) : VV E nL A Q (Rh (YC G) σ) pc lv (.ref (aC G 6 w 0) :: st) :=
  x_get (q := (6, w, 0)) (j := 4) hE hM (idCw (by decide) (by decide) hv) rfl rfl (by decide) wT_X7 hw rfl rfl hd hp k
theorem p_X7_4 {z : Int} {w : Nat} (hv : w < 3) (hE : OK E cc nL own ret) (hM : Mem (YC G) E) (hw : Cond.fieldLink own idx "WolfCalendar$World" "packCount" "I" ∈ TW) (hd : decode cc pc = .ok (.putfield idx, 3)) (hp : pc' = pc + 3) (k : VV E nL (AS (YC G)) Q (Rh (YC G) (up σ 6 w 0 4 z)) pc' lv st) : VV E nL (AS (YC G)) Q (Rh (YC G) σ) pc lv (.int (iN z) :: .ref (aC G 6 w 0) :: st) :=
  x_put (q := (6, w, 0)) (j := 4) (ty := .int) hE hM (idCw (by decide) (by decide) hv) rfl rfl (by decide) wT_X7 tyX7_ok nmX7 hw rfl rfl (by decide +kernel) rfl rfl (Nat.le_of_ble_eq_true rfl) (by first | rfl | simp [yC, YC, cfC, up]) (fun r h => up_row r h) hd hp k
theorem gN_X7_4 {w : Nat} (hv : w < 3) (hE : OK E cc nL own ret) (hM : Mem (YC G) E) (hw : ∀ U : State, NW U → va_Nw (.fieldLinkNest own idx "WolfCalendar$World" "packCount" "I" "WolfCalendar") U) (hd : decode cc pc = .ok (.getfield idx, 3)) (hp : pc' = pc + 3) (k : VV E nL A Q (Rh (YC G) σ) pc' lv (.int (iN (σ 6 w 0 4)) :: st)) : VV E nL A Q (Rh (YC G) σ) pc lv (.ref (aC G 6 w 0) :: st) :=
  x_getN (q := (6, w, 0)) (j := 4) hE hM (idCw (by decide) (by decide) hv) rfl rfl (by decide) wT_X7 hw rfl rfl hd hp k
theorem pN_X7_4 {z : Int} {w : Nat} (hv : w < 3) (hE : OK E cc nL own ret) (hM : Mem (YC G) E) (hw : ∀ U : State, NW U → va_Nw (.fieldLinkNest own idx "WolfCalendar$World" "packCount" "I" "WolfCalendar") U) (hd : decode cc pc = .ok (.putfield idx, 3)) (hp : pc' = pc + 3) (k : VV E nL (AS (YC G)) Q (Rh (YC G) (up σ 6 w 0 4 z)) pc' lv st) : VV E nL (AS (YC G)) Q (Rh (YC G) σ) pc lv (.int (iN z) :: .ref (aC G 6 w 0) :: st) :=
  x_putN (q := (6, w, 0)) (j := 4) (ty := .int) hE hM (idCw (by decide) (by decide) hv) rfl rfl (by decide) wT_X7 tyX7_ok nmX7 hw rfl rfl (by decide +kernel) rfl rfl (Nat.le_of_ble_eq_true rfl) (by first | rfl | simp [yC, YC, cfC, up]) (fun r h => up_row r h) hd hp k
theorem g_X7_5 {w : Nat} (hv : w < 3) (hE : OK E cc nL own ret) (hM : Mem (YC G) E) (hw : Cond.fieldLink own idx "WolfCalendar$World" "flockCount" "I" ∈ TW) (hd : decode cc pc = .ok (.getfield idx, 3)) (hp : pc' = pc + 3) (k : VV E nL A Q (Rh (YC G) σ) pc' lv (.int (iN (σ 6 w 0 5)) :: st)) : VV E nL A Q (Rh (YC G) σ) pc lv (.ref (aC G 6 w 0) :: st) :=
  x_get (q := (6, w, 0)) (j := 5) hE hM (idCw (by decide) (by decide) hv) rfl rfl (by decide) wT_X7 hw rfl rfl hd hp k
theorem p_X7_5 {z : Int} {w : Nat} (hv : w < 3) (hE : OK E cc nL own ret) (hM : Mem (YC G) E) (hw : Cond.fieldLink own idx "WolfCalendar$World" "flockCount" "I" ∈ TW) (hd : decode cc pc = .ok (.putfield idx, 3)) (hp : pc' = pc + 3) (k : VV E nL (AS (YC G)) Q (Rh (YC G) (up σ 6 w 0 5 z)) pc' lv st) : VV E nL (AS (YC G)) Q (Rh (YC G) σ) pc lv (.int (iN z) :: .ref (aC G 6 w 0) :: st) :=
  x_put (q := (6, w, 0)) (j := 5) (ty := .int) hE hM (idCw (by decide) (by decide) hv) rfl rfl (by decide) wT_X7 tyX7_ok nmX7 hw rfl rfl (by decide +kernel) rfl rfl (Nat.le_of_ble_eq_true rfl) (by first | rfl | simp [yC, YC, cfC, up]) (fun r h => up_row r h) hd hp k
theorem gN_X7_5 {w : Nat} (hv : w < 3) (hE : OK E cc nL own ret) (hM : Mem (YC G) E) (hw : ∀ U : State, NW U → va_Nw (.fieldLinkNest own idx "WolfCalendar$World" "flockCount" "I" "WolfCalendar") U) (hd : decode cc pc = .ok (.getfield idx, 3)) (hp : pc' = pc + 3) (k : VV E nL A Q (Rh (YC G) σ) pc' lv (.int (iN (σ 6 w 0 5)) :: st)) : VV E nL A Q (Rh (YC G) σ) pc lv (.ref (aC G 6 w 0) :: st) :=
  x_getN (q := (6, w, 0)) (j := 5) hE hM (idCw (by decide) (by decide) hv) rfl rfl (by decide) wT_X7 hw rfl rfl hd hp k
theorem pN_X7_5 {z : Int} {w : Nat} (hv : w < 3) (hE : OK E cc nL own ret) (hM : Mem (YC G) E) (hw : ∀ U : State, NW U → va_Nw (.fieldLinkNest own idx "WolfCalendar$World" "flockCount" "I" "WolfCalendar") U) (hd : decode cc pc = .ok (.putfield idx, 3)) (hp : pc' = pc + 3) (k : VV E nL (AS (YC G)) Q (Rh (YC G) (up σ 6 w 0 5 z)) pc' lv st) : VV E nL (AS (YC G)) Q (Rh (YC G) σ) pc lv (.int (iN z) :: .ref (aC G 6 w 0) :: st) :=
  x_putN (q := (6, w, 0)) (j := 5) (ty := .int) hE hM (idCw (by decide) (by decide) hv) rfl rfl (by decide) wT_X7 tyX7_ok nmX7 hw rfl rfl (by decide +kernel) rfl rfl (Nat.le_of_ble_eq_true rfl) (by first | rfl | simp [yC, YC, cfC, up]) (fun r h => up_row r h) hd hp k
theorem g_X7_6 {w : Nat} (hv : w < 3) (hE : OK E cc nL own ret) (hM : Mem (YC G) E) (hw : Cond.fieldLink own idx "WolfCalendar$World" "today" "I" ∈ TW) (hd : decode cc pc = .ok (.getfield idx, 3)) (hp : pc' = pc + 3) (k : VV E nL A Q (Rh (YC G) σ) pc' lv (.int (iN (σ 6 w 0 6)) :: st)) : VV E nL A Q (Rh (YC G) σ) pc lv (.ref (aC G 6 w 0) :: st) :=
  x_get (q := (6, w, 0)) (j := 6) hE hM (idCw (by decide) (by decide) hv) rfl rfl (by decide) wT_X7 hw rfl rfl hd hp k
theorem p_X7_6 {z : Int} {w : Nat} (hv : w < 3) (hE : OK E cc nL own ret) (hM : Mem (YC G) E) (hw : Cond.fieldLink own idx "WolfCalendar$World" "today" "I" ∈ TW) (hd : decode cc pc = .ok (.putfield idx, 3)) (hp : pc' = pc + 3) (k : VV E nL (AS (YC G)) Q (Rh (YC G) (up σ 6 w 0 6 z)) pc' lv st) : VV E nL (AS (YC G)) Q (Rh (YC G) σ) pc lv (.int (iN z) :: .ref (aC G 6 w 0) :: st) :=
  x_put (q := (6, w, 0)) (j := 6) (ty := .int) hE hM (idCw (by decide) (by decide) hv) rfl rfl (by decide) wT_X7 tyX7_ok nmX7 hw rfl rfl (by decide +kernel) rfl rfl (Nat.le_of_ble_eq_true rfl) (by first | rfl | simp [yC, YC, cfC, up]) (fun r h => up_row r h) hd hp k
theorem gN_X7_6 {w : Nat} (hv : w < 3) (hE : OK E cc nL own ret) (hM : Mem (YC G) E) (hw : ∀ U : State, NW U → va_Nw (.fieldLinkNest own idx "WolfCalendar$World" "today" "I" "WolfCalendar") U) (hd : decode cc pc = .ok (.getfield idx, 3)) (hp : pc' = pc + 3) (k : VV E nL A Q (Rh (YC G) σ) pc' lv (.int (iN (σ 6 w 0 6)) :: st)) : VV E nL A Q (Rh (YC G) σ) pc lv (.ref (aC G 6 w 0) :: st) :=
  x_getN (q := (6, w, 0)) (j := 6) hE hM (idCw (by decide) (by decide) hv) rfl rfl (by decide) wT_X7 hw rfl rfl hd hp k
theorem pN_X7_6 {z : Int} {w : Nat} (hv : w < 3) (hE : OK E cc nL own ret) (hM : Mem (YC G) E) (hw : ∀ U : State, NW U → va_Nw (.fieldLinkNest own idx "WolfCalendar$World" "today" "I" "WolfCalendar") U) (hd : decode cc pc = .ok (.putfield idx, 3)) (hp : pc' = pc + 3) (k : VV E nL (AS (YC G)) Q (Rh (YC G) (up σ 6 w 0 6 z)) pc' lv st) : VV E nL (AS (YC G)) Q (Rh (YC G) σ) pc lv (.int (iN z) :: .ref (aC G 6 w 0) :: st) :=
  x_putN (q := (6, w, 0)) (j := 6) (ty := .int) hE hM (idCw (by decide) (by decide) hv) rfl rfl (by decide) wT_X7 tyX7_ok nmX7 hw rfl rfl (by decide +kernel) rfl rfl (Nat.le_of_ble_eq_true rfl) (by first | rfl | simp [yC, YC, cfC, up]) (fun r h => up_row r h) hd hp k
theorem g_X7_7 {w : Nat} (hv : w < 3) (hE : OK E cc nL own ret) (hM : Mem (YC G) E) (hw : Cond.fieldLink own idx "WolfCalendar$World" "eaten" "I" ∈ TW) (hd : decode cc pc = .ok (.getfield idx, 3)) (hp : pc' = pc + 3) (k : VV E nL A Q (Rh (YC G) σ) pc' lv (.int (iN (σ 6 w 0 7)) :: st)) : VV E nL A Q (Rh (YC G) σ) pc lv (.ref (aC G 6 w 0) :: st) :=
  x_get (q := (6, w, 0)) (j := 7) hE hM (idCw (by decide) (by decide) hv) rfl rfl (by decide) wT_X7 hw rfl rfl hd hp k
theorem p_X7_7 {z : Int} {w : Nat} (hv : w < 3) (hE : OK E cc nL own ret) (hM : Mem (YC G) E) (hw : Cond.fieldLink own idx "WolfCalendar$World" "eaten" "I" ∈ TW) (hd : decode cc pc = .ok (.putfield idx, 3)) (hp : pc' = pc + 3) (k : VV E nL (AS (YC G)) Q (Rh (YC G) (up σ 6 w 0 7 z)) pc' lv st) : VV E nL (AS (YC G)) Q (Rh (YC G) σ) pc lv (.int (iN z) :: .ref (aC G 6 w 0) :: st) :=
  x_put (q := (6, w, 0)) (j := 7) (ty := .int) hE hM (idCw (by decide) (by decide) hv) rfl rfl (by decide) wT_X7 tyX7_ok nmX7 hw rfl rfl (by decide +kernel) rfl rfl (Nat.le_of_ble_eq_true rfl) (by first | rfl | simp [yC, YC, cfC, up]) (fun r h => up_row r h) hd hp k
theorem gN_X7_7 {w : Nat} (hv : w < 3) (hE : OK E cc nL own ret) (hM : Mem (YC G) E) (hw : ∀ U : State, NW U → va_Nw (.fieldLinkNest own idx "WolfCalendar$World" "eaten" "I" "WolfCalendar") U) (hd : decode cc pc = .ok (.getfield idx, 3)) (hp : pc' = pc + 3) (k : VV E nL A Q (Rh (YC G) σ) pc' lv (.int (iN (σ 6 w 0 7)) :: st)) : VV E nL A Q (Rh (YC G) σ) pc lv (.ref (aC G 6 w 0) :: st) :=
  x_getN (q := (6, w, 0)) (j := 7) hE hM (idCw (by decide) (by decide) hv) rfl rfl (by decide) wT_X7 hw rfl rfl hd hp k
theorem pN_X7_7 {z : Int} {w : Nat} (hv : w < 3) (hE : OK E cc nL own ret) (hM : Mem (YC G) E) (hw : ∀ U : State, NW U → va_Nw (.fieldLinkNest own idx "WolfCalendar$World" "eaten" "I" "WolfCalendar") U) (hd : decode cc pc = .ok (.putfield idx, 3)) (hp : pc' = pc + 3) (k : VV E nL (AS (YC G)) Q (Rh (YC G) (up σ 6 w 0 7 z)) pc' lv st) : VV E nL (AS (YC G)) Q (Rh (YC G) σ) pc lv (.int (iN z) :: .ref (aC G 6 w 0) :: st) :=
  x_putN (q := (6, w, 0)) (j := 7) (ty := .int) hE hM (idCw (by decide) (by decide) hv) rfl rfl (by decide) wT_X7 tyX7_ok nmX7 hw rfl rfl (by decide +kernel) rfl rfl (Nat.le_of_ble_eq_true rfl) (by first | rfl | simp [yC, YC, cfC, up]) (fun r h => up_row r h) hd hp k
theorem g_X6_0 {w : Nat} (hv : w < 3) (hE : OK E cc nL own ret) (hM : Mem (YC G) E) (hw : Cond.fieldLink own idx "WolfCalendar$Sight" "pack" "I" ∈ TW) (hd : decode cc pc = .ok (.getfield idx, 3)) (hp : pc' = pc + 3) (k : VV E nL A Q (Rh (YC G) σ) pc' lv (.int (iN (σ 10 w 0 0)) :: st)) : VV E nL A Q (Rh (YC G) σ) pc lv (.ref (aC G 10 w 0) :: st) :=
  x_get (q := (10, w, 0)) (j := 0) hE hM (idCw (by decide) (by decide) hv) rfl rfl (by decide) wT_X6 hw rfl rfl hd hp k
theorem p_X6_0 {z : Int} {w : Nat} (hv : w < 3) (hE : OK E cc nL own ret) (hM : Mem (YC G) E) (hw : Cond.fieldLink own idx "WolfCalendar$Sight" "pack" "I" ∈ TW) (hd : decode cc pc = .ok (.putfield idx, 3)) (hp : pc' = pc + 3) (k : VV E nL (AS (YC G)) Q (Rh (YC G) (up σ 10 w 0 0 z)) pc' lv st) : VV E nL (AS (YC G)) Q (Rh (YC G) σ) pc lv (.int (iN z) :: .ref (aC G 10 w 0) :: st) :=
  x_put (q := (10, w, 0)) (j := 0) (ty := .int) hE hM (idCw (by decide) (by decide) hv) rfl rfl (by decide) wT_X6 tyX6_ok nmX6 hw rfl rfl (by decide +kernel) rfl rfl (Nat.le_of_ble_eq_true rfl) (by first | rfl | simp [yC, YC, cfC, up]) (fun r h => up_row r h) hd hp k
theorem gN_X6_0 {w : Nat} (hv : w < 3) (hE : OK E cc nL own ret) (hM : Mem (YC G) E) (hw : ∀ U : State, NW U → va_Nw (.fieldLinkNest own idx "WolfCalendar$Sight" "pack" "I" "WolfCalendar") U) (hd : decode cc pc = .ok (.getfield idx, 3)) (hp : pc' = pc + 3) (k : VV E nL A Q (Rh (YC G) σ) pc' lv (.int (iN (σ 10 w 0 0)) :: st)) : VV E nL A Q (Rh (YC G) σ) pc lv (.ref (aC G 10 w 0) :: st) :=
  x_getN (q := (10, w, 0)) (j := 0) hE hM (idCw (by decide) (by decide) hv) rfl rfl (by decide) wT_X6 hw rfl rfl hd hp k
theorem pN_X6_0 {z : Int} {w : Nat} (hv : w < 3) (hE : OK E cc nL own ret) (hM : Mem (YC G) E) (hw : ∀ U : State, NW U → va_Nw (.fieldLinkNest own idx "WolfCalendar$Sight" "pack" "I" "WolfCalendar") U) (hd : decode cc pc = .ok (.putfield idx, 3)) (hp : pc' = pc + 3) (k : VV E nL (AS (YC G)) Q (Rh (YC G) (up σ 10 w 0 0 z)) pc' lv st) : VV E nL (AS (YC G)) Q (Rh (YC G) σ) pc lv (.int (iN z) :: .ref (aC G 10 w 0) :: st) :=
  x_putN (q := (10, w, 0)) (j := 0) (ty := .int) hE hM (idCw (by decide) (by decide) hv) rfl rfl (by decide) wT_X6 tyX6_ok nmX6 hw rfl rfl (by decide +kernel) rfl rfl (Nat.le_of_ble_eq_true rfl) (by first | rfl | simp [yC, YC, cfC, up]) (fun r h => up_row r h) hd hp k
theorem g_X6_1 {w : Nat} (hv : w < 3) (hE : OK E cc nL own ret) (hM : Mem (YC G) E) (hw : Cond.fieldLink own idx "WolfCalendar$Sight" "from" "I" ∈ TW) (hd : decode cc pc = .ok (.getfield idx, 3)) (hp : pc' = pc + 3) (k : VV E nL A Q (Rh (YC G) σ) pc' lv (.int (iN (σ 10 w 0 1)) :: st)) : VV E nL A Q (Rh (YC G) σ) pc lv (.ref (aC G 10 w 0) :: st) :=
  x_get (q := (10, w, 0)) (j := 1) hE hM (idCw (by decide) (by decide) hv) rfl rfl (by decide) wT_X6 hw rfl rfl hd hp k
theorem p_X6_1 {z : Int} {w : Nat} (hv : w < 3) (hE : OK E cc nL own ret) (hM : Mem (YC G) E) (hw : Cond.fieldLink own idx "WolfCalendar$Sight" "from" "I" ∈ TW) (hd : decode cc pc = .ok (.putfield idx, 3)) (hp : pc' = pc + 3) (k : VV E nL (AS (YC G)) Q (Rh (YC G) (up σ 10 w 0 1 z)) pc' lv st) : VV E nL (AS (YC G)) Q (Rh (YC G) σ) pc lv (.int (iN z) :: .ref (aC G 10 w 0) :: st) :=
  x_put (q := (10, w, 0)) (j := 1) (ty := .int) hE hM (idCw (by decide) (by decide) hv) rfl rfl (by decide) wT_X6 tyX6_ok nmX6 hw rfl rfl (by decide +kernel) rfl rfl (Nat.le_of_ble_eq_true rfl) (by first | rfl | simp [yC, YC, cfC, up]) (fun r h => up_row r h) hd hp k
theorem gN_X6_1 {w : Nat} (hv : w < 3) (hE : OK E cc nL own ret) (hM : Mem (YC G) E) (hw : ∀ U : State, NW U → va_Nw (.fieldLinkNest own idx "WolfCalendar$Sight" "from" "I" "WolfCalendar") U) (hd : decode cc pc = .ok (.getfield idx, 3)) (hp : pc' = pc + 3) (k : VV E nL A Q (Rh (YC G) σ) pc' lv (.int (iN (σ 10 w 0 1)) :: st)) : VV E nL A Q (Rh (YC G) σ) pc lv (.ref (aC G 10 w 0) :: st) :=
  x_getN (q := (10, w, 0)) (j := 1) hE hM (idCw (by decide) (by decide) hv) rfl rfl (by decide) wT_X6 hw rfl rfl hd hp k
theorem pN_X6_1 {z : Int} {w : Nat} (hv : w < 3) (hE : OK E cc nL own ret) (hM : Mem (YC G) E) (hw : ∀ U : State, NW U → va_Nw (.fieldLinkNest own idx "WolfCalendar$Sight" "from" "I" "WolfCalendar") U) (hd : decode cc pc = .ok (.putfield idx, 3)) (hp : pc' = pc + 3) (k : VV E nL (AS (YC G)) Q (Rh (YC G) (up σ 10 w 0 1 z)) pc' lv st) : VV E nL (AS (YC G)) Q (Rh (YC G) σ) pc lv (.int (iN z) :: .ref (aC G 10 w 0) :: st) :=
  x_putN (q := (10, w, 0)) (j := 1) (ty := .int) hE hM (idCw (by decide) (by decide) hv) rfl rfl (by decide) wT_X6 tyX6_ok nmX6 hw rfl rfl (by decide +kernel) rfl rfl (Nat.le_of_ble_eq_true rfl) (by first | rfl | simp [yC, YC, cfC, up]) (fun r h => up_row r h) hd hp k
theorem g_X6_2 {w : Nat} (hv : w < 3) (hE : OK E cc nL own ret) (hM : Mem (YC G) E) (hw : Cond.fieldLink own idx "WolfCalendar$Sight" "days" "I" ∈ TW) (hd : decode cc pc = .ok (.getfield idx, 3)) (hp : pc' = pc + 3) (k : VV E nL A Q (Rh (YC G) σ) pc' lv (.int (iN (σ 10 w 0 2)) :: st)) : VV E nL A Q (Rh (YC G) σ) pc lv (.ref (aC G 10 w 0) :: st) :=
  x_get (q := (10, w, 0)) (j := 2) hE hM (idCw (by decide) (by decide) hv) rfl rfl (by decide) wT_X6 hw rfl rfl hd hp k
theorem p_X6_2 {z : Int} {w : Nat} (hv : w < 3) (hE : OK E cc nL own ret) (hM : Mem (YC G) E) (hw : Cond.fieldLink own idx "WolfCalendar$Sight" "days" "I" ∈ TW) (hd : decode cc pc = .ok (.putfield idx, 3)) (hp : pc' = pc + 3) (k : VV E nL (AS (YC G)) Q (Rh (YC G) (up σ 10 w 0 2 z)) pc' lv st) : VV E nL (AS (YC G)) Q (Rh (YC G) σ) pc lv (.int (iN z) :: .ref (aC G 10 w 0) :: st) :=
  x_put (q := (10, w, 0)) (j := 2) (ty := .int) hE hM (idCw (by decide) (by decide) hv) rfl rfl (by decide) wT_X6 tyX6_ok nmX6 hw rfl rfl (by decide +kernel) rfl rfl (Nat.le_of_ble_eq_true rfl) (by first | rfl | simp [yC, YC, cfC, up]) (fun r h => up_row r h) hd hp k
theorem gN_X6_2 {w : Nat} (hv : w < 3) (hE : OK E cc nL own ret) (hM : Mem (YC G) E) (hw : ∀ U : State, NW U → va_Nw (.fieldLinkNest own idx "WolfCalendar$Sight" "days" "I" "WolfCalendar") U) (hd : decode cc pc = .ok (.getfield idx, 3)) (hp : pc' = pc + 3) (k : VV E nL A Q (Rh (YC G) σ) pc' lv (.int (iN (σ 10 w 0 2)) :: st)) : VV E nL A Q (Rh (YC G) σ) pc lv (.ref (aC G 10 w 0) :: st) :=
  x_getN (q := (10, w, 0)) (j := 2) hE hM (idCw (by decide) (by decide) hv) rfl rfl (by decide) wT_X6 hw rfl rfl hd hp k
theorem pN_X6_2 {z : Int} {w : Nat} (hv : w < 3) (hE : OK E cc nL own ret) (hM : Mem (YC G) E) (hw : ∀ U : State, NW U → va_Nw (.fieldLinkNest own idx "WolfCalendar$Sight" "days" "I" "WolfCalendar") U) (hd : decode cc pc = .ok (.putfield idx, 3)) (hp : pc' = pc + 3) (k : VV E nL (AS (YC G)) Q (Rh (YC G) (up σ 10 w 0 2 z)) pc' lv st) : VV E nL (AS (YC G)) Q (Rh (YC G) σ) pc lv (.int (iN z) :: .ref (aC G 10 w 0) :: st) :=
  x_putN (q := (10, w, 0)) (j := 2) (ty := .int) hE hM (idCw (by decide) (by decide) hv) rfl rfl (by decide) wT_X6 tyX6_ok nmX6 hw rfl rfl (by decide +kernel) rfl rfl (Nat.le_of_ble_eq_true rfl) (by first | rfl | simp [yC, YC, cfC, up]) (fun r h => up_row r h) hd hp k
theorem g_X6_3 {w : Nat} (hv : w < 3) (hE : OK E cc nL own ret) (hM : Mem (YC G) E) (hw : Cond.fieldLink own idx "WolfCalendar$Sight" "hunts" "I" ∈ TW) (hd : decode cc pc = .ok (.getfield idx, 3)) (hp : pc' = pc + 3) (k : VV E nL A Q (Rh (YC G) σ) pc' lv (.int (iN (σ 10 w 0 3)) :: st)) : VV E nL A Q (Rh (YC G) σ) pc lv (.ref (aC G 10 w 0) :: st) :=
  x_get (q := (10, w, 0)) (j := 3) hE hM (idCw (by decide) (by decide) hv) rfl rfl (by decide) wT_X6 hw rfl rfl hd hp k
theorem p_X6_3 {z : Int} {w : Nat} (hv : w < 3) (hE : OK E cc nL own ret) (hM : Mem (YC G) E) (hw : Cond.fieldLink own idx "WolfCalendar$Sight" "hunts" "I" ∈ TW) (hd : decode cc pc = .ok (.putfield idx, 3)) (hp : pc' = pc + 3) (k : VV E nL (AS (YC G)) Q (Rh (YC G) (up σ 10 w 0 3 z)) pc' lv st) : VV E nL (AS (YC G)) Q (Rh (YC G) σ) pc lv (.int (iN z) :: .ref (aC G 10 w 0) :: st) :=
  x_put (q := (10, w, 0)) (j := 3) (ty := .int) hE hM (idCw (by decide) (by decide) hv) rfl rfl (by decide) wT_X6 tyX6_ok nmX6 hw rfl rfl (by decide +kernel) rfl rfl (Nat.le_of_ble_eq_true rfl) (by first | rfl | simp [yC, YC, cfC, up]) (fun r h => up_row r h) hd hp k
theorem gN_X6_3 {w : Nat} (hv : w < 3) (hE : OK E cc nL own ret) (hM : Mem (YC G) E) (hw : ∀ U : State, NW U → va_Nw (.fieldLinkNest own idx "WolfCalendar$Sight" "hunts" "I" "WolfCalendar") U) (hd : decode cc pc = .ok (.getfield idx, 3)) (hp : pc' = pc + 3) (k : VV E nL A Q (Rh (YC G) σ) pc' lv (.int (iN (σ 10 w 0 3)) :: st)) : VV E nL A Q (Rh (YC G) σ) pc lv (.ref (aC G 10 w 0) :: st) :=
  x_getN (q := (10, w, 0)) (j := 3) hE hM (idCw (by decide) (by decide) hv) rfl rfl (by decide) wT_X6 hw rfl rfl hd hp k
theorem pN_X6_3 {z : Int} {w : Nat} (hv : w < 3) (hE : OK E cc nL own ret) (hM : Mem (YC G) E) (hw : ∀ U : State, NW U → va_Nw (.fieldLinkNest own idx "WolfCalendar$Sight" "hunts" "I" "WolfCalendar") U) (hd : decode cc pc = .ok (.putfield idx, 3)) (hp : pc' = pc + 3) (k : VV E nL (AS (YC G)) Q (Rh (YC G) (up σ 10 w 0 3 z)) pc' lv st) : VV E nL (AS (YC G)) Q (Rh (YC G) σ) pc lv (.int (iN z) :: .ref (aC G 10 w 0) :: st) :=
  x_putN (q := (10, w, 0)) (j := 3) (ty := .int) hE hM (idCw (by decide) (by decide) hv) rfl rfl (by decide) wT_X6 tyX6_ok nmX6 hw rfl rfl (by decide +kernel) rfl rfl (Nat.le_of_ble_eq_true rfl) (by first | rfl | simp [yC, YC, cfC, up]) (fun r h => up_row r h) hd hp k
theorem g_X4_0 {w : Nat} {i : Int} (hv : w < 3) (hi0 : 0 ≤ i) (hi1 : i < 4) (hE : OK E cc nL own ret) (hM : Mem (YC G) E) (hw : Cond.fieldLink own idx "WolfCalendar$Pack" "kind" "LWolfCalendar$Kind;" ∈ TW) (hd : decode cc pc = .ok (.getfield idx, 3)) (hp : pc' = pc + 3) (k : VV E nL A Q (Rh (YC G) σ) pc' lv (.ref (eC G (σ 11 w i 0)) :: st)) : VV E nL A Q (Rh (YC G) σ) pc lv (.ref (aC G 11 w i) :: st) :=
  x_get (q := (11, w, i)) (j := 0) hE hM (idCp hv hi0 hi1) rfl rfl (by decide) wT_X4 hw rfl rfl hd hp k
theorem p_X4_0 {z : Int} {w : Nat} {i : Int} (hv : w < 3) (hi0 : 0 ≤ i) (hi1 : i < 4) (hE : OK E cc nL own ret) (hM : Mem (YC G) E) (hw : Cond.fieldLink own idx "WolfCalendar$Pack" "kind" "LWolfCalendar$Kind;" ∈ TW) (hd : decode cc pc = .ok (.putfield idx, 3)) (hp : pc' = pc + 3) (k : VV E nL (AS (YC G)) Q (Rh (YC G) (up σ 11 w i 0 z)) pc' lv st) : VV E nL (AS (YC G)) Q (Rh (YC G) σ) pc lv (.ref (eC G z) :: .ref (aC G 11 w i) :: st) :=
  x_put (q := (11, w, i)) (j := 0) (ty := .object "WolfCalendar$Kind") hE hM (idCp hv hi0 hi1) rfl rfl (by decide) wT_X4 tyX4_ok nmX4 hw rfl rfl (by decide +kernel) rfl rfl (Nat.le_of_ble_eq_true rfl) (by first | rfl | simp [yC, YC, cfC, up]) (fun r h => up_row r h) hd hp k
theorem gN_X4_0 {w : Nat} {i : Int} (hv : w < 3) (hi0 : 0 ≤ i) (hi1 : i < 4) (hE : OK E cc nL own ret) (hM : Mem (YC G) E) (hw : ∀ U : State, NW U → va_Nw (.fieldLinkNest own idx "WolfCalendar$Pack" "kind" "LWolfCalendar$Kind;" "WolfCalendar") U) (hd : decode cc pc = .ok (.getfield idx, 3)) (hp : pc' = pc + 3) (k : VV E nL A Q (Rh (YC G) σ) pc' lv (.ref (eC G (σ 11 w i 0)) :: st)) : VV E nL A Q (Rh (YC G) σ) pc lv (.ref (aC G 11 w i) :: st) :=
  x_getN (q := (11, w, i)) (j := 0) hE hM (idCp hv hi0 hi1) rfl rfl (by decide) wT_X4 hw rfl rfl hd hp k
theorem pN_X4_0 {z : Int} {w : Nat} {i : Int} (hv : w < 3) (hi0 : 0 ≤ i) (hi1 : i < 4) (hE : OK E cc nL own ret) (hM : Mem (YC G) E) (hw : ∀ U : State, NW U → va_Nw (.fieldLinkNest own idx "WolfCalendar$Pack" "kind" "LWolfCalendar$Kind;" "WolfCalendar") U) (hd : decode cc pc = .ok (.putfield idx, 3)) (hp : pc' = pc + 3) (k : VV E nL (AS (YC G)) Q (Rh (YC G) (up σ 11 w i 0 z)) pc' lv st) : VV E nL (AS (YC G)) Q (Rh (YC G) σ) pc lv (.ref (eC G z) :: .ref (aC G 11 w i) :: st) :=
  x_putN (q := (11, w, i)) (j := 0) (ty := .object "WolfCalendar$Kind") hE hM (idCp hv hi0 hi1) rfl rfl (by decide) wT_X4 tyX4_ok nmX4 hw rfl rfl (by decide +kernel) rfl rfl (Nat.le_of_ble_eq_true rfl) (by first | rfl | simp [yC, YC, cfC, up]) (fun r h => up_row r h) hd hp k
theorem g_X4_1 {w : Nat} {i : Int} (hv : w < 3) (hi0 : 0 ≤ i) (hi1 : i < 4) (hE : OK E cc nL own ret) (hM : Mem (YC G) E) (hw : Cond.fieldLink own idx "WolfCalendar$Pack" "cell" "I" ∈ TW) (hd : decode cc pc = .ok (.getfield idx, 3)) (hp : pc' = pc + 3) (k : VV E nL A Q (Rh (YC G) σ) pc' lv (.int (iN (σ 11 w i 1)) :: st)) : VV E nL A Q (Rh (YC G) σ) pc lv (.ref (aC G 11 w i) :: st) :=
  x_get (q := (11, w, i)) (j := 1) hE hM (idCp hv hi0 hi1) rfl rfl (by decide) wT_X4 hw rfl rfl hd hp k
theorem p_X4_1 {z : Int} {w : Nat} {i : Int} (hv : w < 3) (hi0 : 0 ≤ i) (hi1 : i < 4) (hE : OK E cc nL own ret) (hM : Mem (YC G) E) (hw : Cond.fieldLink own idx "WolfCalendar$Pack" "cell" "I" ∈ TW) (hd : decode cc pc = .ok (.putfield idx, 3)) (hp : pc' = pc + 3) (k : VV E nL (AS (YC G)) Q (Rh (YC G) (up σ 11 w i 1 z)) pc' lv st) : VV E nL (AS (YC G)) Q (Rh (YC G) σ) pc lv (.int (iN z) :: .ref (aC G 11 w i) :: st) :=
  x_put (q := (11, w, i)) (j := 1) (ty := .int) hE hM (idCp hv hi0 hi1) rfl rfl (by decide) wT_X4 tyX4_ok nmX4 hw rfl rfl (by decide +kernel) rfl rfl (Nat.le_of_ble_eq_true rfl) (by first | rfl | simp [yC, YC, cfC, up]) (fun r h => up_row r h) hd hp k
theorem gN_X4_1 {w : Nat} {i : Int} (hv : w < 3) (hi0 : 0 ≤ i) (hi1 : i < 4) (hE : OK E cc nL own ret) (hM : Mem (YC G) E) (hw : ∀ U : State, NW U → va_Nw (.fieldLinkNest own idx "WolfCalendar$Pack" "cell" "I" "WolfCalendar") U) (hd : decode cc pc = .ok (.getfield idx, 3)) (hp : pc' = pc + 3) (k : VV E nL A Q (Rh (YC G) σ) pc' lv (.int (iN (σ 11 w i 1)) :: st)) : VV E nL A Q (Rh (YC G) σ) pc lv (.ref (aC G 11 w i) :: st) :=
  x_getN (q := (11, w, i)) (j := 1) hE hM (idCp hv hi0 hi1) rfl rfl (by decide) wT_X4 hw rfl rfl hd hp k
theorem pN_X4_1 {z : Int} {w : Nat} {i : Int} (hv : w < 3) (hi0 : 0 ≤ i) (hi1 : i < 4) (hE : OK E cc nL own ret) (hM : Mem (YC G) E) (hw : ∀ U : State, NW U → va_Nw (.fieldLinkNest own idx "WolfCalendar$Pack" "cell" "I" "WolfCalendar") U) (hd : decode cc pc = .ok (.putfield idx, 3)) (hp : pc' = pc + 3) (k : VV E nL (AS (YC G)) Q (Rh (YC G) (up σ 11 w i 1 z)) pc' lv st) : VV E nL (AS (YC G)) Q (Rh (YC G) σ) pc lv (.int (iN z) :: .ref (aC G 11 w i) :: st) :=
  x_putN (q := (11, w, i)) (j := 1) (ty := .int) hE hM (idCp hv hi0 hi1) rfl rfl (by decide) wT_X4 tyX4_ok nmX4 hw rfl rfl (by decide +kernel) rfl rfl (Nat.le_of_ble_eq_true rfl) (by first | rfl | simp [yC, YC, cfC, up]) (fun r h => up_row r h) hd hp k
theorem g_X4_2 {w : Nat} {i : Int} (hv : w < 3) (hi0 : 0 ≤ i) (hi1 : i < 4) (hE : OK E cc nL own ret) (hM : Mem (YC G) E) (hw : Cond.fieldLink own idx "WolfCalendar$Pack" "lag" "I" ∈ TW) (hd : decode cc pc = .ok (.getfield idx, 3)) (hp : pc' = pc + 3) (k : VV E nL A Q (Rh (YC G) σ) pc' lv (.int (iN (σ 11 w i 2)) :: st)) : VV E nL A Q (Rh (YC G) σ) pc lv (.ref (aC G 11 w i) :: st) :=
  x_get (q := (11, w, i)) (j := 2) hE hM (idCp hv hi0 hi1) rfl rfl (by decide) wT_X4 hw rfl rfl hd hp k
theorem p_X4_2 {z : Int} {w : Nat} {i : Int} (hv : w < 3) (hi0 : 0 ≤ i) (hi1 : i < 4) (hE : OK E cc nL own ret) (hM : Mem (YC G) E) (hw : Cond.fieldLink own idx "WolfCalendar$Pack" "lag" "I" ∈ TW) (hd : decode cc pc = .ok (.putfield idx, 3)) (hp : pc' = pc + 3) (k : VV E nL (AS (YC G)) Q (Rh (YC G) (up σ 11 w i 2 z)) pc' lv st) : VV E nL (AS (YC G)) Q (Rh (YC G) σ) pc lv (.int (iN z) :: .ref (aC G 11 w i) :: st) :=
  x_put (q := (11, w, i)) (j := 2) (ty := .int) hE hM (idCp hv hi0 hi1) rfl rfl (by decide) wT_X4 tyX4_ok nmX4 hw rfl rfl (by decide +kernel) rfl rfl (Nat.le_of_ble_eq_true rfl) (by first | rfl | simp [yC, YC, cfC, up]) (fun r h => up_row r h) hd hp k
theorem gN_X4_2 {w : Nat} {i : Int} (hv : w < 3) (hi0 : 0 ≤ i) (hi1 : i < 4) (hE : OK E cc nL own ret) (hM : Mem (YC G) E) (hw : ∀ U : State, NW U → va_Nw (.fieldLinkNest own idx "WolfCalendar$Pack" "lag" "I" "WolfCalendar") U) (hd : decode cc pc = .ok (.getfield idx, 3)) (hp : pc' = pc + 3) (k : VV E nL A Q (Rh (YC G) σ) pc' lv (.int (iN (σ 11 w i 2)) :: st)) : VV E nL A Q (Rh (YC G) σ) pc lv (.ref (aC G 11 w i) :: st) :=
  x_getN (q := (11, w, i)) (j := 2) hE hM (idCp hv hi0 hi1) rfl rfl (by decide) wT_X4 hw rfl rfl hd hp k
theorem pN_X4_2 {z : Int} {w : Nat} {i : Int} (hv : w < 3) (hi0 : 0 ≤ i) (hi1 : i < 4) (hE : OK E cc nL own ret) (hM : Mem (YC G) E) (hw : ∀ U : State, NW U → va_Nw (.fieldLinkNest own idx "WolfCalendar$Pack" "lag" "I" "WolfCalendar") U) (hd : decode cc pc = .ok (.putfield idx, 3)) (hp : pc' = pc + 3) (k : VV E nL (AS (YC G)) Q (Rh (YC G) (up σ 11 w i 2 z)) pc' lv st) : VV E nL (AS (YC G)) Q (Rh (YC G) σ) pc lv (.int (iN z) :: .ref (aC G 11 w i) :: st) :=
  x_putN (q := (11, w, i)) (j := 2) (ty := .int) hE hM (idCp hv hi0 hi1) rfl rfl (by decide) wT_X4 tyX4_ok nmX4 hw rfl rfl (by decide +kernel) rfl rfl (Nat.le_of_ble_eq_true rfl) (by first | rfl | simp [yC, YC, cfC, up]) (fun r h => up_row r h) hd hp k
theorem g_X2_0 {w : Nat} {i : Int} (hv : w < 3) (hi0 : 0 ≤ i) (hi1 : i < 5) (hE : OK E cc nL own ret) (hM : Mem (YC G) E) (hw : Cond.fieldLink own idx "WolfCalendar$Flock" "called" "I" ∈ TW) (hd : decode cc pc = .ok (.getfield idx, 3)) (hp : pc' = pc + 3) (k : VV E nL A Q (Rh (YC G) σ) pc' lv (.int (iN (σ 12 w i 0)) :: st)) : VV E nL A Q (Rh (YC G) σ) pc lv (.ref (aC G 12 w i) :: st) :=
  x_get (q := (12, w, i)) (j := 0) hE hM (idCf hv hi0 hi1) rfl rfl (by decide) wT_X2 hw rfl rfl hd hp k
theorem p_X2_0 {z : Int} {w : Nat} {i : Int} (hv : w < 3) (hi0 : 0 ≤ i) (hi1 : i < 5) (hE : OK E cc nL own ret) (hM : Mem (YC G) E) (hw : Cond.fieldLink own idx "WolfCalendar$Flock" "called" "I" ∈ TW) (hd : decode cc pc = .ok (.putfield idx, 3)) (hp : pc' = pc + 3) (k : VV E nL (AS (YC G)) Q (Rh (YC G) (up σ 12 w i 0 z)) pc' lv st) : VV E nL (AS (YC G)) Q (Rh (YC G) σ) pc lv (.int (iN z) :: .ref (aC G 12 w i) :: st) :=
  x_put (q := (12, w, i)) (j := 0) (ty := .int) hE hM (idCf hv hi0 hi1) rfl rfl (by decide) wT_X2 tyX2_ok nmX2 hw rfl rfl (by decide +kernel) rfl rfl (Nat.le_of_ble_eq_true rfl) (by first | rfl | simp [yC, YC, cfC, up]) (fun r h => up_row r h) hd hp k
theorem gN_X2_0 {w : Nat} {i : Int} (hv : w < 3) (hi0 : 0 ≤ i) (hi1 : i < 5) (hE : OK E cc nL own ret) (hM : Mem (YC G) E) (hw : ∀ U : State, NW U → va_Nw (.fieldLinkNest own idx "WolfCalendar$Flock" "called" "I" "WolfCalendar") U) (hd : decode cc pc = .ok (.getfield idx, 3)) (hp : pc' = pc + 3) (k : VV E nL A Q (Rh (YC G) σ) pc' lv (.int (iN (σ 12 w i 0)) :: st)) : VV E nL A Q (Rh (YC G) σ) pc lv (.ref (aC G 12 w i) :: st) :=
  x_getN (q := (12, w, i)) (j := 0) hE hM (idCf hv hi0 hi1) rfl rfl (by decide) wT_X2 hw rfl rfl hd hp k
theorem pN_X2_0 {z : Int} {w : Nat} {i : Int} (hv : w < 3) (hi0 : 0 ≤ i) (hi1 : i < 5) (hE : OK E cc nL own ret) (hM : Mem (YC G) E) (hw : ∀ U : State, NW U → va_Nw (.fieldLinkNest own idx "WolfCalendar$Flock" "called" "I" "WolfCalendar") U) (hd : decode cc pc = .ok (.putfield idx, 3)) (hp : pc' = pc + 3) (k : VV E nL (AS (YC G)) Q (Rh (YC G) (up σ 12 w i 0 z)) pc' lv st) : VV E nL (AS (YC G)) Q (Rh (YC G) σ) pc lv (.int (iN z) :: .ref (aC G 12 w i) :: st) :=
  x_putN (q := (12, w, i)) (j := 0) (ty := .int) hE hM (idCf hv hi0 hi1) rfl rfl (by decide) wT_X2 tyX2_ok nmX2 hw rfl rfl (by decide +kernel) rfl rfl (Nat.le_of_ble_eq_true rfl) (by first | rfl | simp [yC, YC, cfC, up]) (fun r h => up_row r h) hd hp k
theorem g_X2_1 {w : Nat} {i : Int} (hv : w < 3) (hi0 : 0 ≤ i) (hi1 : i < 5) (hE : OK E cc nL own ret) (hM : Mem (YC G) E) (hw : Cond.fieldLink own idx "WolfCalendar$Flock" "cell" "I" ∈ TW) (hd : decode cc pc = .ok (.getfield idx, 3)) (hp : pc' = pc + 3) (k : VV E nL A Q (Rh (YC G) σ) pc' lv (.int (iN (σ 12 w i 1)) :: st)) : VV E nL A Q (Rh (YC G) σ) pc lv (.ref (aC G 12 w i) :: st) :=
  x_get (q := (12, w, i)) (j := 1) hE hM (idCf hv hi0 hi1) rfl rfl (by decide) wT_X2 hw rfl rfl hd hp k
theorem p_X2_1 {z : Int} {w : Nat} {i : Int} (hv : w < 3) (hi0 : 0 ≤ i) (hi1 : i < 5) (hE : OK E cc nL own ret) (hM : Mem (YC G) E) (hw : Cond.fieldLink own idx "WolfCalendar$Flock" "cell" "I" ∈ TW) (hd : decode cc pc = .ok (.putfield idx, 3)) (hp : pc' = pc + 3) (k : VV E nL (AS (YC G)) Q (Rh (YC G) (up σ 12 w i 1 z)) pc' lv st) : VV E nL (AS (YC G)) Q (Rh (YC G) σ) pc lv (.int (iN z) :: .ref (aC G 12 w i) :: st) :=
  x_put (q := (12, w, i)) (j := 1) (ty := .int) hE hM (idCf hv hi0 hi1) rfl rfl (by decide) wT_X2 tyX2_ok nmX2 hw rfl rfl (by decide +kernel) rfl rfl (Nat.le_of_ble_eq_true rfl) (by first | rfl | simp [yC, YC, cfC, up]) (fun r h => up_row r h) hd hp k
theorem gN_X2_1 {w : Nat} {i : Int} (hv : w < 3) (hi0 : 0 ≤ i) (hi1 : i < 5) (hE : OK E cc nL own ret) (hM : Mem (YC G) E) (hw : ∀ U : State, NW U → va_Nw (.fieldLinkNest own idx "WolfCalendar$Flock" "cell" "I" "WolfCalendar") U) (hd : decode cc pc = .ok (.getfield idx, 3)) (hp : pc' = pc + 3) (k : VV E nL A Q (Rh (YC G) σ) pc' lv (.int (iN (σ 12 w i 1)) :: st)) : VV E nL A Q (Rh (YC G) σ) pc lv (.ref (aC G 12 w i) :: st) :=
  x_getN (q := (12, w, i)) (j := 1) hE hM (idCf hv hi0 hi1) rfl rfl (by decide) wT_X2 hw rfl rfl hd hp k
theorem pN_X2_1 {z : Int} {w : Nat} {i : Int} (hv : w < 3) (hi0 : 0 ≤ i) (hi1 : i < 5) (hE : OK E cc nL own ret) (hM : Mem (YC G) E) (hw : ∀ U : State, NW U → va_Nw (.fieldLinkNest own idx "WolfCalendar$Flock" "cell" "I" "WolfCalendar") U) (hd : decode cc pc = .ok (.putfield idx, 3)) (hp : pc' = pc + 3) (k : VV E nL (AS (YC G)) Q (Rh (YC G) (up σ 12 w i 1 z)) pc' lv st) : VV E nL (AS (YC G)) Q (Rh (YC G) σ) pc lv (.int (iN z) :: .ref (aC G 12 w i) :: st) :=
  x_putN (q := (12, w, i)) (j := 1) (ty := .int) hE hM (idCf hv hi0 hi1) rfl rfl (by decide) wT_X2 tyX2_ok nmX2 hw rfl rfl (by decide +kernel) rfl rfl (Nat.le_of_ble_eq_true rfl) (by first | rfl | simp [yC, YC, cfC, up]) (fun r h => up_row r h) hd hp k
theorem g_X2_2 {w : Nat} {i : Int} (hv : w < 3) (hi0 : 0 ≤ i) (hi1 : i < 5) (hE : OK E cc nL own ret) (hM : Mem (YC G) E) (hw : Cond.fieldLink own idx "WolfCalendar$Flock" "eater" "I" ∈ TW) (hd : decode cc pc = .ok (.getfield idx, 3)) (hp : pc' = pc + 3) (k : VV E nL A Q (Rh (YC G) σ) pc' lv (.int (iN (σ 12 w i 2)) :: st)) : VV E nL A Q (Rh (YC G) σ) pc lv (.ref (aC G 12 w i) :: st) :=
  x_get (q := (12, w, i)) (j := 2) hE hM (idCf hv hi0 hi1) rfl rfl (by decide) wT_X2 hw rfl rfl hd hp k
theorem p_X2_2 {z : Int} {w : Nat} {i : Int} (hv : w < 3) (hi0 : 0 ≤ i) (hi1 : i < 5) (hE : OK E cc nL own ret) (hM : Mem (YC G) E) (hw : Cond.fieldLink own idx "WolfCalendar$Flock" "eater" "I" ∈ TW) (hd : decode cc pc = .ok (.putfield idx, 3)) (hp : pc' = pc + 3) (k : VV E nL (AS (YC G)) Q (Rh (YC G) (up σ 12 w i 2 z)) pc' lv st) : VV E nL (AS (YC G)) Q (Rh (YC G) σ) pc lv (.int (iN z) :: .ref (aC G 12 w i) :: st) :=
  x_put (q := (12, w, i)) (j := 2) (ty := .int) hE hM (idCf hv hi0 hi1) rfl rfl (by decide) wT_X2 tyX2_ok nmX2 hw rfl rfl (by decide +kernel) rfl rfl (Nat.le_of_ble_eq_true rfl) (by first | rfl | simp [yC, YC, cfC, up]) (fun r h => up_row r h) hd hp k
theorem gN_X2_2 {w : Nat} {i : Int} (hv : w < 3) (hi0 : 0 ≤ i) (hi1 : i < 5) (hE : OK E cc nL own ret) (hM : Mem (YC G) E) (hw : ∀ U : State, NW U → va_Nw (.fieldLinkNest own idx "WolfCalendar$Flock" "eater" "I" "WolfCalendar") U) (hd : decode cc pc = .ok (.getfield idx, 3)) (hp : pc' = pc + 3) (k : VV E nL A Q (Rh (YC G) σ) pc' lv (.int (iN (σ 12 w i 2)) :: st)) : VV E nL A Q (Rh (YC G) σ) pc lv (.ref (aC G 12 w i) :: st) :=
  x_getN (q := (12, w, i)) (j := 2) hE hM (idCf hv hi0 hi1) rfl rfl (by decide) wT_X2 hw rfl rfl hd hp k
theorem pN_X2_2 {z : Int} {w : Nat} {i : Int} (hv : w < 3) (hi0 : 0 ≤ i) (hi1 : i < 5) (hE : OK E cc nL own ret) (hM : Mem (YC G) E) (hw : ∀ U : State, NW U → va_Nw (.fieldLinkNest own idx "WolfCalendar$Flock" "eater" "I" "WolfCalendar") U) (hd : decode cc pc = .ok (.putfield idx, 3)) (hp : pc' = pc + 3) (k : VV E nL (AS (YC G)) Q (Rh (YC G) (up σ 12 w i 2 z)) pc' lv st) : VV E nL (AS (YC G)) Q (Rh (YC G) σ) pc lv (.int (iN z) :: .ref (aC G 12 w i) :: st) :=
  x_putN (q := (12, w, i)) (j := 2) (ty := .int) hE hM (idCf hv hi0 hi1) rfl rfl (by decide) wT_X2 tyX2_ok nmX2 hw rfl rfl (by decide +kernel) rfl rfl (Nat.le_of_ble_eq_true rfl) (by first | rfl | simp [yC, YC, cfC, up]) (fun r h => up_row r h) hd hp k
theorem aC_2 {z : Int} (hE : OK E cc nL own ret) (hM : Mem (YC G) E) (h0 : 0 ≤ z) (h1 : z < 24) (hd : decode cc pc = .ok (.caload, 1)) (hp : pc' = pc + 1) (k : VV E nL A Q (Rh (YC G) σ) pc' lv (.int (iN (σ 2 0 0 z)) :: st)) : VV E nL A Q (Rh (YC G) σ) pc lv (.int (iN z) :: .ref (aC G 2 0 0) :: st) :=
  x_cald (q := (2, 0, 0)) (n := 24) (t0 := 2) hE hM (idC0 (by decide)) rfl rfl (by decide) h0 h1 hd hp k
theorem sC_2 {z v : Int} (hE : OK E cc nL own ret) (hM : Mem (YC G) E) (h0 : 0 ≤ z) (h1 : z < 24) (hz : vp_nar .char (iN v) = iN v) (hd : decode cc pc = .ok (.castore, 1)) (hp : pc' = pc + 1) (k : VV E nL (AS (YC G)) Q (Rh (YC G) (up σ 2 0 0 z v)) pc' lv st) : VV E nL (AS (YC G)) Q (Rh (YC G) σ) pc lv (.int (iN v) :: .int (iN z) :: .ref (aC G 2 0 0) :: st) :=
  x_cast (q := (2, 0, 0)) (n := 24) (t0 := 2) (ρ' := up σ 2 0 0 z v 2 0 0) hE hM (idC0 (by decide)) rfl rfl (by decide) h0 h1 hz rfl (up_s _ _ _ _ _ _) (fun j h => up_n (fun q => h q.2.2.2)) (fun r h => up_row r h) hd hp k
theorem lC_2 (hE : OK E cc nL own ret) (hM : Mem (YC G) E) (hd : decode cc pc = .ok (.arraylength, 1)) (hp : pc' = pc + 1) (k : VV E nL A Q (Rh (YC G) σ) pc' lv (.int (iN 24) :: st)) : VV E nL A Q (Rh (YC G) σ) pc lv (.ref (aC G 2 0 0) :: st) :=
  x_alen (q := (2, 0, 0)) (n := 24) (t0 := 2) hE hM (idC0 (by decide)) rfl rfl rfl hd hp k
theorem aC_4 {z : Int} (hE : OK E cc nL own ret) (hM : Mem (YC G) E) (h0 : 0 ≤ z) (h1 : z < 210) (hd : decode cc pc = .ok (.baload, 1)) (hp : pc' = pc + 1) (k : VV E nL A Q (Rh (YC G) σ) pc' lv (.int (iN (σ 4 0 0 z)) :: st)) : VV E nL A Q (Rh (YC G) σ) pc lv (.int (iN z) :: .ref (aC G 4 0 0) :: st) :=
  x_zald (q := (4, 0, 0)) (n := 210) (t0 := 1) hE hM (idC0 (by decide)) rfl rfl (by decide) h0 h1 hd hp k
theorem sC_4 {z v : Int} (hE : OK E cc nL own ret) (hM : Mem (YC G) E) (h0 : 0 ≤ z) (h1 : z < 210) (hz : vp_nar .boolean (iN v) = iN v) (hd : decode cc pc = .ok (.bastore, 1)) (hp : pc' = pc + 1) (k : VV E nL (AS (YC G)) Q (Rh (YC G) (up σ 4 0 0 z v)) pc' lv st) : VV E nL (AS (YC G)) Q (Rh (YC G) σ) pc lv (.int (iN v) :: .int (iN z) :: .ref (aC G 4 0 0) :: st) :=
  x_zast (q := (4, 0, 0)) (n := 210) (t0 := 1) (ρ' := up σ 4 0 0 z v 4 0 0) hE hM (idC0 (by decide)) rfl rfl (by decide) h0 h1 hz rfl (up_s _ _ _ _ _ _) (fun j h => up_n (fun q => h q.2.2.2)) (fun r h => up_row r h) hd hp k
theorem lC_4 (hE : OK E cc nL own ret) (hM : Mem (YC G) E) (hd : decode cc pc = .ok (.arraylength, 1)) (hp : pc' = pc + 1) (k : VV E nL A Q (Rh (YC G) σ) pc' lv (.int (iN 210) :: st)) : VV E nL A Q (Rh (YC G) σ) pc lv (.ref (aC G 4 0 0) :: st) :=
  x_alen (q := (4, 0, 0)) (n := 210) (t0 := 1) hE hM (idC0 (by decide)) rfl rfl rfl hd hp k
theorem aC_9 {z : Int} {w : Nat} (hv : w < 3) (hE : OK E cc nL own ret) (hM : Mem (YC G) E) (h0 : 0 ≤ z) (h1 : z < 8) (hd : decode cc pc = .ok (.iaload, 1)) (hp : pc' = pc + 1) (k : VV E nL A Q (Rh (YC G) σ) pc' lv (.int (iN (σ 9 w 0 z)) :: st)) : VV E nL A Q (Rh (YC G) σ) pc lv (.int (iN z) :: .ref (aC G 9 w 0) :: st) :=
  x_iald (q := (9, w, 0)) (n := 8) (t0 := 0) hE hM (idCw (by decide) (by decide) hv) rfl rfl (by decide) h0 h1 hd hp k
theorem sC_9 {z v : Int} {w : Nat} (hv : w < 3) (hE : OK E cc nL own ret) (hM : Mem (YC G) E) (h0 : 0 ≤ z) (h1 : z < 8) (hd : decode cc pc = .ok (.iastore, 1)) (hp : pc' = pc + 1) (k : VV E nL (AS (YC G)) Q (Rh (YC G) (up σ 9 w 0 z v)) pc' lv st) : VV E nL (AS (YC G)) Q (Rh (YC G) σ) pc lv (.int (iN v) :: .int (iN z) :: .ref (aC G 9 w 0) :: st) :=
  x_iast (q := (9, w, 0)) (n := 8) (t0 := 0) (ρ' := up σ 9 w 0 z v 9 w 0) hE hM (idCw (by decide) (by decide) hv) rfl rfl (by decide) h0 h1 rfl (up_s _ _ _ _ _ _) (fun j h => up_n (fun q => h q.2.2.2)) (fun r h => up_row r h) hd hp k
theorem lC_9 {w : Nat} (hv : w < 3) (hE : OK E cc nL own ret) (hM : Mem (YC G) E) (hd : decode cc pc = .ok (.arraylength, 1)) (hp : pc' = pc + 1) (k : VV E nL A Q (Rh (YC G) σ) pc' lv (.int (iN 8) :: st)) : VV E nL A Q (Rh (YC G) σ) pc lv (.ref (aC G 9 w 0) :: st) :=
  x_alen (q := (9, w, 0)) (n := 8) (t0 := 0) hE hM (idCw (by decide) (by decide) hv) rfl rfl rfl hd hp k
theorem aC_7 {w : Nat} {z : Int} (hv : w < 3) (hE : OK E cc nL own ret) (hM : Mem (YC G) E) (h0 : 0 ≤ z) (h1 : z < 4) (hd : decode cc pc = .ok (.aaload, 1)) (hp : pc' = pc + 1) (k : VV E nL A Q (Rh (YC G) σ) pc' lv (.ref (aC G 11 w z) :: st)) : VV E nL A Q (Rh (YC G) σ) pc lv (.int (iN z) :: .ref (aC G 7 w 0) :: st) :=
  x_aald (q := (7, w, 0)) (n := 4) (t0 := 3) (f := aC G 11 w) hE hM (idCw (by decide) (by decide) hv) rfl rfl (by decide) h0 h1 hd hp k
theorem aC_8 {w : Nat} {z : Int} (hv : w < 3) (hE : OK E cc nL own ret) (hM : Mem (YC G) E) (h0 : 0 ≤ z) (h1 : z < 5) (hd : decode cc pc = .ok (.aaload, 1)) (hp : pc' = pc + 1) (k : VV E nL A Q (Rh (YC G) σ) pc' lv (.ref (aC G 12 w z) :: st)) : VV E nL A Q (Rh (YC G) σ) pc lv (.int (iN z) :: .ref (aC G 8 w 0) :: st) :=
  x_aald (q := (8, w, 0)) (n := 5) (t0 := 4) (f := aC G 12 w) hE hM (idCw (by decide) (by decide) hv) rfl rfl (by decide) h0 h1 hd hp k
end CR
theorem kX8_letter : Callee yX8_letter RX8 cX8_letter 2 (some .int) 1 := ⟨rfl, ⟨by decide, by decide, by decide +kernel⟩, by decide, tI_X8_letter, tL_X8_letter, tN_X8, tK_X8_letter⟩
theorem kX5_put : Callee yX5_put RX5 cX5_put 2 (some .boolean) 1 := ⟨rfl, ⟨by decide, by decide, by decide +kernel⟩, by decide, tI_X5_put, tL_X5_put, tN_X5, tK_X5_put⟩
theorem kX8_blank : Callee yX8_blank RX8 cX8_blank 2 (some .int) 0 := ⟨rfl, ⟨by decide, by decide, by decide +kernel⟩, by decide, tI_X8_blank, tL_X8_blank, tN_X8, tK_X8_blank⟩
theorem kX5_clear : Callee yX5_clear RX5 cX5_clear 1 none 0 := ⟨rfl, ⟨by decide, by decide, by decide +kernel⟩, by decide, tI_X5_clear, tL_X5_clear, tN_X5, tK_X5_clear⟩
theorem kX8_fault : Callee yX8_fault RX8 cX8_fault 1 (some .int) 0 := ⟨rfl, ⟨by decide, by decide, by decide +kernel⟩, by decide, tI_X8_fault, tL_X8_fault, tN_X8, tK_X8_fault⟩
theorem kX5_firstFault : Callee yX5_firstFault RX5 cX5_firstFault 2 (some .int) 0 := ⟨rfl, ⟨by decide, by decide, by decide +kernel⟩, by decide, tI_X5_firstFault, tL_X5_firstFault, tN_X5, tK_X5_firstFault⟩
theorem kX5_mayStand : Callee yX5_mayStand RX5 cX5_mayStand 4 (some .boolean) 1 := ⟨rfl, ⟨by decide, by decide, by decide +kernel⟩, by decide, tI_X5_mayStand, tL_X5_mayStand, tN_X5, tK_X5_mayStand⟩
theorem kX5_staysAt : Callee yX5_staysAt RX5 cX5_staysAt 2 (some .boolean) 1 := ⟨rfl, ⟨by decide, by decide, by decide +kernel⟩, by decide, tI_X5_staysAt, tL_X5_staysAt, tN_X5, tK_X5_staysAt⟩
theorem kX8_feasts : Callee yX8_feasts RX8 cX8_feasts 1 (some .int) 0 := ⟨rfl, ⟨by decide, by decide, by decide +kernel⟩, by decide, tI_X8_feasts, tL_X8_feasts, tN_X8, tK_X8_feasts⟩
theorem kX5_isWhole : Callee yX5_isWhole RX5 cX5_isWhole 1 (some .boolean) 0 := ⟨rfl, ⟨by decide, by decide, by decide +kernel⟩, by decide, tI_X5_isWhole, tL_X5_isWhole, tN_X5, tK_X5_isWhole⟩
theorem kX1_readFrom : Callee yX1_readFrom RX1 cX1_readFrom 8 none 1 := ⟨rfl, ⟨by decide, by decide, by decide +kernel⟩, by decide, tI_X1_readFrom, tL_X1_readFrom, tN_X1, tK_X1_readFrom⟩
theorem kX5_digitAt : Callee yX5_digitAt RX5 cX5_digitAt 2 (some .int) 1 := ⟨rfl, ⟨by decide, by decide, by decide +kernel⟩, by decide, tI_X5_digitAt, tL_X5_digitAt, tN_X5, tK_X5_digitAt⟩
theorem kX1_placeOfWeekday : CalleeS yX1_placeOfWeekday RX1 cX1_placeOfWeekday 3 (some .int) 3 := ⟨rfl, ⟨by decide, by decide, by decide +kernel⟩, by decide, tS_X1_placeOfWeekday, tN_X1, tK_X1_placeOfWeekday⟩
theorem kJ9_floorMod_7cf53 : CalleeS yJ9_floorMod_7cf53 RJ9 cJ9_floorMod_7cf53 3 (some .int) 2 := ⟨rfl, ⟨by decide, by decide, by decide +kernel⟩, by decide, tS_J9_floorMod_7cf53, tN_J9, tK_J9_floorMod_7cf53⟩
theorem kX8_dayOf : Callee yX8_dayOf RX8 cX8_dayOf 3 (some .int) 2 := ⟨rfl, ⟨by decide, by decide, by decide +kernel⟩, by decide, tI_X8_dayOf, tL_X8_dayOf, tN_X8, tK_X8_dayOf⟩
theorem kX8_nameOfDay : CalleeS yX8_nameOfDay RX8 cX8_nameOfDay 1 (some .int) 1 := ⟨rfl, ⟨by decide, by decide, by decide +kernel⟩, by decide, tS_X8_nameOfDay, tN_X8, tK_X8_nameOfDay⟩
theorem kX1_isFeast : Callee yX1_isFeast RX1 cX1_isFeast 2 (some .boolean) 1 := ⟨rfl, ⟨by decide, by decide, by decide +kernel⟩, by decide, tI_X1_isFeast, tL_X1_isFeast, tN_X1, tK_X1_isFeast⟩
theorem kX8_forge : Callee yX8_forge RX8 cX8_forge 4 (some .int) 2 := ⟨rfl, ⟨by decide, by decide, by decide +kernel⟩, by decide, tI_X8_forge, tL_X8_forge, tN_X8, tK_X8_forge⟩
theorem kX8_isCell : CalleeS yX8_isCell RX8 cX8_isCell 1 (some .boolean) 1 := ⟨rfl, ⟨by decide, by decide, by decide +kernel⟩, by decide, tS_X8_isCell, tN_X8, tK_X8_isCell⟩
theorem kX8_pack : Callee yX8_pack RX8 cX8_pack 4 (some .int) 3 := ⟨rfl, ⟨by decide, by decide, by decide +kernel⟩, by decide, tI_X8_pack, tL_X8_pack, tN_X8, tK_X8_pack⟩
theorem kX8_isKind : CalleeS yX8_isKind RX8 cX8_isKind 1 (some .boolean) 1 := ⟨rfl, ⟨by decide, by decide, by decide +kernel⟩, by decide, tS_X8_isKind, tN_X8, tK_X8_isKind⟩
theorem kX4_become : Callee yX4_become RX4 cX4_become 4 none 3 := ⟨rfl, ⟨by decide, by decide, by decide +kernel⟩, by decide, tI_X4_become, tL_X4_become, tN_X4, tK_X4_become⟩
theorem kX8_about : Callee yX8_about RX8 cX8_about 4 (some .int) 2 := ⟨rfl, ⟨by decide, by decide, by decide +kernel⟩, by decide, tI_X8_about, tL_X8_about, tN_X8, tK_X8_about⟩
theorem kX7_hasPack : Callee yX7_hasPack RX7 cX7_hasPack 2 (some .boolean) 1 := ⟨rfl, ⟨by decide, by decide, by decide +kernel⟩, by decide, tI_X7_hasPack, tL_X7_hasPack, tN_X7, tK_X7_hasPack⟩
theorem kX7_readBy : Callee yX7_readBy RX7 cX7_readBy 2 (some .int) 1 := ⟨rfl, ⟨by decide, by decide, by decide +kernel⟩, by decide, tI_X7_readBy, tL_X7_readBy, tN_X7, tK_X7_readBy⟩
theorem kX3_reads : Callee yX3_reads RX3 cX3_reads 4 (some .int) 3 := ⟨rfl, ⟨by decide, by decide, by decide +kernel⟩, by decide, tI_X3_reads, tL_X3_reads, tN_X3, tK_X3_reads⟩
theorem kX3_fastsOn : Callee yX3_fastsOn RX3 cX3_fastsOn 3 (some .boolean) 2 := ⟨rfl, ⟨by decide, by decide, by decide +kernel⟩, by decide, tI_X3_fastsOn, tL_X3_fastsOn, tN_X3, tK_X3_fastsOn⟩
theorem kX7_preyOf : Callee yX7_preyOf RX7 cX7_preyOf 6 (some .int) 2 := ⟨rfl, ⟨by decide, by decide, by decide +kernel⟩, by decide, tI_X7_preyOf, tL_X7_preyOf, tN_X7, tK_X7_preyOf⟩
theorem kX7_firstIn : Callee yX7_firstIn RX7 cX7_firstIn 5 (some .int) 2 := ⟨rfl, ⟨by decide, by decide, by decide +kernel⟩, by decide, tI_X7_firstIn, tL_X7_firstIn, tN_X7, tK_X7_firstIn⟩
theorem kX7_isEaten : Callee yX7_isEaten RX7 cX7_isEaten 2 (some .boolean) 1 := ⟨rfl, ⟨by decide, by decide, by decide +kernel⟩, by decide, tI_X7_isEaten, tL_X7_isEaten, tN_X7, tK_X7_isEaten⟩
theorem kX7_eatenBy : Callee yX7_eatenBy RX7 cX7_eatenBy 4 (some .int) 1 := ⟨rfl, ⟨by decide, by decide, by decide +kernel⟩, by decide, tI_X7_eatenBy, tL_X7_eatenBy, tN_X7, tK_X7_eatenBy⟩
theorem kX8_as : Callee yX8_as RX8 cX8_as 3 (some .int) 2 := ⟨rfl, ⟨by decide, by decide, by decide +kernel⟩, by decide, tI_X8_as, tL_X8_as, tN_X8, tK_X8_as⟩
theorem kX3_isSuch : Callee yX3_isSuch RX3 cX3_isSuch 2 (some .boolean) 1 := ⟨rfl, ⟨by decide, by decide, by decide +kernel⟩, by decide, tI_X3_isSuch, tL_X3_isSuch, tN_X3, tK_X3_isSuch⟩
theorem kX8_flock : Callee yX8_flock RX8 cX8_flock 3 (some .int) 2 := ⟨rfl, ⟨by decide, by decide, by decide +kernel⟩, by decide, tI_X8_flock, tL_X8_flock, tN_X8, tK_X8_flock⟩
theorem kX8_isName : CalleeS yX8_isName RX8 cX8_isName 1 (some .boolean) 1 := ⟨rfl, ⟨by decide, by decide, by decide +kernel⟩, by decide, tS_X8_isName, tN_X8, tK_X8_isName⟩
theorem kX2_become : Callee yX2_become RX2 cX2_become 3 none 2 := ⟨rfl, ⟨by decide, by decide, by decide +kernel⟩, by decide, tI_X2_become, tL_X2_become, tN_X2, tK_X2_become⟩
theorem kX8_flockOf : Callee yX8_flockOf RX8 cX8_flockOf 4 (some .int) 2 := ⟨rfl, ⟨by decide, by decide, by decide +kernel⟩, by decide, tI_X8_flockOf, tL_X8_flockOf, tN_X8, tK_X8_flockOf⟩
theorem kX7_hasFlock : Callee yX7_hasFlock RX7 cX7_hasFlock 2 (some .boolean) 1 := ⟨rfl, ⟨by decide, by decide, by decide +kernel⟩, by decide, tI_X7_hasFlock, tL_X7_hasFlock, tN_X7, tK_X7_hasFlock⟩
theorem kX8_name : Callee yX8_name RX8 cX8_name 4 (some .int) 2 := ⟨rfl, ⟨by decide, by decide, by decide +kernel⟩, by decide, tI_X8_name, tL_X8_name, tN_X8, tK_X8_name⟩
theorem kX7_isGrazing : Callee yX7_isGrazing RX7 cX7_isGrazing 2 (some .boolean) 1 := ⟨rfl, ⟨by decide, by decide, by decide +kernel⟩, by decide, tI_X7_isGrazing, tL_X7_isGrazing, tN_X7, tK_X7_isGrazing⟩
theorem kX8_move : Callee yX8_move RX8 cX8_move 4 (some .int) 2 := ⟨rfl, ⟨by decide, by decide, by decide +kernel⟩, by decide, tI_X8_move, tL_X8_move, tN_X8, tK_X8_move⟩
theorem kX8_day : Callee yX8_day RX8 cX8_day 1 (some .int) 0 := ⟨rfl, ⟨by decide, by decide, by decide +kernel⟩, by decide, tI_X8_day, tL_X8_day, tN_X8, tK_X8_day⟩
theorem kX7_passDay : Callee yX7_passDay RX7 cX7_passDay 5 (some .int) 1 := ⟨rfl, ⟨by decide, by decide, by decide +kernel⟩, by decide, tI_X7_passDay, tL_X7_passDay, tN_X7, tK_X7_passDay⟩
theorem kX8_loss : Callee yX8_loss RX8 cX8_loss 2 (some .int) 1 := ⟨rfl, ⟨by decide, by decide, by decide +kernel⟩, by decide, tI_X8_loss, tL_X8_loss, tN_X8, tK_X8_loss⟩
theorem kX8_lossIn : Callee yX8_lossIn RX8 cX8_lossIn 3 (some .int) 1 := ⟨rfl, ⟨by decide, by decide, by decide +kernel⟩, by decide, tI_X8_lossIn, tL_X8_lossIn, tN_X8, tK_X8_lossIn⟩
theorem kX8_trialFromNow : Callee yX8_trialFromNow RX8 cX8_trialFromNow 1 none 0 := ⟨rfl, ⟨by decide, by decide, by decide +kernel⟩, by decide, tI_X8_trialFromNow, tL_X8_trialFromNow, tN_X8, tK_X8_trialFromNow⟩
theorem kX7_copyFrom : Callee yX7_copyFrom RX7 cX7_copyFrom 4 none 1 := ⟨rfl, ⟨by decide, by decide, by decide +kernel⟩, by decide, tI_X7_copyFrom, tL_X7_copyFrom, tN_X7, tK_X7_copyFrom⟩
theorem kX2_copyFrom : Callee yX2_copyFrom RX2 cX2_copyFrom 2 none 1 := ⟨rfl, ⟨by decide, by decide, by decide +kernel⟩, by decide, tI_X2_copyFrom, tL_X2_copyFrom, tN_X2, tK_X2_copyFrom⟩
theorem kX6_copyFrom : Callee yX6_copyFrom RX6 cX6_copyFrom 2 none 1 := ⟨rfl, ⟨by decide, by decide, by decide +kernel⟩, by decide, tI_X6_copyFrom, tL_X6_copyFrom, tN_X6, tK_X6_copyFrom⟩
theorem kX7_goBackTo : Callee yX7_goBackTo RX7 cX7_goBackTo 3 none 2 := ⟨rfl, ⟨by decide, by decide, by decide +kernel⟩, by decide, tI_X7_goBackTo, tL_X7_goBackTo, tN_X7, tK_X7_goBackTo⟩
theorem kX7_eatenInAll : Callee yX7_eatenInAll RX7 cX7_eatenInAll 1 (some .int) 0 := ⟨rfl, ⟨by decide, by decide, by decide +kernel⟩, by decide, tI_X7_eatenInAll, tL_X7_eatenInAll, tN_X7, tK_X7_eatenInAll⟩
theorem kJ6_bitCount_0f7a4 : CalleeS yJ6_bitCount_0f7a4 RJ6 cJ6_bitCount_0f7a4 1 (some .int) 1 := ⟨rfl, ⟨by decide, by decide, by decide +kernel⟩, by decide, tS_J6_bitCount_0f7a4, tN_J6, tK_J6_bitCount_0f7a4⟩
theorem kX8_falls : Callee yX8_falls RX8 cX8_falls 2 (some .int) 1 := ⟨rfl, ⟨by decide, by decide, by decide +kernel⟩, by decide, tI_X8_falls, tL_X8_falls, tN_X8, tK_X8_falls⟩
theorem kX7_daysUntilEaten : Callee yX7_daysUntilEaten RX7 cX7_daysUntilEaten 5 (some .int) 3 := ⟨rfl, ⟨by decide, by decide, by decide +kernel⟩, by decide, tI_X7_daysUntilEaten, tL_X7_daysUntilEaten, tN_X7, tK_X7_daysUntilEaten⟩
theorem kX8_safe : Callee yX8_safe RX8 cX8_safe 4 (some .int) 2 := ⟨rfl, ⟨by decide, by decide, by decide +kernel⟩, by decide, tI_X8_safe, tL_X8_safe, tN_X8, tK_X8_safe⟩
theorem kX8_graze : Callee yX8_graze RX8 cX8_graze 4 (some .int) 3 := ⟨rfl, ⟨by decide, by decide, by decide +kernel⟩, by decide, tI_X8_graze, tL_X8_graze, tN_X8, tK_X8_graze⟩
theorem kX8_firstCellOfGrazing : Callee yX8_firstCellOfGrazing RX8 cX8_firstCellOfGrazing 5 (some .int) 2 := ⟨rfl, ⟨by decide, by decide, by decide +kernel⟩, by decide, tI_X8_firstCellOfGrazing, tL_X8_firstCellOfGrazing, tN_X8, tK_X8_firstCellOfGrazing⟩
theorem kX8_rowsThrough : Callee yX8_rowsThrough RX8 cX8_rowsThrough 4 (some .int) 3 := ⟨rfl, ⟨by decide, by decide, by decide +kernel⟩, by decide, tI_X8_rowsThrough, tL_X8_rowsThrough, tN_X8, tK_X8_rowsThrough⟩
theorem kX8_rowsBehind : Callee yX8_rowsBehind RX8 cX8_rowsBehind 8 (some .int) 2 := ⟨rfl, ⟨by decide, by decide, by decide +kernel⟩, by decide, tI_X8_rowsBehind, tL_X8_rowsBehind, tN_X8, tK_X8_rowsBehind⟩
theorem kX8_nail : Callee yX8_nail RX8 cX8_nail 7 (some .int) 2 := ⟨rfl, ⟨by decide, by decide, by decide +kernel⟩, by decide, tI_X8_nail, tL_X8_nail, tN_X8, tK_X8_nail⟩
theorem kX8_fastsOnEnd : Callee yX8_fastsOnEnd RX8 cX8_fastsOnEnd 5 (some .int) 2 := ⟨rfl, ⟨by decide, by decide, by decide +kernel⟩, by decide, tI_X8_fastsOnEnd, tL_X8_fastsOnEnd, tN_X8, tK_X8_fastsOnEnd⟩
theorem kX8_watch : Callee yX8_watch RX8 cX8_watch 3 (some .int) 1 := ⟨rfl, ⟨by decide, by decide, by decide +kernel⟩, by decide, tI_X8_watch, tL_X8_watch, tN_X8, tK_X8_watch⟩
theorem kX6_beginWith : Callee yX6_beginWith RX6 cX6_beginWith 3 none 2 := ⟨rfl, ⟨by decide, by decide, by decide +kernel⟩, by decide, tI_X6_beginWith, tL_X6_beginWith, tN_X6, tK_X6_beginWith⟩
theorem kX8_seen : Callee yX8_seen RX8 cX8_seen 2 (some .int) 1 := ⟨rfl, ⟨by decide, by decide, by decide +kernel⟩, by decide, tI_X8_seen, tL_X8_seen, tN_X8, tK_X8_seen⟩
theorem kX6_hasBegun : Callee yX6_hasBegun RX6 cX6_hasBegun 1 (some .boolean) 0 := ⟨rfl, ⟨by decide, by decide, by decide +kernel⟩, by decide, tI_X6_hasBegun, tL_X6_hasBegun, tN_X6, tK_X6_hasBegun⟩
theorem kX6_put : Callee yX6_put RX6 cX6_put 2 none 1 := ⟨rfl, ⟨by decide, by decide, by decide +kernel⟩, by decide, tI_X6_put, tL_X6_put, tN_X6, tK_X6_put⟩
theorem kX8_fits : Callee yX8_fits RX8 cX8_fits 3 (some .int) 1 := ⟨rfl, ⟨by decide, by decide, by decide +kernel⟩, by decide, tI_X8_fits, tL_X8_fits, tN_X8, tK_X8_fits⟩
theorem kX8_fittingLags : Callee yX8_fittingLags RX8 cX8_fittingLags 4 (some .int) 1 := ⟨rfl, ⟨by decide, by decide, by decide +kernel⟩, by decide, tI_X8_fittingLags, tL_X8_fittingLags, tN_X8, tK_X8_fittingLags⟩
theorem kX8_didJustSo : Callee yX8_didJustSo RX8 cX8_didJustSo 6 (some .boolean) 3 := ⟨rfl, ⟨by decide, by decide, by decide +kernel⟩, by decide, tI_X8_didJustSo, tL_X8_didJustSo, tN_X8, tK_X8_didJustSo⟩
theorem kX6_huntedAt : Callee yX6_huntedAt RX6 cX6_huntedAt 2 (some .boolean) 1 := ⟨rfl, ⟨by decide, by decide, by decide +kernel⟩, by decide, tI_X6_huntedAt, tL_X6_huntedAt, tN_X6, tK_X6_huntedAt⟩
theorem kX8_fittingKinds : Callee yX8_fittingKinds RX8 cX8_fittingKinds 4 (some .int) 1 := ⟨rfl, ⟨by decide, by decide, by decide +kernel⟩, by decide, tI_X8_fittingKinds, tL_X8_fittingKinds, tN_X8, tK_X8_fittingKinds⟩
theorem kX8_years : Callee yX8_years RX8 cX8_years 6 (some .int) 3 := ⟨rfl, ⟨by decide, by decide, by decide +kernel⟩, by decide, tI_X8_years, tL_X8_years, tN_X8, tK_X8_years⟩
theorem kX0_next : Callee yX0_next RX0 cX0_next 1 (some .int) 0 := ⟨rfl, ⟨by decide, by decide, by decide +kernel⟩, by decide, tI_X0_next, tL_X0_next, tN_X0, tK_X0_next⟩
theorem kX8_image : Callee yX8_image RX8 cX8_image 1 (some .int) 0 := ⟨rfl, ⟨by decide, by decide, by decide +kernel⟩, by decide, tI_X8_image, tL_X8_image, tN_X8, tK_X8_image⟩
theorem kX8_restore : Callee yX8_restore RX8 cX8_restore 1 (some .int) 0 := ⟨rfl, ⟨by decide, by decide, by decide +kernel⟩, by decide, tI_X8_restore, tL_X8_restore, tN_X8, tK_X8_restore⟩
theorem kX8_count : Callee yX8_count RX8 cX8_count 2 (some .int) 1 := ⟨rfl, ⟨by decide, by decide, by decide +kernel⟩, by decide, tI_X8_count, tL_X8_count, tN_X8, tK_X8_count⟩
theorem kX7_forgedCells : Callee yX7_forgedCells RX7 cX7_forgedCells 3 (some .int) 0 := ⟨rfl, ⟨by decide, by decide, by decide +kernel⟩, by decide, tI_X7_forgedCells, tL_X7_forgedCells, tN_X7, tK_X7_forgedCells⟩
theorem kX8_digest : Callee yX8_digest RX8 cX8_digest 4 (some .long) 0 := ⟨rfl, ⟨by decide, by decide, by decide +kernel⟩, by decide, tI_X8_digest, tL_X8_digest, tN_X8, tK_X8_digest⟩
theorem kX8_mixed : CalleeS yX8_mixed RX8 cX8_mixed 4 (some .long) 2 := ⟨rfl, ⟨by decide, by decide, by decide +kernel⟩, by decide, tS_X8_mixed, tN_X8, tK_X8_mixed⟩
theorem kX8_withPacks : Callee yX8_withPacks RX8 cX8_withPacks 5 (some .long) 1 := ⟨rfl, ⟨by decide, by decide, by decide +kernel⟩, by decide, tI_X8_withPacks, tL_X8_withPacks, tN_X8, tK_X8_withPacks⟩
theorem kX8_withFlocks : Callee yX8_withFlocks RX8 cX8_withFlocks 5 (some .long) 1 := ⟨rfl, ⟨by decide, by decide, by decide +kernel⟩, by decide, tI_X8_withFlocks, tL_X8_withFlocks, tN_X8, tK_X8_withFlocks⟩
theorem kX9_letter : Callee yX9_letter RX9 cX9_letter 2 (some .int) 1 := ⟨rfl, ⟨by decide, by decide, by decide +kernel⟩, by decide, tI_X9_letter, tL_X9_letter, tN_X9, tK_X9_letter⟩
theorem kX9_within : CalleeS yX9_within RX9 cX9_within 3 (some .boolean) 3 := ⟨rfl, ⟨by decide, by decide, by decide +kernel⟩, by decide, tS_X9_within, tN_X9, tK_X9_within⟩
theorem kX9_blank : Callee yX9_blank RX9 cX9_blank 2 (some .int) 0 := ⟨rfl, ⟨by decide, by decide, by decide +kernel⟩, by decide, tI_X9_blank, tL_X9_blank, tN_X9, tK_X9_blank⟩
theorem kX9_fault : Callee yX9_fault RX9 cX9_fault 1 (some .int) 0 := ⟨rfl, ⟨by decide, by decide, by decide +kernel⟩, by decide, tI_X9_fault, tL_X9_fault, tN_X9, tK_X9_fault⟩
theorem kX9_readFeasts : Callee yX9_readFeasts RX9 cX9_readFeasts 5 none 0 := ⟨rfl, ⟨by decide, by decide, by decide +kernel⟩, by decide, tI_X9_readFeasts, tL_X9_readFeasts, tN_X9, tK_X9_readFeasts⟩
theorem kX9_nextState : Callee yX9_nextState RX9 cX9_nextState 4 (some .int) 2 := ⟨rfl, ⟨by decide, by decide, by decide +kernel⟩, by decide, tI_X9_nextState, tL_X9_nextState, tN_X9, tK_X9_nextState⟩
theorem kX9_lastState : Callee yX9_lastState RX9 cX9_lastState 4 (some .int) 2 := ⟨rfl, ⟨by decide, by decide, by decide +kernel⟩, by decide, tI_X9_lastState, tL_X9_lastState, tN_X9, tK_X9_lastState⟩
theorem kX9_feasts : Callee yX9_feasts RX9 cX9_feasts 2 (some .int) 0 := ⟨rfl, ⟨by decide, by decide, by decide +kernel⟩, by decide, tI_X9_feasts, tL_X9_feasts, tN_X9, tK_X9_feasts⟩
theorem kX9_dayOf : Callee yX9_dayOf RX9 cX9_dayOf 3 (some .int) 2 := ⟨rfl, ⟨by decide, by decide, by decide +kernel⟩, by decide, tI_X9_dayOf, tL_X9_dayOf, tN_X9, tK_X9_dayOf⟩
theorem kX9_dayTold : Callee yX9_dayTold RX9 cX9_dayTold 3 (some .int) 2 := ⟨rfl, ⟨by decide, by decide, by decide +kernel⟩, by decide, tI_X9_dayTold, tL_X9_dayTold, tN_X9, tK_X9_dayTold⟩
theorem kX9_nameOn : CalleeS yX9_nameOn RX9 cX9_nameOn 1 (some .int) 1 := ⟨rfl, ⟨by decide, by decide, by decide +kernel⟩, by decide, tS_X9_nameOn, tN_X9, tK_X9_nameOn⟩
theorem kX9_isFeast : Callee yX9_isFeast RX9 cX9_isFeast 6 (some .boolean) 1 := ⟨rfl, ⟨by decide, by decide, by decide +kernel⟩, by decide, tI_X9_isFeast, tL_X9_isFeast, tN_X9, tK_X9_isFeast⟩
theorem kX9_forge : Callee yX9_forge RX9 cX9_forge 4 (some .int) 2 := ⟨rfl, ⟨by decide, by decide, by decide +kernel⟩, by decide, tI_X9_forge, tL_X9_forge, tN_X9, tK_X9_forge⟩
theorem kX9_isCell : CalleeS yX9_isCell RX9 cX9_isCell 1 (some .boolean) 1 := ⟨rfl, ⟨by decide, by decide, by decide +kernel⟩, by decide, tS_X9_isCell, tN_X9, tK_X9_isCell⟩
theorem kX9_pack : Callee yX9_pack RX9 cX9_pack 4 (some .int) 3 := ⟨rfl, ⟨by decide, by decide, by decide +kernel⟩, by decide, tI_X9_pack, tL_X9_pack, tN_X9, tK_X9_pack⟩
theorem kX9_about : Callee yX9_about RX9 cX9_about 3 (some .int) 2 := ⟨rfl, ⟨by decide, by decide, by decide +kernel⟩, by decide, tI_X9_about, tL_X9_about, tN_X9, tK_X9_about⟩
theorem kX9_isPack : Callee yX9_isPack RX9 cX9_isPack 2 (some .boolean) 1 := ⟨rfl, ⟨by decide, by decide, by decide +kernel⟩, by decide, tI_X9_isPack, tL_X9_isPack, tN_X9, tK_X9_isPack⟩
theorem kX9_packNow : Callee yX9_packNow RX9 cX9_packNow 3 (some .int) 2 := ⟨rfl, ⟨by decide, by decide, by decide +kernel⟩, by decide, tI_X9_packNow, tL_X9_packNow, tN_X9, tK_X9_packNow⟩
theorem kX9_readsNow : Callee yX9_readsNow RX9 cX9_readsNow 3 (some .int) 2 := ⟨rfl, ⟨by decide, by decide, by decide +kernel⟩, by decide, tI_X9_readsNow, tL_X9_readsNow, tN_X9, tK_X9_readsNow⟩
theorem kX9_readsBy : CalleeS yX9_readsBy RX9 cX9_readsBy 4 (some .int) 4 := ⟨rfl, ⟨by decide, by decide, by decide +kernel⟩, by decide, tS_X9_readsBy, tN_X9, tK_X9_readsBy⟩
theorem kX9_fasts : Callee yX9_fasts RX9 cX9_fasts 3 (some .boolean) 2 := ⟨rfl, ⟨by decide, by decide, by decide +kernel⟩, by decide, tI_X9_fasts, tL_X9_fasts, tN_X9, tK_X9_fasts⟩
theorem kX9_fastsBy : Callee yX9_fastsBy RX9 cX9_fastsBy 7 (some .boolean) 4 := ⟨rfl, ⟨by decide, by decide, by decide +kernel⟩, by decide, tI_X9_fastsBy, tL_X9_fastsBy, tN_X9, tK_X9_fastsBy⟩
theorem kX9_prey : Callee yX9_prey RX9 cX9_prey 6 (some .int) 2 := ⟨rfl, ⟨by decide, by decide, by decide +kernel⟩, by decide, tI_X9_prey, tL_X9_prey, tN_X9, tK_X9_prey⟩
theorem kX9_preyIn : Callee yX9_preyIn RX9 cX9_preyIn 5 (some .int) 2 := ⟨rfl, ⟨by decide, by decide, by decide +kernel⟩, by decide, tI_X9_preyIn, tL_X9_preyIn, tN_X9, tK_X9_preyIn⟩
theorem kX9_eatenMany : Callee yX9_eatenMany RX9 cX9_eatenMany 4 (some .int) 1 := ⟨rfl, ⟨by decide, by decide, by decide +kernel⟩, by decide, tI_X9_eatenMany, tL_X9_eatenMany, tN_X9, tK_X9_eatenMany⟩
theorem kX9_as : Callee yX9_as RX9 cX9_as 4 (some .int) 2 := ⟨rfl, ⟨by decide, by decide, by decide +kernel⟩, by decide, tI_X9_as, tL_X9_as, tN_X9, tK_X9_as⟩
theorem kX9_flock : Callee yX9_flock RX9 cX9_flock 3 (some .int) 2 := ⟨rfl, ⟨by decide, by decide, by decide +kernel⟩, by decide, tI_X9_flock, tL_X9_flock, tN_X9, tK_X9_flock⟩
theorem kX9_isName : CalleeS yX9_isName RX9 cX9_isName 1 (some .boolean) 1 := ⟨rfl, ⟨by decide, by decide, by decide +kernel⟩, by decide, tS_X9_isName, tN_X9, tK_X9_isName⟩
theorem kX9_flockOf : Callee yX9_flockOf RX9 cX9_flockOf 3 (some .int) 2 := ⟨rfl, ⟨by decide, by decide, by decide +kernel⟩, by decide, tI_X9_flockOf, tL_X9_flockOf, tN_X9, tK_X9_flockOf⟩
theorem kX9_isThere : Callee yX9_isThere RX9 cX9_isThere 2 (some .boolean) 1 := ⟨rfl, ⟨by decide, by decide, by decide +kernel⟩, by decide, tI_X9_isThere, tL_X9_isThere, tN_X9, tK_X9_isThere⟩
theorem kX9_flockNow : Callee yX9_flockNow RX9 cX9_flockNow 3 (some .int) 2 := ⟨rfl, ⟨by decide, by decide, by decide +kernel⟩, by decide, tI_X9_flockNow, tL_X9_flockNow, tN_X9, tK_X9_flockNow⟩
theorem kX9_name : Callee yX9_name RX9 cX9_name 4 (some .int) 2 := ⟨rfl, ⟨by decide, by decide, by decide +kernel⟩, by decide, tI_X9_name, tL_X9_name, tN_X9, tK_X9_name⟩
theorem kX9_isFlock : Callee yX9_isFlock RX9 cX9_isFlock 2 (some .boolean) 1 := ⟨rfl, ⟨by decide, by decide, by decide +kernel⟩, by decide, tI_X9_isFlock, tL_X9_isFlock, tN_X9, tK_X9_isFlock⟩
theorem kX9_move : Callee yX9_move RX9 cX9_move 4 (some .int) 2 := ⟨rfl, ⟨by decide, by decide, by decide +kernel⟩, by decide, tI_X9_move, tL_X9_move, tN_X9, tK_X9_move⟩
theorem kX9_day : Callee yX9_day RX9 cX9_day 1 (some .int) 0 := ⟨rfl, ⟨by decide, by decide, by decide +kernel⟩, by decide, tI_X9_day, tL_X9_day, tN_X9, tK_X9_day⟩
theorem kX9_goDay : Callee yX9_goDay RX9 cX9_goDay 4 (some .int) 0 := ⟨rfl, ⟨by decide, by decide, by decide +kernel⟩, by decide, tI_X9_goDay, tL_X9_goDay, tN_X9, tK_X9_goDay⟩
theorem kX9_loss : Callee yX9_loss RX9 cX9_loss 2 (some .int) 1 := ⟨rfl, ⟨by decide, by decide, by decide +kernel⟩, by decide, tI_X9_loss, tL_X9_loss, tN_X9, tK_X9_loss⟩
theorem kX9_lossNow : Callee yX9_lossNow RX9 cX9_lossNow 4 (some .int) 1 := ⟨rfl, ⟨by decide, by decide, by decide +kernel⟩, by decide, tI_X9_lossNow, tL_X9_lossNow, tN_X9, tK_X9_lossNow⟩
theorem kX9_eatenAll : Callee yX9_eatenAll RX9 cX9_eatenAll 3 (some .int) 0 := ⟨rfl, ⟨by decide, by decide, by decide +kernel⟩, by decide, tI_X9_eatenAll, tL_X9_eatenAll, tN_X9, tK_X9_eatenAll⟩
theorem kX9_save : Callee yX9_save RX9 cX9_save 2 none 0 := ⟨rfl, ⟨by decide, by decide, by decide +kernel⟩, by decide, tI_X9_save, tL_X9_save, tN_X9, tK_X9_save⟩
theorem kX9_back : Callee yX9_back RX9 cX9_back 2 none 0 := ⟨rfl, ⟨by decide, by decide, by decide +kernel⟩, by decide, tI_X9_back, tL_X9_back, tN_X9, tK_X9_back⟩
theorem kX9_falls : Callee yX9_falls RX9 cX9_falls 2 (some .int) 1 := ⟨rfl, ⟨by decide, by decide, by decide +kernel⟩, by decide, tI_X9_falls, tL_X9_falls, tN_X9, tK_X9_falls⟩
theorem kX9_fallsNow : Callee yX9_fallsNow RX9 cX9_fallsNow 3 (some .int) 1 := ⟨rfl, ⟨by decide, by decide, by decide +kernel⟩, by decide, tI_X9_fallsNow, tL_X9_fallsNow, tN_X9, tK_X9_fallsNow⟩
theorem kX9_fallsIn : Callee yX9_fallsIn RX9 cX9_fallsIn 5 (some .int) 2 := ⟨rfl, ⟨by decide, by decide, by decide +kernel⟩, by decide, tI_X9_fallsIn, tL_X9_fallsIn, tN_X9, tK_X9_fallsIn⟩
theorem kX9_safe : Callee yX9_safe RX9 cX9_safe 3 (some .int) 2 := ⟨rfl, ⟨by decide, by decide, by decide +kernel⟩, by decide, tI_X9_safe, tL_X9_safe, tN_X9, tK_X9_safe⟩
theorem kX9_safeNow : Callee yX9_safeNow RX9 cX9_safeNow 5 (some .int) 2 := ⟨rfl, ⟨by decide, by decide, by decide +kernel⟩, by decide, tI_X9_safeNow, tL_X9_safeNow, tN_X9, tK_X9_safeNow⟩
theorem kX9_graze : Callee yX9_graze RX9 cX9_graze 4 (some .int) 3 := ⟨rfl, ⟨by decide, by decide, by decide +kernel⟩, by decide, tI_X9_graze, tL_X9_graze, tN_X9, tK_X9_graze⟩
theorem kX9_grazeNow : Callee yX9_grazeNow RX9 cX9_grazeNow 8 (some .int) 3 := ⟨rfl, ⟨by decide, by decide, by decide +kernel⟩, by decide, tI_X9_grazeNow, tL_X9_grazeNow, tN_X9, tK_X9_grazeNow⟩
theorem kX9_power : CalleeS yX9_power RX9 cX9_power 3 (some .int) 1 := ⟨rfl, ⟨by decide, by decide, by decide +kernel⟩, by decide, tS_X9_power, tN_X9, tK_X9_power⟩
theorem kX9_grazesBy : Callee yX9_grazesBy RX9 cX9_grazesBy 7 (some .boolean) 3 := ⟨rfl, ⟨by decide, by decide, by decide +kernel⟩, by decide, tI_X9_grazesBy, tL_X9_grazesBy, tN_X9, tK_X9_grazesBy⟩
theorem kX9_nail : Callee yX9_nail RX9 cX9_nail 3 (some .int) 2 := ⟨rfl, ⟨by decide, by decide, by decide +kernel⟩, by decide, tI_X9_nail, tL_X9_nail, tN_X9, tK_X9_nail⟩
theorem kX9_nailNow : Callee yX9_nailNow RX9 cX9_nailNow 7 (some .int) 2 := ⟨rfl, ⟨by decide, by decide, by decide +kernel⟩, by decide, tI_X9_nailNow, tL_X9_nailNow, tN_X9, tK_X9_nailNow⟩
theorem kX9_fastsOn : Callee yX9_fastsOn RX9 cX9_fastsOn 4 (some .int) 2 := ⟨rfl, ⟨by decide, by decide, by decide +kernel⟩, by decide, tI_X9_fastsOn, tL_X9_fastsOn, tN_X9, tK_X9_fastsOn⟩
theorem kX9_watch : Callee yX9_watch RX9 cX9_watch 3 (some .int) 1 := ⟨rfl, ⟨by decide, by decide, by decide +kernel⟩, by decide, tI_X9_watch, tL_X9_watch, tN_X9, tK_X9_watch⟩
theorem kX9_seen : Callee yX9_seen RX9 cX9_seen 2 (some .int) 1 := ⟨rfl, ⟨by decide, by decide, by decide +kernel⟩, by decide, tI_X9_seen, tL_X9_seen, tN_X9, tK_X9_seen⟩
theorem kX9_fits : Callee yX9_fits RX9 cX9_fits 2 (some .int) 1 := ⟨rfl, ⟨by decide, by decide, by decide +kernel⟩, by decide, tI_X9_fits, tL_X9_fits, tN_X9, tK_X9_fits⟩
theorem kX9_fitsNow : Callee yX9_fitsNow RX9 cX9_fitsNow 5 (some .int) 1 := ⟨rfl, ⟨by decide, by decide, by decide +kernel⟩, by decide, tI_X9_fitsNow, tL_X9_fitsNow, tN_X9, tK_X9_fitsNow⟩
theorem kX9_isSeenSo : Callee yX9_isSeenSo RX9 cX9_isSeenSo 6 (some .boolean) 2 := ⟨rfl, ⟨by decide, by decide, by decide +kernel⟩, by decide, tI_X9_isSeenSo, tL_X9_isSeenSo, tN_X9, tK_X9_isSeenSo⟩
theorem kX9_years : Callee yX9_years RX9 cX9_years 4 (some .int) 3 := ⟨rfl, ⟨by decide, by decide, by decide +kernel⟩, by decide, tI_X9_years, tL_X9_years, tN_X9, tK_X9_years⟩
theorem kX9_yearsNow : Callee yX9_yearsNow RX9 cX9_yearsNow 6 (some .int) 3 := ⟨rfl, ⟨by decide, by decide, by decide +kernel⟩, by decide, tI_X9_yearsNow, tL_X9_yearsNow, tN_X9, tK_X9_yearsNow⟩
theorem kX9_draw : Callee yX9_draw RX9 cX9_draw 2 (some .int) 1 := ⟨rfl, ⟨by decide, by decide, by decide +kernel⟩, by decide, tI_X9_draw, tL_X9_draw, tN_X9, tK_X9_draw⟩
theorem kX9_image : Callee yX9_image RX9 cX9_image 2 (some .int) 0 := ⟨rfl, ⟨by decide, by decide, by decide +kernel⟩, by decide, tI_X9_image, tL_X9_image, tN_X9, tK_X9_image⟩
theorem kX9_restore : Callee yX9_restore RX9 cX9_restore 2 (some .int) 0 := ⟨rfl, ⟨by decide, by decide, by decide +kernel⟩, by decide, tI_X9_restore, tL_X9_restore, tN_X9, tK_X9_restore⟩
theorem kX9_count : Callee yX9_count RX9 cX9_count 2 (some .int) 1 := ⟨rfl, ⟨by decide, by decide, by decide +kernel⟩, by decide, tI_X9_count, tL_X9_count, tN_X9, tK_X9_count⟩
theorem kX9_howMany : Callee yX9_howMany RX9 cX9_howMany 2 (some .int) 1 := ⟨rfl, ⟨by decide, by decide, by decide +kernel⟩, by decide, tI_X9_howMany, tL_X9_howMany, tN_X9, tK_X9_howMany⟩
theorem kX9_forgedMany : Callee yX9_forgedMany RX9 cX9_forgedMany 3 (some .int) 0 := ⟨rfl, ⟨by decide, by decide, by decide +kernel⟩, by decide, tI_X9_forgedMany, tL_X9_forgedMany, tN_X9, tK_X9_forgedMany⟩
theorem kX9_digest : Callee yX9_digest RX9 cX9_digest 3 (some .long) 0 := ⟨rfl, ⟨by decide, by decide, by decide +kernel⟩, by decide, tI_X9_digest, tL_X9_digest, tN_X9, tK_X9_digest⟩
theorem kX9_mix : Callee yX9_mix RX9 cX9_mix 3 none 1 := ⟨rfl, ⟨by decide, by decide, by decide +kernel⟩, by decide, tI_X9_mix, tL_X9_mix, tN_X9, tK_X9_mix⟩
theorem kX9_mixFlock : Callee yX9_mixFlock RX9 cX9_mixFlock 3 none 1 := ⟨rfl, ⟨by decide, by decide, by decide +kernel⟩, by decide, tI_X9_mixFlock, tL_X9_mixFlock, tN_X9, tK_X9_mixFlock⟩
end
section
section KR
variable {E : EV} {cc : ByteArray} {nL : Nat} {own : String} {ret : Option FieldType} {Q : State → Prop} {pc pc' tgt idx : Nat} {lv : List (Option Value)} {st : List Value} {σ : St} {G : GC}
theorem x_kget {i : Nat} {q : String × String × String × List Int32} {v : Int32} (hE : OK E cc nL own ret) (hM : Mem (YC G) E) (hi : i < 5) (hq : q ∈ KF) (hv : q.2.2.2.getD i 0 = v) (hw : Cond.fieldLink own idx q.1 q.2.1 q.2.2.1 ∈ TW) (hd : decode cc pc = .ok (.getfield idx, 3)) (hp : pc' = pc + 3) (k : VV E nL (AS (YC G)) Q (Rh (YC G) σ) pc' lv (.int v :: st)) : VV E nL (AS (YC G)) Q (Rh (YC G) σ) pc lv (.ref (G.2.2.2.1 i) :: st) := by
  obtain ⟨p, l0, e, R, s, m, args, below, meth, c, kc, ks⟩ := E
  obtain ⟨hx, hb, hml, hown, hts, hN, hlocks, hret, hkc, hks⟩ := id hE
  subst hp
  intro H locs ls hJ hS hlv
  subst hv
  exact va_getE (ad := G.2.2.2.1) hx hb hM.2.1 hi hS hown hq (hts _ hw) (fun _ h => h) hd (k H locs ls hJ hS hlv)
theorem x_kgetN {i : Nat} {q : String × String × String × List Int32} {v : Int32} {host : String} (hE : OK E cc nL own ret) (hM : Mem (YC G) E) (hi : i < 5) (hq : q ∈ KF) (hv : q.2.2.2.getD i 0 = v) (hw : ∀ U : State, NW U → va_Nw (.fieldLinkNest own idx q.1 q.2.1 q.2.2.1 host) U) (hd : decode cc pc = .ok (.getfield idx, 3)) (hp : pc' = pc + 3) (k : VV E nL (AS (YC G)) Q (Rh (YC G) σ) pc' lv (.int v :: st)) : VV E nL (AS (YC G)) Q (Rh (YC G) σ) pc lv (.ref (G.2.2.2.1 i) :: st) := by
  obtain ⟨p, l0, e, R, s, m, args, below, meth, c, kc, ks⟩ := E
  obtain ⟨hx, hb, hml, hown, hts, hN, hlocks, hret, hkc, hks⟩ := id hE
  subst hp
  intro H locs ls hJ hS hlv
  subst hv
  obtain ⟨cf, k0, fi, f, cell, h1, h2, h3, h4, h5, h6⟩ := ((hM.2.1.1 i hi).2.2 q hq).kept hS.2.1
  exact va_Wgetf hx hb hown (va_Nw.use rfl (hw s hN)) h1 h2 h3 h4 (v := .int (q.2.2.2.getD i 0)) h5 rfl rfl hd (k H locs ls hJ hS hlv)
theorem five {P : Int → Prop} {z : Int} (h0 : 0 ≤ z) (h1 : z < 5) (a0 : P 0) (a1 : P 1) (a2 : P 2) (a3 : P 3) (a4 : P 4) : P z := by
  rcases (show z = 0 ∨ z = 1 ∨ z = 2 ∨ z = 3 ∨ z = 4 by omega) with rfl | rfl | rfl | rfl | rfl
  · exact a0
  · exact a1
  · exact a2
  · exact a3
  · exact a4
theorem kg_0 {z : Int} (h0 : 0 ≤ z) (h1 : z < 5) (hE : OK E cc nL own ret) (hM : Mem (YC G) E) (hw : ∀ U : State, NW U → va_Nw (.fieldLinkNest own idx "WolfCalendar$Kind" "number" "I" "WolfCalendar") U) (hd : decode cc pc = .ok (.getfield idx, 3)) (hp : pc' = pc + 3) (k : VV E nL (AS (YC G)) Q (Rh (YC G) σ) pc' lv (.int (iN z) :: st)) : VV E nL (AS (YC G)) Q (Rh (YC G) σ) pc lv (.ref (eC G z) :: st) := by
  revert k
  refine five (P := fun z => VV E nL (AS (YC G)) Q (Rh (YC G) σ) pc' lv (.int (iN z) :: st) → VV E nL (AS (YC G)) Q (Rh (YC G) σ) pc lv (.ref (eC G z) :: st)) h0 h1 ?_ ?_ ?_ ?_ ?_
  · exact fun k => x_kgetN (i := 0) hE hM (by decide) (List.mem_of_getElem? (i := 0) rfl) (by decide +kernel) hw hd hp k
  · exact fun k => x_kgetN (i := 1) hE hM (by decide) (List.mem_of_getElem? (i := 0) rfl) (by decide +kernel) hw hd hp k
  · exact fun k => x_kgetN (i := 2) hE hM (by decide) (List.mem_of_getElem? (i := 0) rfl) (by decide +kernel) hw hd hp k
  · exact fun k => x_kgetN (i := 3) hE hM (by decide) (List.mem_of_getElem? (i := 0) rfl) (by decide +kernel) hw hd hp k
  · exact fun k => x_kgetN (i := 4) hE hM (by decide) (List.mem_of_getElem? (i := 0) rfl) (by decide +kernel) hw hd hp k
theorem kg_1 {z : Int} (h0 : 0 ≤ z) (h1 : z < 5) (hE : OK E cc nL own ret) (hM : Mem (YC G) E) (hw : Cond.fieldLink own idx "WolfCalendar$Kind" "keepsFridays" "Z" ∈ TW) (hd : decode cc pc = .ok (.getfield idx, 3)) (hp : pc' = pc + 3) (k : VV E nL (AS (YC G)) Q (Rh (YC G) σ) pc' lv (.int (bI (decide (z ≠ 2))) :: st)) : VV E nL (AS (YC G)) Q (Rh (YC G) σ) pc lv (.ref (eC G z) :: st) := by
  revert k
  refine five (P := fun z => VV E nL (AS (YC G)) Q (Rh (YC G) σ) pc' lv (.int (bI (decide (z ≠ 2))) :: st) → VV E nL (AS (YC G)) Q (Rh (YC G) σ) pc lv (.ref (eC G z) :: st)) h0 h1 ?_ ?_ ?_ ?_ ?_
  · exact fun k => x_kget (i := 0) hE hM (by decide) (List.mem_of_getElem? (i := 1) rfl) (by decide +kernel) hw hd hp k
  · exact fun k => x_kget (i := 1) hE hM (by decide) (List.mem_of_getElem? (i := 1) rfl) (by decide +kernel) hw hd hp k
  · exact fun k => x_kget (i := 2) hE hM (by decide) (List.mem_of_getElem? (i := 1) rfl) (by decide +kernel) hw hd hp k
  · exact fun k => x_kget (i := 3) hE hM (by decide) (List.mem_of_getElem? (i := 1) rfl) (by decide +kernel) hw hd hp k
  · exact fun k => x_kget (i := 4) hE hM (by decide) (List.mem_of_getElem? (i := 1) rfl) (by decide +kernel) hw hd hp k
theorem kg_2 {z : Int} (h0 : 0 ≤ z) (h1 : z < 5) (hE : OK E cc nL own ret) (hM : Mem (YC G) E) (hw : Cond.fieldLink own idx "WolfCalendar$Kind" "keepsFeasts" "Z" ∈ TW) (hd : decode cc pc = .ok (.getfield idx, 3)) (hp : pc' = pc + 3) (k : VV E nL (AS (YC G)) Q (Rh (YC G) σ) pc' lv (.int (bI (decide (z ≠ 1))) :: st)) : VV E nL (AS (YC G)) Q (Rh (YC G) σ) pc lv (.ref (eC G z) :: st) := by
  revert k
  refine five (P := fun z => VV E nL (AS (YC G)) Q (Rh (YC G) σ) pc' lv (.int (bI (decide (z ≠ 1))) :: st) → VV E nL (AS (YC G)) Q (Rh (YC G) σ) pc lv (.ref (eC G z) :: st)) h0 h1 ?_ ?_ ?_ ?_ ?_
  · exact fun k => x_kget (i := 0) hE hM (by decide) (List.mem_of_getElem? (i := 2) rfl) (by decide +kernel) hw hd hp k
  · exact fun k => x_kget (i := 1) hE hM (by decide) (List.mem_of_getElem? (i := 2) rfl) (by decide +kernel) hw hd hp k
  · exact fun k => x_kget (i := 2) hE hM (by decide) (List.mem_of_getElem? (i := 2) rfl) (by decide +kernel) hw hd hp k
  · exact fun k => x_kget (i := 3) hE hM (by decide) (List.mem_of_getElem? (i := 2) rfl) (by decide +kernel) hw hd hp k
  · exact fun k => x_kget (i := 4) hE hM (by decide) (List.mem_of_getElem? (i := 2) rfl) (by decide +kernel) hw hd hp k
theorem kg_3 {z : Int} (h0 : 0 ≤ z) (h1 : z < 5) (hE : OK E cc nL own ret) (hM : Mem (YC G) E) (hw : Cond.fieldLink own idx "WolfCalendar$Kind" "lagsBehind" "Z" ∈ TW) (hd : decode cc pc = .ok (.getfield idx, 3)) (hp : pc' = pc + 3) (k : VV E nL (AS (YC G)) Q (Rh (YC G) σ) pc' lv (.int (bI (decide (z = 3 ∨ z = 4))) :: st)) : VV E nL (AS (YC G)) Q (Rh (YC G) σ) pc lv (.ref (eC G z) :: st) := by
  revert k
  refine five (P := fun z => VV E nL (AS (YC G)) Q (Rh (YC G) σ) pc' lv (.int (bI (decide (z = 3 ∨ z = 4))) :: st) → VV E nL (AS (YC G)) Q (Rh (YC G) σ) pc lv (.ref (eC G z) :: st)) h0 h1 ?_ ?_ ?_ ?_ ?_
  · exact fun k => x_kget (i := 0) hE hM (by decide) (List.mem_of_getElem? (i := 3) rfl) (by decide +kernel) hw hd hp k
  · exact fun k => x_kget (i := 1) hE hM (by decide) (List.mem_of_getElem? (i := 3) rfl) (by decide +kernel) hw hd hp k
  · exact fun k => x_kget (i := 2) hE hM (by decide) (List.mem_of_getElem? (i := 3) rfl) (by decide +kernel) hw hd hp k
  · exact fun k => x_kget (i := 3) hE hM (by decide) (List.mem_of_getElem? (i := 3) rfl) (by decide +kernel) hw hd hp k
  · exact fun k => x_kget (i := 4) hE hM (by decide) (List.mem_of_getElem? (i := 3) rfl) (by decide +kernel) hw hd hp k
theorem kg_4 {z : Int} (h0 : 0 ≤ z) (h1 : z < 5) (hE : OK E cc nL own ret) (hM : Mem (YC G) E) (hw : Cond.fieldLink own idx "WolfCalendar$Kind" "looksAhead" "Z" ∈ TW) (hd : decode cc pc = .ok (.getfield idx, 3)) (hp : pc' = pc + 3) (k : VV E nL (AS (YC G)) Q (Rh (YC G) σ) pc' lv (.int (bI (decide (z = 4))) :: st)) : VV E nL (AS (YC G)) Q (Rh (YC G) σ) pc lv (.ref (eC G z) :: st) := by
  revert k
  refine five (P := fun z => VV E nL (AS (YC G)) Q (Rh (YC G) σ) pc' lv (.int (bI (decide (z = 4))) :: st) → VV E nL (AS (YC G)) Q (Rh (YC G) σ) pc lv (.ref (eC G z) :: st)) h0 h1 ?_ ?_ ?_ ?_ ?_
  · exact fun k => x_kget (i := 0) hE hM (by decide) (List.mem_of_getElem? (i := 4) rfl) (by decide +kernel) hw hd hp k
  · exact fun k => x_kget (i := 1) hE hM (by decide) (List.mem_of_getElem? (i := 4) rfl) (by decide +kernel) hw hd hp k
  · exact fun k => x_kget (i := 2) hE hM (by decide) (List.mem_of_getElem? (i := 4) rfl) (by decide +kernel) hw hd hp k
  · exact fun k => x_kget (i := 3) hE hM (by decide) (List.mem_of_getElem? (i := 4) rfl) (by decide +kernel) hw hd hp k
  · exact fun k => x_kget (i := 4) hE hM (by decide) (List.mem_of_getElem? (i := 4) rfl) (by decide +kernel) hw hd hp k
theorem rcvK {E : EV} {z : Int} (h0 : 0 ≤ z) (h1 : z < 5) (hM : Mem (YC G) E) : Recv (YC G) E σ (eC G z) RX3 := by
  obtain ⟨p, l0, e, R, s, m, args, below, meth, c, kc, ks⟩ := E
  intro H locs hR hS
  exact va_recvE (i := z.toNat) hM.2.1 (show z.toNat < 5 by omega) hS
theorem x_sget {i : Nat} {nm : String} (hE : OK E cc nL own ret) (hM : Mem (YC G) E) (hi : i < 5) (hn : KN.getD i "" = nm) (hw : Cond.fieldLink own idx "WolfCalendar$Kind" nm "LWolfCalendar$Kind;" ∈ TW) (hd : decode cc pc = .ok (.getstatic idx, 3)) (hp : pc' = pc + 3) (k : VV E nL (AS (YC G)) Q (Rh (YC G) σ) pc' lv (.ref (eC G (i : Int)) :: st)) : VV E nL (AS (YC G)) Q (Rh (YC G) σ) pc lv st := by
  obtain ⟨p, l0, e, R, s, m, args, below, meth, c, kc, ks⟩ := E
  obtain ⟨hx, hb, hml, hown, hts, hN, hlocks, hret, hkc, hks⟩ := id hE
  subst hp
  intro H locs ls hJ hS hlv
  subst hn
  exact va_gets hx hb (hM.2.1.1 i hi).1 hS hown (hts _ hw) (fun _ h => h) hd (k H locs ls hJ hS hlv)
theorem x_kinds (hE : OK E cc nL own ret) (hM : Mem (YC G) E) (hw : Cond.fieldLink own idx "WolfCalendar" "KINDS" "[LWolfCalendar$Kind;" ∈ TW) (hd : decode cc pc = .ok (.getstatic idx, 3)) (hp : pc' = pc + 3) (k : VV E nL (AS (YC G)) Q (Rh (YC G) σ) pc' lv (.ref (tC G) :: st)) : VV E nL (AS (YC G)) Q (Rh (YC G) σ) pc lv st := by
  obtain ⟨p, l0, e, R, s, m, args, below, meth, c, kc, ks⟩ := E
  obtain ⟨hx, hb, hml, hown, hts, hN, hlocks, hret, hkc, hks⟩ := id hE
  subst hp
  intro H locs ls hJ hS hlv
  exact va_gets hx hb hM.2.2.1 hS hown (hts _ hw) (fun _ h => h) hd (k H locs ls hJ hS hlv)
theorem x_kald {z : Int} (hE : OK E cc nL own ret) (hM : Mem (YC G) E) (h0 : 0 ≤ z) (h1 : z < 5) (hd : decode cc pc = .ok (.aaload, 1)) (hp : pc' = pc + 1) (k : VV E nL (AS (YC G)) Q (Rh (YC G) σ) pc' lv (.ref (eC G z) :: st)) : VV E nL (AS (YC G)) Q (Rh (YC G) σ) pc lv (.int (iN z) :: .ref (tC G) :: st) := by
  obtain ⟨p, l0, e, R, s, m, args, below, meth, c, kc, ks⟩ := E
  obtain ⟨hx, hb, hml, hown, hts, hN, hlocks, hret, hkc, hks⟩ := id hE
  subst hp
  intro H locs ls hJ hS hlv
  refine vb_tq hx hb hM.2.2.2 hS (iN_vin (n := 5) h0 (by omega) (by decide)) (v := .ref (eC G z)) ?_ hd (k H locs ls hJ hS hlv)
  show Value.ref (eC G (((iN z).toNatClampNeg : Nat) : Int)) = _
  rw [iN_nat z h0 (by omega), Int.toNat_of_nonneg h0]
theorem x_klen (hE : OK E cc nL own ret) (hM : Mem (YC G) E) (hd : decode cc pc = .ok (.arraylength, 1)) (hp : pc' = pc + 1) (k : VV E nL (AS (YC G)) Q (Rh (YC G) σ) pc' lv (.int (iN 5) :: st)) : VV E nL (AS (YC G)) Q (Rh (YC G) σ) pc lv (.ref (tC G) :: st) := by
  obtain ⟨p, l0, e, R, s, m, args, below, meth, c, kc, ks⟩ := E
  obtain ⟨hx, hb, hml, hown, hts, hN, hlocks, hret, hkc, hks⟩ := id hE
  subst hp
  intro H locs ls hJ hS hlv
  exact va_tlen hx hb hM.2.2.2 hS (v := iN 5) (by decide +kernel) hd (k H locs ls hJ hS hlv)
theorem eC_inj {E : EV} {a b : Int} (hM : Mem (YC G) E) (ha : 0 ≤ a) (ha1 : a < 5) (hb : 0 ≤ b) (hb1 : b < 5) (h : eC G a = eC G b) : a = b := by
  obtain ⟨p, l0, e, R, s, m, args, below, meth, c, kc, ks⟩ := E
  have := hM.2.1.2 a.toNat b.toNat (show a.toNat < 5 by omega) (show b.toNat < 5 by omega) h
  omega
theorem x_acmpeqK {a b : Int} {off : Int} (ha : 0 ≤ a) (ha1 : a < 5) (hb : 0 ≤ b) (hb1 : b < 5) (hE : OK E cc nL own ret) (hM : Mem (YC G) E) (hd : decode cc pc = .ok (.if_acmp .eq off, 3)) (ht : (pc : Int) + off = (tgt : Int)) (hp : pc' = pc + 3) (kt : a = b → VV E nL (AS (YC G)) Q (Rh (YC G) σ) tgt lv st) (kf : ¬ a = b → VV E nL (AS (YC G)) Q (Rh (YC G) σ) pc' lv st) : VV E nL (AS (YC G)) Q (Rh (YC G) σ) pc lv (.ref (eC G b) :: .ref (eC G a) :: st) := by
  have hi := fun h => eC_inj hM ha ha1 hb hb1 h
  obtain ⟨p, l0, e, R, s, m, args, below, meth, c, kc, ks⟩ := E
  obtain ⟨hx, hbb, hml, hown, hts, hN, hlocks, hret, hkc, hks⟩ := id hE
  subst hp
  intro H locs ls hJ hS hlv
  exact lv_acmp_eq (rx := some (eC G a)) (ry := some (eC G b)) hx hbb hd ht (fun h => kt (hi (Option.some.inj h)) H locs ls hJ hS hlv) (fun h => kf (fun q => h (by rw [q])) H locs ls hJ hS hlv)
theorem x_acmpneK {a b : Int} {off : Int} (ha : 0 ≤ a) (ha1 : a < 5) (hb : 0 ≤ b) (hb1 : b < 5) (hE : OK E cc nL own ret) (hM : Mem (YC G) E) (hd : decode cc pc = .ok (.if_acmp .ne off, 3)) (ht : (pc : Int) + off = (tgt : Int)) (hp : pc' = pc + 3) (kt : ¬ a = b → VV E nL (AS (YC G)) Q (Rh (YC G) σ) tgt lv st) (kf : a = b → VV E nL (AS (YC G)) Q (Rh (YC G) σ) pc' lv st) : VV E nL (AS (YC G)) Q (Rh (YC G) σ) pc lv (.ref (eC G b) :: .ref (eC G a) :: st) := by
  have hi := fun h => eC_inj hM ha ha1 hb hb1 h
  obtain ⟨p, l0, e, R, s, m, args, below, meth, c, kc, ks⟩ := E
  obtain ⟨hx, hbb, hml, hown, hts, hN, hlocks, hret, hkc, hks⟩ := id hE
  subst hp
  intro H locs ls hJ hS hlv
  exact lv_acmp_ne (rx := some (eC G a)) (ry := some (eC G b)) hx hbb hd ht (fun h => kt (fun q => h (by rw [q])) H locs ls hJ hS hlv) (fun h => kf (hi (Option.some.inj h)) H locs ls hJ hS hlv)
/-- what is FORGED, copied whole -/
def cpF (σ : St) (w w' : Nat) : St := fun a b c d => if a = 9 ∧ b = w ∧ c = 0 ∧ 0 ≤ d ∧ d < 8 then σ 9 w' 0 d else σ a b c d
theorem x_acopy {w w' : Nat} (hv : w < 3) (hv' : w' < 3) (hE : OK E cc nL own ret) (hM : Mem (YC G) E) {d : Nat} (hR : ER E = rmD d) (hd1 : 1 ≤ d) (hw : Cond.methodLink own idx arraycopyName ∈ TW) (hd : decode cc pc = .ok (.invokestatic idx, 3)) (hp : pc' = pc + 3) (k : VV E nL (AS (YC G)) Q (Rh (YC G) (cpF σ w w')) pc' lv []) : VV E nL (AS (YC G)) Q (Rh (YC G) σ) pc lv [.int (iN 8), .int (iN 0), .ref (aC G 9 w 0), .int (iN 0), .ref (aC G 9 w' 0)] := by
  obtain ⟨p, l0, e, R, s, m, args, below, meth, c, kc, ks⟩ := E
  obtain ⟨hx, hb, hml, hown, hts, hN, hlocks, hret, hkc, hks⟩ := id hE
  subst hp
  intro H locs ls hJ hS hlv
  have hR : R = rmD d := hR
  subst hR
  obtain ⟨k1, hk1, hk1'⟩ := ws_get (Y := YC G) (σ := σ) (q := (9, w, 0)) (idCw (by decide) (by decide) hv)
  obtain ⟨k2, hk2, hk2'⟩ := ws_get (Y := YC G) (σ := σ) (q := (9, w', 0)) (idCw (by decide) (by decide) hv')
  have z8 : (iN 8).toNatClampNeg = 8 := by decide +kernel
  have z0 : (iN 0).toNatClampNeg = 0 := by decide +kernel
  refine va_copyi (D := yD (YC G)) (tys := yT (YC G)) (ty := .int) (f := fun j : Nat => iN (σ 9 w' 0 j)) (g := fun j : Nat => iN (σ 9 w 0 j)) hx hb (hml.trans hlv.1.symm) hown (hts _ hw) (hts _ tA_acopy) (hts _ tS_acopy) (hts _ tN_J10) hM.1 hJ.1 hJ.2 hS k2 k1 0 0 (n0 := 8) (n1 := 8) hk2' hk1' rfl rfl rfl (by decide +kernel) (by decide +kernel) (by decide +kernel) (by rw [z8, z0]; decide) (by rw [z8, z0]; decide) (fun _ _ => rfl) (by show 1 ≤ d; exact hd1) (by show 0 + (nativeFrameWords "java/lang/System" "arraycopy" 5 + 11) ≤ 41 * d + 41; have hw9 : nativeFrameWords "java/lang/System" "arraycopy" 5 + 11 ≤ 41 := (by decide +kernel); omega) hd (fun H1 locs1 hP hD hS1 => ?_)
  have e0 : (fun j : Nat => iN (cpF σ w w' 9 w 0 j)) = va_cpy (fun j : Nat => iN (σ 9 w' 0 j)) (fun j : Nat => iN (σ 9 w 0 j)) (iN 0).toNatClampNeg (iN 0).toNatClampNeg (iN 8).toNatClampNeg := by
    rw [z8, z0]
    funext j
    by_cases h : j < 8
    · have hj : (j : Int) < 8 := by omega
      simp [cpF, va_cpy, h, hj]
    · have hj : ¬ (j : Int) < 8 := by omega
      simp [cpF, va_cpy, h, hj]
  have e1 := ws_set (Y := YC G) (σ' := cpF σ w w') (q := (9, w, 0)) (e := .inl (G.2.2.1.1, 8, .inl (va_cpy (fun j : Nat => iN (σ 9 w' 0 j)) (fun j : Nat => iN (σ 9 w 0 j)) (iN 0).toNatClampNeg (iN 0).toNatClampNeg (iN 8).toNatClampNeg))) hJ.2 hk1 (by rw [← e0]; rfl) (fun r hr => by
    funext dd
    obtain ⟨a, b, c9⟩ := r
    show (if _ then _ else _) = _
    rw [if_neg]
    rintro ⟨h1, h2, h3, -⟩
    subst h1; subst h2; subst h3
    exact hr rfl)
  have hP1 : va_P (yD (YC G)) vwCl (wsY (YC G) (cpF σ w w')) H1 := by rw [← e1]; exact hP
  have hD1 : va_D (AS (YC G)) (wsY (YC G) (cpF σ w w')) := by rw [← e1]; exact hD
  exact k H1 locs1 ls ⟨hP1, hD1⟩ hS1 hlv
end KR
end
section
section XC2
variable {E : EV} {cc : ByteArray} {nL : Nat} {own : String} {ret : Option FieldType} {Q : State → Prop} {pc pc' : Nat} {lv lv' : List (Option Value)} {st stk : List Value} {Y : SY} {σ : St} {l : Launch} {y : MethodName} {bytes : ByteArray} {maxL d d' idx b : Nat} {rt : Option FieldType} {As : List Value} {C host : String} {P : St → Prop} {x : Value}
theorem x_cV1 (hE : OK E cc nL own ret) (hM : Mem Y E) (hY : YOk Y) (hl : EL E = l) (hR : ER E = rmD d) (hC : Ct l Y y (.code y bytes maxL rt) d' (.ref b :: As) σ (fun v σ' => v = some x ∧ P σ')) (hcal : Callee y C bytes maxL rt As.length) (hlink : Cond.methodLink own idx y ∈ TW) (hrec : Recv Y E σ b C) (hdep : d' + 1 ≤ d) (hd : decode cc pc = .ok (.invokevirtual idx, 3)) (hp : pc' = pc + 3) (hstk : stk = As.reverse ++ .ref b :: st) (hcat : (st.map fun v => v.category).sum ≤ 8) (k : ∀ σ' : St, P σ' → VV E nL (AS Y) Q (Rh Y σ') pc' lv (x :: st)) : VV E nL (AS Y) Q (Rh Y σ) pc lv stk :=
  x_callV hE hM hY hl hR hC hcal hlink hrec hdep hd hp hstk hcat (fun v σ' h => by obtain ⟨rfl, h2⟩ := h; exact k σ' h2)
theorem x_cS1 (hE : OK E cc nL own ret) (hM : Mem Y E) (hY : YOk Y) (hl : EL E = l) (hR : ER E = rmD d) (hC : Ct l Y y (.code y bytes maxL rt) d' As σ (fun v σ' => v = some x ∧ P σ')) (hcal : CalleeS y C bytes maxL rt As.length) (hlink : Cond.methodLink own idx y ∈ TW) (hdep : d' + 1 ≤ d) (hd : decode cc pc = .ok (.invokestatic idx, 3)) (hp : pc' = pc + 3) (hstk : stk = As.reverse ++ st) (hcat : (st.map fun v => v.category).sum ≤ 8) (k : ∀ σ' : St, P σ' → VV E nL (AS Y) Q (Rh Y σ') pc' lv (x :: st)) : VV E nL (AS Y) Q (Rh Y σ) pc lv stk :=
  x_callS hE hM hY hl hR hC hcal hlink hdep hd hp hstk hcat (fun v σ' h => by obtain ⟨rfl, h2⟩ := h; exact k σ' h2)
theorem x_cSN1 (hE : OK E cc nL own ret) (hM : Mem Y E) (hY : YOk Y) (hl : EL E = l) (hR : ER E = rmD d) (hC : Ct l Y y (.code y bytes maxL rt) d' As σ (fun v σ' => v = some x ∧ P σ')) (hcal : CalleeS y C bytes maxL rt As.length) (hlink : ∀ U : State, NW U → va_Nw (.methodLinkNest own idx y host) U) (hdep : d' + 1 ≤ d) (hd : decode cc pc = .ok (.invokestatic idx, 3)) (hp : pc' = pc + 3) (hstk : stk = As.reverse ++ st) (hcat : (st.map fun v => v.category).sum ≤ 8) (k : ∀ σ' : St, P σ' → VV E nL (AS Y) Q (Rh Y σ') pc' lv (x :: st)) : VV E nL (AS Y) Q (Rh Y σ) pc lv stk :=
  x_callSN hE hM hY hl hR hC hcal hlink hdep hd hp hstk hcat (fun v σ' h => by obtain ⟨rfl, h2⟩ := h; exact k σ' h2)
theorem x_cV0 (hE : OK E cc nL own ret) (hM : Mem Y E) (hY : YOk Y) (hl : EL E = l) (hR : ER E = rmD d) (hC : Ct l Y y (.code y bytes maxL rt) d' (.ref b :: As) σ (fun v σ' => v = none ∧ P σ')) (hcal : Callee y C bytes maxL rt As.length) (hlink : Cond.methodLink own idx y ∈ TW) (hrec : Recv Y E σ b C) (hdep : d' + 1 ≤ d) (hd : decode cc pc = .ok (.invokevirtual idx, 3)) (hp : pc' = pc + 3) (hstk : stk = As.reverse ++ .ref b :: st) (hcat : (st.map fun v => v.category).sum ≤ 8) (k : ∀ σ' : St, P σ' → VV E nL (AS Y) Q (Rh Y σ') pc' lv (st)) : VV E nL (AS Y) Q (Rh Y σ) pc lv stk :=
  x_callV hE hM hY hl hR hC hcal hlink hrec hdep hd hp hstk hcat (fun v σ' h => by obtain ⟨rfl, h2⟩ := h; exact k σ' h2)
theorem x_cS0 (hE : OK E cc nL own ret) (hM : Mem Y E) (hY : YOk Y) (hl : EL E = l) (hR : ER E = rmD d) (hC : Ct l Y y (.code y bytes maxL rt) d' As σ (fun v σ' => v = none ∧ P σ')) (hcal : CalleeS y C bytes maxL rt As.length) (hlink : Cond.methodLink own idx y ∈ TW) (hdep : d' + 1 ≤ d) (hd : decode cc pc = .ok (.invokestatic idx, 3)) (hp : pc' = pc + 3) (hstk : stk = As.reverse ++ st) (hcat : (st.map fun v => v.category).sum ≤ 8) (k : ∀ σ' : St, P σ' → VV E nL (AS Y) Q (Rh Y σ') pc' lv (st)) : VV E nL (AS Y) Q (Rh Y σ) pc lv stk :=
  x_callS hE hM hY hl hR hC hcal hlink hdep hd hp hstk hcat (fun v σ' h => by obtain ⟨rfl, h2⟩ := h; exact k σ' h2)
theorem x_cSN0 (hE : OK E cc nL own ret) (hM : Mem Y E) (hY : YOk Y) (hl : EL E = l) (hR : ER E = rmD d) (hC : Ct l Y y (.code y bytes maxL rt) d' As σ (fun v σ' => v = none ∧ P σ')) (hcal : CalleeS y C bytes maxL rt As.length) (hlink : ∀ U : State, NW U → va_Nw (.methodLinkNest own idx y host) U) (hdep : d' + 1 ≤ d) (hd : decode cc pc = .ok (.invokestatic idx, 3)) (hp : pc' = pc + 3) (hstk : stk = As.reverse ++ st) (hcat : (st.map fun v => v.category).sum ≤ 8) (k : ∀ σ' : St, P σ' → VV E nL (AS Y) Q (Rh Y σ') pc' lv (st)) : VV E nL (AS Y) Q (Rh Y σ) pc lv stk :=
  x_callSN hE hM hY hl hR hC hcal hlink hdep hd hp hstk hcat (fun v σ' h => by obtain ⟨rfl, h2⟩ := h; exact k σ' h2)
theorem x_lve {A : Nat → Prop} {J : Heap → Prop} (h : lv = lv') (k : VV E nL A Q J pc lv' st) : VV E nL A Q J pc lv st := h ▸ k
end XC2
def lvle : List (Option Value) → List (Option Value) → Prop
  | [], [] => True
  | a :: r, b :: s => (a = none ∨ a = b) ∧ lvle r s
  | _, _ => False
theorem lvle_at : ∀ {r s : List (Option Value)}, lvle r s → r.length = s.length ∧ ∀ (i : Nat) (v : Value), r[i]? = some (some v) → s[i]? = some (some v)
  | [], [], _ => ⟨rfl, fun i v h => h⟩
  | a :: r, b :: s, h => by
    obtain ⟨h1, h2⟩ := lvle_at h.2
    refine ⟨by simp [h1], fun i v hi => ?_⟩
    cases i with
    | zero =>
      rcases h.1 with e | e
      · subst e; simp at hi
      · subst e; exact hi
    | succ i => simpa using h2 i v (by simpa using hi)
theorem x_lvf {E : EV} {nL : Nat} {A : Nat → Prop} {Q : State → Prop} {J : Heap → Prop} {pc : Nat} {lv lv' : List (Option Value)} {st : List Value} (h : lvle lv' lv) (k : VV E nL A Q J pc lv' st) : VV E nL A Q J pc lv st := x_lv (lvle_at h).2 (lvle_at h).1 k
theorem rb1 {b : Bool} (h : b = true) : some (Value.int (iN 1)) = some (Value.int (bI b)) := by rw [h, bI_t]
theorem rb0 {b : Bool} (h : b = false) : some (Value.int (iN 0)) = some (Value.int (bI b)) := by rw [h, bI_f]
theorem ri {a b : Int} (h : a = b) : some (Value.int (iN a)) = some (Value.int (iN b)) := by rw [h]
/-! the mathematics of the document's words -/
def anyU (p : Int → Bool) : Nat → Bool
  | 0 => false
  | n + 1 => anyU p n || p n
def allU (p : Int → Bool) : Nat → Bool
  | 0 => true
  | n + 1 => allU p n && p n
def lst (p : Int → Bool) : Nat → Int → Int
  | 0, _ => -1
  | n + 1, i => if p i then i else lst p n (i + 1)
def cntU (p : Int → Bool) : Nat → Int
  | 0 => 0
  | n + 1 => cntU p n + (if p n then 1 else 0)
def isF (fn : Int) (fo : Int → Int) (d : Int) : Bool := anyU (fun k => decide (fo k = d % 30) || decide (fo k = 100 + 10 * (d % 7) + d % 30 / 7 + 1)) fn.toNat
def rdB (k f g d : Int) : Int := d + f + 210 - (if k = 3 ∨ k = 4 then g else 0)
def fsB (F : Int → Bool) (k f g d : Int) : Bool := (decide (rdB k f g d % 7 = 5) && decide (k ≠ 2)) || (decide (k ≠ 1) && F (rdB k f g d)) || (decide (k = 4) && F (rdB k f g d + 1))
/-- worlds: rows 0 how many packs, flocks, the day; 1 2 3 kind, cell, lag; 4 5 6 name, cell, by whom; 7 what is forged -/
abbrev Wd : Type := Nat → Int → Int
def wu (W : Wd) (r : Nat) (i v : Int) : Wd := fun a b => if a = r ∧ b = i then v else W a b
def pIn (W : Wd) (c nm : Int) : Int := lst (fun f => decide (W 5 f = c) && decide (W 6 f = -1) && decide (W 4 f ≠ nm)) (W 0 1).toNat 0
def prey (F : Int → Bool) (W : Wd) (p d : Int) : Int :=
  if fsB F (W 1 p) (W 7 (W 2 p)) (W 3 p) d then -1
  else if pIn W (W 2 p) (rdB (W 1 p) (W 7 (W 2 p)) (W 3 p) d % 30 % 10) ≠ -1 then pIn W (W 2 p) (rdB (W 1 p) (W 7 (W 2 p)) (W 3 p) d % 30 % 10)
  else if pIn W (W 2 p - 1) (rdB (W 1 p) (W 7 (W 2 p)) (W 3 p) d % 30 % 10) ≠ -1 then pIn W (W 2 p - 1) (rdB (W 1 p) (W 7 (W 2 p)) (W 3 p) d % 30 % 10)
  else pIn W (W 2 p + 1) (rdB (W 1 p) (W 7 (W 2 p)) (W 3 p) d % 30 % 10)
def goA (F : Int → Bool) (W : Wd) : Nat → Wd
  | 0 => W
  | n + 1 => if prey F (goA F W n) n (W 0 2) = -1 then goA F W n else wu (goA F W n) 6 (prey F (goA F W n) n (W 0 2)) n
def goD (F : Int → Bool) (W : Wd) : Wd := wu (goA F W (W 0 0).toNat) 0 2 (W 0 2 + 1)
def dN (F : Int → Bool) (W : Wd) : Nat → Wd
  | 0 => W
  | n + 1 => goD F (dN F W n)
def mk5 (p : Int → Bool) : Int := (if p 0 then 1 else 0) + (if p 1 then 2 else 0) + (if p 2 then 4 else 0) + (if p 3 then 8 else 0) + (if p 4 then 16 else 0)
/-- those that are eaten in W' and were not in W -/
def dB (W W' : Wd) : Int := mk5 (fun f => decide (f < W 0 1) && decide (W 6 f = -1) && decide (W' 6 f ≠ -1))
def eatN (W : Wd) : Int := cntU (fun f => decide (W 6 f ≠ -1)) (W 0 1).toNat
def eatP (W : Wd) (p : Int) : Int := cntU (fun f => decide (W 6 f = p)) (W 0 1).toNat
def fallK (F : Int → Bool) (W : Wd) (f : Int) : Nat → Int → Int
  | 0, _ => -1
  | n + 1, k => if goD F W 6 f ≠ -1 then k else fallK F (goD F W) f n (k + 1)
def safeN (F : Int → Bool) (W : Wd) (f : Int) (days : Nat) : Int := lst (fun n => decide (fallK F (wu W 4 f n) f days 1 = -1)) 10 0
def runF (p : Int → Bool) : Nat → Int → Int
  | 0, k => k
  | n + 1, k => if p k then runF p n (k + 1) else k
def nailA (g : Int → Int) : Nat → Int × Int
  | 0 => (-1, 0)
  | n + 1 => if g n > (nailA g n).2 then (n, g n) else nailA g n
def nailG (F : Int → Bool) (k g d : Int) (v : Int) : Int := runF (fun m => fsB F k v g (d + m)) 30 0
def nailN (F : Int → Bool) (k g d : Int) (what : Int) : Int := if what = 0 ∨ (nailA (nailG F k g d) 30).1 = -1 then (nailA (nailG F k g d) 30).1 else (nailA (nailG F k g d) 30).2
def fitR (p : Int → Bool) : Nat → Int32
  | 0 => iN 0
  | n + 1 => if p n then fitR p n ||| (iN 1 <<< (iN n &&& 31)) else fitR p n
def gRows (F : Int → Bool) (f : Int) : Nat → Wd → Int
  | 0, _ => 1
  | n + 1, W => (if 0 ≤ W 5 f - 1 ∧ W 5 f - 1 ≤ 7 then (if goD F (wu W 5 f (W 5 f - 1)) 6 f ≠ -1 then 0 else gRows F f n (goD F (wu W 5 f (W 5 f - 1)))) else 0)
    + (if 0 ≤ W 5 f ∧ W 5 f ≤ 7 then (if goD F (wu W 5 f (W 5 f)) 6 f ≠ -1 then 0 else gRows F f n (goD F (wu W 5 f (W 5 f)))) else 0)
    + (if 0 ≤ W 5 f + 1 ∧ W 5 f + 1 ≤ 7 then (if goD F (wu W 5 f (W 5 f + 1)) 6 f ≠ -1 then 0 else gRows F f n (goD F (wu W 5 f (W 5 f + 1)))) else 0)
def gThr (F : Int → Bool) (f : Int) (n : Nat) (W : Wd) (c : Int) : Int := if 0 ≤ c ∧ c ≤ 7 then (if goD F (wu W 5 f c) 6 f ≠ -1 then 0 else gRows F f n (goD F (wu W 5 f c))) else 0
def sdN (s : Int) : Int := (1103515245 * s + 12345) % 2147483648
def yrS (F : Int → Bool) (q : Wd × Int) : Wd × Int :=
  if sdN q.2 / 65536 % 8 = 0 then (goD F (wu q.1 7 (sdN (sdN q.2) / 65536 % 8) (sdN (sdN (sdN q.2)) / 65536 % 30)), sdN (sdN (sdN q.2)))
  else (goD F q.1, sdN q.2)
def yrN (F : Int → Bool) (q : Wd × Int) : Nat → Wd × Int
  | 0 => q
  | n + 1 => yrS F (yrN F q n)
/-- numbers in their ranges, the day at most D -/
def WOk (D : Int) (W : Wd) : Prop := (0 ≤ W 0 0 ∧ W 0 0 ≤ 4) ∧ (0 ≤ W 0 1 ∧ W 0 1 ≤ 5) ∧ (0 ≤ W 0 2 ∧ W 0 2 ≤ D) ∧ (∀ p, 0 ≤ p → p < 4 → (0 ≤ W 1 p ∧ W 1 p ≤ 4) ∧ (0 ≤ W 2 p ∧ W 2 p ≤ 7) ∧ (0 ≤ W 3 p ∧ W 3 p ≤ 9)) ∧ (∀ f, 0 ≤ f → f < 5 → (0 ≤ W 4 f ∧ W 4 f ≤ 9) ∧ (-1 ≤ W 5 f ∧ W 5 f ≤ 8) ∧ (-1 ≤ W 6 f ∧ W 6 f ≤ 3)) ∧ (∀ c, 0 ≤ c → c < 8 → 0 ≤ W 7 c ∧ W 7 c ≤ 29)
def FOk (fn : Int) (fo : Int → Int) : Prop := (0 ≤ fn ∧ fn ≤ 6) ∧ ∀ k, 0 ≤ k → k < 6 → -3000 ≤ fo k ∧ fo k ≤ 3000
/-- the reference's world and feasts -/
def wv (τ : St) : Wd := fun r i => if r = 0 then (if i = 0 then τ 0 0 0 5 else if i = 1 then τ 0 0 0 9 else if i = 2 then τ 0 0 0 3 else 0) else if r = 7 then τ 2 0 0 i else if r < 7 then τ (r + 2) 0 0 i else 0
def fv (τ : St) : Int → Bool := isF (τ 0 0 0 1) (τ 1 0 0)
/-! first facts -/
theorem cntU_bd (p : Int → Bool) : ∀ n : Nat, 0 ≤ cntU p n ∧ cntU p n ≤ n
  | 0 => by simp [cntU]
  | n + 1 => by
    have h := cntU_bd p n
    rw [cntU]
    split <;> omega
theorem lst_spec (p : Int → Bool) : ∀ (n : Nat) (i : Int), lst p n i = -1 ∧ (∀ j, i ≤ j → j < i + n → p j = false) ∨ (i ≤ lst p n i ∧ lst p n i < i + n ∧ p (lst p n i) = true ∧ ∀ j, i ≤ j → j < lst p n i → p j = false)
  | 0, i => by
    left
    exact ⟨rfl, fun j h1 h2 => by omega⟩
  | n + 1, i => by
    rw [lst]
    by_cases h : p i = true
    · rw [if_pos h]
      right
      exact ⟨by omega, by omega, h, fun j h1 h2 => by omega⟩
    · rw [if_neg h]
      have h' : p i = false := by simpa using h
      rcases lst_spec p n (i + 1) with ⟨h1, h2⟩ | ⟨h1, h2, h3, h4⟩
      · left
        refine ⟨h1, fun j a b => ?_⟩
        by_cases e : j = i
        · rw [e]; exact h'
        · exact h2 j (by omega) (by omega)
      · right
        refine ⟨by omega, by omega, h3, fun j a b => ?_⟩
        by_cases e : j = i
        · rw [e]; exact h'
        · exact h4 j (by omega) (by omega)
theorem lst_bd (p : Int → Bool) (n : Nat) (i : Int) (h : 0 ≤ i) : -1 ≤ lst p n i ∧ lst p n i < i + n := by
  rcases lst_spec p n i with ⟨h1, -⟩ | ⟨h1, h2, -, -⟩ <;> omega
theorem pIn_bd {W : Wd} {D : Int} (h : WOk D W) (c nm : Int) : -1 ≤ pIn W c nm ∧ pIn W c nm < W 0 1 := by
  have := lst_bd (fun f => decide (W 5 f = c) && decide (W 6 f = -1) && decide (W 4 f ≠ nm)) (W 0 1).toNat 0 (by omega)
  have h2 := h.2.1
  unfold pIn
  omega
theorem prey_bd {F : Int → Bool} {W : Wd} {D : Int} (h : WOk D W) (p d : Int) : -1 ≤ prey F W p d ∧ prey F W p d < W 0 1 := by
  have h2 := h.2.1
  unfold prey
  split
  · omega
  · split
    · exact pIn_bd h _ _
    · split
      · exact pIn_bd h _ _
      · exact pIn_bd h _ _
theorem pIn_un {W : Wd} {c nm : Int} (h : pIn W c nm ≠ -1) : W 6 (pIn W c nm) = -1 := by
  unfold pIn at h ⊢
  rcases lst_spec (fun f => decide (W 5 f = c) && decide (W 6 f = -1) && decide (W 4 f ≠ nm)) (W 0 1).toNat 0 with ⟨h1, -⟩ | ⟨-, -, h3, -⟩
  · exact absurd h1 h
  · simp only [Bool.and_eq_true, decide_eq_true_eq] at h3
    exact h3.1.2
theorem prey_un {F : Int → Bool} {W : Wd} {p d : Int} (h : prey F W p d ≠ -1) : W 6 (prey F W p d) = -1 := by
  unfold prey at h ⊢
  split at h
  · exact absurd rfl h
  · rename_i h1
    rw [if_neg h1]
    split at h
    · rename_i h2
      rw [if_pos h2]
      exact pIn_un h
    · rename_i h2
      rw [if_neg h2]
      split at h
      · rename_i h3
        rw [if_pos h3]
        exact pIn_un h
      · rename_i h3
        rw [if_neg h3]
        exact pIn_un h
theorem wu_s (W : Wd) (r : Nat) (i v : Int) : wu W r i v r i = v := by simp [wu]
theorem wu_r {W : Wd} {r a : Nat} {i v b : Int} (h : a ≠ r) : wu W r i v a b = W a b := by simp [wu, h]
theorem wu_i {W : Wd} {r a : Nat} {i v b : Int} (h : b ≠ i) : wu W r i v a b = W a b := by simp [wu, h]
theorem wu6_ok {D : Int} {W : Wd} {i v : Int} (h : WOk D W) (h0 : -1 ≤ v) (h1 : v ≤ 3) : WOk D (wu W 6 i v) := by
  obtain ⟨a, b, c, d, e, f⟩ := h
  refine ⟨a, b, c, d, fun g g0 g1 => ?_, f⟩
  have := e g g0 g1
  refine ⟨this.1, this.2.1, ?_⟩
  show -1 ≤ wu W 6 i v 6 g ∧ wu W 6 i v 6 g ≤ 3
  unfold wu
  split <;> omega
/-- what going through a day leaves as it was -/
theorem goA_r (F : Int → Bool) (W : Wd) : ∀ (n r : Nat) (i : Int), r ≠ 6 → goA F W n r i = W r i
  | 0, _, _, _ => rfl
  | n + 1, r, i, h => by
    rw [goA]
    split
    · exact goA_r F W n r i h
    · rw [wu_r h]
      exact goA_r F W n r i h
theorem goA_ok {F : Int → Bool} {W : Wd} {D : Int} (h : WOk D W) : ∀ n : Nat, n ≤ 4 → WOk D (goA F W n)
  | 0, _ => h
  | n + 1, hn => by
    have ih := goA_ok (F := F) h n (by omega)
    rw [goA]
    split
    · exact ih
    · exact wu6_ok ih (by omega) (by omega)
theorem goD_r (F : Int → Bool) (W : Wd) {r : Nat} {i : Int} (h : r ≠ 6) (h2 : ¬ (r = 0 ∧ i = 2)) : goD F W r i = W r i := by
  unfold goD
  have : wu (goA F W (W 0 0).toNat) 0 2 (W 0 2 + 1) r i = goA F W (W 0 0).toNat r i := by simp [wu, h2]
  rw [this]
  exact goA_r F W _ r i h
theorem goD_day (F : Int → Bool) (W : Wd) : goD F W 0 2 = W 0 2 + 1 := wu_s _ _ _ _
theorem goD_6 (F : Int → Bool) (W : Wd) (i : Int) : goD F W 6 i = goA F W (W 0 0).toNat 6 i := wu_r (by decide)
theorem goD_ok {F : Int → Bool} {W : Wd} {D : Int} (h : WOk D W) : WOk (D + 1) (goD F W) := by
  have hn := h.1
  obtain ⟨a, b, c, d, e, f⟩ := goA_ok (F := F) h (W 0 0).toNat (by omega)
  have hd := h.2.2.1
  refine ⟨a, b, ?_, d, e, f⟩
  rw [goD_day]
  omega
theorem WOk_mono {W : Wd} {D D' : Int} (h : WOk D W) (hD : D ≤ D') : WOk D' W := by
  obtain ⟨a, b, c, d⟩ := h
  exact ⟨a, b, ⟨c.1, by omega⟩, d⟩
theorem dN_ok {F : Int → Bool} {W : Wd} {D : Int} (h : WOk D W) : ∀ n : Nat, WOk (D + n) (dN F W n)
  | 0 => by simpa [dN] using h
  | n + 1 => WOk_mono (goD_ok (dN_ok h n)) (by omega)
theorem dN_r (F : Int → Bool) (W : Wd) {r : Nat} {i : Int} (h : r ≠ 6) (h2 : ¬ (r = 0 ∧ i = 2)) : ∀ n : Nat, dN F W n r i = W r i
  | 0 => rfl
  | n + 1 => by rw [dN, goD_r F _ h h2, dN_r F W h h2 n]
theorem dN_s (F : Int → Bool) (W : Wd) : ∀ n : Nat, dN F (goD F W) n = dN F W (n + 1)
  | 0 => rfl
  | n + 1 => by rw [dN, dN_s F W n]; rfl
end
section
/-- the reference's world, in its own cells -/
def WT (D : Int) (τ : St) : Prop := (0 ≤ τ 0 0 0 5 ∧ τ 0 0 0 5 ≤ 4) ∧ (0 ≤ τ 0 0 0 9 ∧ τ 0 0 0 9 ≤ 5) ∧ (0 ≤ τ 0 0 0 3 ∧ τ 0 0 0 3 ≤ D) ∧ (∀ p, 0 ≤ p → p < 4 → (0 ≤ τ 3 0 0 p ∧ τ 3 0 0 p ≤ 4) ∧ (0 ≤ τ 4 0 0 p ∧ τ 4 0 0 p ≤ 7) ∧ (0 ≤ τ 5 0 0 p ∧ τ 5 0 0 p ≤ 9)) ∧ (∀ f, 0 ≤ f → f < 5 → (0 ≤ τ 6 0 0 f ∧ τ 6 0 0 f ≤ 9) ∧ (-1 ≤ τ 7 0 0 f ∧ τ 7 0 0 f ≤ 8) ∧ (-1 ≤ τ 8 0 0 f ∧ τ 8 0 0 f ≤ 3)) ∧ (∀ c, 0 ≤ c → c < 8 → 0 ≤ τ 2 0 0 c ∧ τ 2 0 0 c ≤ 29)
theorem WT_of {D : Int} {τ : St} (h : WOk D (wv τ)) : WT D τ := h
theorem anyU_s (p : Int → Bool) {k : Int} (h : 0 ≤ k) : anyU p (k + 1).toNat = (anyU p k.toNat || p k) := by
  rw [show (k + 1).toNat = k.toNat + 1 by omega, anyU, Int.toNat_of_nonneg h]
theorem cntU_s (p : Int → Bool) {k : Int} (h : 0 ≤ k) : cntU p (k + 1).toNat = cntU p k.toNat + (if p k then 1 else 0) := by
  rw [show (k + 1).toNat = k.toNat + 1 by omega, cntU, Int.toNat_of_nonneg h]
theorem allU_s (p : Int → Bool) {k : Int} (h : 0 ≤ k) : allU p (k + 1).toNat = (allU p k.toNat && p k) := by
  rw [show (k + 1).toNat = k.toNat + 1 by omega, allU, Int.toNat_of_nonneg h]
set_option maxHeartbeats 4000000 in
set_option maxRecDepth 10000 in
theorem c_X9_within (l : Launch) (G : GM) (τ : St) (a b c : Int) (ha : inR a) (hb : inR b) (hc : inR c) : Ct l (YM G) yX9_within (.code yX9_within cX9_within 3 (some .boolean)) 0 [.int (iN a), .int (iN b), .int (iN c)] τ (fun v τ' => v = some (.int (bI (decide (b ≤ a ∧ a ≤ c)))) ∧ τ' = τ) := by
  refine Ct_of (own := RX9) [some (.int (iN a)), some (.int (iN b)), some (.int (iN c))] rfl rfl (Nat.le_of_ble_eq_true rfl) rfl ?_
  intro E hE hM hl hR
  obtain ⟨a0, a1⟩ := ha
  obtain ⟨b0, b1⟩ := hb
  obtain ⟨c0, c1⟩ := hc
  refine x_iload_n (pc' := 1) hE dX9_within_0 rfl rfl ?_
  refine x_iload_n (pc' := 2) hE dX9_within_1 rfl rfl ?_
  refine x_icmplt (tgt := 14) (pc' := 5) hE dX9_within_2 (by decide) rfl ⟨by omega, by omega⟩ ⟨by omega, by omega⟩ (fun h1 => ?_) (fun h1 => ?_)
  · refine x_iconst (pc' := 15) hE dX9_within_14 rfl ?_
    refine x_zret hE dX9_within_15 (by rfl) ?_
    exact ⟨rb0 (by simp; omega), rfl⟩
  · refine x_iload_n (pc' := 6) hE dX9_within_5 rfl rfl ?_
    refine x_iload_n (pc' := 7) hE dX9_within_6 rfl rfl ?_
    refine x_icmpgt (tgt := 14) (pc' := 10) hE dX9_within_7 (by decide) rfl ⟨by omega, by omega⟩ ⟨by omega, by omega⟩ (fun h2 => ?_) (fun h2 => ?_)
    · refine x_iconst (pc' := 15) hE dX9_within_14 rfl ?_
      refine x_zret hE dX9_within_15 (by rfl) ?_
      exact ⟨rb0 (by simp; omega), rfl⟩
    · refine x_iconst (pc' := 11) hE dX9_within_10 rfl ?_
      refine x_goto (tgt := 15) hE dX9_within_11 (by decide) ?_
      refine x_zret hE dX9_within_15 (by rfl) ?_
      exact ⟨rb1 (by simp; omega), rfl⟩
set_option maxHeartbeats 4000000 in
set_option maxRecDepth 10000 in
theorem c_X9_isCell (l : Launch) (G : GM) (τ : St) (c : Int) (hc : inR c) : Ct l (YM G) yX9_isCell (.code yX9_isCell cX9_isCell 1 (some .boolean)) 1 [.int (iN c)] τ (fun v τ' => v = some (.int (bI (decide (0 ≤ c ∧ c ≤ 7)))) ∧ τ' = τ) := by
  refine Ct_of (own := RX9) [some (.int (iN c))] rfl rfl (Nat.le_of_ble_eq_true rfl) rfl ?_
  intro E hE hM hl hR
  obtain ⟨c0, c1⟩ := hc
  refine x_iload_n (pc' := 1) hE dX9_isCell_0 rfl rfl ?_
  refine x_iconst (pc' := 2) hE dX9_isCell_1 rfl ?_
  refine x_bipush (pc' := 4) hE dX9_isCell_2 rfl (by decide +kernel) ?_
  refine x_cS1 (pc' := 7) hE hM (okM G) hl hR (c_X9_within l G _ _ _ _ ⟨by omega, by omega⟩ ⟨by omega, by omega⟩ ⟨by omega, by omega⟩) kX9_within tM_X9_75 (by decide) dX9_isCell_4 rfl rfl (Nat.le_of_ble_eq_true rfl) (fun σ1 e1 => ?_)
  replace e1 := e1.symm
  subst e1
  refine x_zret hE dX9_isCell_7 (nz_b _) ?_
  exact ⟨rfl, rfl⟩
set_option maxHeartbeats 4000000 in
set_option maxRecDepth 10000 in
theorem c_X9_isName (l : Launch) (G : GM) (τ : St) (c : Int) (hc : inR c) : Ct l (YM G) yX9_isName (.code yX9_isName cX9_isName 1 (some .boolean)) 1 [.int (iN c)] τ (fun v τ' => v = some (.int (bI (decide (0 ≤ c ∧ c ≤ 9)))) ∧ τ' = τ) := by
  refine Ct_of (own := RX9) [some (.int (iN c))] rfl rfl (Nat.le_of_ble_eq_true rfl) rfl ?_
  intro E hE hM hl hR
  obtain ⟨c0, c1⟩ := hc
  refine x_iload_n (pc' := 1) hE dX9_isName_0 rfl rfl ?_
  refine x_iconst (pc' := 2) hE dX9_isName_1 rfl ?_
  refine x_bipush (pc' := 4) hE dX9_isName_2 rfl (by decide +kernel) ?_
  refine x_cS1 (pc' := 7) hE hM (okM G) hl hR (c_X9_within l G _ _ _ _ ⟨by omega, by omega⟩ ⟨by omega, by omega⟩ ⟨by omega, by omega⟩) kX9_within tM_X9_75 (by decide) dX9_isName_4 rfl rfl (Nat.le_of_ble_eq_true rfl) (fun σ1 e1 => ?_)
  replace e1 := e1.symm
  subst e1
  refine x_zret hE dX9_isName_7 (nz_b _) ?_
  exact ⟨rfl, rfl⟩
set_option maxHeartbeats 4000000 in
set_option maxRecDepth 10000 in
theorem c_X9_isPack (l : Launch) (G : GM) (τ : St) (c : Int) (hc : inR c) (hn : 0 ≤ τ 0 0 0 5 ∧ τ 0 0 0 5 ≤ 5) : Ct l (YM G) yX9_isPack (.code yX9_isPack cX9_isPack 2 (some .boolean)) 1 [.ref (aM G 0), .int (iN c)] τ (fun v τ' => v = some (.int (bI (decide (0 ≤ c ∧ c ≤ τ 0 0 0 5 - 1)))) ∧ τ' = τ) := by
  refine Ct_of (own := RX9) [some (.ref (aM G 0)), some (.int (iN c))] rfl rfl (Nat.le_of_ble_eq_true rfl) rfl ?_
  intro E hE hM hl hR
  obtain ⟨c0, c1⟩ := hc
  refine x_iload_n (pc' := 1) hE dX9_isPack_0 rfl rfl ?_
  refine x_iconst (pc' := 2) hE dX9_isPack_1 rfl ?_
  refine x_aload_n (pc' := 3) hE dX9_isPack_2 rfl rfl ?_
  refine gM_5 (pc' := 6) hE hM tF_X9_122 dX9_isPack_3 rfl ?_
  refine x_iconst (pc' := 7) hE dX9_isPack_6 rfl ?_
  refine x_isub (pc' := 8) hE dX9_isPack_7 rfl ?_
  refine x_cS1 (pc' := 11) hE hM (okM G) hl hR (c_X9_within l G _ _ _ _ ⟨by omega, by omega⟩ ⟨by omega, by omega⟩ ⟨by omega, by omega⟩) kX9_within tM_X9_75 (by decide) dX9_isPack_8 rfl rfl (Nat.le_of_ble_eq_true rfl) (fun σ1 e1 => ?_)
  replace e1 := e1.symm
  subst e1
  refine x_zret hE dX9_isPack_11 (nz_b _) ?_
  exact ⟨rfl, rfl⟩
set_option maxHeartbeats 4000000 in
set_option maxRecDepth 10000 in
theorem c_X9_isThere (l : Launch) (G : GM) (τ : St) (c : Int) (hc : inR c) (hn : 0 ≤ τ 0 0 0 9 ∧ τ 0 0 0 9 ≤ 5) : Ct l (YM G) yX9_isThere (.code yX9_isThere cX9_isThere 2 (some .boolean)) 1 [.ref (aM G 0), .int (iN c)] τ (fun v τ' => v = some (.int (bI (decide (0 ≤ c ∧ c ≤ τ 0 0 0 9 - 1)))) ∧ τ' = τ) := by
  refine Ct_of (own := RX9) [some (.ref (aM G 0)), some (.int (iN c))] rfl rfl (Nat.le_of_ble_eq_true rfl) rfl ?_
  intro E hE hM hl hR
  obtain ⟨c0, c1⟩ := hc
  refine x_iload_n (pc' := 1) hE dX9_isThere_0 rfl rfl ?_
  refine x_iconst (pc' := 2) hE dX9_isThere_1 rfl ?_
  refine x_aload_n (pc' := 3) hE dX9_isThere_2 rfl rfl ?_
  refine gM_9 (pc' := 6) hE hM tF_X9_133 dX9_isThere_3 rfl ?_
  refine x_iconst (pc' := 7) hE dX9_isThere_6 rfl ?_
  refine x_isub (pc' := 8) hE dX9_isThere_7 rfl ?_
  refine x_cS1 (pc' := 11) hE hM (okM G) hl hR (c_X9_within l G _ _ _ _ ⟨by omega, by omega⟩ ⟨by omega, by omega⟩ ⟨by omega, by omega⟩) kX9_within tM_X9_75 (by decide) dX9_isThere_8 rfl rfl (Nat.le_of_ble_eq_true rfl) (fun σ1 e1 => ?_)
  replace e1 := e1.symm
  subst e1
  refine x_zret hE dX9_isThere_11 (nz_b _) ?_
  exact ⟨rfl, rfl⟩
set_option maxHeartbeats 4000000 in
set_option maxRecDepth 10000 in
theorem c_X9_isFlock (l : Launch) (G : GM) (τ : St) (D : Int) (hW : WOk D (wv τ)) (c : Int) (hc : inR c) : Ct l (YM G) yX9_isFlock (.code yX9_isFlock cX9_isFlock 2 (some .boolean)) 2 [.ref (aM G 0), .int (iN c)] τ (fun v τ' => v = some (.int (bI (decide ((0 ≤ c ∧ c ≤ τ 0 0 0 9 - 1) ∧ τ 8 0 0 c = -1)))) ∧ τ' = τ) := by
  refine Ct_of (own := RX9) [some (.ref (aM G 0)), some (.int (iN c))] rfl rfl (Nat.le_of_ble_eq_true rfl) rfl ?_
  intro E hE hM hl hR
  obtain ⟨c0, c1⟩ := hc
  obtain ⟨hp, hn, hd, hpp, hff, hcc⟩ := WT_of hW
  refine x_aload_n (pc' := 1) hE dX9_isFlock_0 rfl rfl ?_
  refine x_iload_n (pc' := 2) hE dX9_isFlock_1 rfl rfl ?_
  refine x_cV1 (pc' := 5) hE hM (okM G) hl hR (c_X9_isThere l G _ _ ⟨by omega, by omega⟩ (by omega)) kX9_isThere tM_X9_161 (rcvM hM) (by decide) dX9_isFlock_2 rfl rfl (Nat.le_of_ble_eq_true rfl) (fun σ1 e1 => ?_)
  replace e1 := e1.symm
  subst e1
  refine x_ifeqB (tgt := 22) (pc' := 8) hE dX9_isFlock_5 (by decide) rfl (fun h2 => ?_) (fun h2 => ?_)
  · try simp only [decide_eq_true_eq, decide_eq_false_iff_not] at h2
    refine x_iconst (pc' := 23) hE dX9_isFlock_22 rfl ?_
    refine x_zret hE dX9_isFlock_23 (by rfl) ?_
    exact ⟨rb0 (by simp; omega), rfl⟩
  · try simp only [decide_eq_true_eq, decide_eq_false_iff_not] at h2
    refine x_aload_n (pc' := 9) hE dX9_isFlock_8 rfl rfl ?_
    refine gM_12 (pc' := 12) hE hM tF_X9_31 dX9_isFlock_9 rfl ?_
    refine x_iload_n (pc' := 13) hE dX9_isFlock_12 rfl rfl ?_
    have q1 := hff c (by omega) (by omega)
    refine aM_8 (pc' := 14) hE hM (by omega) (by omega) dX9_isFlock_13 rfl ?_
    refine x_iconst (pc' := 15) hE dX9_isFlock_14 rfl ?_
    refine x_icmpne (tgt := 22) (pc' := 18) hE dX9_isFlock_15 (by decide) rfl ⟨by omega, by omega⟩ ⟨by omega, by omega⟩ (fun h3 => ?_) (fun h3 => ?_)
    · refine x_iconst (pc' := 23) hE dX9_isFlock_22 rfl ?_
      refine x_zret hE dX9_isFlock_23 (by rfl) ?_
      exact ⟨rb0 (by simp; omega), rfl⟩
    · refine x_iconst (pc' := 19) hE dX9_isFlock_18 rfl ?_
      refine x_goto (tgt := 23) hE dX9_isFlock_19 (by decide) ?_
      refine x_zret hE dX9_isFlock_23 (by rfl) ?_
      exact ⟨rb1 (by simp; omega), rfl⟩
set_option maxHeartbeats 4000000 in
set_option maxRecDepth 10000 in
theorem c_X9_nameOn (l : Launch) (G : GM) (τ : St) (d : Int) (h0 : 0 ≤ d) (h1 : d < 100000000) : Ct l (YM G) yX9_nameOn (.code yX9_nameOn cX9_nameOn 1 (some .int)) 0 [.int (iN d)] τ (fun v τ' => v = some (.int (iN (d % 30 % 10))) ∧ τ' = τ) := by
  refine Ct_of (own := RX9) [some (.int (iN d))] rfl rfl (Nat.le_of_ble_eq_true rfl) rfl ?_
  intro E hE hM hl hR
  refine x_iload_n (pc' := 1) hE dX9_nameOn_0 rfl rfl ?_
  refine x_bipush (pc' := 3) hE dX9_nameOn_1 rfl (by decide +kernel) ?_
  refine x_irem (pc' := 4) hE dX9_nameOn_3 rfl (by omega) (by omega) (by omega) (by omega) ?_
  refine x_bipush (pc' := 6) hE dX9_nameOn_4 rfl (by decide +kernel) ?_
  refine x_irem (pc' := 7) hE dX9_nameOn_6 rfl (by omega) (by omega) (by omega) (by omega) ?_
  refine x_iret hE dX9_nameOn_7 ?_
  exact ⟨rfl, rfl⟩
set_option maxHeartbeats 4000000 in
set_option maxRecDepth 10000 in
theorem c_X9_readsBy (l : Launch) (G : GM) (τ : St) (k f g d : Int) (hk : 0 ≤ k ∧ k ≤ 4) (hf : 0 ≤ f ∧ f ≤ 100) (hg : 0 ≤ g ∧ g ≤ 100) (hd : 0 ≤ d ∧ d ≤ 10000000) : Ct l (YM G) yX9_readsBy (.code yX9_readsBy cX9_readsBy 4 (some .int)) 0 [.int (iN k), .int (iN f), .int (iN g), .int (iN d)] τ (fun v τ' => v = some (.int (iN (rdB k f g d))) ∧ τ' = τ) := by
  refine Ct_of (own := RX9) [some (.int (iN k)), some (.int (iN f)), some (.int (iN g)), some (.int (iN d))] rfl rfl (Nat.le_of_ble_eq_true rfl) rfl ?_
  intro E hE hM hl hR
  refine x_iload_n (pc' := 1) hE dX9_readsBy_0 rfl rfl ?_
  refine x_iload_n (pc' := 2) hE dX9_readsBy_1 rfl rfl ?_
  refine x_iadd (pc' := 3) hE dX9_readsBy_2 rfl ?_
  refine x_sipush (pc' := 6) hE dX9_readsBy_3 rfl (by decide +kernel) ?_
  refine x_iadd (pc' := 7) hE dX9_readsBy_6 rfl ?_
  refine x_iload_n (pc' := 8) hE dX9_readsBy_7 rfl rfl ?_
  refine x_iconst (pc' := 9) hE dX9_readsBy_8 rfl ?_
  refine x_icmpeq (tgt := 17) (pc' := 12) hE dX9_readsBy_9 (by decide) rfl ⟨by omega, by omega⟩ ⟨by omega, by omega⟩ (fun h1 => ?_) (fun h1 => ?_)
  · refine x_iload_n (pc' := 18) hE dX9_readsBy_17 rfl rfl ?_
    refine x_goto (tgt := 22) hE dX9_readsBy_18 (by decide) ?_
    refine x_isub (pc' := 23) hE dX9_readsBy_22 rfl ?_
    refine x_iret hE dX9_readsBy_23 ?_
    refine ⟨ri ?_, rfl⟩
    unfold rdB
    split <;> omega
  · refine x_iload_n (pc' := 13) hE dX9_readsBy_12 rfl rfl ?_
    refine x_iconst (pc' := 14) hE dX9_readsBy_13 rfl ?_
    refine x_icmpne (tgt := 21) (pc' := 17) hE dX9_readsBy_14 (by decide) rfl ⟨by omega, by omega⟩ ⟨by omega, by omega⟩ (fun h2 => ?_) (fun h2 => ?_)
    · refine x_iconst (pc' := 22) hE dX9_readsBy_21 rfl ?_
      refine x_isub (pc' := 23) hE dX9_readsBy_22 rfl ?_
      refine x_iret hE dX9_readsBy_23 ?_
      refine ⟨ri ?_, rfl⟩
      unfold rdB
      split <;> omega
    · refine x_iload_n (pc' := 18) hE dX9_readsBy_17 rfl rfl ?_
      refine x_goto (tgt := 22) hE dX9_readsBy_18 (by decide) ?_
      refine x_isub (pc' := 23) hE dX9_readsBy_22 rfl ?_
      refine x_iret hE dX9_readsBy_23 ?_
      refine ⟨ri ?_, rfl⟩
      unfold rdB
      split <;> omega
theorem rdB_bd {k f g d : Int} (hf : 0 ≤ f ∧ f ≤ 100) (hg : 0 ≤ g ∧ g ≤ 100) (hd : 0 ≤ d) : 110 ≤ rdB k f g d ∧ rdB k f g d ≤ d + 310 := by
  unfold rdB
  split <;> omega
set_option maxHeartbeats 4000000 in
set_option maxRecDepth 10000 in
theorem c_X9_isFeast (l : Launch) (G : GM) (τ : St) (z : Int) (hF : FOk (τ 0 0 0 1) (τ 1 0 0)) (h0 : 0 ≤ z) (h1 : z < 100000000) : Ct l (YM G) yX9_isFeast (.code yX9_isFeast cX9_isFeast 6 (some .boolean)) 0 [.ref (aM G 0), .int (iN z)] τ (fun v τ' => v = some (.int (bI (fv τ z))) ∧ τ' = τ) := by
  refine Ct_of (own := RX9) [some (.ref (aM G 0)), some (.int (iN z)), none, none, none, none] rfl rfl (Nat.le_of_ble_eq_true rfl) rfl ?_
  intro E hE hM hl hR
  obtain ⟨f0, f1⟩ := hF
  have loop : ∀ (n : Nat) (k : Int), 0 ≤ k → k ≤ τ 0 0 0 1 → τ 0 0 0 1 - k = n → VV E 6 (AS (YM G)) (Qm (YM G) (fun v τ' => v = some (.int (bI (fv τ z))) ∧ τ' = τ) E) (Rh (YM G) (τ)) 32 [some (.ref (aM G 0)), some (.int (iN z)), some (.int (iN (z % 30))), some (.int (iN (100 + 10 * (z % 7) + z % 30 / 7 + 1))), some (.int (bI (anyU (fun k => decide (τ 1 0 0 k = z % 30) || decide (τ 1 0 0 k = 100 + 10 * (z % 7) + z % 30 / 7 + 1)) k.toNat))), some (.int (iN k))] [] := by
    intro n
    induction n using Nat.strongRecOn with
    | _ n ih =>
    intro k g0 g1 g2
    refine x_iload (pc' := 34) hE dX9_isFeast_32 rfl rfl ?_
    refine x_aload_n (pc' := 35) hE dX9_isFeast_34 rfl rfl ?_
    refine gM_1 (pc' := 38) hE hM tF_X9_102 dX9_isFeast_35 rfl ?_
    refine x_icmpge (tgt := 81) (pc' := 41) hE dX9_isFeast_38 (by decide) rfl ⟨by omega, by omega⟩ ⟨by omega, by omega⟩ (fun h1 => ?_) (fun h1 => ?_)
    · refine x_iload (pc' := 83) hE dX9_isFeast_81 rfl rfl ?_
      refine x_zret hE dX9_isFeast_83 (nz_b _) ?_
      have e : k = τ 0 0 0 1 := by omega
      subst e
      exact ⟨rfl, rfl⟩
    · refine x_iload (pc' := 43) hE dX9_isFeast_41 rfl rfl ?_
      refine x_ifneB (tgt := 68) (pc' := 46) hE dX9_isFeast_43 (by decide) rfl (fun h2 => ?_) (fun h2 => ?_)
      · try simp only [decide_eq_true_eq, decide_eq_false_iff_not] at h2
        refine x_iconst (pc' := 69) hE dX9_isFeast_68 rfl ?_
        refine x_goto (tgt := 73) hE dX9_isFeast_69 (by decide) ?_
        refine x_istore (pc' := 75) hE dX9_isFeast_73 rfl (by decide) rfl rfl ?_
        dsimp only [List.set]
        refine x_iinc (pc' := 78) hE dX9_isFeast_75 rfl rfl (by decide) rfl rfl ?_
        dsimp only [List.set]
        refine x_goto (tgt := 32) hE dX9_isFeast_78 (by decide) ?_
        have hb : anyU (fun k => decide (τ 1 0 0 k = z % 30) || decide (τ 1 0 0 k = 100 + 10 * (z % 7) + z % 30 / 7 + 1)) (k + 1).toNat = true := by
          rw [anyU_s _ g0]
          simp [h1, h2]
        refine x_lve (lv' := [some (.ref (aM G 0)), some (.int (iN z)), some (.int (iN (z % 30))), some (.int (iN (100 + 10 * (z % 7) + z % 30 / 7 + 1))), some (.int (bI (anyU (fun k => decide (τ 1 0 0 k = z % 30) || decide (τ 1 0 0 k = 100 + 10 * (z % 7) + z % 30 / 7 + 1)) (k + 1).toNat))), some (.int (iN (k + 1)))]) (by rw [hb, bI_t]) (ih (n - 1) (by omega) (k + 1) (by omega) (by omega) (by omega))
      · try simp only [decide_eq_true_eq, decide_eq_false_iff_not] at h2
        have q1 := f1 k (by omega) (by omega)
        refine x_aload_n (pc' := 47) hE dX9_isFeast_46 rfl rfl ?_
        refine gM_2 (pc' := 50) hE hM tF_X9_7 dX9_isFeast_47 rfl ?_
        refine x_iload (pc' := 52) hE dX9_isFeast_50 rfl rfl ?_
        refine aM_1 (pc' := 53) hE hM (by omega) (by omega) dX9_isFeast_52 rfl ?_
        refine x_iload_n (pc' := 54) hE dX9_isFeast_53 rfl rfl ?_
        refine x_icmpeq (tgt := 68) (pc' := 57) hE dX9_isFeast_54 (by decide) rfl ⟨by omega, by omega⟩ ⟨by omega, by omega⟩ (fun h3 => ?_) (fun h3 => ?_)
        · refine x_iconst (pc' := 69) hE dX9_isFeast_68 rfl ?_
          refine x_goto (tgt := 73) hE dX9_isFeast_69 (by decide) ?_
          refine x_istore (pc' := 75) hE dX9_isFeast_73 rfl (by decide) rfl rfl ?_
          dsimp only [List.set]
          refine x_iinc (pc' := 78) hE dX9_isFeast_75 rfl rfl (by decide) rfl rfl ?_
          dsimp only [List.set]
          refine x_goto (tgt := 32) hE dX9_isFeast_78 (by decide) ?_
          have hb : anyU (fun k => decide (τ 1 0 0 k = z % 30) || decide (τ 1 0 0 k = 100 + 10 * (z % 7) + z % 30 / 7 + 1)) (k + 1).toNat = true := by
            rw [anyU_s _ g0]
            simp [h1, h2, h3]
          refine x_lve (lv' := [some (.ref (aM G 0)), some (.int (iN z)), some (.int (iN (z % 30))), some (.int (iN (100 + 10 * (z % 7) + z % 30 / 7 + 1))), some (.int (bI (anyU (fun k => decide (τ 1 0 0 k = z % 30) || decide (τ 1 0 0 k = 100 + 10 * (z % 7) + z % 30 / 7 + 1)) (k + 1).toNat))), some (.int (iN (k + 1)))]) (by rw [hb, bI_t]) (ih (n - 1) (by omega) (k + 1) (by omega) (by omega) (by omega))
        · refine x_aload_n (pc' := 58) hE dX9_isFeast_57 rfl rfl ?_
          refine gM_2 (pc' := 61) hE hM tF_X9_7 dX9_isFeast_58 rfl ?_
          refine x_iload (pc' := 63) hE dX9_isFeast_61 rfl rfl ?_
          refine aM_1 (pc' := 64) hE hM (by omega) (by omega) dX9_isFeast_63 rfl ?_
          refine x_iload_n (pc' := 65) hE dX9_isFeast_64 rfl rfl ?_
          refine x_icmpne (tgt := 72) (pc' := 68) hE dX9_isFeast_65 (by decide) rfl ⟨by omega, by omega⟩ ⟨by omega, by omega⟩ (fun h4 => ?_) (fun h4 => ?_)
          · refine x_iconst (pc' := 73) hE dX9_isFeast_72 rfl ?_
            refine x_istore (pc' := 75) hE dX9_isFeast_73 rfl (by decide) rfl rfl ?_
            dsimp only [List.set]
            refine x_iinc (pc' := 78) hE dX9_isFeast_75 rfl rfl (by decide) rfl rfl ?_
            dsimp only [List.set]
            refine x_goto (tgt := 32) hE dX9_isFeast_78 (by decide) ?_
            have hb : anyU (fun k => decide (τ 1 0 0 k = z % 30) || decide (τ 1 0 0 k = 100 + 10 * (z % 7) + z % 30 / 7 + 1)) (k + 1).toNat = false := by
              rw [anyU_s _ g0]
              simp [h1, h2, h3, h4]
            refine x_lve (lv' := [some (.ref (aM G 0)), some (.int (iN z)), some (.int (iN (z % 30))), some (.int (iN (100 + 10 * (z % 7) + z % 30 / 7 + 1))), some (.int (bI (anyU (fun k => decide (τ 1 0 0 k = z % 30) || decide (τ 1 0 0 k = 100 + 10 * (z % 7) + z % 30 / 7 + 1)) (k + 1).toNat))), some (.int (iN (k + 1)))]) (by rw [hb, bI_f]) (ih (n - 1) (by omega) (k + 1) (by omega) (by omega) (by omega))
          · refine x_iconst (pc' := 69) hE dX9_isFeast_68 rfl ?_
            refine x_goto (tgt := 73) hE dX9_isFeast_69 (by decide) ?_
            refine x_istore (pc' := 75) hE dX9_isFeast_73 rfl (by decide) rfl rfl ?_
            dsimp only [List.set]
            refine x_iinc (pc' := 78) hE dX9_isFeast_75 rfl rfl (by decide) rfl rfl ?_
            dsimp only [List.set]
            refine x_goto (tgt := 32) hE dX9_isFeast_78 (by decide) ?_
            have hb : anyU (fun k => decide (τ 1 0 0 k = z % 30) || decide (τ 1 0 0 k = 100 + 10 * (z % 7) + z % 30 / 7 + 1)) (k + 1).toNat = true := by
              rw [anyU_s _ g0]
              simp [h1, h2, h3, h4]
            refine x_lve (lv' := [some (.ref (aM G 0)), some (.int (iN z)), some (.int (iN (z % 30))), some (.int (iN (100 + 10 * (z % 7) + z % 30 / 7 + 1))), some (.int (bI (anyU (fun k => decide (τ 1 0 0 k = z % 30) || decide (τ 1 0 0 k = 100 + 10 * (z % 7) + z % 30 / 7 + 1)) (k + 1).toNat))), some (.int (iN (k + 1)))]) (by rw [hb, bI_t]) (ih (n - 1) (by omega) (k + 1) (by omega) (by omega) (by omega))
  refine x_iload_n (pc' := 1) hE dX9_isFeast_0 rfl rfl ?_
  refine x_bipush (pc' := 3) hE dX9_isFeast_1 rfl (by decide +kernel) ?_
  refine x_irem (pc' := 4) hE dX9_isFeast_3 rfl (by omega) (by omega) (by omega) (by omega) ?_
  refine x_istore_n (pc' := 5) hE dX9_isFeast_4 rfl (by decide) rfl rfl ?_
  dsimp only [List.set]
  refine x_bipush (pc' := 7) hE dX9_isFeast_5 rfl (by decide +kernel) ?_
  refine x_bipush (pc' := 9) hE dX9_isFeast_7 rfl (by decide +kernel) ?_
  refine x_iload_n (pc' := 10) hE dX9_isFeast_9 rfl rfl ?_
  refine x_bipush (pc' := 12) hE dX9_isFeast_10 rfl (by decide +kernel) ?_
  refine x_irem (pc' := 13) hE dX9_isFeast_12 rfl (by omega) (by omega) (by omega) (by omega) ?_
  refine x_imul (pc' := 14) hE dX9_isFeast_13 rfl ?_
  refine x_iadd (pc' := 15) hE dX9_isFeast_14 rfl ?_
  refine x_iload_n (pc' := 16) hE dX9_isFeast_15 rfl rfl ?_
  refine x_bipush (pc' := 18) hE dX9_isFeast_16 rfl (by decide +kernel) ?_
  refine x_irem (pc' := 19) hE dX9_isFeast_18 rfl (by omega) (by omega) (by omega) (by omega) ?_
  refine x_bipush (pc' := 21) hE dX9_isFeast_19 rfl (by decide +kernel) ?_
  refine x_idiv (pc' := 22) hE dX9_isFeast_21 rfl (by omega) (by omega) (by omega) (by omega) ?_
  refine x_iadd (pc' := 23) hE dX9_isFeast_22 rfl ?_
  refine x_iconst (pc' := 24) hE dX9_isFeast_23 rfl ?_
  refine x_iadd (pc' := 25) hE dX9_isFeast_24 rfl ?_
  refine x_istore_n (pc' := 26) hE dX9_isFeast_25 rfl (by decide) rfl rfl ?_
  dsimp only [List.set]
  refine x_iconst (pc' := 27) hE dX9_isFeast_26 rfl ?_
  refine x_istore (pc' := 29) hE dX9_isFeast_27 rfl (by decide) rfl rfl ?_
  dsimp only [List.set]
  refine x_iconst (pc' := 30) hE dX9_isFeast_29 rfl ?_
  refine x_istore (pc' := 32) hE dX9_isFeast_30 rfl (by decide) rfl rfl ?_
  dsimp only [List.set]
  refine x_lve (lv' := [some (.ref (aM G 0)), some (.int (iN z)), some (.int (iN (z % 30))), some (.int (iN (100 + 10 * (z % 7) + z % 30 / 7 + 1))), some (.int (bI false)), some (.int (iN 0))]) (by rw [bI_f]) ?_
  exact loop (τ 0 0 0 1).toNat 0 (by omega) (by omega) (by omega)
set_option maxHeartbeats 4000000 in
set_option maxRecDepth 10000 in
theorem c_X9_dayTold (l : Launch) (G : GM) (τ : St) (z wh : Int) (hF : FOk (τ 0 0 0 1) (τ 1 0 0)) (h0 : 0 ≤ z) (h1 : z < 100000000) (w0 : 0 ≤ wh) (w1 : wh ≤ 3) : Ct l (YM G) yX9_dayTold (.code yX9_dayTold cX9_dayTold 3 (some .int)) 1 [.ref (aM G 0), .int (iN z), .int (iN wh)] τ (fun v τ' => v = some (.int (iN (if wh = 0 then z % 7 else if wh = 1 then z % 30 % 10 else if wh = 2 then (if fv τ z then 1 else 0) else z / 30))) ∧ τ' = τ) := by
  refine Ct_of (own := RX9) [some (.ref (aM G 0)), some (.int (iN z)), some (.int (iN wh))] rfl rfl (Nat.le_of_ble_eq_true rfl) rfl ?_
  intro E hE hM hl hR
  refine x_iload_n (pc' := 1) hE dX9_dayTold_0 rfl rfl ?_
  rcases (show wh = 0 ∨ wh = 1 ∨ wh = 2 ∨ (wh < 0 ∨ 2 < wh) by omega) with h1 | h1 | h1 | h1
  · refine x_tabIn (tgt := 28) (off := 27) hE dX9_dayTold_1 ⟨by omega, by omega⟩ (by omega) (by omega) (by rw [h1]; rfl) (by decide) ?_
    refine x_iload_n (pc' := 29) hE dX9_dayTold_28 rfl rfl ?_
    refine x_bipush (pc' := 31) hE dX9_dayTold_29 rfl (by decide +kernel) ?_
    refine x_irem (pc' := 32) hE dX9_dayTold_31 rfl (by omega) (by omega) (by omega) (by omega) ?_
    refine x_iret hE dX9_dayTold_32 ?_
    refine ⟨ri ?_, rfl⟩
    simp_all
    try omega
  · refine x_tabIn (tgt := 33) (off := 32) hE dX9_dayTold_1 ⟨by omega, by omega⟩ (by omega) (by omega) (by rw [h1]; rfl) (by decide) ?_
    refine x_iload_n (pc' := 34) hE dX9_dayTold_33 rfl rfl ?_
    refine x_cS1 (pc' := 37) hE hM (okM G) hl hR (c_X9_nameOn l G _ _ (by omega) (by omega)) kX9_nameOn tM_X9_108 (by decide) dX9_dayTold_34 rfl rfl (Nat.le_of_ble_eq_true rfl) (fun σ2 e2 => ?_)
    replace e2 := e2.symm
    subst e2
    refine x_iret hE dX9_dayTold_37 ?_
    refine ⟨ri ?_, rfl⟩
    simp_all
    try omega
  · refine x_tabIn (tgt := 38) (off := 37) hE dX9_dayTold_1 ⟨by omega, by omega⟩ (by omega) (by omega) (by rw [h1]; rfl) (by decide) ?_
    refine x_aload_n (pc' := 39) hE dX9_dayTold_38 rfl rfl ?_
    refine x_iload_n (pc' := 40) hE dX9_dayTold_39 rfl rfl ?_
    refine x_cV1 (pc' := 43) hE hM (okM G) hl hR (c_X9_isFeast l G _ _ (by assumption) (by omega) (by omega)) kX9_isFeast tM_X9_112 (rcvM hM) (by decide) dX9_dayTold_40 rfl rfl (Nat.le_of_ble_eq_true rfl) (fun σ3 e3 => ?_)
    replace e3 := e3.symm
    subst e3
    refine x_ifeqB (tgt := 50) (pc' := 46) hE dX9_dayTold_43 (by decide) rfl (fun h4 => ?_) (fun h4 => ?_)
    · try simp only [decide_eq_true_eq, decide_eq_false_iff_not] at h4
      refine x_iconst (pc' := 51) hE dX9_dayTold_50 rfl ?_
      refine x_iret hE dX9_dayTold_51 ?_
      refine ⟨ri ?_, rfl⟩
      simp_all
      try omega
    · try simp only [decide_eq_true_eq, decide_eq_false_iff_not] at h4
      refine x_iconst (pc' := 47) hE dX9_dayTold_46 rfl ?_
      refine x_goto (tgt := 51) hE dX9_dayTold_47 (by decide) ?_
      refine x_iret hE dX9_dayTold_51 ?_
      refine ⟨ri ?_, rfl⟩
      simp_all
      try omega
  · refine x_tabOut (tgt := 52) hE dX9_dayTold_1 ⟨by omega, by omega⟩ (by omega) (by decide) ?_
    refine x_iload_n (pc' := 53) hE dX9_dayTold_52 rfl rfl ?_
    refine x_bipush (pc' := 55) hE dX9_dayTold_53 rfl (by decide +kernel) ?_
    refine x_idiv (pc' := 56) hE dX9_dayTold_55 rfl (by omega) (by omega) (by omega) (by omega) ?_
    refine x_iret hE dX9_dayTold_56 ?_
    refine ⟨ri ?_, rfl⟩
    simp_all
    try omega
set_option maxHeartbeats 4000000 in
set_option maxRecDepth 10000 in
theorem c_X9_fastsBy (l : Launch) (G : GM) (τ : St) (k f g d : Int) (hF : FOk (τ 0 0 0 1) (τ 1 0 0)) (hk : 0 ≤ k ∧ k ≤ 4) (hf : 0 ≤ f ∧ f ≤ 100) (hg : 0 ≤ g ∧ g ≤ 100) (hd : 0 ≤ d ∧ d ≤ 10000000) : Ct l (YM G) yX9_fastsBy (.code yX9_fastsBy cX9_fastsBy 7 (some .boolean)) 1 [.ref (aM G 0), .int (iN k), .int (iN f), .int (iN g), .int (iN d)] τ (fun v τ' => v = some (.int (bI (fsB (fv τ) k f g d))) ∧ τ' = τ) := by
  refine Ct_of (own := RX9) [some (.ref (aM G 0)), some (.int (iN k)), some (.int (iN f)), some (.int (iN g)), some (.int (iN d)), none, none] rfl rfl (Nat.le_of_ble_eq_true rfl) rfl ?_
  intro E hE hM hl hR
  have q0 := rdB_bd (k := k) hf hg hd.1
  refine x_iload_n (pc' := 1) hE dX9_fastsBy_0 rfl rfl ?_
  refine x_iload_n (pc' := 2) hE dX9_fastsBy_1 rfl rfl ?_
  refine x_iload_n (pc' := 3) hE dX9_fastsBy_2 rfl rfl ?_
  refine x_iload (pc' := 5) hE dX9_fastsBy_3 rfl rfl ?_
  refine x_cS1 (pc' := 8) hE hM (okM G) hl hR (c_X9_readsBy l G _ _ _ _ _ (by omega) (by omega) (by omega) (by omega)) kX9_readsBy tM_X9_125 (by decide) dX9_fastsBy_5 rfl rfl (Nat.le_of_ble_eq_true rfl) (fun σ1 e1 => ?_)
  replace e1 := e1.symm
  subst e1
  refine x_istore (pc' := 10) hE dX9_fastsBy_8 rfl (by decide) rfl rfl ?_
  dsimp only [List.set]
  refine x_iload (pc' := 12) hE dX9_fastsBy_10 rfl rfl ?_
  refine x_bipush (pc' := 14) hE dX9_fastsBy_12 rfl (by decide +kernel) ?_
  refine x_irem (pc' := 15) hE dX9_fastsBy_14 rfl (by omega) (by omega) (by omega) (by omega) ?_
  refine x_iconst (pc' := 16) hE dX9_fastsBy_15 rfl ?_
  refine x_icmpne (tgt := 28) (pc' := 19) hE dX9_fastsBy_16 (by decide) rfl ⟨by omega, by omega⟩ ⟨by omega, by omega⟩ (fun h2 => ?_) (fun h2 => ?_)
  · refine x_iconst (pc' := 29) hE dX9_fastsBy_28 rfl ?_
    refine x_istore (pc' := 31) hE dX9_fastsBy_29 rfl (by decide) rfl rfl ?_
    dsimp only [List.set]
    refine x_iload (pc' := 33) hE dX9_fastsBy_31 rfl rfl ?_
    refine x_ifne (tgt := 66) (pc' := 36) hE dX9_fastsBy_33 (by decide) rfl ⟨by omega, by omega⟩ (fun h3 => ?_) (fun h3 => ?_)
    · exact absurd h3 (by decide)
    · refine x_iload_n (pc' := 37) hE dX9_fastsBy_36 rfl rfl ?_
      refine x_iconst (pc' := 38) hE dX9_fastsBy_37 rfl ?_
      refine x_icmpeq (tgt := 50) (pc' := 41) hE dX9_fastsBy_38 (by decide) rfl ⟨by omega, by omega⟩ ⟨by omega, by omega⟩ (fun h4 => ?_) (fun h4 => ?_)
      · refine x_iload_n (pc' := 51) hE dX9_fastsBy_50 rfl rfl ?_
        refine x_iconst (pc' := 52) hE dX9_fastsBy_51 rfl ?_
        refine x_icmpne (tgt := 70) (pc' := 55) hE dX9_fastsBy_52 (by decide) rfl ⟨by omega, by omega⟩ ⟨by omega, by omega⟩ (fun h5 => ?_) (fun h5 => ?_)
        · refine x_iconst (pc' := 71) hE dX9_fastsBy_70 rfl ?_
          refine x_zret hE dX9_fastsBy_71 (by rfl) ?_
          refine ⟨rb0 ?_, rfl⟩
          unfold fsB
          generalize rdB k f g d = r at *
          clear q0
          first | (simp_all; done) | (simp_all; omega) | (exfalso; omega)
        · refine x_aload_n (pc' := 56) hE dX9_fastsBy_55 rfl rfl ?_
          refine x_iload (pc' := 58) hE dX9_fastsBy_56 rfl rfl ?_
          refine x_iconst (pc' := 59) hE dX9_fastsBy_58 rfl ?_
          refine x_iadd (pc' := 60) hE dX9_fastsBy_59 rfl ?_
          refine x_cV1 (pc' := 63) hE hM (okM G) hl hR (c_X9_isFeast l G _ _ (by assumption) (by omega) (by omega)) kX9_isFeast tM_X9_112 (rcvM hM) (by decide) dX9_fastsBy_60 rfl rfl (Nat.le_of_ble_eq_true rfl) (fun σ6 e6 => ?_)
          replace e6 := e6.symm
          subst e6
          refine x_ifeqB (tgt := 70) (pc' := 66) hE dX9_fastsBy_63 (by decide) rfl (fun h7 => ?_) (fun h7 => ?_)
          · try simp only [decide_eq_true_eq, decide_eq_false_iff_not] at h7
            refine x_iconst (pc' := 71) hE dX9_fastsBy_70 rfl ?_
            refine x_zret hE dX9_fastsBy_71 (by rfl) ?_
            refine ⟨rb0 ?_, rfl⟩
            unfold fsB
            generalize rdB k f g d = r at *
            clear q0
            first | (simp_all; done) | (simp_all; omega) | (exfalso; omega)
          · try simp only [decide_eq_true_eq, decide_eq_false_iff_not] at h7
            refine x_iconst (pc' := 67) hE dX9_fastsBy_66 rfl ?_
            refine x_goto (tgt := 71) hE dX9_fastsBy_67 (by decide) ?_
            refine x_zret hE dX9_fastsBy_71 (by rfl) ?_
            refine ⟨rb1 ?_, rfl⟩
            unfold fsB
            generalize rdB k f g d = r at *
            clear q0
            first | (simp_all; done) | (simp_all; omega) | (exfalso; omega)
      · refine x_aload_n (pc' := 42) hE dX9_fastsBy_41 rfl rfl ?_
        refine x_iload (pc' := 44) hE dX9_fastsBy_42 rfl rfl ?_
        refine x_cV1 (pc' := 47) hE hM (okM G) hl hR (c_X9_isFeast l G _ _ (by assumption) (by omega) (by omega)) kX9_isFeast tM_X9_112 (rcvM hM) (by decide) dX9_fastsBy_44 rfl rfl (Nat.le_of_ble_eq_true rfl) (fun σ8 e8 => ?_)
        replace e8 := e8.symm
        subst e8
        refine x_ifneB (tgt := 66) (pc' := 50) hE dX9_fastsBy_47 (by decide) rfl (fun h9 => ?_) (fun h9 => ?_)
        · try simp only [decide_eq_true_eq, decide_eq_false_iff_not] at h9
          refine x_iconst (pc' := 67) hE dX9_fastsBy_66 rfl ?_
          refine x_goto (tgt := 71) hE dX9_fastsBy_67 (by decide) ?_
          refine x_zret hE dX9_fastsBy_71 (by rfl) ?_
          refine ⟨rb1 ?_, rfl⟩
          unfold fsB
          generalize rdB k f g d = r at *
          clear q0
          first | (simp_all; done) | (simp_all; omega) | (exfalso; omega)
        · try simp only [decide_eq_true_eq, decide_eq_false_iff_not] at h9
          refine x_iload_n (pc' := 51) hE dX9_fastsBy_50 rfl rfl ?_
          refine x_iconst (pc' := 52) hE dX9_fastsBy_51 rfl ?_
          refine x_icmpne (tgt := 70) (pc' := 55) hE dX9_fastsBy_52 (by decide) rfl ⟨by omega, by omega⟩ ⟨by omega, by omega⟩ (fun h10 => ?_) (fun h10 => ?_)
          · refine x_iconst (pc' := 71) hE dX9_fastsBy_70 rfl ?_
            refine x_zret hE dX9_fastsBy_71 (by rfl) ?_
            refine ⟨rb0 ?_, rfl⟩
            unfold fsB
            generalize rdB k f g d = r at *
            clear q0
            first | (simp_all; done) | (simp_all; omega) | (exfalso; omega)
          · refine x_aload_n (pc' := 56) hE dX9_fastsBy_55 rfl rfl ?_
            refine x_iload (pc' := 58) hE dX9_fastsBy_56 rfl rfl ?_
            refine x_iconst (pc' := 59) hE dX9_fastsBy_58 rfl ?_
            refine x_iadd (pc' := 60) hE dX9_fastsBy_59 rfl ?_
            refine x_cV1 (pc' := 63) hE hM (okM G) hl hR (c_X9_isFeast l G _ _ (by assumption) (by omega) (by omega)) kX9_isFeast tM_X9_112 (rcvM hM) (by decide) dX9_fastsBy_60 rfl rfl (Nat.le_of_ble_eq_true rfl) (fun σ11 e11 => ?_)
            replace e11 := e11.symm
            subst e11
            refine x_ifeqB (tgt := 70) (pc' := 66) hE dX9_fastsBy_63 (by decide) rfl (fun h12 => ?_) (fun h12 => ?_)
            · try simp only [decide_eq_true_eq, decide_eq_false_iff_not] at h12
              refine x_iconst (pc' := 71) hE dX9_fastsBy_70 rfl ?_
              refine x_zret hE dX9_fastsBy_71 (by rfl) ?_
              refine ⟨rb0 ?_, rfl⟩
              unfold fsB
              generalize rdB k f g d = r at *
              clear q0
              first | (simp_all; done) | (simp_all; omega) | (exfalso; omega)
            · try simp only [decide_eq_true_eq, decide_eq_false_iff_not] at h12
              refine x_iconst (pc' := 67) hE dX9_fastsBy_66 rfl ?_
              refine x_goto (tgt := 71) hE dX9_fastsBy_67 (by decide) ?_
              refine x_zret hE dX9_fastsBy_71 (by rfl) ?_
              refine ⟨rb1 ?_, rfl⟩
              unfold fsB
              generalize rdB k f g d = r at *
              clear q0
              first | (simp_all; done) | (simp_all; omega) | (exfalso; omega)
  · refine x_iload_n (pc' := 20) hE dX9_fastsBy_19 rfl rfl ?_
    refine x_iconst (pc' := 21) hE dX9_fastsBy_20 rfl ?_
    refine x_icmpeq (tgt := 28) (pc' := 24) hE dX9_fastsBy_21 (by decide) rfl ⟨by omega, by omega⟩ ⟨by omega, by omega⟩ (fun h13 => ?_) (fun h13 => ?_)
    · refine x_iconst (pc' := 29) hE dX9_fastsBy_28 rfl ?_
      refine x_istore (pc' := 31) hE dX9_fastsBy_29 rfl (by decide) rfl rfl ?_
      dsimp only [List.set]
      refine x_iload (pc' := 33) hE dX9_fastsBy_31 rfl rfl ?_
      refine x_ifne (tgt := 66) (pc' := 36) hE dX9_fastsBy_33 (by decide) rfl ⟨by omega, by omega⟩ (fun h14 => ?_) (fun h14 => ?_)
      · exact absurd h14 (by decide)
      · refine x_iload_n (pc' := 37) hE dX9_fastsBy_36 rfl rfl ?_
        refine x_iconst (pc' := 38) hE dX9_fastsBy_37 rfl ?_
        refine x_icmpeq (tgt := 50) (pc' := 41) hE dX9_fastsBy_38 (by decide) rfl ⟨by omega, by omega⟩ ⟨by omega, by omega⟩ (fun h15 => ?_) (fun h15 => ?_)
        · refine x_iload_n (pc' := 51) hE dX9_fastsBy_50 rfl rfl ?_
          refine x_iconst (pc' := 52) hE dX9_fastsBy_51 rfl ?_
          refine x_icmpne (tgt := 70) (pc' := 55) hE dX9_fastsBy_52 (by decide) rfl ⟨by omega, by omega⟩ ⟨by omega, by omega⟩ (fun h16 => ?_) (fun h16 => ?_)
          · refine x_iconst (pc' := 71) hE dX9_fastsBy_70 rfl ?_
            refine x_zret hE dX9_fastsBy_71 (by rfl) ?_
            refine ⟨rb0 ?_, rfl⟩
            unfold fsB
            generalize rdB k f g d = r at *
            clear q0
            first | (simp_all; done) | (simp_all; omega) | (exfalso; omega)
          · refine x_aload_n (pc' := 56) hE dX9_fastsBy_55 rfl rfl ?_
            refine x_iload (pc' := 58) hE dX9_fastsBy_56 rfl rfl ?_
            refine x_iconst (pc' := 59) hE dX9_fastsBy_58 rfl ?_
            refine x_iadd (pc' := 60) hE dX9_fastsBy_59 rfl ?_
            refine x_cV1 (pc' := 63) hE hM (okM G) hl hR (c_X9_isFeast l G _ _ (by assumption) (by omega) (by omega)) kX9_isFeast tM_X9_112 (rcvM hM) (by decide) dX9_fastsBy_60 rfl rfl (Nat.le_of_ble_eq_true rfl) (fun σ17 e17 => ?_)
            replace e17 := e17.symm
            subst e17
            refine x_ifeqB (tgt := 70) (pc' := 66) hE dX9_fastsBy_63 (by decide) rfl (fun h18 => ?_) (fun h18 => ?_)
            · try simp only [decide_eq_true_eq, decide_eq_false_iff_not] at h18
              refine x_iconst (pc' := 71) hE dX9_fastsBy_70 rfl ?_
              refine x_zret hE dX9_fastsBy_71 (by rfl) ?_
              refine ⟨rb0 ?_, rfl⟩
              unfold fsB
              generalize rdB k f g d = r at *
              clear q0
              first | (simp_all; done) | (simp_all; omega) | (exfalso; omega)
            · try simp only [decide_eq_true_eq, decide_eq_false_iff_not] at h18
              refine x_iconst (pc' := 67) hE dX9_fastsBy_66 rfl ?_
              refine x_goto (tgt := 71) hE dX9_fastsBy_67 (by decide) ?_
              refine x_zret hE dX9_fastsBy_71 (by rfl) ?_
              refine ⟨rb1 ?_, rfl⟩
              unfold fsB
              generalize rdB k f g d = r at *
              clear q0
              first | (simp_all; done) | (simp_all; omega) | (exfalso; omega)
        · refine x_aload_n (pc' := 42) hE dX9_fastsBy_41 rfl rfl ?_
          refine x_iload (pc' := 44) hE dX9_fastsBy_42 rfl rfl ?_
          refine x_cV1 (pc' := 47) hE hM (okM G) hl hR (c_X9_isFeast l G _ _ (by assumption) (by omega) (by omega)) kX9_isFeast tM_X9_112 (rcvM hM) (by decide) dX9_fastsBy_44 rfl rfl (Nat.le_of_ble_eq_true rfl) (fun σ19 e19 => ?_)
          replace e19 := e19.symm
          subst e19
          refine x_ifneB (tgt := 66) (pc' := 50) hE dX9_fastsBy_47 (by decide) rfl (fun h20 => ?_) (fun h20 => ?_)
          · try simp only [decide_eq_true_eq, decide_eq_false_iff_not] at h20
            refine x_iconst (pc' := 67) hE dX9_fastsBy_66 rfl ?_
            refine x_goto (tgt := 71) hE dX9_fastsBy_67 (by decide) ?_
            refine x_zret hE dX9_fastsBy_71 (by rfl) ?_
            refine ⟨rb1 ?_, rfl⟩
            unfold fsB
            generalize rdB k f g d = r at *
            clear q0
            first | (simp_all; done) | (simp_all; omega) | (exfalso; omega)
          · try simp only [decide_eq_true_eq, decide_eq_false_iff_not] at h20
            refine x_iload_n (pc' := 51) hE dX9_fastsBy_50 rfl rfl ?_
            refine x_iconst (pc' := 52) hE dX9_fastsBy_51 rfl ?_
            refine x_icmpne (tgt := 70) (pc' := 55) hE dX9_fastsBy_52 (by decide) rfl ⟨by omega, by omega⟩ ⟨by omega, by omega⟩ (fun h21 => ?_) (fun h21 => ?_)
            · refine x_iconst (pc' := 71) hE dX9_fastsBy_70 rfl ?_
              refine x_zret hE dX9_fastsBy_71 (by rfl) ?_
              refine ⟨rb0 ?_, rfl⟩
              unfold fsB
              generalize rdB k f g d = r at *
              clear q0
              first | (simp_all; done) | (simp_all; omega) | (exfalso; omega)
            · refine x_aload_n (pc' := 56) hE dX9_fastsBy_55 rfl rfl ?_
              refine x_iload (pc' := 58) hE dX9_fastsBy_56 rfl rfl ?_
              refine x_iconst (pc' := 59) hE dX9_fastsBy_58 rfl ?_
              refine x_iadd (pc' := 60) hE dX9_fastsBy_59 rfl ?_
              refine x_cV1 (pc' := 63) hE hM (okM G) hl hR (c_X9_isFeast l G _ _ (by assumption) (by omega) (by omega)) kX9_isFeast tM_X9_112 (rcvM hM) (by decide) dX9_fastsBy_60 rfl rfl (Nat.le_of_ble_eq_true rfl) (fun σ22 e22 => ?_)
              replace e22 := e22.symm
              subst e22
              refine x_ifeqB (tgt := 70) (pc' := 66) hE dX9_fastsBy_63 (by decide) rfl (fun h23 => ?_) (fun h23 => ?_)
              · try simp only [decide_eq_true_eq, decide_eq_false_iff_not] at h23
                refine x_iconst (pc' := 71) hE dX9_fastsBy_70 rfl ?_
                refine x_zret hE dX9_fastsBy_71 (by rfl) ?_
                refine ⟨rb0 ?_, rfl⟩
                unfold fsB
                generalize rdB k f g d = r at *
                clear q0
                first | (simp_all; done) | (simp_all; omega) | (exfalso; omega)
              · try simp only [decide_eq_true_eq, decide_eq_false_iff_not] at h23
                refine x_iconst (pc' := 67) hE dX9_fastsBy_66 rfl ?_
                refine x_goto (tgt := 71) hE dX9_fastsBy_67 (by decide) ?_
                refine x_zret hE dX9_fastsBy_71 (by rfl) ?_
                refine ⟨rb1 ?_, rfl⟩
                unfold fsB
                generalize rdB k f g d = r at *
                clear q0
                first | (simp_all; done) | (simp_all; omega) | (exfalso; omega)
    · refine x_iconst (pc' := 25) hE dX9_fastsBy_24 rfl ?_
      refine x_goto (tgt := 29) hE dX9_fastsBy_25 (by decide) ?_
      refine x_istore (pc' := 31) hE dX9_fastsBy_29 rfl (by decide) rfl rfl ?_
      dsimp only [List.set]
      refine x_iload (pc' := 33) hE dX9_fastsBy_31 rfl rfl ?_
      refine x_ifne (tgt := 66) (pc' := 36) hE dX9_fastsBy_33 (by decide) rfl ⟨by omega, by omega⟩ (fun h24 => ?_) (fun h24 => ?_)
      · refine x_iconst (pc' := 67) hE dX9_fastsBy_66 rfl ?_
        refine x_goto (tgt := 71) hE dX9_fastsBy_67 (by decide) ?_
        refine x_zret hE dX9_fastsBy_71 (by rfl) ?_
        refine ⟨rb1 ?_, rfl⟩
        unfold fsB
        generalize rdB k f g d = r at *
        clear q0
        first | (simp_all; done) | (simp_all; omega) | (exfalso; omega)
      · exact absurd h24 (by decide)
end
section
theorem preyT (τ : St) (F : Int → Bool) (p d : Int) : prey F (wv τ) p d = if fsB F (τ 3 0 0 p) (τ 2 0 0 (τ 4 0 0 p)) (τ 5 0 0 p) d then -1
  else if pIn (wv τ) (τ 4 0 0 p) (rdB (τ 3 0 0 p) (τ 2 0 0 (τ 4 0 0 p)) (τ 5 0 0 p) d % 30 % 10) ≠ -1 then pIn (wv τ) (τ 4 0 0 p) (rdB (τ 3 0 0 p) (τ 2 0 0 (τ 4 0 0 p)) (τ 5 0 0 p) d % 30 % 10)
  else if pIn (wv τ) (τ 4 0 0 p - 1) (rdB (τ 3 0 0 p) (τ 2 0 0 (τ 4 0 0 p)) (τ 5 0 0 p) d % 30 % 10) ≠ -1 then pIn (wv τ) (τ 4 0 0 p - 1) (rdB (τ 3 0 0 p) (τ 2 0 0 (τ 4 0 0 p)) (τ 5 0 0 p) d % 30 % 10)
  else pIn (wv τ) (τ 4 0 0 p + 1) (rdB (τ 3 0 0 p) (τ 2 0 0 (τ 4 0 0 p)) (τ 5 0 0 p) d % 30 % 10) := rfl
theorem pInT (τ : St) (c nm : Int) : pIn (wv τ) c nm = lst (fun f => decide (τ 7 0 0 f = c) && decide (τ 8 0 0 f = -1) && decide (τ 6 0 0 f ≠ nm)) (τ 0 0 0 9).toNat 0 := rfl
theorem lst_s (p : Int → Bool) (n : Nat) (i : Int) : lst p (n + 1) i = if p i then i else lst p n (i + 1) := rfl
theorem mk5_c {p q : Int → Bool} (h : ∀ f : Int, 0 ≤ f → f < 5 → p f = q f) : mk5 p = mk5 q := by
  unfold mk5
  rw [h 0 (by decide) (by decide), h 1 (by decide) (by decide), h 2 (by decide) (by decide), h 3 (by decide) (by decide), h 4 (by decide) (by decide)]
theorem mk5_bd (p : Int → Bool) : 0 ≤ mk5 p ∧ mk5 p ≤ 31 := by
  unfold mk5
  repeat' split
  all_goals omega
theorem or5b (b0 b1 b2 b3 b4 : Bool) {f : Int} (h0 : 0 ≤ f) (h1 : f < 5) : iN ((if b0 = true then 1 else 0) + (if b1 = true then 2 else 0) + (if b2 = true then 4 else 0) + (if b3 = true then 8 else 0) + (if b4 = true then 16 else 0)) ||| (iN 1 <<< (iN f &&& 31)) = iN ((if (b0 || decide (0 = f)) = true then 1 else 0) + (if (b1 || decide (1 = f)) = true then 2 else 0) + (if (b2 || decide (2 = f)) = true then 4 else 0) + (if (b3 || decide (3 = f)) = true then 8 else 0) + (if (b4 || decide (4 = f)) = true then 16 else 0)) := by
  refine five (P := fun f => iN ((if b0 = true then 1 else 0) + (if b1 = true then 2 else 0) + (if b2 = true then 4 else 0) + (if b3 = true then 8 else 0) + (if b4 = true then 16 else 0)) ||| (iN 1 <<< (iN f &&& 31)) = iN ((if (b0 || decide (0 = f)) = true then 1 else 0) + (if (b1 || decide (1 = f)) = true then 2 else 0) + (if (b2 || decide (2 = f)) = true then 4 else 0) + (if (b3 || decide (3 = f)) = true then 8 else 0) + (if (b4 || decide (4 = f)) = true then 16 else 0))) h0 h1 ?_ ?_ ?_ ?_ ?_
  all_goals (revert b0 b1 b2 b3 b4; decide +kernel)
theorem or5 (p : Int → Bool) {f : Int} (h0 : 0 ≤ f) (h1 : f < 5) : iN (mk5 p) ||| (iN 1 <<< (iN f &&& 31)) = iN (mk5 (fun g => p g || decide (g = f))) := or5b (p 0) (p 1) (p 2) (p 3) (p 4) h0 h1
theorem goA_keep (F : Int → Bool) (W : Wd) (f : Int) (h : W 6 f ≠ -1) : ∀ n : Nat, goA F W n 6 f = W 6 f
  | 0 => rfl
  | n + 1 => by
    have ih := goA_keep F W f h n
    rw [goA]
    split
    · exact ih
    · rename_i hp
      by_cases e : f = prey F (goA F W n) n (W 0 2)
      · have := prey_un hp
        rw [← e, ih] at this
        exact absurd this h
      · rw [wu_i e]
        exact ih
theorem goA_out {F : Int → Bool} {W : Wd} {D : Int} (h : WOk D W) {f : Int} (hf : f < 0 ∨ W 0 1 ≤ f) : ∀ n : Nat, n ≤ 4 → goA F W n 6 f = W 6 f
  | 0, _ => rfl
  | n + 1, hn => by
    have ih := goA_out (F := F) h hf n (by omega)
    rw [goA]
    split
    · exact ih
    · rename_i hp
      have hb := prey_bd (F := F) (goA_ok (F := F) h n (by omega)) n (W 0 2)
      rw [goA_r F W n 0 1 (by decide)] at hb
      rw [wu_i (by omega)]
      exact ih
theorem dB_0 (W : Wd) : dB W W = 0 := by
  have : dB W W = mk5 (fun _ => false) := mk5_c (fun f _ _ => by
    by_cases h : W 6 f = -1
    · simp [h]
    · simp [h])
  rw [this]
  rfl
theorem dB_s {W X : Wd} {f v : Int} (h0 : W 6 f = -1) (h1 : f < W 0 1) (hv : v ≠ -1) : mk5 (fun g => (decide (g < W 0 1) && decide (W 6 g = -1) && decide (X 6 g ≠ -1)) || decide (g = f)) = dB W (wu X 6 f v) := mk5_c (fun g _ _ => by
  by_cases e : g = f
  · subst e
    rw [wu_s]
    simp [h0, h1, hv]
  · rw [wu_i e]
    simp [e])
theorem dB_or {F : Int → Bool} {W : Wd} {n : Nat} {D d : Int} (h : WOk D W) (hn : n ≤ 4) (hp : prey F (goA F W n) n d ≠ -1) : iN (dB W (goA F W n)) ||| (iN 1 <<< (iN (prey F (goA F W n) n d) &&& 31)) = iN (dB W (wu (goA F W n) 6 (prey F (goA F W n) n d) n)) := by
  have hb := prey_bd (F := F) (goA_ok (F := F) h n hn) n d
  rw [goA_r F W n 0 1 (by decide)] at hb
  have hu := prey_un hp
  have h0 : W 6 (prey F (goA F W n) n d) = -1 := by
    by_cases e : W 6 (prey F (goA F W n) n d) = -1
    · exact e
    · rw [goA_keep F W _ e n] at hu
      exact hu
  have hnf := h.2.1
  rw [dB, or5 _ (by omega) (by omega), dB_s (v := (n : Int)) h0 hb.2 (by omega)]
theorem wv_up8 (τ : St) (f v : Int) : wv (up τ 8 0 0 f v) = wu (wv τ) 6 f v := by
  funext r i
  by_cases h0 : r = 0
  · subst h0; simp [wv, wu, up]
  · by_cases h7 : r = 7
    · subst h7; simp [wv, wu, up]
    · by_cases h6 : r = 6
      · subst h6; simp [wv, wu, up]
      · have h8 : ¬ r + 2 = 8 := by omega
        simp [wv, wu, up, h0, h7, h6, h8]
theorem wv_up3 (τ : St) (v : Int) : wv (up τ 0 0 0 3 v) = wu (wv τ) 0 2 v := by
  funext r i
  by_cases h0 : r = 0
  · subst h0
    by_cases i0 : i = 0
    · subst i0; simp [wv, wu, up]
    · by_cases i1 : i = 1
      · subst i1; simp [wv, wu, up]
      · by_cases i2 : i = 2
        · subst i2; simp [wv, wu, up]
        · simp [wv, wu, up, i0, i1, i2]
  · simp [wv, wu, up, h0]
def goTA (τ : St) : Nat → St
  | 0 => τ
  | n + 1 => if prey (fv (goTA τ n)) (wv (goTA τ n)) n (goTA τ n 0 0 0 3) = -1 then goTA τ n else up (goTA τ n) 8 0 0 (prey (fv (goTA τ n)) (wv (goTA τ n)) n (goTA τ n 0 0 0 3)) n
def goT (τ : St) : St := up (goTA τ (τ 0 0 0 5).toNat) 0 0 0 3 (goTA τ (τ 0 0 0 5).toNat 0 0 0 3 + 1)
theorem goTA_o (τ : St) {a : Nat} (h : a ≠ 8) (b : Nat) (c d : Int) : ∀ n : Nat, goTA τ n a b c d = τ a b c d
  | 0 => rfl
  | n + 1 => by
    rw [goTA]
    split
    · exact goTA_o τ h b c d n
    · rw [up_n (by omega)]
      exact goTA_o τ h b c d n
theorem fv_goTA (τ : St) (n : Nat) : fv (goTA τ n) = fv τ := by
  unfold fv
  rw [goTA_o τ (by decide), show goTA τ n 1 0 0 = τ 1 0 0 from funext fun d => goTA_o τ (by decide) 0 0 d n]
theorem wv_goTA (τ : St) : ∀ n : Nat, wv (goTA τ n) = goA (fv τ) (wv τ) n
  | 0 => rfl
  | n + 1 => by
    have ih := wv_goTA τ n
    have hd : goTA τ n 0 0 0 3 = wv τ 0 2 := goTA_o τ (by decide) 0 0 3 n
    rw [goTA, goA, fv_goTA, ih, hd]
    split
    · exact ih
    · rw [wv_up8, ih]
theorem wv_goT (τ : St) : wv (goT τ) = goD (fv τ) (wv τ) := by
  unfold goT goD
  rw [wv_up3, wv_goTA, goTA_o τ (by decide)]
  rfl
theorem goT_o (τ : St) {a : Nat} (h : a ≠ 8) (b : Nat) (c d : Int) (h2 : ¬ (a = 0 ∧ b = 0 ∧ c = 0 ∧ d = 3)) : goT τ a b c d = τ a b c d := by
  unfold goT
  rw [up_n h2]
  exact goTA_o τ h b c d _
theorem fv_goT (τ : St) : fv (goT τ) = fv τ := by
  unfold fv
  rw [goT_o τ (by decide) _ _ _ (by decide), show goT τ 1 0 0 = τ 1 0 0 from funext fun d => goT_o τ (by decide) 0 0 d (by omega)]
set_option maxHeartbeats 4000000 in
set_option maxRecDepth 10000 in
theorem c_X9_fasts (l : Launch) (G : GM) (τ : St) (D : Int) (hW : WOk D (wv τ)) (hD : D ≤ 1000000) (hF : FOk (τ 0 0 0 1) (τ 1 0 0)) (p d : Int) (p0 : 0 ≤ p) (p1 : p < 4) (d0 : 0 ≤ d) (d1 : d ≤ 10000000) : Ct l (YM G) yX9_fasts (.code yX9_fasts cX9_fasts 3 (some .boolean)) 2 [.ref (aM G 0), .int (iN p), .int (iN d)] τ (fun v τ' => v = some (.int (bI (fsB (fv τ) (τ 3 0 0 p) (τ 2 0 0 (τ 4 0 0 p)) (τ 5 0 0 p) d))) ∧ τ' = τ) := by
  refine Ct_of (own := RX9) [some (.ref (aM G 0)), some (.int (iN p)), some (.int (iN d))] rfl rfl (Nat.le_of_ble_eq_true rfl) rfl ?_
  intro E hE hM hl hR
  obtain ⟨hnp, hnf, hday, hpp, hff, hcc⟩ := WT_of hW
  have q1 := hpp p (by omega) (by omega)
  have q2 := hcc (τ 4 0 0 p) (by omega) (by omega)
  refine x_aload_n (pc' := 1) hE dX9_fasts_0 rfl rfl ?_
  refine x_aload_n (pc' := 2) hE dX9_fasts_1 rfl rfl ?_
  refine gM_6 (pc' := 5) hE hM tF_X9_16 dX9_fasts_2 rfl ?_
  refine x_iload_n (pc' := 6) hE dX9_fasts_5 rfl rfl ?_
  refine aM_3 (pc' := 7) hE hM (by omega) (by omega) dX9_fasts_6 rfl ?_
  refine x_aload_n (pc' := 8) hE dX9_fasts_7 rfl rfl ?_
  refine gM_4 (pc' := 11) hE hM tF_X9_13 dX9_fasts_8 rfl ?_
  refine x_aload_n (pc' := 12) hE dX9_fasts_11 rfl rfl ?_
  refine gM_7 (pc' := 15) hE hM tF_X9_19 dX9_fasts_12 rfl ?_
  refine x_iload_n (pc' := 16) hE dX9_fasts_15 rfl rfl ?_
  refine aM_4 (pc' := 17) hE hM (by omega) (by omega) dX9_fasts_16 rfl ?_
  refine aM_2 (pc' := 18) hE hM (by omega) (by omega) dX9_fasts_17 rfl ?_
  refine x_aload_n (pc' := 19) hE dX9_fasts_18 rfl rfl ?_
  refine gM_8 (pc' := 22) hE hM tF_X9_22 dX9_fasts_19 rfl ?_
  refine x_iload_n (pc' := 23) hE dX9_fasts_22 rfl rfl ?_
  refine aM_5 (pc' := 24) hE hM (by omega) (by omega) dX9_fasts_23 rfl ?_
  refine x_iload_n (pc' := 25) hE dX9_fasts_24 rfl rfl ?_
  refine x_cV1 (pc' := 28) hE hM (okM G) hl hR (c_X9_fastsBy l G _ _ _ _ _ (by assumption) (by omega) (by omega) (by omega) (by omega)) kX9_fastsBy tM_X9_129 (rcvM hM) (by decide) dX9_fasts_25 rfl rfl (Nat.le_of_ble_eq_true rfl) (fun σ1 e1 => ?_)
  replace e1 := e1.symm
  subst e1
  refine x_zret hE dX9_fasts_28 (nz_b _) ?_
  exact ⟨rfl, rfl⟩
set_option maxHeartbeats 4000000 in
set_option maxRecDepth 10000 in
theorem c_X9_readsNow (l : Launch) (G : GM) (τ : St) (D : Int) (hW : WOk D (wv τ)) (hD : D ≤ 1000000) (hF : FOk (τ 0 0 0 1) (τ 1 0 0)) (p d : Int) (p0 : 0 ≤ p) (p1 : p < 4) (d0 : 0 ≤ d) (d1 : d ≤ 10000000) : Ct l (YM G) yX9_readsNow (.code yX9_readsNow cX9_readsNow 3 (some .int)) 1 [.ref (aM G 0), .int (iN p), .int (iN d)] τ (fun v τ' => v = some (.int (iN (rdB (τ 3 0 0 p) (τ 2 0 0 (τ 4 0 0 p)) (τ 5 0 0 p) d))) ∧ τ' = τ) := by
  refine Ct_of (own := RX9) [some (.ref (aM G 0)), some (.int (iN p)), some (.int (iN d))] rfl rfl (Nat.le_of_ble_eq_true rfl) rfl ?_
  intro E hE hM hl hR
  obtain ⟨hnp, hnf, hday, hpp, hff, hcc⟩ := WT_of hW
  have q1 := hpp p (by omega) (by omega)
  have q2 := hcc (τ 4 0 0 p) (by omega) (by omega)
  refine x_aload_n (pc' := 1) hE dX9_readsNow_0 rfl rfl ?_
  refine gM_6 (pc' := 4) hE hM tF_X9_16 dX9_readsNow_1 rfl ?_
  refine x_iload_n (pc' := 5) hE dX9_readsNow_4 rfl rfl ?_
  refine aM_3 (pc' := 6) hE hM (by omega) (by omega) dX9_readsNow_5 rfl ?_
  refine x_aload_n (pc' := 7) hE dX9_readsNow_6 rfl rfl ?_
  refine gM_4 (pc' := 10) hE hM tF_X9_13 dX9_readsNow_7 rfl ?_
  refine x_aload_n (pc' := 11) hE dX9_readsNow_10 rfl rfl ?_
  refine gM_7 (pc' := 14) hE hM tF_X9_19 dX9_readsNow_11 rfl ?_
  refine x_iload_n (pc' := 15) hE dX9_readsNow_14 rfl rfl ?_
  refine aM_4 (pc' := 16) hE hM (by omega) (by omega) dX9_readsNow_15 rfl ?_
  refine aM_2 (pc' := 17) hE hM (by omega) (by omega) dX9_readsNow_16 rfl ?_
  refine x_aload_n (pc' := 18) hE dX9_readsNow_17 rfl rfl ?_
  refine gM_8 (pc' := 21) hE hM tF_X9_22 dX9_readsNow_18 rfl ?_
  refine x_iload_n (pc' := 22) hE dX9_readsNow_21 rfl rfl ?_
  refine aM_5 (pc' := 23) hE hM (by omega) (by omega) dX9_readsNow_22 rfl ?_
  refine x_iload_n (pc' := 24) hE dX9_readsNow_23 rfl rfl ?_
  refine x_cS1 (pc' := 27) hE hM (okM G) hl hR (c_X9_readsBy l G _ _ _ _ _ (by omega) (by omega) (by omega) (by omega)) kX9_readsBy tM_X9_125 (by decide) dX9_readsNow_24 rfl rfl (Nat.le_of_ble_eq_true rfl) (fun σ1 e1 => ?_)
  replace e1 := e1.symm
  subst e1
  refine x_iret hE dX9_readsNow_27 ?_
  exact ⟨rfl, rfl⟩
set_option maxHeartbeats 4000000 in
set_option maxRecDepth 10000 in
theorem c_X9_preyIn (l : Launch) (G : GM) (τ : St) (D : Int) (hW : WOk D (wv τ)) (c nm : Int) (c0 : -10 ≤ c) (c1 : c ≤ 10) (e0 : 0 ≤ nm) (e1 : nm ≤ 9) : Ct l (YM G) yX9_preyIn (.code yX9_preyIn cX9_preyIn 5 (some .int)) 0 [.ref (aM G 0), .int (iN c), .int (iN nm)] τ (fun v τ' => v = some (.int (iN (pIn (wv τ) c nm))) ∧ τ' = τ) := by
  refine Ct_of (own := RX9) [some (.ref (aM G 0)), some (.int (iN c)), some (.int (iN nm)), none, none] rfl rfl (Nat.le_of_ble_eq_true rfl) rfl ?_
  intro E hE hM hl hR
  obtain ⟨hnp, hnf, hday, hpp, hff, hcc⟩ := WT_of hW
  
  have loop : ∀ (n : Nat) (k : Int), -1 ≤ k → k < τ 0 0 0 9 → k + 1 = n → VV E 5 (AS (YM G)) (Qm (YM G) (fun v τ' => v = some (.int (iN (pIn (wv τ) c nm))) ∧ τ' = τ) E) (Rh (YM G) (τ)) 10 [some (.ref (aM G 0)), some (.int (iN c)), some (.int (iN nm)), some (.int (iN (lst (fun f => decide (τ 7 0 0 f = c) && decide (τ 8 0 0 f = -1) && decide (τ 6 0 0 f ≠ nm)) (τ 0 0 0 9 - (k + 1)).toNat (k + 1)))), some (.int (iN (k)))] [] := by
    intro n
    induction n using Nat.strongRecOn with
    | _ n ih =>
    intro k g0 g1 g2
    refine x_iload (pc' := 12) hE dX9_preyIn_10 rfl rfl ?_
    refine x_iflt (tgt := 61) (pc' := 15) hE dX9_preyIn_12 (by decide) rfl ⟨by omega, by omega⟩ (fun h1 => ?_) (fun h1 => ?_)
    · refine x_iload_n (pc' := 62) hE dX9_preyIn_61 rfl rfl ?_
      refine x_iret hE dX9_preyIn_62 ?_
      have e : k = -1 := by omega
      subst e
      refine ⟨ri ?_, rfl⟩
      rw [pInT, show τ 0 0 0 9 - (-1 + 1) = τ 0 0 0 9 by omega]
      rfl
    · have q1 := hff k (by omega) (by omega)
      refine x_aload_n (pc' := 16) hE dX9_preyIn_15 rfl rfl ?_
      refine gM_11 (pc' := 19) hE hM tF_X9_28 dX9_preyIn_16 rfl ?_
      refine x_iload (pc' := 21) hE dX9_preyIn_19 rfl rfl ?_
      refine aM_7 (pc' := 22) hE hM (by omega) (by omega) dX9_preyIn_21 rfl ?_
      refine x_iload_n (pc' := 23) hE dX9_preyIn_22 rfl rfl ?_
      refine x_icmpne (tgt := 53) (pc' := 26) hE dX9_preyIn_23 (by decide) rfl ⟨by omega, by omega⟩ ⟨by omega, by omega⟩ (fun h2 => ?_) (fun h2 => ?_)
      · refine x_iload_n (pc' := 54) hE dX9_preyIn_53 rfl rfl ?_
        refine x_istore_n (pc' := 55) hE dX9_preyIn_54 rfl (by decide) rfl rfl ?_
        dsimp only [List.set]
        refine x_iinc (pc' := 58) hE dX9_preyIn_55 rfl rfl (by decide) rfl rfl ?_
        dsimp only [List.set]
        refine x_goto (tgt := 10) hE dX9_preyIn_58 (by decide) ?_
        have e2 : (τ 0 0 0 9 - (k - 1 + 1)).toNat = (τ 0 0 0 9 - (k + 1)).toNat + 1 := by omega
        refine x_lve (lv' := [some (.ref (aM G 0)), some (.int (iN c)), some (.int (iN nm)), some (.int (iN (lst (fun f => decide (τ 7 0 0 f = c) && decide (τ 8 0 0 f = -1) && decide (τ 6 0 0 f ≠ nm)) (τ 0 0 0 9 - (k - 1 + 1)).toNat (k - 1 + 1)))), some (.int (iN (k - 1)))]) ?_ (ih (n - 1) (by omega) (k - 1) (by omega) (by omega) (by omega))
        rw [e2, lst_s, show k - 1 + 1 = k by omega]
        simp [h1, h2, Int.sub_eq_add_neg]
      · refine x_aload_n (pc' := 27) hE dX9_preyIn_26 rfl rfl ?_
        refine gM_12 (pc' := 30) hE hM tF_X9_31 dX9_preyIn_27 rfl ?_
        refine x_iload (pc' := 32) hE dX9_preyIn_30 rfl rfl ?_
        refine aM_8 (pc' := 33) hE hM (by omega) (by omega) dX9_preyIn_32 rfl ?_
        refine x_iconst (pc' := 34) hE dX9_preyIn_33 rfl ?_
        refine x_icmpne (tgt := 53) (pc' := 37) hE dX9_preyIn_34 (by decide) rfl ⟨by omega, by omega⟩ ⟨by omega, by omega⟩ (fun h3 => ?_) (fun h3 => ?_)
        · refine x_iload_n (pc' := 54) hE dX9_preyIn_53 rfl rfl ?_
          refine x_istore_n (pc' := 55) hE dX9_preyIn_54 rfl (by decide) rfl rfl ?_
          dsimp only [List.set]
          refine x_iinc (pc' := 58) hE dX9_preyIn_55 rfl rfl (by decide) rfl rfl ?_
          dsimp only [List.set]
          refine x_goto (tgt := 10) hE dX9_preyIn_58 (by decide) ?_
          have e2 : (τ 0 0 0 9 - (k - 1 + 1)).toNat = (τ 0 0 0 9 - (k + 1)).toNat + 1 := by omega
          refine x_lve (lv' := [some (.ref (aM G 0)), some (.int (iN c)), some (.int (iN nm)), some (.int (iN (lst (fun f => decide (τ 7 0 0 f = c) && decide (τ 8 0 0 f = -1) && decide (τ 6 0 0 f ≠ nm)) (τ 0 0 0 9 - (k - 1 + 1)).toNat (k - 1 + 1)))), some (.int (iN (k - 1)))]) ?_ (ih (n - 1) (by omega) (k - 1) (by omega) (by omega) (by omega))
          rw [e2, lst_s, show k - 1 + 1 = k by omega]
          simp [h1, h2, h3, Int.sub_eq_add_neg]
        · refine x_aload_n (pc' := 38) hE dX9_preyIn_37 rfl rfl ?_
          refine gM_10 (pc' := 41) hE hM tF_X9_25 dX9_preyIn_38 rfl ?_
          refine x_iload (pc' := 43) hE dX9_preyIn_41 rfl rfl ?_
          refine aM_6 (pc' := 44) hE hM (by omega) (by omega) dX9_preyIn_43 rfl ?_
          refine x_iload_n (pc' := 45) hE dX9_preyIn_44 rfl rfl ?_
          refine x_icmpeq (tgt := 53) (pc' := 48) hE dX9_preyIn_45 (by decide) rfl ⟨by omega, by omega⟩ ⟨by omega, by omega⟩ (fun h4 => ?_) (fun h4 => ?_)
          · refine x_iload_n (pc' := 54) hE dX9_preyIn_53 rfl rfl ?_
            refine x_istore_n (pc' := 55) hE dX9_preyIn_54 rfl (by decide) rfl rfl ?_
            dsimp only [List.set]
            refine x_iinc (pc' := 58) hE dX9_preyIn_55 rfl rfl (by decide) rfl rfl ?_
            dsimp only [List.set]
            refine x_goto (tgt := 10) hE dX9_preyIn_58 (by decide) ?_
            have e2 : (τ 0 0 0 9 - (k - 1 + 1)).toNat = (τ 0 0 0 9 - (k + 1)).toNat + 1 := by omega
            refine x_lve (lv' := [some (.ref (aM G 0)), some (.int (iN c)), some (.int (iN nm)), some (.int (iN (lst (fun f => decide (τ 7 0 0 f = c) && decide (τ 8 0 0 f = -1) && decide (τ 6 0 0 f ≠ nm)) (τ 0 0 0 9 - (k - 1 + 1)).toNat (k - 1 + 1)))), some (.int (iN (k - 1)))]) ?_ (ih (n - 1) (by omega) (k - 1) (by omega) (by omega) (by omega))
            rw [e2, lst_s, show k - 1 + 1 = k by omega]
            simp [h1, h2, h3, h4, Int.sub_eq_add_neg]
          · refine x_iload (pc' := 50) hE dX9_preyIn_48 rfl rfl ?_
            refine x_goto (tgt := 54) hE dX9_preyIn_50 (by decide) ?_
            refine x_istore_n (pc' := 55) hE dX9_preyIn_54 rfl (by decide) rfl rfl ?_
            dsimp only [List.set]
            refine x_iinc (pc' := 58) hE dX9_preyIn_55 rfl rfl (by decide) rfl rfl ?_
            dsimp only [List.set]
            refine x_goto (tgt := 10) hE dX9_preyIn_58 (by decide) ?_
            have e2 : (τ 0 0 0 9 - (k - 1 + 1)).toNat = (τ 0 0 0 9 - (k + 1)).toNat + 1 := by omega
            refine x_lve (lv' := [some (.ref (aM G 0)), some (.int (iN c)), some (.int (iN nm)), some (.int (iN (lst (fun f => decide (τ 7 0 0 f = c) && decide (τ 8 0 0 f = -1) && decide (τ 6 0 0 f ≠ nm)) (τ 0 0 0 9 - (k - 1 + 1)).toNat (k - 1 + 1)))), some (.int (iN (k - 1)))]) ?_ (ih (n - 1) (by omega) (k - 1) (by omega) (by omega) (by omega))
            rw [e2, lst_s, show k - 1 + 1 = k by omega]
            simp [h1, h2, h3, h4, Int.sub_eq_add_neg]
  refine x_iconst (pc' := 1) hE dX9_preyIn_0 rfl ?_
  refine x_istore_n (pc' := 2) hE dX9_preyIn_1 rfl (by decide) rfl rfl ?_
  dsimp only [List.set]
  refine x_aload_n (pc' := 3) hE dX9_preyIn_2 rfl rfl ?_
  refine gM_9 (pc' := 6) hE hM tF_X9_133 dX9_preyIn_3 rfl ?_
  refine x_iconst (pc' := 7) hE dX9_preyIn_6 rfl ?_
  refine x_isub (pc' := 8) hE dX9_preyIn_7 rfl ?_
  refine x_istore (pc' := 10) hE dX9_preyIn_8 rfl (by decide) rfl rfl ?_
  dsimp only [List.set]
  refine x_lve (lv' := [some (.ref (aM G 0)), some (.int (iN c)), some (.int (iN nm)), some (.int (iN (lst (fun f => decide (τ 7 0 0 f = c) && decide (τ 8 0 0 f = -1) && decide (τ 6 0 0 f ≠ nm)) (τ 0 0 0 9 - (τ 0 0 0 9 - 1 + 1)).toNat (τ 0 0 0 9 - 1 + 1)))), some (.int (iN (τ 0 0 0 9 - 1)))]) ?_ (loop (τ 0 0 0 9).toNat (τ 0 0 0 9 - 1) (by omega) (by omega) (by omega))
  rw [show (τ 0 0 0 9 - (τ 0 0 0 9 - 1 + 1)).toNat = 0 by omega]
  rfl
set_option maxHeartbeats 4000000 in
set_option maxRecDepth 10000 in
theorem c_X9_prey (l : Launch) (G : GM) (τ : St) (D : Int) (hW : WOk D (wv τ)) (hD : D ≤ 1000000) (hF : FOk (τ 0 0 0 1) (τ 1 0 0)) (p d : Int) (p0 : 0 ≤ p) (p1 : p < 4) (d0 : 0 ≤ d) (d1 : d ≤ 10000000) : Ct l (YM G) yX9_prey (.code yX9_prey cX9_prey 6 (some .int)) 3 [.ref (aM G 0), .int (iN p), .int (iN d)] τ (fun v τ' => v = some (.int (iN (prey (fv τ) (wv τ) p d))) ∧ τ' = τ) := by
  refine Ct_of (own := RX9) [some (.ref (aM G 0)), some (.int (iN p)), some (.int (iN d)), none, none, none] rfl rfl (Nat.le_of_ble_eq_true rfl) rfl ?_
  intro E hE hM hl hR
  obtain ⟨hnp, hnf, hday, hpp, hff, hcc⟩ := WT_of hW
  have q1 := hpp p (by omega) (by omega)
  have q2 := hcc (τ 4 0 0 p) (by omega) (by omega)
  have q3 := rdB_bd (k := τ 3 0 0 p) (f := τ 2 0 0 (τ 4 0 0 p)) (g := τ 5 0 0 p) (d := d) (by omega) (by omega) (by omega)
  have b1 := pIn_bd hW (τ 4 0 0 p) (rdB (τ 3 0 0 p) (τ 2 0 0 (τ 4 0 0 p)) (τ 5 0 0 p) d % 30 % 10)
  have b2 := pIn_bd hW (τ 4 0 0 p - 1) (rdB (τ 3 0 0 p) (τ 2 0 0 (τ 4 0 0 p)) (τ 5 0 0 p) d % 30 % 10)
  have b3 : wv τ 0 1 = τ 0 0 0 9 := rfl
  refine x_aload_n (pc' := 1) hE dX9_prey_0 rfl rfl ?_
  refine x_iload_n (pc' := 2) hE dX9_prey_1 rfl rfl ?_
  refine x_iload_n (pc' := 3) hE dX9_prey_2 rfl rfl ?_
  refine x_cV1 (pc' := 6) hE hM (okM G) hl hR (c_X9_fasts l G _ D (by assumption) (by assumption) (by assumption) _ _ (by omega) (by omega) (by omega) (by omega)) kX9_fasts tM_X9_136 (rcvM hM) (by decide) dX9_prey_3 rfl rfl (Nat.le_of_ble_eq_true rfl) (fun σ1 e1 => ?_)
  replace e1 := e1.symm
  subst e1
  refine x_ifeqB (tgt := 11) (pc' := 9) hE dX9_prey_6 (by decide) rfl (fun h2 => ?_) (fun h2 => ?_)
  · try simp only [decide_eq_true_eq, decide_eq_false_iff_not] at h2
    refine x_aload_n (pc' := 12) hE dX9_prey_11 rfl rfl ?_
    refine x_iload_n (pc' := 13) hE dX9_prey_12 rfl rfl ?_
    refine x_iload_n (pc' := 14) hE dX9_prey_13 rfl rfl ?_
    refine x_cV1 (pc' := 17) hE hM (okM G) hl hR (c_X9_readsNow l G _ D (by assumption) (by assumption) (by assumption) _ _ (by omega) (by omega) (by omega) (by omega)) kX9_readsNow tM_X9_140 (rcvM hM) (by decide) dX9_prey_14 rfl rfl (Nat.le_of_ble_eq_true rfl) (fun σ3 e3 => ?_)
    replace e3 := e3.symm
    subst e3
    refine x_cS1 (pc' := 20) hE hM (okM G) hl hR (c_X9_nameOn l G _ _ (by omega) (by omega)) kX9_nameOn tM_X9_108 (by decide) dX9_prey_17 rfl rfl (Nat.le_of_ble_eq_true rfl) (fun σ4 e4 => ?_)
    replace e4 := e4.symm
    subst e4
    refine x_istore_n (pc' := 21) hE dX9_prey_20 rfl (by decide) rfl rfl ?_
    dsimp only [List.set]
    refine x_aload_n (pc' := 22) hE dX9_prey_21 rfl rfl ?_
    refine x_aload_n (pc' := 23) hE dX9_prey_22 rfl rfl ?_
    refine gM_7 (pc' := 26) hE hM tF_X9_19 dX9_prey_23 rfl ?_
    refine x_iload_n (pc' := 27) hE dX9_prey_26 rfl rfl ?_
    refine aM_4 (pc' := 28) hE hM (by omega) (by omega) dX9_prey_27 rfl ?_
    refine x_iload_n (pc' := 29) hE dX9_prey_28 rfl rfl ?_
    refine x_cV1 (pc' := 32) hE hM (okM G) hl hR (c_X9_preyIn l G _ D (by assumption) _ _ (by omega) (by omega) (by omega) (by omega)) kX9_preyIn tM_X9_143 (rcvM hM) (by decide) dX9_prey_29 rfl rfl (Nat.le_of_ble_eq_true rfl) (fun σ5 e5 => ?_)
    replace e5 := e5.symm
    subst e5
    refine x_istore (pc' := 34) hE dX9_prey_32 rfl (by decide) rfl rfl ?_
    dsimp only [List.set]
    refine x_aload_n (pc' := 35) hE dX9_prey_34 rfl rfl ?_
    refine x_aload_n (pc' := 36) hE dX9_prey_35 rfl rfl ?_
    refine gM_7 (pc' := 39) hE hM tF_X9_19 dX9_prey_36 rfl ?_
    refine x_iload_n (pc' := 40) hE dX9_prey_39 rfl rfl ?_
    refine aM_4 (pc' := 41) hE hM (by omega) (by omega) dX9_prey_40 rfl ?_
    refine x_iconst (pc' := 42) hE dX9_prey_41 rfl ?_
    refine x_isub (pc' := 43) hE dX9_prey_42 rfl ?_
    refine x_iload_n (pc' := 44) hE dX9_prey_43 rfl rfl ?_
    refine x_cV1 (pc' := 47) hE hM (okM G) hl hR (c_X9_preyIn l G _ D (by assumption) _ _ (by omega) (by omega) (by omega) (by omega)) kX9_preyIn tM_X9_143 (rcvM hM) (by decide) dX9_prey_44 rfl rfl (Nat.le_of_ble_eq_true rfl) (fun σ6 e6 => ?_)
    replace e6 := e6.symm
    subst e6
    refine x_istore (pc' := 49) hE dX9_prey_47 rfl (by decide) rfl rfl ?_
    dsimp only [List.set]
    refine x_iload (pc' := 51) hE dX9_prey_49 rfl rfl ?_
    refine x_iconst (pc' := 52) hE dX9_prey_51 rfl ?_
    refine x_icmpeq (tgt := 60) (pc' := 55) hE dX9_prey_52 (by decide) rfl ⟨by omega, by omega⟩ ⟨by omega, by omega⟩ (fun h7 => ?_) (fun h7 => ?_)
    · refine x_iload (pc' := 62) hE dX9_prey_60 rfl rfl ?_
      refine x_iconst (pc' := 63) hE dX9_prey_62 rfl ?_
      refine x_icmpeq (tgt := 71) (pc' := 66) hE dX9_prey_63 (by decide) rfl ⟨by omega, by omega⟩ ⟨by omega, by omega⟩ (fun h8 => ?_) (fun h8 => ?_)
      · refine x_aload_n (pc' := 72) hE dX9_prey_71 rfl rfl ?_
        refine x_aload_n (pc' := 73) hE dX9_prey_72 rfl rfl ?_
        refine gM_7 (pc' := 76) hE hM tF_X9_19 dX9_prey_73 rfl ?_
        refine x_iload_n (pc' := 77) hE dX9_prey_76 rfl rfl ?_
        refine aM_4 (pc' := 78) hE hM (by omega) (by omega) dX9_prey_77 rfl ?_
        refine x_iconst (pc' := 79) hE dX9_prey_78 rfl ?_
        refine x_iadd (pc' := 80) hE dX9_prey_79 rfl ?_
        refine x_iload_n (pc' := 81) hE dX9_prey_80 rfl rfl ?_
        refine x_cV1 (pc' := 84) hE hM (okM G) hl hR (c_X9_preyIn l G _ D (by assumption) _ _ (by omega) (by omega) (by omega) (by omega)) kX9_preyIn tM_X9_143 (rcvM hM) (by decide) dX9_prey_81 rfl rfl (Nat.le_of_ble_eq_true rfl) (fun σ9 e9 => ?_)
        replace e9 := e9.symm
        subst e9
        refine x_iret hE dX9_prey_84 ?_
        refine ⟨ri ?_, rfl⟩
        rw [preyT]
        generalize rdB (τ 3 0 0 p) (τ 2 0 0 (τ 4 0 0 p)) (τ 5 0 0 p) d % 30 % 10 = nm at *
        simp [h2, h7, h8]
      · refine x_iload (pc' := 68) hE dX9_prey_66 rfl rfl ?_
        refine x_goto (tgt := 84) hE dX9_prey_68 (by decide) ?_
        refine x_iret hE dX9_prey_84 ?_
        refine ⟨ri ?_, rfl⟩
        rw [preyT]
        generalize rdB (τ 3 0 0 p) (τ 2 0 0 (τ 4 0 0 p)) (τ 5 0 0 p) d % 30 % 10 = nm at *
        simp [h2, h7, h8]
    · refine x_iload (pc' := 57) hE dX9_prey_55 rfl rfl ?_
      refine x_goto (tgt := 84) hE dX9_prey_57 (by decide) ?_
      refine x_iret hE dX9_prey_84 ?_
      refine ⟨ri ?_, rfl⟩
      rw [preyT]
      generalize rdB (τ 3 0 0 p) (τ 2 0 0 (τ 4 0 0 p)) (τ 5 0 0 p) d % 30 % 10 = nm at *
      simp [h2, h7]
  · try simp only [decide_eq_true_eq, decide_eq_false_iff_not] at h2
    refine x_iconst (pc' := 10) hE dX9_prey_9 rfl ?_
    refine x_iret hE dX9_prey_10 ?_
    refine ⟨ri ?_, rfl⟩
    rw [preyT]
    generalize rdB (τ 3 0 0 p) (τ 2 0 0 (τ 4 0 0 p)) (τ 5 0 0 p) d % 30 % 10 = nm at *
    simp [h2]
set_option maxHeartbeats 4000000 in
set_option maxRecDepth 10000 in
theorem c_X9_goDay (l : Launch) (G : GM) (τ : St) (D : Int) (hW : WOk D (wv τ)) (hD : D ≤ 1000000) (hF : FOk (τ 0 0 0 1) (τ 1 0 0))  : Ct l (YM G) yX9_goDay (.code yX9_goDay cX9_goDay 4 (some .int)) 4 [.ref (aM G 0)] τ (fun v τ' => v = some (.int (iN (dB (wv τ) (goD (fv τ) (wv τ))))) ∧ τ' = goT τ) := by
  refine Ct_of (own := RX9) [some (.ref (aM G 0)), none, none, none] rfl rfl (Nat.le_of_ble_eq_true rfl) rfl ?_
  intro E hE hM hl hR
  obtain ⟨hnp, hnf, hday, hpp, hff, hcc⟩ := WT_of hW
  
  have loop : ∀ (n : Nat) (k : Nat), (k : Int) ≤ τ 0 0 0 5 → τ 0 0 0 5 - k = n → VV E 4 (AS (YM G)) (Qm (YM G) (fun v τ' => v = some (.int (iN (dB (wv τ) (goD (fv τ) (wv τ))))) ∧ τ' = goT τ) E) (Rh (YM G) (goTA τ k)) 4 [some (.ref (aM G 0)), some (.int (iN (dB (wv τ) (wv (goTA τ (k)))))), some (.int (iN ((k : Nat) : Int))), none] [] := by
    intro n
    induction n using Nat.strongRecOn with
    | _ n ih =>
    intro k g1 g2
    have e5 : goTA τ k 0 0 0 5 = τ 0 0 0 5 := goTA_o τ (by decide) 0 0 5 k
    have e3 : goTA τ k 0 0 0 3 = τ 0 0 0 3 := goTA_o τ (by decide) 0 0 3 k
    have hWk : WOk D (wv (goTA τ k)) := by rw [wv_goTA]; exact goA_ok hW k (by omega)
    have hFk : FOk (goTA τ k 0 0 0 1) (goTA τ k 1 0 0) := by rw [goTA_o τ (by decide), show goTA τ k 1 0 0 = τ 1 0 0 from funext fun d => goTA_o τ (by decide) 0 0 d k]; exact hF
    have hnk : wv (goTA τ k) 0 1 = τ 0 0 0 9 := goTA_o τ (by decide) 0 0 9 k
    have hb := prey_bd (F := fv (goTA τ k)) hWk k (goTA τ k 0 0 0 3)
    refine x_iload_n (pc' := 5) hE dX9_goDay_4 rfl rfl ?_
    refine x_aload_n (pc' := 6) hE dX9_goDay_5 rfl rfl ?_
    refine gM_5 (pc' := 9) hE hM tF_X9_122 dX9_goDay_6 rfl ?_
    refine x_icmpge (tgt := 46) (pc' := 12) hE dX9_goDay_9 (by decide) rfl ⟨by omega, by omega⟩ ⟨by omega, by omega⟩ (fun h1 => ?_) (fun h1 => ?_)
    · refine x_aload_n (pc' := 47) hE dX9_goDay_46 rfl rfl ?_
      refine x_dup (pc' := 48) hE dX9_goDay_47 rfl rfl ?_
      refine gM_3 (pc' := 51) hE hM tF_X9_146 dX9_goDay_48 rfl ?_
      refine x_iconst (pc' := 52) hE dX9_goDay_51 rfl ?_
      refine x_iadd (pc' := 53) hE dX9_goDay_52 rfl ?_
      refine pM_3 (pc' := 56) hE hM tF_X9_146 dX9_goDay_53 rfl ?_
      refine x_iload_n (pc' := 57) hE dX9_goDay_56 rfl rfl ?_
      refine x_iret hE dX9_goDay_57 ?_
      have e : k = (τ 0 0 0 5).toNat := by omega
      subst e
      refine ⟨ri ?_, rfl⟩
      rw [wv_goTA]
      unfold dB
      refine mk5_c (fun f _ _ => ?_)
      rw [goD_6]
      rfl
    · refine x_aload_n (pc' := 13) hE dX9_goDay_12 rfl rfl ?_
      refine x_iload_n (pc' := 14) hE dX9_goDay_13 rfl rfl ?_
      refine x_aload_n (pc' := 15) hE dX9_goDay_14 rfl rfl ?_
      refine gM_3 (pc' := 18) hE hM tF_X9_146 dX9_goDay_15 rfl ?_
      refine x_cV1 (pc' := 21) hE hM (okM G) hl hR (c_X9_prey l G _ D (by assumption) (by assumption) (by assumption) _ _ (by omega) (by omega) (by omega) (by omega)) kX9_prey tM_X9_149 (rcvM hM) (by decide) dX9_goDay_18 rfl rfl (Nat.le_of_ble_eq_true rfl) (fun σ2 e2 => ?_)
      replace e2 := e2.symm
      subst e2
      refine x_istore_n (pc' := 22) hE dX9_goDay_21 rfl (by decide) rfl rfl ?_
      dsimp only [List.set]
      refine x_iload_n (pc' := 23) hE dX9_goDay_22 rfl rfl ?_
      refine x_iconst (pc' := 24) hE dX9_goDay_23 rfl ?_
      refine x_icmpeq (tgt := 40) (pc' := 27) hE dX9_goDay_24 (by decide) rfl ⟨by omega, by omega⟩ ⟨by omega, by omega⟩ (fun h3 => ?_) (fun h3 => ?_)
      · refine x_iinc (pc' := 43) hE dX9_goDay_40 rfl rfl (by decide) rfl rfl ?_
        dsimp only [List.set]
        refine x_goto (tgt := 4) hE dX9_goDay_43 (by decide) ?_
        have e6 : goTA τ (k + 1) = goTA τ k := by rw [goTA, if_pos h3]
        rw [← e6]
        refine x_lve (lv' := [some (.ref (aM G 0)), some (.int (iN (dB (wv τ) (wv (goTA τ (k + 1)))))), some (.int (iN ((k + 1 : Nat) : Int))), some (.int (iN (prey (fv (goTA τ k)) (wv (goTA τ k)) k (goTA τ k 0 0 0 3))))]) (by rw [e6]; rfl) ?_
        refine x_lvf (lv' := [some (.ref (aM G 0)), some (.int (iN (dB (wv τ) (wv (goTA τ (k + 1)))))), some (.int (iN ((k + 1 : Nat) : Int))), none]) ⟨Or.inr rfl, Or.inr rfl, Or.inr rfl, Or.inl rfl, trivial⟩ ?_
        exact ih (n - 1) (by omega) (k + 1) (by omega) (by omega)
      · refine x_aload_n (pc' := 28) hE dX9_goDay_27 rfl rfl ?_
        refine gM_12 (pc' := 31) hE hM tF_X9_31 dX9_goDay_28 rfl ?_
        refine x_iload_n (pc' := 32) hE dX9_goDay_31 rfl rfl ?_
        refine x_iload_n (pc' := 33) hE dX9_goDay_32 rfl rfl ?_
        refine sM_8 (pc' := 34) hE hM (by omega) (by omega) dX9_goDay_33 rfl ?_
        refine x_iload_n (pc' := 35) hE dX9_goDay_34 rfl rfl ?_
        refine x_iconst (pc' := 36) hE dX9_goDay_35 rfl ?_
        refine x_iload_n (pc' := 37) hE dX9_goDay_36 rfl rfl ?_
        refine x_ishl (pc' := 38) hE dX9_goDay_37 rfl ?_
        refine x_ior (pc' := 39) hE dX9_goDay_38 rfl ?_
        have e6 : goTA τ (k + 1) = up (goTA τ k) 8 0 0 (prey (fv (goTA τ k)) (wv (goTA τ k)) k (goTA τ k 0 0 0 3)) k := by rw [goTA, if_neg h3]
        refine x_st (st' := [.int (iN (dB (wv τ) (wv (goTA τ (k + 1)))))]) ?_ ?_
        · rw [e6, wv_up8]
          have hp := h3
          have e7 := fv_goTA τ k
          rw [wv_goTA τ k, e7] at hp ⊢
          rw [dB_or hW (by omega) hp]
        refine x_istore_n (pc' := 40) hE dX9_goDay_39 rfl (by decide) rfl rfl ?_
        dsimp only [List.set]
        refine x_iinc (pc' := 43) hE dX9_goDay_40 rfl rfl (by decide) rfl rfl ?_
        dsimp only [List.set]
        refine x_goto (tgt := 4) hE dX9_goDay_43 (by decide) ?_
        rw [← e6]
        refine x_lvf (lv' := [some (.ref (aM G 0)), some (.int (iN (dB (wv τ) (wv (goTA τ (k + 1)))))), some (.int (iN ((k + 1 : Nat) : Int))), none]) ⟨Or.inr rfl, Or.inr rfl, Or.inr rfl, Or.inl rfl, trivial⟩ ?_
        exact ih (n - 1) (by omega) (k + 1) (by omega) (by omega)
  refine x_iconst (pc' := 1) hE dX9_goDay_0 rfl ?_
  refine x_istore_n (pc' := 2) hE dX9_goDay_1 rfl (by decide) rfl rfl ?_
  dsimp only [List.set]
  refine x_iconst (pc' := 3) hE dX9_goDay_2 rfl ?_
  refine x_istore_n (pc' := 4) hE dX9_goDay_3 rfl (by decide) rfl rfl ?_
  dsimp only [List.set]
  refine x_lve (lv' := [some (.ref (aM G 0)), some (.int (iN (dB (wv τ) (wv (goTA τ (0)))))), some (.int (iN ((0 : Nat) : Int))), none]) (by rw [show goTA τ 0 = τ from rfl, dB_0]; rfl) ?_
  exact loop (τ 0 0 0 5).toNat 0 (by omega) (by omega)
set_option maxHeartbeats 4000000 in
set_option maxRecDepth 10000 in
theorem c_X9_eatenMany (l : Launch) (G : GM) (τ : St) (D : Int) (hW : WOk D (wv τ)) (p : Int) (p0 : 0 ≤ p) (p1 : p < 4) : Ct l (YM G) yX9_eatenMany (.code yX9_eatenMany cX9_eatenMany 4 (some .int)) 0 [.ref (aM G 0), .int (iN p)] τ (fun v τ' => v = some (.int (iN (eatP (wv τ) p))) ∧ τ' = τ) := by
  refine Ct_of (own := RX9) [some (.ref (aM G 0)), some (.int (iN p)), none, none] rfl rfl (Nat.le_of_ble_eq_true rfl) rfl ?_
  intro E hE hM hl hR
  obtain ⟨hnp, hnf, hday, hpp, hff, hcc⟩ := WT_of hW
  
  have loop : ∀ (n : Nat) (k : Int), 0 ≤ k → k ≤ τ 0 0 0 9 → τ 0 0 0 9 - k = n → VV E 4 (AS (YM G)) (Qm (YM G) (fun v τ' => v = some (.int (iN (eatP (wv τ) p))) ∧ τ' = τ) E) (Rh (YM G) (τ)) 4 [some (.ref (aM G 0)), some (.int (iN p)), some (.int (iN (cntU (fun f => decide (τ 8 0 0 f = p)) (k).toNat))), some (.int (iN (k)))] [] := by
    intro n
    induction n using Nat.strongRecOn with
    | _ n ih =>
    intro k g0 g1 g2
    have hb := cntU_bd (fun f => decide (τ 8 0 0 f = p)) k.toNat
    refine x_iload_n (pc' := 5) hE dX9_eatenMany_4 rfl rfl ?_
    refine x_aload_n (pc' := 6) hE dX9_eatenMany_5 rfl rfl ?_
    refine gM_9 (pc' := 9) hE hM tF_X9_133 dX9_eatenMany_6 rfl ?_
    refine x_icmpge (tgt := 36) (pc' := 12) hE dX9_eatenMany_9 (by decide) rfl ⟨by omega, by omega⟩ ⟨by omega, by omega⟩ (fun h1 => ?_) (fun h1 => ?_)
    · refine x_iload_n (pc' := 37) hE dX9_eatenMany_36 rfl rfl ?_
      refine x_iret hE dX9_eatenMany_37 ?_
      have e : k = τ 0 0 0 9 := by omega
      subst e
      exact ⟨rfl, rfl⟩
    · have q1 := hff k (by omega) (by omega)
      refine x_iload_n (pc' := 13) hE dX9_eatenMany_12 rfl rfl ?_
      refine x_aload_n (pc' := 14) hE dX9_eatenMany_13 rfl rfl ?_
      refine gM_12 (pc' := 17) hE hM tF_X9_31 dX9_eatenMany_14 rfl ?_
      refine x_iload_n (pc' := 18) hE dX9_eatenMany_17 rfl rfl ?_
      refine aM_8 (pc' := 19) hE hM (by omega) (by omega) dX9_eatenMany_18 rfl ?_
      refine x_iload_n (pc' := 20) hE dX9_eatenMany_19 rfl rfl ?_
      refine x_icmpne (tgt := 27) (pc' := 23) hE dX9_eatenMany_20 (by decide) rfl ⟨by omega, by omega⟩ ⟨by omega, by omega⟩ (fun h2 => ?_) (fun h2 => ?_)
      · refine x_iconst (pc' := 28) hE dX9_eatenMany_27 rfl ?_
        refine x_iadd (pc' := 29) hE dX9_eatenMany_28 rfl ?_
        refine x_istore_n (pc' := 30) hE dX9_eatenMany_29 rfl (by decide) rfl rfl ?_
        dsimp only [List.set]
        refine x_iinc (pc' := 33) hE dX9_eatenMany_30 rfl rfl (by decide) rfl rfl ?_
        dsimp only [List.set]
        refine x_goto (tgt := 4) hE dX9_eatenMany_33 (by decide) ?_
        refine x_lve (lv' := [some (.ref (aM G 0)), some (.int (iN p)), some (.int (iN (cntU (fun f => decide (τ 8 0 0 f = p)) (k + 1).toNat))), some (.int (iN (k + 1)))]) ?_ (ih (n - 1) (by omega) (k + 1) (by omega) (by omega) (by omega))
        rw [cntU_s _ g0]
        simp [h1, h2]
      · refine x_iconst (pc' := 24) hE dX9_eatenMany_23 rfl ?_
        refine x_goto (tgt := 28) hE dX9_eatenMany_24 (by decide) ?_
        refine x_iadd (pc' := 29) hE dX9_eatenMany_28 rfl ?_
        refine x_istore_n (pc' := 30) hE dX9_eatenMany_29 rfl (by decide) rfl rfl ?_
        dsimp only [List.set]
        refine x_iinc (pc' := 33) hE dX9_eatenMany_30 rfl rfl (by decide) rfl rfl ?_
        dsimp only [List.set]
        refine x_goto (tgt := 4) hE dX9_eatenMany_33 (by decide) ?_
        refine x_lve (lv' := [some (.ref (aM G 0)), some (.int (iN p)), some (.int (iN (cntU (fun f => decide (τ 8 0 0 f = p)) (k + 1).toNat))), some (.int (iN (k + 1)))]) ?_ (ih (n - 1) (by omega) (k + 1) (by omega) (by omega) (by omega))
        rw [cntU_s _ g0]
        simp [h1, h2]
  refine x_iconst (pc' := 1) hE dX9_eatenMany_0 rfl ?_
  refine x_istore_n (pc' := 2) hE dX9_eatenMany_1 rfl (by decide) rfl rfl ?_
  dsimp only [List.set]
  refine x_iconst (pc' := 3) hE dX9_eatenMany_2 rfl ?_
  refine x_istore_n (pc' := 4) hE dX9_eatenMany_3 rfl (by decide) rfl rfl ?_
  dsimp only [List.set]
  exact loop (τ 0 0 0 9).toNat 0 (by omega) (by omega) (by omega)
set_option maxHeartbeats 4000000 in
set_option maxRecDepth 10000 in
theorem c_X9_eatenAll (l : Launch) (G : GM) (τ : St) (D : Int) (hW : WOk D (wv τ))  : Ct l (YM G) yX9_eatenAll (.code yX9_eatenAll cX9_eatenAll 3 (some .int)) 0 [.ref (aM G 0)] τ (fun v τ' => v = some (.int (iN (eatN (wv τ)))) ∧ τ' = τ) := by
  refine Ct_of (own := RX9) [some (.ref (aM G 0)), none, none] rfl rfl (Nat.le_of_ble_eq_true rfl) rfl ?_
  intro E hE hM hl hR
  obtain ⟨hnp, hnf, hday, hpp, hff, hcc⟩ := WT_of hW
  
  have loop : ∀ (n : Nat) (k : Int), 0 ≤ k → k ≤ τ 0 0 0 9 → τ 0 0 0 9 - k = n → VV E 3 (AS (YM G)) (Qm (YM G) (fun v τ' => v = some (.int (iN (eatN (wv τ)))) ∧ τ' = τ) E) (Rh (YM G) (τ)) 4 [some (.ref (aM G 0)), some (.int (iN (cntU (fun f => decide (τ 8 0 0 f ≠ -1)) (k).toNat))), some (.int (iN (k)))] [] := by
    intro n
    induction n using Nat.strongRecOn with
    | _ n ih =>
    intro k g0 g1 g2
    have hb := cntU_bd (fun f => decide (τ 8 0 0 f ≠ -1)) k.toNat
    refine x_iload_n (pc' := 5) hE dX9_eatenAll_4 rfl rfl ?_
    refine x_aload_n (pc' := 6) hE dX9_eatenAll_5 rfl rfl ?_
    refine gM_9 (pc' := 9) hE hM tF_X9_133 dX9_eatenAll_6 rfl ?_
    refine x_icmpge (tgt := 36) (pc' := 12) hE dX9_eatenAll_9 (by decide) rfl ⟨by omega, by omega⟩ ⟨by omega, by omega⟩ (fun h1 => ?_) (fun h1 => ?_)
    · refine x_iload_n (pc' := 37) hE dX9_eatenAll_36 rfl rfl ?_
      refine x_iret hE dX9_eatenAll_37 ?_
      have e : k = τ 0 0 0 9 := by omega
      subst e
      exact ⟨rfl, rfl⟩
    · have q1 := hff k (by omega) (by omega)
      refine x_iload_n (pc' := 13) hE dX9_eatenAll_12 rfl rfl ?_
      refine x_aload_n (pc' := 14) hE dX9_eatenAll_13 rfl rfl ?_
      refine gM_12 (pc' := 17) hE hM tF_X9_31 dX9_eatenAll_14 rfl ?_
      refine x_iload_n (pc' := 18) hE dX9_eatenAll_17 rfl rfl ?_
      refine aM_8 (pc' := 19) hE hM (by omega) (by omega) dX9_eatenAll_18 rfl ?_
      refine x_iconst (pc' := 20) hE dX9_eatenAll_19 rfl ?_
      refine x_icmpne (tgt := 27) (pc' := 23) hE dX9_eatenAll_20 (by decide) rfl ⟨by omega, by omega⟩ ⟨by omega, by omega⟩ (fun h2 => ?_) (fun h2 => ?_)
      · refine x_iconst (pc' := 28) hE dX9_eatenAll_27 rfl ?_
        refine x_iadd (pc' := 29) hE dX9_eatenAll_28 rfl ?_
        refine x_istore_n (pc' := 30) hE dX9_eatenAll_29 rfl (by decide) rfl rfl ?_
        dsimp only [List.set]
        refine x_iinc (pc' := 33) hE dX9_eatenAll_30 rfl rfl (by decide) rfl rfl ?_
        dsimp only [List.set]
        refine x_goto (tgt := 4) hE dX9_eatenAll_33 (by decide) ?_
        refine x_lve (lv' := [some (.ref (aM G 0)), some (.int (iN (cntU (fun f => decide (τ 8 0 0 f ≠ -1)) (k + 1).toNat))), some (.int (iN (k + 1)))]) ?_ (ih (n - 1) (by omega) (k + 1) (by omega) (by omega) (by omega))
        rw [cntU_s _ g0]
        simp [h1, h2]
      · refine x_iconst (pc' := 24) hE dX9_eatenAll_23 rfl ?_
        refine x_goto (tgt := 28) hE dX9_eatenAll_24 (by decide) ?_
        refine x_iadd (pc' := 29) hE dX9_eatenAll_28 rfl ?_
        refine x_istore_n (pc' := 30) hE dX9_eatenAll_29 rfl (by decide) rfl rfl ?_
        dsimp only [List.set]
        refine x_iinc (pc' := 33) hE dX9_eatenAll_30 rfl rfl (by decide) rfl rfl ?_
        dsimp only [List.set]
        refine x_goto (tgt := 4) hE dX9_eatenAll_33 (by decide) ?_
        refine x_lve (lv' := [some (.ref (aM G 0)), some (.int (iN (cntU (fun f => decide (τ 8 0 0 f ≠ -1)) (k + 1).toNat))), some (.int (iN (k + 1)))]) ?_ (ih (n - 1) (by omega) (k + 1) (by omega) (by omega) (by omega))
        rw [cntU_s _ g0]
        simp [h1, h2]
  refine x_iconst (pc' := 1) hE dX9_eatenAll_0 rfl ?_
  refine x_istore_n (pc' := 2) hE dX9_eatenAll_1 rfl (by decide) rfl rfl ?_
  dsimp only [List.set]
  refine x_iconst (pc' := 3) hE dX9_eatenAll_2 rfl ?_
  refine x_istore_n (pc' := 4) hE dX9_eatenAll_3 rfl (by decide) rfl rfl ?_
  dsimp only [List.set]
  exact loop (τ 0 0 0 9).toNat 0 (by omega) (by omega) (by omega)
end
section
/-- what the reference keeps over what would be: all but its notes -/
def relM (k : Nat) (j : Int) : Prop := (k = 0 ∧ j ≠ 24 ∧ j ≠ 29 ∧ j ≠ 42) ∨ (1 ≤ k ∧ k ≤ 11) ∨ (16 ≤ k ∧ k ≤ 20)
def Sc (τ τ' : St) : Prop := ∀ (k : Nat) (j : Int), relM k j → τ' k 0 0 j = τ k 0 0 j
def Sv (τ0 σ : St) : Prop := (∀ (k : Nat) (j : Int), relM k j → ¬ (k = 0 ∧ j = 3) → ¬ (k = 2 ∧ 0 ≤ j ∧ j < 8) → ¬ ((k = 6 ∨ k = 7 ∨ k = 8) ∧ 0 ≤ j ∧ j < 5) → σ k 0 0 j = τ0 k 0 0 j) ∧ σ 0 0 0 24 = τ0 0 0 0 3 ∧ (∀ c, 0 ≤ c → c < 8 → σ 12 0 0 c = τ0 2 0 0 c) ∧ (∀ f, 0 ≤ f → f < 5 → σ 13 0 0 f = τ0 6 0 0 f ∧ σ 14 0 0 f = τ0 7 0 0 f ∧ σ 15 0 0 f = τ0 8 0 0 f)
theorem Sc.refl (τ : St) : Sc τ τ := fun _ _ _ => rfl
theorem Sc.trans {a b c : St} (h1 : Sc a b) (h2 : Sc b c) : Sc a c := fun k j h => (h2 k j h).trans (h1 k j h)
theorem Sc.at {τ τ' : St} (h : Sc τ τ') (k : Nat) (j : Int) (hr : (k = 0 ∧ j ≠ 24 ∧ j ≠ 29 ∧ j ≠ 42) ∨ (1 ≤ k ∧ k ≤ 11) ∨ (16 ≤ k ∧ k ≤ 20)) : τ' k 0 0 j = τ k 0 0 j := h k j hr
theorem Sc.wv {τ τ' : St} (h : Sc τ τ') : wv τ' = wv τ := by
  funext r i
  unfold Jvm.Pilot.@@N@@.wv
  split
  · rw [h.at 0 5 (by omega), h.at 0 9 (by omega), h.at 0 3 (by omega)]
  · split
    · exact h.at 2 i (by omega)
    · split
      · exact h.at (r + 2) i (by omega)
      · rfl
theorem Sc.fv {τ τ' : St} (h : Sc τ τ') : fv τ' = fv τ := by
  unfold Jvm.Pilot.@@N@@.fv
  rw [h.at 0 1 (by omega), show τ' 1 0 0 = τ 1 0 0 from funext fun j => h.at 1 j (by omega)]
theorem Sc.fok {τ τ' : St} (h : Sc τ τ') (hF : FOk (τ 0 0 0 1) (τ 1 0 0)) : FOk (τ' 0 0 0 1) (τ' 1 0 0) := by
  rw [h.at 0 1 (by omega), show τ' 1 0 0 = τ 1 0 0 from funext fun j => h.at 1 j (by omega)]
  exact hF
def svA (σ : St) (k : Int) : St := fun a b c d => if a = 12 ∧ b = 0 ∧ c = 0 ∧ 0 ≤ d ∧ d < k then σ 2 0 0 d else σ a b c d
def svB (σ : St) (k : Int) : St := fun a b c d => if b = 0 ∧ c = 0 ∧ 0 ≤ d ∧ d < k then (if a = 13 then σ 6 0 0 d else if a = 14 then σ 7 0 0 d else if a = 15 then σ 8 0 0 d else σ a b c d) else σ a b c d
def bkA (σ : St) (k : Int) : St := fun a b c d => if a = 2 ∧ b = 0 ∧ c = 0 ∧ 0 ≤ d ∧ d < k then σ 12 0 0 d else σ a b c d
def bkB (σ : St) (k : Int) : St := fun a b c d => if b = 0 ∧ c = 0 ∧ 0 ≤ d ∧ d < k then (if a = 6 then σ 13 0 0 d else if a = 7 then σ 14 0 0 d else if a = 8 then σ 15 0 0 d else σ a b c d) else σ a b c d
def svT (τ : St) : St := svB (svA (up τ 0 0 0 24 (τ 0 0 0 3)) 8) 5
def bkT (τ : St) : St := bkB (bkA (up τ 0 0 0 3 (τ 0 0 0 24)) 8) 5
theorem svA_0 (σ : St) : svA σ 0 = σ := by
  funext a b c d
  unfold svA
  rw [if_neg (by omega)]
theorem svA_s (σ : St) {k : Int} (h0 : 0 ≤ k) : up (svA σ k) 12 0 0 k (svA σ k 2 0 0 k) = svA σ (k + 1) := by
  funext a b c d
  by_cases h : a = 12 ∧ b = 0 ∧ c = 0
  · obtain ⟨rfl, rfl, rfl⟩ := h
    by_cases hd : d = k
    · subst hd
      rw [up_s]
      have h1 : d < d + 1 := by omega
      simp [svA, h0, h1]
    · rw [up_n (fun q => hd q.2.2.2)]
      have h1 : (0 ≤ d ∧ d < k + 1) ↔ (0 ≤ d ∧ d < k) := by omega
      simp [svA, h1]
  · rw [up_n (fun q => h ⟨q.1, q.2.1, q.2.2.1⟩)]
    unfold svA
    rw [if_neg (fun q => h ⟨q.1, q.2.1, q.2.2.1⟩), if_neg (fun q => h ⟨q.1, q.2.1, q.2.2.1⟩)]
theorem bkA_0 (σ : St) : bkA σ 0 = σ := by
  funext a b c d
  unfold bkA
  rw [if_neg (by omega)]
theorem bkA_s (σ : St) {k : Int} (h0 : 0 ≤ k) : up (bkA σ k) 2 0 0 k (bkA σ k 12 0 0 k) = bkA σ (k + 1) := by
  funext a b c d
  by_cases h : a = 2 ∧ b = 0 ∧ c = 0
  · obtain ⟨rfl, rfl, rfl⟩ := h
    by_cases hd : d = k
    · subst hd
      rw [up_s]
      have h1 : d < d + 1 := by omega
      simp [bkA, h0, h1]
    · rw [up_n (fun q => hd q.2.2.2)]
      have h1 : (0 ≤ d ∧ d < k + 1) ↔ (0 ≤ d ∧ d < k) := by omega
      simp [bkA, h1]
  · rw [up_n (fun q => h ⟨q.1, q.2.1, q.2.2.1⟩)]
    unfold bkA
    rw [if_neg (fun q => h ⟨q.1, q.2.1, q.2.2.1⟩), if_neg (fun q => h ⟨q.1, q.2.1, q.2.2.1⟩)]
theorem svB_0 (σ : St) : svB σ 0 = σ := by
  funext a b c d
  unfold svB
  rw [if_neg (by omega)]
theorem svB_s (σ : St) {k : Int} (h0 : 0 ≤ k) : up (up (up (svB σ k) 13 0 0 k (svB σ k 6 0 0 k)) 14 0 0 k ((up (svB σ k) 13 0 0 k (svB σ k 6 0 0 k)) 7 0 0 k)) 15 0 0 k ((up (up (svB σ k) 13 0 0 k (svB σ k 6 0 0 k)) 14 0 0 k ((up (svB σ k) 13 0 0 k (svB σ k 6 0 0 k)) 7 0 0 k)) 8 0 0 k) = svB σ (k + 1) := by
  have hk : k < k + 1 := by omega
  have x1 : svB σ k 6 0 0 k = σ 6 0 0 k := by simp [svB]
  have x2 : (up (svB σ k) 13 0 0 k (svB σ k 6 0 0 k)) 7 0 0 k = σ 7 0 0 k := by simp [svB, up]
  have x3 : (up (up (svB σ k) 13 0 0 k (svB σ k 6 0 0 k)) 14 0 0 k ((up (svB σ k) 13 0 0 k (svB σ k 6 0 0 k)) 7 0 0 k)) 8 0 0 k = σ 8 0 0 k := by simp [svB, up]
  rw [x3, x2, x1]
  funext a b c d
  by_cases h : b = 0 ∧ c = 0
  · obtain ⟨rfl, rfl⟩ := h
    by_cases hd : d = k
    · subst hd
      by_cases a1 : a = 13
      · subst a1; simp [up, svB, h0, hk]
      · by_cases a2 : a = 14
        · subst a2; simp [up, svB, h0, hk]
        · by_cases a3 : a = 15
          · subst a3; simp [up, svB, h0, hk]
          · simp [up, svB, a1, a2, a3]
    · rw [up_n (fun q => hd q.2.2.2), up_n (fun q => hd q.2.2.2), up_n (fun q => hd q.2.2.2)]
      have h1 : (0 ≤ d ∧ d < k + 1) ↔ (0 ≤ d ∧ d < k) := by omega
      simp [svB, h1]
  · rw [up_n (fun q => h ⟨q.2.1, q.2.2.1⟩), up_n (fun q => h ⟨q.2.1, q.2.2.1⟩), up_n (fun q => h ⟨q.2.1, q.2.2.1⟩)]
    unfold svB
    rw [if_neg (fun q => h ⟨q.1, q.2.1⟩), if_neg (fun q => h ⟨q.1, q.2.1⟩)]
theorem bkB_0 (σ : St) : bkB σ 0 = σ := by
  funext a b c d
  unfold bkB
  rw [if_neg (by omega)]
theorem bkB_s (σ : St) {k : Int} (h0 : 0 ≤ k) : up (up (up (bkB σ k) 6 0 0 k (bkB σ k 13 0 0 k)) 7 0 0 k ((up (bkB σ k) 6 0 0 k (bkB σ k 13 0 0 k)) 14 0 0 k)) 8 0 0 k ((up (up (bkB σ k) 6 0 0 k (bkB σ k 13 0 0 k)) 7 0 0 k ((up (bkB σ k) 6 0 0 k (bkB σ k 13 0 0 k)) 14 0 0 k)) 15 0 0 k) = bkB σ (k + 1) := by
  have hk : k < k + 1 := by omega
  have x1 : bkB σ k 13 0 0 k = σ 13 0 0 k := by simp [bkB]
  have x2 : (up (bkB σ k) 6 0 0 k (bkB σ k 13 0 0 k)) 14 0 0 k = σ 14 0 0 k := by simp [bkB, up]
  have x3 : (up (up (bkB σ k) 6 0 0 k (bkB σ k 13 0 0 k)) 7 0 0 k ((up (bkB σ k) 6 0 0 k (bkB σ k 13 0 0 k)) 14 0 0 k)) 15 0 0 k = σ 15 0 0 k := by simp [bkB, up]
  rw [x3, x2, x1]
  funext a b c d
  by_cases h : b = 0 ∧ c = 0
  · obtain ⟨rfl, rfl⟩ := h
    by_cases hd : d = k
    · subst hd
      by_cases a1 : a = 6
      · subst a1; simp [up, bkB, h0, hk]
      · by_cases a2 : a = 7
        · subst a2; simp [up, bkB, h0, hk]
        · by_cases a3 : a = 8
          · subst a3; simp [up, bkB, h0, hk]
          · simp [up, bkB, a1, a2, a3]
    · rw [up_n (fun q => hd q.2.2.2), up_n (fun q => hd q.2.2.2), up_n (fun q => hd q.2.2.2)]
      have h1 : (0 ≤ d ∧ d < k + 1) ↔ (0 ≤ d ∧ d < k) := by omega
      simp [bkB, h1]
  · rw [up_n (fun q => h ⟨q.2.1, q.2.2.1⟩), up_n (fun q => h ⟨q.2.1, q.2.2.1⟩), up_n (fun q => h ⟨q.2.1, q.2.2.1⟩)]
    unfold bkB
    rw [if_neg (fun q => h ⟨q.1, q.2.1⟩), if_neg (fun q => h ⟨q.1, q.2.1⟩)]
theorem Sc_svT (τ : St) : Sc τ (svT τ) := by
  intro k j h
  unfold relM at h
  have e1 : ¬ (k = 0 ∧ (0 : Nat) = 0 ∧ (0 : Int) = 0 ∧ j = 24) := by omega
  have e2 : ¬ (k = 12 ∧ (0 : Nat) = 0 ∧ (0 : Int) = 0 ∧ 0 ≤ j ∧ j < 8) := by omega
  have e3 : ¬ k = 13 := by omega
  have e4 : ¬ k = 14 := by omega
  have e5 : ¬ k = 15 := by omega
  unfold svT svB
  split
  · try rw [if_neg e3, if_neg e4, if_neg e5]
    unfold svA
    rw [if_neg e2, up_n e1]
  · unfold svA
    rw [if_neg e2, up_n e1]
theorem Sv_svT (τ : St) : Sv τ (svT τ) := by
  refine ⟨fun k j h _ _ _ => Sc_svT τ k j h, ?_, fun c h0 h1 => ?_, fun f h0 h1 => ⟨?_, ?_, ?_⟩⟩
  · simp [svT, svB, svA, up]
  · simp [svT, svB, svA, up, h0, h1]
  · simp [svT, svB, svA, up, h0, h1]
  · simp [svT, svB, svA, up, h0, h1]
  · simp [svT, svB, svA, up, h0, h1]
theorem Sc_bkT {τ0 σ : St} (h : Sv τ0 σ) : Sc τ0 (bkT σ) := by
  obtain ⟨h1, h2, h3, h4⟩ := h
  intro k j hr
  have hr' := hr
  unfold relM at hr'
  by_cases a0 : k = 0 ∧ j = 3
  · obtain ⟨rfl, rfl⟩ := a0
    simp [bkT, bkB, bkA, up, h2]
  · by_cases a2 : k = 2 ∧ 0 ≤ j ∧ j < 8
    · obtain ⟨rfl, b0, b1⟩ := a2
      simp [bkT, bkB, bkA, up, b0, b1]
      exact h3 j b0 b1
    · by_cases a6 : (k = 6 ∨ k = 7 ∨ k = 8) ∧ 0 ≤ j ∧ j < 5
      · obtain ⟨hk, b0, b1⟩ := a6
        obtain ⟨c1, c2, c3⟩ := h4 j b0 b1
        rcases hk with rfl | rfl | rfl
        · simp [bkT, bkB, bkA, up, b0, b1]; exact c1
        · simp [bkT, bkB, bkA, up, b0, b1]; exact c2
        · simp [bkT, bkB, bkA, up, b0, b1]; exact c3
      · rw [← h1 k j hr a0 a2 a6]
        have e0 : ¬ (k = 0 ∧ (0 : Nat) = 0 ∧ (0 : Int) = 0 ∧ j = 3) := by omega
        have e2 : ¬ (k = 2 ∧ (0 : Nat) = 0 ∧ (0 : Int) = 0 ∧ 0 ≤ j ∧ j < 8) := by omega
        show bkB _ 5 k 0 0 j = _
        unfold bkB
        split
        · rename_i q
          have e6 : ¬ k = 6 := by omega
          have e7 : ¬ k = 7 := by omega
          have e8 : ¬ k = 8 := by omega
          rw [if_neg e6, if_neg e7, if_neg e8]
          unfold bkA
          rw [if_neg e2, up_n e0]
        · unfold bkA
          rw [if_neg e2, up_n e0]
theorem Sv_bkT {τ0 σ : St} (h : Sv τ0 σ) : Sv τ0 (bkT σ) := by
  have hc := Sc_bkT h
  obtain ⟨h1, h2, h3, h4⟩ := h
  refine ⟨fun k j h _ _ _ => hc k j h, ?_, fun c b0 b1 => ?_, fun f b0 b1 => ?_⟩
  · simp [bkT, bkB, bkA, up]; exact h2
  · simp [bkT, bkB, bkA, up]; exact h3 c b0 b1
  · simp [bkT, bkB, bkA, up]; exact h4 f b0 b1
theorem goTA_out {σ : St} {D : Int} (h : WOk D (wv σ)) {f : Int} (hf : f < 0 ∨ 5 ≤ f) (n : Nat) (hn : n ≤ 4) : goTA σ n 8 0 0 f = σ 8 0 0 f := by
  have h2 := h.2.1
  have := goA_out (F := fv σ) h (f := f) (by omega) n hn
  rw [← wv_goTA] at this
  exact this
theorem Sv_goT {τ0 σ : St} {D : Int} (h : Sv τ0 σ) (hW : WOk D (wv σ)) : Sv τ0 (goT σ) := by
  obtain ⟨h1, h2, h3, h4⟩ := h
  have hn : 0 ≤ σ 0 0 0 5 ∧ σ 0 0 0 5 ≤ 4 := hW.1
  refine ⟨fun k j hr a0 a2 a6 => ?_, ?_, fun c b0 b1 => ?_, fun f b0 b1 => ?_⟩
  · rw [← h1 k j hr a0 a2 a6]
    by_cases e : k = 8
    · subst e
      unfold goT
      rw [up_n (by omega)]
      exact goTA_out hW (by omega) _ (by omega)
    · exact goT_o σ e 0 0 j (by omega)
  · rw [goT_o σ (by decide) _ _ _ (by decide)]; exact h2
  · rw [goT_o σ (by decide) _ _ _ (by omega)]; exact h3 c b0 b1
  · rw [goT_o σ (by decide) _ _ _ (by omega), goT_o σ (by decide) _ _ _ (by omega), goT_o σ (by decide) _ _ _ (by omega)]; exact h4 f b0 b1
theorem Sv_up {τ0 σ : St} {k : Nat} {i v : Int} (h : Sv τ0 σ) (hk : (k = 2 ∧ 0 ≤ i ∧ i < 8) ∨ ((k = 6 ∨ k = 7 ∨ k = 8) ∧ 0 ≤ i ∧ i < 5)) : Sv τ0 (up σ k 0 0 i v) := by
  obtain ⟨h1, h2, h3, h4⟩ := h
  refine ⟨fun a j hr a0 a2 a6 => ?_, ?_, fun c b0 b1 => ?_, fun f b0 b1 => ?_⟩
  · rw [up_n (by omega)]; exact h1 a j hr a0 a2 a6
  · rw [up_n (by omega)]; exact h2
  · rw [up_n (by omega)]; exact h3 c b0 b1
  · rw [up_n (by omega), up_n (by omega), up_n (by omega)]; exact h4 f b0 b1
def dNT (σ : St) : Nat → St
  | 0 => σ
  | n + 1 => goT (dNT σ n)
theorem fv_dNT (σ : St) : ∀ n : Nat, fv (dNT σ n) = fv σ
  | 0 => rfl
  | n + 1 => by rw [dNT, fv_goT, fv_dNT σ n]
theorem wv_dNT (σ : St) : ∀ n : Nat, wv (dNT σ n) = dN (fv σ) (wv σ) n
  | 0 => rfl
  | n + 1 => by rw [dNT, wv_goT, fv_dNT, wv_dNT σ n, dN]
theorem dNT_o (σ : St) {a : Nat} (h : a ≠ 8) (b : Nat) (c d : Int) (h2 : ¬ (a = 0 ∧ b = 0 ∧ c = 0 ∧ d = 3)) : ∀ n : Nat, dNT σ n a b c d = σ a b c d
  | 0 => rfl
  | n + 1 => by rw [dNT, goT_o _ h b c d h2, dNT_o σ h b c d h2 n]
theorem goT_fok {σ : St} (hF : FOk (σ 0 0 0 1) (σ 1 0 0)) : FOk (goT σ 0 0 0 1) (goT σ 1 0 0) := by
  rw [goT_o σ (by decide) _ _ _ (by decide), show goT σ 1 0 0 = σ 1 0 0 from funext fun d => goT_o σ (by decide) 0 0 d (by omega)]
  exact hF
theorem dNT_fok {σ : St} (hF : FOk (σ 0 0 0 1) (σ 1 0 0)) : ∀ n : Nat, FOk (dNT σ n 0 0 0 1) (dNT σ n 1 0 0)
  | 0 => hF
  | n + 1 => goT_fok (dNT_fok hF n)
theorem goT_ok {σ : St} {D : Int} (h : WOk D (wv σ)) : WOk (D + 1) (wv (goT σ)) := by rw [wv_goT]; exact goD_ok h
theorem dNT_ok {σ : St} {D : Int} (h : WOk D (wv σ)) (n : Nat) : WOk (D + n) (wv (dNT σ n)) := by rw [wv_dNT]; exact dN_ok h n
theorem Sv_dNT {τ0 σ : St} {D : Int} (h : Sv τ0 σ) (hW : WOk D (wv σ)) : ∀ n : Nat, Sv τ0 (dNT σ n)
  | 0 => h
  | n + 1 => Sv_goT (Sv_dNT h hW n) (dNT_ok hW n)
theorem wv_up6 (τ : St) (f v : Int) : wv (up τ 6 0 0 f v) = wu (wv τ) 4 f v := by
  funext r i
  by_cases h0 : r = 0
  · subst h0; simp [wv, wu, up]
  · by_cases h7 : r = 7
    · subst h7; simp [wv, wu, up]
    · by_cases h6 : r = 4
      · subst h6; simp [wv, wu, up]
      · have h8 : ¬ r + 2 = 6 := by omega
        simp [wv, wu, up, h0, h7, h6, h8]
theorem wv_up7 (τ : St) (f v : Int) : wv (up τ 7 0 0 f v) = wu (wv τ) 5 f v := by
  funext r i
  by_cases h0 : r = 0
  · subst h0; simp [wv, wu, up]
  · by_cases h7 : r = 7
    · subst h7; simp [wv, wu, up]
    · by_cases h6 : r = 5
      · subst h6; simp [wv, wu, up]
      · have h8 : ¬ r + 2 = 7 := by omega
        simp [wv, wu, up, h0, h7, h6, h8]
theorem wv_up2 (τ : St) (f v : Int) : wv (up τ 2 0 0 f v) = wu (wv τ) 7 f v := by
  funext r i
  by_cases h0 : r = 0
  · subst h0; simp [wv, wu, up]
  · by_cases h7 : r = 7
    · subst h7; simp [wv, wu, up]
    · have h8 : ¬ r + 2 = 2 := by omega
      simp [wv, wu, up, h0, h7, h8]
theorem fv_up (τ : St) {k : Nat} (i v : Int) (h : k ≠ 0) (h1 : k ≠ 1) : fv (up τ k 0 0 i v) = fv τ := by
  unfold fv
  rw [up_n (by omega), show up τ k 0 0 i v 1 0 0 = τ 1 0 0 from funext fun d => up_n (by omega)]
theorem fok_up {τ : St} {k : Nat} (i v : Int) (h : k ≠ 0) (h1 : k ≠ 1) (hF : FOk (τ 0 0 0 1) (τ 1 0 0)) : FOk (up τ k 0 0 i v 0 0 0 1) (up τ k 0 0 i v 1 0 0) := by
  rw [up_n (by omega), show up τ k 0 0 i v 1 0 0 = τ 1 0 0 from funext fun d => up_n (by omega)]
  exact hF
theorem wu4_ok {D : Int} {W : Wd} {i v : Int} (h : WOk D W) (h0 : 0 ≤ v) (h1 : v ≤ 9) : WOk D (wu W 4 i v) := by
  obtain ⟨a, b, c, d, e, f⟩ := h
  refine ⟨a, b, c, d, fun g g0 g1 => ?_, f⟩
  have := e g g0 g1
  refine ⟨?_, this.2⟩
  show 0 ≤ wu W 4 i v 4 g ∧ wu W 4 i v 4 g ≤ 9
  unfold wu
  split <;> omega
theorem wu5_ok {D : Int} {W : Wd} {i v : Int} (h : WOk D W) (h0 : -1 ≤ v) (h1 : v ≤ 8) : WOk D (wu W 5 i v) := by
  obtain ⟨a, b, c, d, e, f⟩ := h
  refine ⟨a, b, c, d, fun g g0 g1 => ?_, f⟩
  have := e g g0 g1
  refine ⟨this.1, ?_, this.2.2⟩
  show -1 ≤ wu W 5 i v 5 g ∧ wu W 5 i v 5 g ≤ 8
  unfold wu
  split <;> omega
theorem wu7_ok {D : Int} {W : Wd} {i v : Int} (h : WOk D W) (h0 : 0 ≤ v) (h1 : v ≤ 29) : WOk D (wu W 7 i v) := by
  obtain ⟨a, b, c, d, e, f⟩ := h
  refine ⟨a, b, c, d, e, fun g g0 g1 => ?_⟩
  have := f g g0 g1
  show 0 ≤ wu W 7 i v 7 g ∧ wu W 7 i v 7 g ≤ 29
  unfold wu
  split <;> omega
theorem eatN_bd {W : Wd} {D : Int} (h : WOk D W) : 0 ≤ eatN W ∧ eatN W ≤ 5 := by
  have := cntU_bd (fun f => decide (W 6 f ≠ -1)) (W 0 1).toNat
  have h2 := h.2.1
  unfold eatN
  omega
theorem fallK_bd (F : Int → Bool) (f : Int) : ∀ (n : Nat) (W : Wd) (k : Int), 0 ≤ k → -1 ≤ fallK F W f n k ∧ fallK F W f n k < k + n
  | 0, _, k, h => by simp [fallK]; omega
  | n + 1, W, k, h => by
    have ih := fallK_bd F f n (goD F W) (k + 1) (by omega)
    rw [fallK]
    split <;> omega
set_option maxHeartbeats 4000000 in
set_option maxRecDepth 10000 in
theorem c_X9_save (l : Launch) (G : GM) (τ : St) : Ct l (YM G) yX9_save (.code yX9_save cX9_save 2 none) 0 [.ref (aM G 0)] τ (fun v τ' => v = none ∧ Sv τ τ' ∧ Sc τ τ') := by
  refine Ct_of (own := RX9) [some (.ref (aM G 0)), none] rfl rfl (Nat.le_of_ble_eq_true rfl) rfl ?_
  intro E hE hM hl hR
  have loopB : ∀ (n : Nat) (k : Int), 0 ≤ k → k ≤ 5 → 5 - k = n → VV E 2 (AS (YM G)) (Qm (YM G) (fun v τ' => v = none ∧ Sv τ τ' ∧ Sc τ τ') E) (Rh (YM G) (svB (svA (up τ 0 0 0 24 (τ 0 0 0 3)) 8) k)) 36 [some (.ref (aM G 0)), some (.int (iN (k)))] [] := by
    intro n
    induction n using Nat.strongRecOn with
    | _ n ih =>
    intro k g0 g1 g2
    generalize hS : svA (up τ 0 0 0 24 (τ 0 0 0 3)) 8 = S at *
    refine x_iload_n (pc' := 37) hE dX9_save_36 rfl rfl ?_
    refine x_iconst (pc' := 38) hE dX9_save_37 rfl ?_
    refine x_icmpge (tgt := 83) (pc' := 41) hE dX9_save_38 (by decide) rfl ⟨by omega, by omega⟩ ⟨by omega, by omega⟩ (fun h1 => ?_) (fun h1 => ?_)
    · refine x_vret hE dX9_save_83 ?_
      have e : k = 5 := by omega
      subst e
      subst hS
      exact ⟨rfl, Sv_svT τ, Sc_svT τ⟩
    · refine x_aload_n (pc' := 42) hE dX9_save_41 rfl rfl ?_
      refine gM_26 (pc' := 45) hE hM tF_X9_51 dX9_save_42 rfl ?_
      refine x_iload_n (pc' := 46) hE dX9_save_45 rfl rfl ?_
      refine x_aload_n (pc' := 47) hE dX9_save_46 rfl rfl ?_
      refine gM_10 (pc' := 50) hE hM tF_X9_25 dX9_save_47 rfl ?_
      refine x_iload_n (pc' := 51) hE dX9_save_50 rfl rfl ?_
      refine aM_6 (pc' := 52) hE hM (by omega) (by omega) dX9_save_51 rfl ?_
      refine sM_13 (pc' := 53) hE hM (by omega) (by omega) dX9_save_52 rfl ?_
      refine x_aload_n (pc' := 54) hE dX9_save_53 rfl rfl ?_
      refine gM_27 (pc' := 57) hE hM tF_X9_54 dX9_save_54 rfl ?_
      refine x_iload_n (pc' := 58) hE dX9_save_57 rfl rfl ?_
      refine x_aload_n (pc' := 59) hE dX9_save_58 rfl rfl ?_
      refine gM_11 (pc' := 62) hE hM tF_X9_28 dX9_save_59 rfl ?_
      refine x_iload_n (pc' := 63) hE dX9_save_62 rfl rfl ?_
      refine aM_7 (pc' := 64) hE hM (by omega) (by omega) dX9_save_63 rfl ?_
      refine sM_14 (pc' := 65) hE hM (by omega) (by omega) dX9_save_64 rfl ?_
      refine x_aload_n (pc' := 66) hE dX9_save_65 rfl rfl ?_
      refine gM_28 (pc' := 69) hE hM tF_X9_57 dX9_save_66 rfl ?_
      refine x_iload_n (pc' := 70) hE dX9_save_69 rfl rfl ?_
      refine x_aload_n (pc' := 71) hE dX9_save_70 rfl rfl ?_
      refine gM_12 (pc' := 74) hE hM tF_X9_31 dX9_save_71 rfl ?_
      refine x_iload_n (pc' := 75) hE dX9_save_74 rfl rfl ?_
      refine aM_8 (pc' := 76) hE hM (by omega) (by omega) dX9_save_75 rfl ?_
      refine sM_15 (pc' := 77) hE hM (by omega) (by omega) dX9_save_76 rfl ?_
      refine x_iinc (pc' := 80) hE dX9_save_77 rfl rfl (by decide) rfl rfl ?_
      dsimp only [List.set]
      refine x_goto (tgt := 36) hE dX9_save_80 (by decide) ?_
      rw [svB_s S g0]
      exact ih (n - 1) (by omega) (k + 1) (by omega) (by omega) (by omega)
  have loopA : ∀ (n : Nat) (k : Int), 0 ≤ k → k ≤ 8 → 8 - k = n → VV E 2 (AS (YM G)) (Qm (YM G) (fun v τ' => v = none ∧ Sv τ τ' ∧ Sc τ τ') E) (Rh (YM G) (svA (up τ 0 0 0 24 (τ 0 0 0 3)) k)) 10 [some (.ref (aM G 0)), some (.int (iN (k)))] [] := by
    intro n
    induction n using Nat.strongRecOn with
    | _ n ih =>
    intro k g0 g1 g2
    refine x_iload_n (pc' := 11) hE dX9_save_10 rfl rfl ?_
    refine x_bipush (pc' := 13) hE dX9_save_11 rfl (by decide +kernel) ?_
    refine x_icmpge (tgt := 34) (pc' := 16) hE dX9_save_13 (by decide) rfl ⟨by omega, by omega⟩ ⟨by omega, by omega⟩ (fun h2 => ?_) (fun h2 => ?_)
    · refine x_iconst (pc' := 35) hE dX9_save_34 rfl ?_
      refine x_istore_n (pc' := 36) hE dX9_save_35 rfl (by decide) rfl rfl ?_
      dsimp only [List.set]
      have e : k = 8 := by omega
      subst e
      rw [← svB_0 (svA (up τ 0 0 0 24 (τ 0 0 0 3)) 8)]
      exact loopB 5 0 (by omega) (by omega) (by omega)
    · refine x_aload_n (pc' := 17) hE dX9_save_16 rfl rfl ?_
      refine gM_25 (pc' := 20) hE hM tF_X9_48 dX9_save_17 rfl ?_
      refine x_iload_n (pc' := 21) hE dX9_save_20 rfl rfl ?_
      refine x_aload_n (pc' := 22) hE dX9_save_21 rfl rfl ?_
      refine gM_4 (pc' := 25) hE hM tF_X9_13 dX9_save_22 rfl ?_
      refine x_iload_n (pc' := 26) hE dX9_save_25 rfl rfl ?_
      refine aM_2 (pc' := 27) hE hM (by omega) (by omega) dX9_save_26 rfl ?_
      refine sM_12 (pc' := 28) hE hM (by omega) (by omega) dX9_save_27 rfl ?_
      refine x_iinc (pc' := 31) hE dX9_save_28 rfl rfl (by decide) rfl rfl ?_
      dsimp only [List.set]
      refine x_goto (tgt := 10) hE dX9_save_31 (by decide) ?_
      rw [svA_s _ g0]
      exact ih (n - 1) (by omega) (k + 1) (by omega) (by omega) (by omega)
  refine x_aload_n (pc' := 1) hE dX9_save_0 rfl rfl ?_
  refine x_aload_n (pc' := 2) hE dX9_save_1 rfl rfl ?_
  refine gM_3 (pc' := 5) hE hM tF_X9_146 dX9_save_2 rfl ?_
  refine pM_24 (pc' := 8) hE hM tF_X9_177 dX9_save_5 rfl ?_
  refine x_iconst (pc' := 9) hE dX9_save_8 rfl ?_
  refine x_istore_n (pc' := 10) hE dX9_save_9 rfl (by decide) rfl rfl ?_
  dsimp only [List.set]
  rw [← svA_0 (up τ 0 0 0 24 (τ 0 0 0 3))]
  exact loopA 8 0 (by omega) (by omega) (by omega)
set_option maxHeartbeats 4000000 in
set_option maxRecDepth 10000 in
theorem c_X9_back (l : Launch) (G : GM) (τ : St) : Ct l (YM G) yX9_back (.code yX9_back cX9_back 2 none) 0 [.ref (aM G 0)] τ (fun v τ' => v = none ∧ (∀ τ0, Sv τ0 τ → Sv τ0 τ' ∧ Sc τ0 τ')) := by
  refine Ct_of (own := RX9) [some (.ref (aM G 0)), none] rfl rfl (Nat.le_of_ble_eq_true rfl) rfl ?_
  intro E hE hM hl hR
  have loopB : ∀ (n : Nat) (k : Int), 0 ≤ k → k ≤ 5 → 5 - k = n → VV E 2 (AS (YM G)) (Qm (YM G) (fun v τ' => v = none ∧ (∀ τ0, Sv τ0 τ → Sv τ0 τ' ∧ Sc τ0 τ')) E) (Rh (YM G) (bkB (bkA (up τ 0 0 0 3 (τ 0 0 0 24)) 8) k)) 36 [some (.ref (aM G 0)), some (.int (iN (k)))] [] := by
    intro n
    induction n using Nat.strongRecOn with
    | _ n ih =>
    intro k g0 g1 g2
    generalize hS : bkA (up τ 0 0 0 3 (τ 0 0 0 24)) 8 = S at *
    refine x_iload_n (pc' := 37) hE dX9_back_36 rfl rfl ?_
    refine x_iconst (pc' := 38) hE dX9_back_37 rfl ?_
    refine x_icmpge (tgt := 83) (pc' := 41) hE dX9_back_38 (by decide) rfl ⟨by omega, by omega⟩ ⟨by omega, by omega⟩ (fun h1 => ?_) (fun h1 => ?_)
    · refine x_vret hE dX9_back_83 ?_
      have e : k = 5 := by omega
      subst e
      subst hS
      exact ⟨rfl, fun τ0 h => ⟨Sv_bkT h, Sc_bkT h⟩⟩
    · refine x_aload_n (pc' := 42) hE dX9_back_41 rfl rfl ?_
      refine gM_10 (pc' := 45) hE hM tF_X9_25 dX9_back_42 rfl ?_
      refine x_iload_n (pc' := 46) hE dX9_back_45 rfl rfl ?_
      refine x_aload_n (pc' := 47) hE dX9_back_46 rfl rfl ?_
      refine gM_26 (pc' := 50) hE hM tF_X9_51 dX9_back_47 rfl ?_
      refine x_iload_n (pc' := 51) hE dX9_back_50 rfl rfl ?_
      refine aM_13 (pc' := 52) hE hM (by omega) (by omega) dX9_back_51 rfl ?_
      refine sM_6 (pc' := 53) hE hM (by omega) (by omega) dX9_back_52 rfl ?_
      refine x_aload_n (pc' := 54) hE dX9_back_53 rfl rfl ?_
      refine gM_11 (pc' := 57) hE hM tF_X9_28 dX9_back_54 rfl ?_
      refine x_iload_n (pc' := 58) hE dX9_back_57 rfl rfl ?_
      refine x_aload_n (pc' := 59) hE dX9_back_58 rfl rfl ?_
      refine gM_27 (pc' := 62) hE hM tF_X9_54 dX9_back_59 rfl ?_
      refine x_iload_n (pc' := 63) hE dX9_back_62 rfl rfl ?_
      refine aM_14 (pc' := 64) hE hM (by omega) (by omega) dX9_back_63 rfl ?_
      refine sM_7 (pc' := 65) hE hM (by omega) (by omega) dX9_back_64 rfl ?_
      refine x_aload_n (pc' := 66) hE dX9_back_65 rfl rfl ?_
      refine gM_12 (pc' := 69) hE hM tF_X9_31 dX9_back_66 rfl ?_
      refine x_iload_n (pc' := 70) hE dX9_back_69 rfl rfl ?_
      refine x_aload_n (pc' := 71) hE dX9_back_70 rfl rfl ?_
      refine gM_28 (pc' := 74) hE hM tF_X9_57 dX9_back_71 rfl ?_
      refine x_iload_n (pc' := 75) hE dX9_back_74 rfl rfl ?_
      refine aM_15 (pc' := 76) hE hM (by omega) (by omega) dX9_back_75 rfl ?_
      refine sM_8 (pc' := 77) hE hM (by omega) (by omega) dX9_back_76 rfl ?_
      refine x_iinc (pc' := 80) hE dX9_back_77 rfl rfl (by decide) rfl rfl ?_
      dsimp only [List.set]
      refine x_goto (tgt := 36) hE dX9_back_80 (by decide) ?_
      rw [bkB_s S g0]
      exact ih (n - 1) (by omega) (k + 1) (by omega) (by omega) (by omega)
  have loopA : ∀ (n : Nat) (k : Int), 0 ≤ k → k ≤ 8 → 8 - k = n → VV E 2 (AS (YM G)) (Qm (YM G) (fun v τ' => v = none ∧ (∀ τ0, Sv τ0 τ → Sv τ0 τ' ∧ Sc τ0 τ')) E) (Rh (YM G) (bkA (up τ 0 0 0 3 (τ 0 0 0 24)) k)) 10 [some (.ref (aM G 0)), some (.int (iN (k)))] [] := by
    intro n
    induction n using Nat.strongRecOn with
    | _ n ih =>
    intro k g0 g1 g2
    refine x_iload_n (pc' := 11) hE dX9_back_10 rfl rfl ?_
    refine x_bipush (pc' := 13) hE dX9_back_11 rfl (by decide +kernel) ?_
    refine x_icmpge (tgt := 34) (pc' := 16) hE dX9_back_13 (by decide) rfl ⟨by omega, by omega⟩ ⟨by omega, by omega⟩ (fun h2 => ?_) (fun h2 => ?_)
    · refine x_iconst (pc' := 35) hE dX9_back_34 rfl ?_
      refine x_istore_n (pc' := 36) hE dX9_back_35 rfl (by decide) rfl rfl ?_
      dsimp only [List.set]
      have e : k = 8 := by omega
      subst e
      rw [← bkB_0 (bkA (up τ 0 0 0 3 (τ 0 0 0 24)) 8)]
      exact loopB 5 0 (by omega) (by omega) (by omega)
    · refine x_aload_n (pc' := 17) hE dX9_back_16 rfl rfl ?_
      refine gM_4 (pc' := 20) hE hM tF_X9_13 dX9_back_17 rfl ?_
      refine x_iload_n (pc' := 21) hE dX9_back_20 rfl rfl ?_
      refine x_aload_n (pc' := 22) hE dX9_back_21 rfl rfl ?_
      refine gM_25 (pc' := 25) hE hM tF_X9_48 dX9_back_22 rfl ?_
      refine x_iload_n (pc' := 26) hE dX9_back_25 rfl rfl ?_
      refine aM_12 (pc' := 27) hE hM (by omega) (by omega) dX9_back_26 rfl ?_
      refine sM_2 (pc' := 28) hE hM (by omega) (by omega) dX9_back_27 rfl ?_
      refine x_iinc (pc' := 31) hE dX9_back_28 rfl rfl (by decide) rfl rfl ?_
      dsimp only [List.set]
      refine x_goto (tgt := 10) hE dX9_back_31 (by decide) ?_
      rw [bkA_s _ g0]
      exact ih (n - 1) (by omega) (k + 1) (by omega) (by omega) (by omega)
  refine x_aload_n (pc' := 1) hE dX9_back_0 rfl rfl ?_
  refine x_aload_n (pc' := 2) hE dX9_back_1 rfl rfl ?_
  refine gM_24 (pc' := 5) hE hM tF_X9_177 dX9_back_2 rfl ?_
  refine pM_3 (pc' := 8) hE hM tF_X9_146 dX9_back_5 rfl ?_
  refine x_iconst (pc' := 9) hE dX9_back_8 rfl ?_
  refine x_istore_n (pc' := 10) hE dX9_back_9 rfl (by decide) rfl rfl ?_
  dsimp only [List.set]
  rw [← bkA_0 (up τ 0 0 0 3 (τ 0 0 0 24))]
  exact loopA 8 0 (by omega) (by omega) (by omega)
set_option maxHeartbeats 4000000 in
set_option maxRecDepth 10000 in
theorem c_X9_lossNow (l : Launch) (G : GM) (τ : St) (D : Int) (hW : WOk D (wv τ)) (hD : D ≤ 900000) (hF : FOk (τ 0 0 0 1) (τ 1 0 0)) (days : Int) (y0 : 0 ≤ days) (y1 : days ≤ 60) : Ct l (YM G) yX9_lossNow (.code yX9_lossNow cX9_lossNow 4 (some .int)) 5 [.ref (aM G 0), .int (iN days)] τ (fun v τ' => v = some (.int (iN (eatN (dN (fv τ) (wv τ) days.toNat) - eatN (wv τ)))) ∧ Sc τ τ') := by
  refine Ct_of (own := RX9) [some (.ref (aM G 0)), some (.int (iN days)), none, none] rfl rfl (Nat.le_of_ble_eq_true rfl) rfl ?_
  intro E hE hM hl hR
  obtain ⟨hnp, hnf, hday, hpp, hff, hcc⟩ := WT_of hW
  have hb0 := eatN_bd hW
  have loop : ∀ (S : St), Sv τ S → wv S = wv τ → fv S = fv τ → FOk (S 0 0 0 1) (S 1 0 0) → ∀ (n : Nat) (k : Nat), (k : Int) ≤ days → days - k = n → VV E 4 (AS (YM G)) (Qm (YM G) (fun v τ' => v = some (.int (iN (eatN (dN (fv τ) (wv τ) days.toNat) - eatN (wv τ)))) ∧ Sc τ τ') E) (Rh (YM G) (dNT S k)) 11 [some (.ref (aM G 0)), some (.int (iN days)), some (.int (iN (eatN (wv τ)))), some (.int (iN ((k : Nat) : Int)))] [] := by
    intro S hs hwS hfS hFS n
    have hWS : WOk D (wv S) := by rw [hwS]; exact hW
    induction n using Nat.strongRecOn with
    | _ n ih =>
    intro k g1 g2
    have hWk := dNT_ok hWS k
    have hFk := dNT_fok hFS k
    have hb1 := eatN_bd hWk
    have hsk := Sv_dNT hs hWS k
    refine x_iload_n (pc' := 12) hE dX9_lossNow_11 rfl rfl ?_
    refine x_iload_n (pc' := 13) hE dX9_lossNow_12 rfl rfl ?_
    refine x_icmpge (tgt := 27) (pc' := 16) hE dX9_lossNow_13 (by decide) rfl ⟨by omega, by omega⟩ ⟨by omega, by omega⟩ (fun h1 => ?_) (fun h1 => ?_)
    · refine x_aload_n (pc' := 28) hE dX9_lossNow_27 rfl rfl ?_
      refine x_cV1 (pc' := 31) hE hM (okM G) hl hR (c_X9_eatenAll l G _ _ (by assumption)) kX9_eatenAll tM_X9_180 (rcvM hM) (by decide) dX9_lossNow_28 rfl rfl (Nat.le_of_ble_eq_true rfl) (fun σ2 e2 => ?_)
      replace e2 := e2.symm
      subst e2
      refine x_iload_n (pc' := 32) hE dX9_lossNow_31 rfl rfl ?_
      refine x_isub (pc' := 33) hE dX9_lossNow_32 rfl ?_
      refine x_istore_n (pc' := 34) hE dX9_lossNow_33 rfl (by decide) rfl rfl ?_
      dsimp only [List.set]
      refine x_aload_n (pc' := 35) hE dX9_lossNow_34 rfl rfl ?_
      refine x_cV0 (pc' := 38) hE hM (okM G) hl hR (c_X9_back l G _) kX9_back tM_X9_186 (rcvM hM) (by decide) dX9_lossNow_35 rfl rfl (Nat.le_of_ble_eq_true rfl) (fun σ3 e3 => ?_)
      have hb := e3 τ hsk
      refine x_iload_n (pc' := 39) hE dX9_lossNow_38 rfl rfl ?_
      refine x_iret hE dX9_lossNow_39 ?_
      have e : k = days.toNat := by omega
      subst e
      refine ⟨ri ?_, hb.2⟩
      rw [wv_dNT, hwS, hfS]
    · refine x_aload_n (pc' := 17) hE dX9_lossNow_16 rfl rfl ?_
      refine x_cV1 (pc' := 20) hE hM (okM G) hl hR (c_X9_goDay l G _ _ (by assumption) (by omega) (by assumption)) kX9_goDay tM_X9_173 (rcvM hM) (by decide) dX9_lossNow_17 rfl rfl (Nat.le_of_ble_eq_true rfl) (fun σ4 e4 => ?_)
      replace e4 := e4.symm
      subst e4
      refine x_pop (pc' := 21) hE dX9_lossNow_20 rfl rfl ?_
      refine x_iinc (pc' := 24) hE dX9_lossNow_21 rfl rfl (by decide) rfl rfl ?_
      dsimp only [List.set]
      refine x_goto (tgt := 11) hE dX9_lossNow_24 (by decide) ?_
      exact ih (n - 1) (by omega) (k + 1) (by omega) (by omega)
  refine x_aload_n (pc' := 1) hE dX9_lossNow_0 rfl rfl ?_
  refine x_cV1 (pc' := 4) hE hM (okM G) hl hR (c_X9_eatenAll l G _ _ (by assumption)) kX9_eatenAll tM_X9_180 (rcvM hM) (by decide) dX9_lossNow_1 rfl rfl (Nat.le_of_ble_eq_true rfl) (fun σ5 e5 => ?_)
  replace e5 := e5.symm
  subst e5
  refine x_istore_n (pc' := 5) hE dX9_lossNow_4 rfl (by decide) rfl rfl ?_
  dsimp only [List.set]
  refine x_aload_n (pc' := 6) hE dX9_lossNow_5 rfl rfl ?_
  refine x_cV0 (pc' := 9) hE hM (okM G) hl hR (c_X9_save l G _) kX9_save tM_X9_183 (rcvM hM) (by decide) dX9_lossNow_6 rfl rfl (Nat.le_of_ble_eq_true rfl) (fun σ6 e6 => ?_)
  obtain ⟨hs, hc⟩ := e6
  have hwS : wv σ6 = wv τ := hc.wv
  have hfS : fv σ6 = fv τ := hc.fv
  have hFS := hc.fok hF
  have hWS : WOk D (wv σ6) := by rw [hwS]; exact hW
  generalize σ6 = S at *
  refine x_iconst (pc' := 10) hE dX9_lossNow_9 rfl ?_
  refine x_istore_n (pc' := 11) hE dX9_lossNow_10 rfl (by decide) rfl rfl ?_
  dsimp only [List.set]
  exact loop S hs hwS hfS hFS days.toNat 0 (by omega) (by omega)
set_option maxHeartbeats 4000000 in
set_option maxRecDepth 10000 in
theorem c_X9_fallsIn (l : Launch) (G : GM) (τ : St) (D : Int) (hW : WOk D (wv τ)) (hD : D ≤ 900000) (hF : FOk (τ 0 0 0 1) (τ 1 0 0)) (f most : Int) (f0 : 0 ≤ f) (f1 : f < 5) (y0 : 0 ≤ most) (y1 : most ≤ 60) : Ct l (YM G) yX9_fallsIn (.code yX9_fallsIn cX9_fallsIn 5 (some .int)) 5 [.ref (aM G 0), .int (iN f), .int (iN most)] τ (fun v τ' => v = some (.int (iN (fallK (fv τ) (wv τ) f most.toNat 1))) ∧ (∀ τ0, Sv τ0 τ → Sv τ0 τ')) := by
  refine Ct_of (own := RX9) [some (.ref (aM G 0)), some (.int (iN f)), some (.int (iN most)), none, none] rfl rfl (Nat.le_of_ble_eq_true rfl) rfl ?_
  intro E hE hM hl hR
  obtain ⟨hnp, hnf, hday, hpp, hff, hcc⟩ := WT_of hW
  
  have loop : ∀ (n : Nat) (k : Nat), (k : Int) ≤ most → most - k = n → fallK (fv τ) (wv τ) f most.toNat 1 = fallK (fv τ) (wv (dNT τ k)) f (most.toNat - k) (k + 1) → VV E 5 (AS (YM G)) (Qm (YM G) (fun v τ' => v = some (.int (iN (fallK (fv τ) (wv τ) f most.toNat 1))) ∧ (∀ τ0, Sv τ0 τ → Sv τ0 τ')) E) (Rh (YM G) (dNT τ k)) 5 [some (.ref (aM G 0)), some (.int (iN f)), some (.int (iN most)), some (.int (iN (-1))), some (.int (iN ((k : Nat) + 1)))] [] := by
    intro n
    induction n using Nat.strongRecOn with
    | _ n ih =>
    intro k g1 g2 g3
    have hWk := dNT_ok hW k
    have hFk := dNT_fok hF k
    have hWk1 := goT_ok hWk
    obtain ⟨-, -, -, -, hff1, -⟩ := WT_of hWk1
    have q1 := hff1 f f0 f1
    have e6 : wv (goT (dNT τ k)) = goD (fv τ) (wv (dNT τ k)) := by rw [wv_goT, fv_dNT]
    have e7 : goD (fv τ) (wv (dNT τ k)) 6 f = goT (dNT τ k) 8 0 0 f := by rw [← e6]; rfl
    refine x_iload (pc' := 7) hE dX9_fallsIn_5 rfl rfl ?_
    refine x_iload_n (pc' := 8) hE dX9_fallsIn_7 rfl rfl ?_
    refine x_icmpgt (tgt := 44) (pc' := 11) hE dX9_fallsIn_8 (by decide) rfl ⟨by omega, by omega⟩ ⟨by omega, by omega⟩ (fun h1 => ?_) (fun h1 => ?_)
    · refine x_iload_n (pc' := 45) hE dX9_fallsIn_44 rfl rfl ?_
      refine x_iret hE dX9_fallsIn_45 ?_
      have e8 : most.toNat - k = 0 := by omega
      refine ⟨ri ?_, fun τ0 h => Sv_dNT h hW k⟩
      rw [g3, e8]
      rfl
    · refine x_iload_n (pc' := 12) hE dX9_fallsIn_11 rfl rfl ?_
      refine x_iconst (pc' := 13) hE dX9_fallsIn_12 rfl ?_
      refine x_icmpne (tgt := 44) (pc' := 16) hE dX9_fallsIn_13 (by decide) rfl ⟨by omega, by omega⟩ ⟨by omega, by omega⟩ (fun h2 => ?_) (fun h2 => ?_)
      · refine x_iload_n (pc' := 45) hE dX9_fallsIn_44 rfl rfl ?_
        refine x_iret hE dX9_fallsIn_45 ?_
        have e8 : most.toNat - k = 0 := by omega
        refine ⟨ri ?_, fun τ0 h => Sv_dNT h hW k⟩
        rw [g3, e8]
        rfl
      · refine x_aload_n (pc' := 17) hE dX9_fallsIn_16 rfl rfl ?_
        refine x_cV1 (pc' := 20) hE hM (okM G) hl hR (c_X9_goDay l G _ _ (by assumption) (by omega) (by assumption)) kX9_goDay tM_X9_173 (rcvM hM) (by decide) dX9_fallsIn_17 rfl rfl (Nat.le_of_ble_eq_true rfl) (fun σ3 e3 => ?_)
        replace e3 := e3.symm
        subst e3
        refine x_pop (pc' := 21) hE dX9_fallsIn_20 rfl rfl ?_
        refine x_aload_n (pc' := 22) hE dX9_fallsIn_21 rfl rfl ?_
        refine gM_12 (pc' := 25) hE hM tF_X9_31 dX9_fallsIn_22 rfl ?_
        refine x_iload_n (pc' := 26) hE dX9_fallsIn_25 rfl rfl ?_
        refine aM_8 (pc' := 27) hE hM (by omega) (by omega) dX9_fallsIn_26 rfl ?_
        refine x_iconst (pc' := 28) hE dX9_fallsIn_27 rfl ?_
        refine x_icmpne (tgt := 35) (pc' := 31) hE dX9_fallsIn_28 (by decide) rfl ⟨by omega, by omega⟩ ⟨by omega, by omega⟩ (fun h4 => ?_) (fun h4 => ?_)
        · refine x_iload (pc' := 37) hE dX9_fallsIn_35 rfl rfl ?_
          refine x_istore_n (pc' := 38) hE dX9_fallsIn_37 rfl (by decide) rfl rfl ?_
          dsimp only [List.set]
          refine x_iinc (pc' := 41) hE dX9_fallsIn_38 rfl rfl (by decide) rfl rfl ?_
          dsimp only [List.set]
          refine x_goto (tgt := 5) hE dX9_fallsIn_41 (by decide) ?_
          have e8 : most.toNat - k = (most.toNat - (k + 1)) + 1 := by omega
          have e9 : fallK (fv τ) (wv τ) f most.toNat 1 = (k : Int) + 1 := by rw [g3, e8, fallK, if_pos (by rw [e7]; omega)]
          refine x_iload (pc' := 7) hE dX9_fallsIn_5 rfl rfl ?_
          refine x_iload_n (pc' := 8) hE dX9_fallsIn_7 rfl rfl ?_
          refine x_icmpgt (tgt := 44) (pc' := 11) hE dX9_fallsIn_8 (by decide) rfl ⟨by omega, by omega⟩ ⟨by omega, by omega⟩ (fun h5 => ?_) (fun h5 => ?_)
          · refine x_iload_n (pc' := 45) hE dX9_fallsIn_44 rfl rfl ?_
            refine x_iret hE dX9_fallsIn_45 ?_
            exact ⟨ri e9.symm, fun τ0 h => Sv_goT (Sv_dNT h hW k) hWk⟩
          · refine x_iload_n (pc' := 12) hE dX9_fallsIn_11 rfl rfl ?_
            refine x_iconst (pc' := 13) hE dX9_fallsIn_12 rfl ?_
            refine x_icmpne (tgt := 44) (pc' := 16) hE dX9_fallsIn_13 (by decide) rfl ⟨by omega, by omega⟩ ⟨by omega, by omega⟩ (fun h6 => ?_) (fun h6 => ?_)
            · refine x_iload_n (pc' := 45) hE dX9_fallsIn_44 rfl rfl ?_
              refine x_iret hE dX9_fallsIn_45 ?_
              exact ⟨ri e9.symm, fun τ0 h => Sv_goT (Sv_dNT h hW k) hWk⟩
            · exfalso; omega
        · refine x_iconst (pc' := 32) hE dX9_fallsIn_31 rfl ?_
          refine x_goto (tgt := 37) hE dX9_fallsIn_32 (by decide) ?_
          refine x_istore_n (pc' := 38) hE dX9_fallsIn_37 rfl (by decide) rfl rfl ?_
          dsimp only [List.set]
          refine x_iinc (pc' := 41) hE dX9_fallsIn_38 rfl rfl (by decide) rfl rfl ?_
          dsimp only [List.set]
          refine x_goto (tgt := 5) hE dX9_fallsIn_41 (by decide) ?_
          have e8 : most.toNat - k = (most.toNat - (k + 1)) + 1 := by omega
          refine ih (n - 1) (by omega) (k + 1) (by omega) (by omega) ?_
          rw [g3, e8, fallK, if_neg (by rw [e7]; omega)]
          rw [← e6]
          rfl
  refine x_iconst (pc' := 1) hE dX9_fallsIn_0 rfl ?_
  refine x_istore_n (pc' := 2) hE dX9_fallsIn_1 rfl (by decide) rfl rfl ?_
  dsimp only [List.set]
  refine x_iconst (pc' := 3) hE dX9_fallsIn_2 rfl ?_
  refine x_istore (pc' := 5) hE dX9_fallsIn_3 rfl (by decide) rfl rfl ?_
  dsimp only [List.set]
  exact loop most.toNat 0 (by omega) (by omega) rfl
set_option maxHeartbeats 4000000 in
set_option maxRecDepth 10000 in
theorem c_X9_fallsNow (l : Launch) (G : GM) (τ : St) (D : Int) (hW : WOk D (wv τ)) (hD : D ≤ 900000) (hF : FOk (τ 0 0 0 1) (τ 1 0 0)) (f : Int) (f0 : 0 ≤ f) (f1 : f < 5) : Ct l (YM G) yX9_fallsNow (.code yX9_fallsNow cX9_fallsNow 3 (some .int)) 6 [.ref (aM G 0), .int (iN f)] τ (fun v τ' => v = some (.int (iN (fallK (fv τ) (wv τ) f 60 1))) ∧ Sc τ τ') := by
  refine Ct_of (own := RX9) [some (.ref (aM G 0)), some (.int (iN f)), none] rfl rfl (Nat.le_of_ble_eq_true rfl) rfl ?_
  intro E hE hM hl hR
  refine x_aload_n (pc' := 1) hE dX9_fallsNow_0 rfl rfl ?_
  refine x_cV0 (pc' := 4) hE hM (okM G) hl hR (c_X9_save l G _) kX9_save tM_X9_183 (rcvM hM) (by decide) dX9_fallsNow_1 rfl rfl (Nat.le_of_ble_eq_true rfl) (fun σ1 e1 => ?_)
  obtain ⟨hs, hc⟩ := e1
  have hwS : wv σ1 = wv τ := hc.wv
  have hfS : fv σ1 = fv τ := hc.fv
  have hFS := hc.fok hF
  have hWS : WOk D (wv σ1) := by rw [hwS]; exact hW
  generalize σ1 = S at *
  refine x_aload_n (pc' := 5) hE dX9_fallsNow_4 rfl rfl ?_
  refine x_iload_n (pc' := 6) hE dX9_fallsNow_5 rfl rfl ?_
  refine x_bipush (pc' := 8) hE dX9_fallsNow_6 rfl (by decide +kernel) ?_
  refine x_cV1 (pc' := 11) hE hM (okM G) hl hR (c_X9_fallsIn l G _ _ (by assumption) (by omega) (by assumption) _ _ (by omega) (by omega) (by omega) (by omega)) kX9_fallsIn tM_X9_192 (rcvM hM) (by decide) dX9_fallsNow_8 rfl rfl (Nat.le_of_ble_eq_true rfl) (fun σ2 e2 => ?_)
  have hfi := e2 τ (by assumption)
  refine x_istore_n (pc' := 12) hE dX9_fallsNow_11 rfl (by decide) rfl rfl ?_
  dsimp only [List.set]
  refine x_aload_n (pc' := 13) hE dX9_fallsNow_12 rfl rfl ?_
  refine x_cV0 (pc' := 16) hE hM (okM G) hl hR (c_X9_back l G _) kX9_back tM_X9_186 (rcvM hM) (by decide) dX9_fallsNow_13 rfl rfl (Nat.le_of_ble_eq_true rfl) (fun σ3 e3 => ?_)
  have hb := e3 τ hfi
  refine x_iload_n (pc' := 17) hE dX9_fallsNow_16 rfl rfl ?_
  refine x_iret hE dX9_fallsNow_17 ?_
  refine ⟨ri ?_, hb.2⟩
  rw [hwS, hfS]
  rfl
set_option maxHeartbeats 4000000 in
set_option maxRecDepth 10000 in
theorem c_X9_safeNow (l : Launch) (G : GM) (τ : St) (D : Int) (hW : WOk D (wv τ)) (hD : D ≤ 900000) (hF : FOk (τ 0 0 0 1) (τ 1 0 0)) (f days : Int) (f0 : 0 ≤ f) (f1 : f < 5) (y0 : 1 ≤ days) (y1 : days ≤ 30) : Ct l (YM G) yX9_safeNow (.code yX9_safeNow cX9_safeNow 5 (some .int)) 6 [.ref (aM G 0), .int (iN f), .int (iN days)] τ (fun v τ' => v = some (.int (iN (safeN (fv τ) (wv τ) f days.toNat))) ∧ Sc τ τ') := by
  refine Ct_of (own := RX9) [some (.ref (aM G 0)), some (.int (iN f)), some (.int (iN days)), none, none] rfl rfl (Nat.le_of_ble_eq_true rfl) rfl ?_
  intro E hE hM hl hR
  have loop : ∀ (n : Nat) (k : Int) (S : St), Sv τ S → Sc τ S → 0 ≤ k → k ≤ 10 → 10 - k = n → safeN (fv τ) (wv τ) f days.toNat = lst (fun n => decide (fallK (fv τ) (wu (wv τ) 4 f n) f days.toNat 1 = -1)) (10 - k).toNat k → VV E 5 (AS (YM G)) (Qm (YM G) (fun v τ' => v = some (.int (iN (safeN (fv τ) (wv τ) f days.toNat))) ∧ Sc τ τ') E) (Rh (YM G) (S)) 6 [some (.ref (aM G 0)), some (.int (iN f)), some (.int (iN days)), some (.int (iN (k))), none] [] := by
    intro n
    induction n using Nat.strongRecOn with
    | _ n ih =>
    intro k S hs hc g0 g1 g2 g3
    have hwS : wv S = wv τ := hc.wv
    have hfS : fv S = fv τ := hc.fv
    have hFS := hc.fok hF
    have hWS : WOk D (wv S) := by rw [hwS]; exact hW
    refine x_iload_n (pc' := 7) hE dX9_safeNow_6 rfl rfl ?_
    refine x_bipush (pc' := 9) hE dX9_safeNow_7 rfl (by decide +kernel) ?_
    refine x_icmpge (tgt := 53) (pc' := 12) hE dX9_safeNow_9 (by decide) rfl ⟨by omega, by omega⟩ ⟨by omega, by omega⟩ (fun h1 => ?_) (fun h1 => ?_)
    · refine x_iconst (pc' := 54) hE dX9_safeNow_53 rfl ?_
      refine x_iret hE dX9_safeNow_54 ?_
      refine ⟨ri ?_, hc⟩
      rw [g3, show (10 - k).toNat = 0 by omega]
      rfl
    · refine x_aload_n (pc' := 13) hE dX9_safeNow_12 rfl rfl ?_
      refine gM_10 (pc' := 16) hE hM tF_X9_25 dX9_safeNow_13 rfl ?_
      refine x_iload_n (pc' := 17) hE dX9_safeNow_16 rfl rfl ?_
      refine x_iload_n (pc' := 18) hE dX9_safeNow_17 rfl rfl ?_
      refine sM_6 (pc' := 19) hE hM (by omega) (by omega) dX9_safeNow_18 rfl ?_
      have hs1 : Sv τ (up S 6 0 0 f k) := Sv_up hs (by omega)
      have hw1 : wv (up S 6 0 0 f k) = wu (wv τ) 4 f k := by rw [wv_up6, hwS]
      have hf1 : fv (up S 6 0 0 f k) = fv τ := by rw [fv_up _ _ _ (by decide) (by decide), hfS]
      have hF1 := fok_up (k := 6) f k (by decide) (by decide) hFS
      have hW1 : WOk D (wv (up S 6 0 0 f k)) := by rw [hw1]; exact wu4_ok hW (by omega) (by omega)
      have hb9 := fallK_bd (fv τ) f days.toNat (wu (wv τ) 4 f k) 1 (by omega)
      have e10 : (10 - k).toNat = (10 - (k + 1)).toNat + 1 := by omega
      generalize hS1 : up S 6 0 0 f k = S1 at *
      refine x_aload_n (pc' := 20) hE dX9_safeNow_19 rfl rfl ?_
      refine x_iload_n (pc' := 21) hE dX9_safeNow_20 rfl rfl ?_
      refine x_iload_n (pc' := 22) hE dX9_safeNow_21 rfl rfl ?_
      refine x_cV1 (pc' := 25) hE hM (okM G) hl hR (c_X9_fallsIn l G _ _ (by assumption) (by omega) (by assumption) _ _ (by omega) (by omega) (by omega) (by omega)) kX9_fallsIn tM_X9_192 (rcvM hM) (by decide) dX9_safeNow_22 rfl rfl (Nat.le_of_ble_eq_true rfl) (fun σ2 e2 => ?_)
      have hfi := e2 τ hs1
      rw [hw1, hf1]
      refine x_iconst (pc' := 26) hE dX9_safeNow_25 rfl ?_
      refine x_icmpne (tgt := 33) (pc' := 29) hE dX9_safeNow_26 (by decide) rfl ⟨by omega, by omega⟩ ⟨by omega, by omega⟩ (fun h3 => ?_) (fun h3 => ?_)
      · refine x_iconst (pc' := 34) hE dX9_safeNow_33 rfl ?_
        refine x_istore (pc' := 36) hE dX9_safeNow_34 rfl (by decide) rfl rfl ?_
        dsimp only [List.set]
        refine x_aload_n (pc' := 37) hE dX9_safeNow_36 rfl rfl ?_
        refine x_cV0 (pc' := 40) hE hM (okM G) hl hR (c_X9_back l G _) kX9_back tM_X9_186 (rcvM hM) (by decide) dX9_safeNow_37 rfl rfl (Nat.le_of_ble_eq_true rfl) (fun σ4 e4 => ?_)
        have hb := e4 τ hfi
        refine x_iload (pc' := 42) hE dX9_safeNow_40 rfl rfl ?_
        refine x_ifeq (tgt := 47) (pc' := 45) hE dX9_safeNow_42 (by decide) rfl ⟨by omega, by omega⟩ (fun h5 => ?_) (fun h5 => ?_)
        · refine x_iinc (pc' := 50) hE dX9_safeNow_47 rfl rfl (by decide) rfl rfl ?_
          dsimp only [List.set]
          refine x_goto (tgt := 6) hE dX9_safeNow_50 (by decide) ?_
          refine x_lvf (lv' := [some (.ref (aM G 0)), some (.int (iN f)), some (.int (iN days)), some (.int (iN (k + 1))), none]) ⟨Or.inr rfl, Or.inr rfl, Or.inr rfl, Or.inr rfl, Or.inl rfl, trivial⟩ (ih (n - 1) (by omega) (k + 1) _ hb.1 hb.2 (by omega) (by omega) (by omega) ?_)
          rw [g3, e10, lst_s, if_neg (by simp; omega)]
        · exact absurd h5 (by decide)
      · refine x_iconst (pc' := 30) hE dX9_safeNow_29 rfl ?_
        refine x_goto (tgt := 34) hE dX9_safeNow_30 (by decide) ?_
        refine x_istore (pc' := 36) hE dX9_safeNow_34 rfl (by decide) rfl rfl ?_
        dsimp only [List.set]
        refine x_aload_n (pc' := 37) hE dX9_safeNow_36 rfl rfl ?_
        refine x_cV0 (pc' := 40) hE hM (okM G) hl hR (c_X9_back l G _) kX9_back tM_X9_186 (rcvM hM) (by decide) dX9_safeNow_37 rfl rfl (Nat.le_of_ble_eq_true rfl) (fun σ6 e6 => ?_)
        have hb := e6 τ hfi
        refine x_iload (pc' := 42) hE dX9_safeNow_40 rfl rfl ?_
        refine x_ifeq (tgt := 47) (pc' := 45) hE dX9_safeNow_42 (by decide) rfl ⟨by omega, by omega⟩ (fun h7 => ?_) (fun h7 => ?_)
        · exact absurd h7 (by decide)
        · refine x_iload_n (pc' := 46) hE dX9_safeNow_45 rfl rfl ?_
          refine x_iret hE dX9_safeNow_46 ?_
          refine ⟨ri ?_, hb.2⟩
          rw [g3, e10, lst_s, if_pos (by simp; omega)]
  refine x_aload_n (pc' := 1) hE dX9_safeNow_0 rfl rfl ?_
  refine x_cV0 (pc' := 4) hE hM (okM G) hl hR (c_X9_save l G _) kX9_save tM_X9_183 (rcvM hM) (by decide) dX9_safeNow_1 rfl rfl (Nat.le_of_ble_eq_true rfl) (fun σ8 e8 => ?_)
  obtain ⟨hs, hc⟩ := e8
  generalize σ8 = S at *
  refine x_iconst (pc' := 5) hE dX9_safeNow_4 rfl ?_
  refine x_istore_n (pc' := 6) hE dX9_safeNow_5 rfl (by decide) rfl rfl ?_
  dsimp only [List.set]
  exact loop 10 0 S hs hc (by omega) (by omega) (by omega) rfl
end
