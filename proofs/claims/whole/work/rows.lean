section
-- ===== PART A: goes FIRST, ahead of the names: the tables' words, and 'selects' of the private methods out of them =====
/-- a private method of a class that the tables say can be made, by its rows of tables_1 -/
def lw_okq (q : MethodName × Nat) : Prop := (q.1.cls ≠ "java/lang/invoke/MethodHandle" ∧ q.1.cls ≠ "java/lang/invoke/VarHandle") ∧ Cond.instantiable q.1.cls q.2 ∈ tables_1 ∧ Cond.privateMethod q.1 ∈ tables_1 ∧ Cond.instanceMethod q.1 ∈ tables_1
theorem lw_p0 : lw_okq (⟨"GliderDay", "countOf", "(I)I"⟩, 13) := ⟨⟨by decide +kernel, by decide +kernel⟩, List.mem_of_getElem? (i := 22) (by decide +kernel), List.mem_of_getElem? (i := 145) (by decide +kernel), List.mem_of_getElem? (i := 146) (by decide +kernel)⟩
theorem lw_p1 : lw_okq (⟨"GliderDay", "glidersInTheAir", "()I"⟩, 13) := ⟨⟨by decide +kernel, by decide +kernel⟩, List.mem_of_getElem? (i := 22) (by decide +kernel), List.mem_of_getElem? (i := 149) (by decide +kernel), List.mem_of_getElem? (i := 150) (by decide +kernel)⟩
theorem lw_p2 : lw_okq (⟨"GliderDay", "freeTugs", "()I"⟩, 13) := ⟨⟨by decide +kernel, by decide +kernel⟩, List.mem_of_getElem? (i := 22) (by decide +kernel), List.mem_of_getElem? (i := 154) (by decide +kernel), List.mem_of_getElem? (i := 155) (by decide +kernel)⟩
theorem lw_p3 : lw_okq (⟨"GliderDay", "tugsTaken", "()I"⟩, 13) := ⟨⟨by decide +kernel, by decide +kernel⟩, List.mem_of_getElem? (i := 22) (by decide +kernel), List.mem_of_getElem? (i := 158) (by decide +kernel), List.mem_of_getElem? (i := 159) (by decide +kernel)⟩
theorem lw_p4 : lw_okq (⟨"GliderDay", "mixedMembers", "(J)J"⟩, 13) := ⟨⟨by decide +kernel, by decide +kernel⟩, List.mem_of_getElem? (i := 22) (by decide +kernel), List.mem_of_getElem? (i := 162) (by decide +kernel), List.mem_of_getElem? (i := 163) (by decide +kernel)⟩
theorem lw_p5 : lw_okq (⟨"GliderDay", "mixedGliders", "(J)J"⟩, 13) := ⟨⟨by decide +kernel, by decide +kernel⟩, List.mem_of_getElem? (i := 22) (by decide +kernel), List.mem_of_getElem? (i := 170) (by decide +kernel), List.mem_of_getElem? (i := 171) (by decide +kernel)⟩
theorem lw_p6 : lw_okq (⟨"GliderDay", "mixedFlights", "(J)J"⟩, 13) := ⟨⟨by decide +kernel, by decide +kernel⟩, List.mem_of_getElem? (i := 22) (by decide +kernel), List.mem_of_getElem? (i := 177) (by decide +kernel), List.mem_of_getElem? (i := 178) (by decide +kernel)⟩
theorem lw_p7 : lw_okq (⟨"java/lang/Throwable", "fillInStackTrace", "(I)Ljava/lang/Throwable;"⟩, 6) := ⟨⟨by decide +kernel, by decide +kernel⟩, List.mem_of_getElem? (i := 234) (by decide +kernel), List.mem_of_getElem? (i := 232) (by decide +kernel), List.mem_of_getElem? (i := 233) (by decide +kernel)⟩
theorem lw_p8 : lw_okq (⟨"java/util/ArrayList", "add", "(Ljava/lang/Object;[Ljava/lang/Object;I)V"⟩, 3) := ⟨⟨by decide +kernel, by decide +kernel⟩, List.mem_of_getElem? (i := 30) (by decide +kernel), List.mem_of_getElem? (i := 316) (by decide +kernel), List.mem_of_getElem? (i := 317) (by decide +kernel)⟩
theorem lw_p9 : lw_okq (⟨"java/util/ArrayList", "grow", "()[Ljava/lang/Object;"⟩, 3) := ⟨⟨by decide +kernel, by decide +kernel⟩, List.mem_of_getElem? (i := 30) (by decide +kernel), List.mem_of_getElem? (i := 320) (by decide +kernel), List.mem_of_getElem? (i := 321) (by decide +kernel)⟩
theorem lw_p10 : lw_okq (⟨"java/util/ArrayList", "grow", "(I)[Ljava/lang/Object;"⟩, 3) := ⟨⟨by decide +kernel, by decide +kernel⟩, List.mem_of_getElem? (i := 30) (by decide +kernel), List.mem_of_getElem? (i := 324) (by decide +kernel), List.mem_of_getElem? (i := 325) (by decide +kernel)⟩
theorem lw_p11 : lw_okq (⟨"GliderDay", "gliderAt", "(I)LGliderDay$Glider;"⟩, 13) := ⟨⟨by decide +kernel, by decide +kernel⟩, List.mem_of_getElem? (i := 22) (by decide +kernel), List.mem_of_getElem? (i := 451) (by decide +kernel), List.mem_of_getElem? (i := 452) (by decide +kernel)⟩
theorem lw_p12 : lw_okq (⟨"GliderDay", "memberAt", "(I)LGliderDay$Member;"⟩, 13) := ⟨⟨by decide +kernel, by decide +kernel⟩, List.mem_of_getElem? (i := 22) (by decide +kernel), List.mem_of_getElem? (i := 479) (by decide +kernel), List.mem_of_getElem? (i := 480) (by decide +kernel)⟩
theorem lw_p13 : lw_okq (⟨"GliderDay", "listedFlightAt", "(I)LGliderDay$Flight;"⟩, 13) := ⟨⟨by decide +kernel, by decide +kernel⟩, List.mem_of_getElem? (i := 22) (by decide +kernel), List.mem_of_getElem? (i := 568) (by decide +kernel), List.mem_of_getElem? (i := 569) (by decide +kernel)⟩
theorem lw_p14 : lw_okq (⟨"GliderDay", "flightAt", "(I)LGliderDay$Flight;"⟩, 13) := ⟨⟨by decide +kernel, by decide +kernel⟩, List.mem_of_getElem? (i := 22) (by decide +kernel), List.mem_of_getElem? (i := 572) (by decide +kernel), List.mem_of_getElem? (i := 573) (by decide +kernel)⟩
theorem lw_p15 : lw_okq (⟨"GliderDay", "placeOf", "(LGliderDay$Flight;)I"⟩, 13) := ⟨⟨by decide +kernel, by decide +kernel⟩, List.mem_of_getElem? (i := 22) (by decide +kernel), List.mem_of_getElem? (i := 578) (by decide +kernel), List.mem_of_getElem? (i := 579) (by decide +kernel)⟩
def lw_privs_1 : List (MethodName × Nat) := [(⟨"GliderDay", "countOf", "(I)I"⟩, 13), (⟨"GliderDay", "glidersInTheAir", "()I"⟩, 13), (⟨"GliderDay", "freeTugs", "()I"⟩, 13), (⟨"GliderDay", "tugsTaken", "()I"⟩, 13), (⟨"GliderDay", "mixedMembers", "(J)J"⟩, 13), (⟨"GliderDay", "mixedGliders", "(J)J"⟩, 13), (⟨"GliderDay", "mixedFlights", "(J)J"⟩, 13), (⟨"java/lang/Throwable", "fillInStackTrace", "(I)Ljava/lang/Throwable;"⟩, 6), (⟨"java/util/ArrayList", "add", "(Ljava/lang/Object;[Ljava/lang/Object;I)V"⟩, 3), (⟨"java/util/ArrayList", "grow", "()[Ljava/lang/Object;"⟩, 3), (⟨"java/util/ArrayList", "grow", "(I)[Ljava/lang/Object;"⟩, 3), (⟨"GliderDay", "gliderAt", "(I)LGliderDay$Glider;"⟩, 13), (⟨"GliderDay", "memberAt", "(I)LGliderDay$Member;"⟩, 13), (⟨"GliderDay", "listedFlightAt", "(I)LGliderDay$Flight;"⟩, 13), (⟨"GliderDay", "flightAt", "(I)LGliderDay$Flight;"⟩, 13), (⟨"GliderDay", "placeOf", "(LGliderDay$Flight;)I"⟩, 13)]
theorem lw_r1 : ∀ q ∈ lw_privs_1, lw_okq q := List.forall_mem_cons.mpr ⟨lw_p0, List.forall_mem_cons.mpr ⟨lw_p1, List.forall_mem_cons.mpr ⟨lw_p2, List.forall_mem_cons.mpr ⟨lw_p3, List.forall_mem_cons.mpr ⟨lw_p4, List.forall_mem_cons.mpr ⟨lw_p5, List.forall_mem_cons.mpr ⟨lw_p6, List.forall_mem_cons.mpr ⟨lw_p7, List.forall_mem_cons.mpr ⟨lw_p8, List.forall_mem_cons.mpr ⟨lw_p9, List.forall_mem_cons.mpr ⟨lw_p10, List.forall_mem_cons.mpr ⟨lw_p11, List.forall_mem_cons.mpr ⟨lw_p12, List.forall_mem_cons.mpr ⟨lw_p13, List.forall_mem_cons.mpr ⟨lw_p14, List.forall_mem_cons.mpr ⟨lw_p15, fun _ h => absurd h List.not_mem_nil⟩⟩⟩⟩⟩⟩⟩⟩⟩⟩⟩⟩⟩⟩⟩⟩
theorem lw_p16 : lw_okq (⟨"GliderDay", "takeOffList", "(I)V"⟩, 13) := ⟨⟨by decide +kernel, by decide +kernel⟩, List.mem_of_getElem? (i := 22) (by decide +kernel), List.mem_of_getElem? (i := 582) (by decide +kernel), List.mem_of_getElem? (i := 583) (by decide +kernel)⟩
theorem lw_p17 : lw_okq (⟨"java/util/ArrayList", "fastRemove", "([Ljava/lang/Object;I)V"⟩, 3) := ⟨⟨by decide +kernel, by decide +kernel⟩, List.mem_of_getElem? (i := 30) (by decide +kernel), List.mem_of_getElem? (i := 590) (by decide +kernel), List.mem_of_getElem? (i := 591) (by decide +kernel)⟩
theorem lw_p18 : lw_okq (⟨"GliderDay", "reasonAgainst", "(LGliderDay$Flight;)I"⟩, 13) := ⟨⟨by decide +kernel, by decide +kernel⟩, List.mem_of_getElem? (i := 22) (by decide +kernel), List.mem_of_getElem? (i := 610) (by decide +kernel), List.mem_of_getElem? (i := 611) (by decide +kernel)⟩
theorem lw_p19 : lw_okq (⟨"GliderDay", "isTooWindyFor", "(LGliderDay$Flight;)Z"⟩, 13) := ⟨⟨by decide +kernel, by decide +kernel⟩, List.mem_of_getElem? (i := 22) (by decide +kernel), List.mem_of_getElem? (i := 623) (by decide +kernel), List.mem_of_getElem? (i := 624) (by decide +kernel)⟩
theorem lw_p20 : lw_okq (⟨"GliderDay", "hasNothingToLaunch", "(LGliderDay$Flight;)Z"⟩, 13) := ⟨⟨by decide +kernel, by decide +kernel⟩, List.mem_of_getElem? (i := 22) (by decide +kernel), List.mem_of_getElem? (i := 630) (by decide +kernel), List.mem_of_getElem? (i := 631) (by decide +kernel)⟩
theorem lw_p21 : lw_okq (⟨"GliderDay", "passMinute", "()Z"⟩, 13) := ⟨⟨by decide +kernel, by decide +kernel⟩, List.mem_of_getElem? (i := 22) (by decide +kernel), List.mem_of_getElem? (i := 651) (by decide +kernel), List.mem_of_getElem? (i := 652) (by decide +kernel)⟩
theorem lw_p22 : lw_okq (⟨"GliderDay", "freeCables", "()V"⟩, 13) := ⟨⟨by decide +kernel, by decide +kernel⟩, List.mem_of_getElem? (i := 22) (by decide +kernel), List.mem_of_getElem? (i := 655) (by decide +kernel), List.mem_of_getElem? (i := 656) (by decide +kernel)⟩
theorem lw_p23 : lw_okq (⟨"GliderDay", "freeDueTugs", "()V"⟩, 13) := ⟨⟨by decide +kernel, by decide +kernel⟩, List.mem_of_getElem? (i := 22) (by decide +kernel), List.mem_of_getElem? (i := 659) (by decide +kernel), List.mem_of_getElem? (i := 660) (by decide +kernel)⟩
theorem lw_p24 : lw_okq (⟨"GliderDay", "beginToWait", "()V"⟩, 13) := ⟨⟨by decide +kernel, by decide +kernel⟩, List.mem_of_getElem? (i := 22) (by decide +kernel), List.mem_of_getElem? (i := 663) (by decide +kernel), List.mem_of_getElem? (i := 664) (by decide +kernel)⟩
theorem lw_p25 : lw_okq (⟨"GliderDay", "mustLand", "(LGliderDay$Glider;)Z"⟩, 13) := ⟨⟨by decide +kernel, by decide +kernel⟩, List.mem_of_getElem? (i := 22) (by decide +kernel), List.mem_of_getElem? (i := 667) (by decide +kernel), List.mem_of_getElem? (i := 668) (by decide +kernel)⟩
theorem lw_p26 : lw_okq (⟨"GliderDay", "landFirstWaiting", "()V"⟩, 13) := ⟨⟨by decide +kernel, by decide +kernel⟩, List.mem_of_getElem? (i := 22) (by decide +kernel), List.mem_of_getElem? (i := 671) (by decide +kernel), List.mem_of_getElem? (i := 672) (by decide +kernel)⟩
theorem lw_p27 : lw_okq (⟨"GliderDay", "land", "(LGliderDay$Glider;LGliderDay$Flight;)V"⟩, 13) := ⟨⟨by decide +kernel, by decide +kernel⟩, List.mem_of_getElem? (i := 22) (by decide +kernel), List.mem_of_getElem? (i := 679) (by decide +kernel), List.mem_of_getElem? (i := 680) (by decide +kernel)⟩
theorem lw_p28 : lw_okq (⟨"GliderDay", "startFirstThatCan", "()Z"⟩, 13) := ⟨⟨by decide +kernel, by decide +kernel⟩, List.mem_of_getElem? (i := 22) (by decide +kernel), List.mem_of_getElem? (i := 693) (by decide +kernel), List.mem_of_getElem? (i := 694) (by decide +kernel)⟩
theorem lw_p29 : lw_okq (⟨"GliderDay", "start", "(LGliderDay$Flight;)V"⟩, 13) := ⟨⟨by decide +kernel, by decide +kernel⟩, List.mem_of_getElem? (i := 22) (by decide +kernel), List.mem_of_getElem? (i := 697) (by decide +kernel), List.mem_of_getElem? (i := 698) (by decide +kernel)⟩
theorem lw_p30 : lw_okq (⟨"GliderDay", "takeCable", "()V"⟩, 13) := ⟨⟨by decide +kernel, by decide +kernel⟩, List.mem_of_getElem? (i := 22) (by decide +kernel), List.mem_of_getElem? (i := 701) (by decide +kernel), List.mem_of_getElem? (i := 702) (by decide +kernel)⟩
theorem lw_p31 : lw_okq (⟨"GliderDay", "takeTug", "(I)V"⟩, 13) := ⟨⟨by decide +kernel, by decide +kernel⟩, List.mem_of_getElem? (i := 22) (by decide +kernel), List.mem_of_getElem? (i := 705) (by decide +kernel), List.mem_of_getElem? (i := 706) (by decide +kernel)⟩
def lw_privs_2 : List (MethodName × Nat) := [(⟨"GliderDay", "takeOffList", "(I)V"⟩, 13), (⟨"java/util/ArrayList", "fastRemove", "([Ljava/lang/Object;I)V"⟩, 3), (⟨"GliderDay", "reasonAgainst", "(LGliderDay$Flight;)I"⟩, 13), (⟨"GliderDay", "isTooWindyFor", "(LGliderDay$Flight;)Z"⟩, 13), (⟨"GliderDay", "hasNothingToLaunch", "(LGliderDay$Flight;)Z"⟩, 13), (⟨"GliderDay", "passMinute", "()Z"⟩, 13), (⟨"GliderDay", "freeCables", "()V"⟩, 13), (⟨"GliderDay", "freeDueTugs", "()V"⟩, 13), (⟨"GliderDay", "beginToWait", "()V"⟩, 13), (⟨"GliderDay", "mustLand", "(LGliderDay$Glider;)Z"⟩, 13), (⟨"GliderDay", "landFirstWaiting", "()V"⟩, 13), (⟨"GliderDay", "land", "(LGliderDay$Glider;LGliderDay$Flight;)V"⟩, 13), (⟨"GliderDay", "startFirstThatCan", "()Z"⟩, 13), (⟨"GliderDay", "start", "(LGliderDay$Flight;)V"⟩, 13), (⟨"GliderDay", "takeCable", "()V"⟩, 13), (⟨"GliderDay", "takeTug", "(I)V"⟩, 13)]
theorem lw_r2 : ∀ q ∈ lw_privs_2, lw_okq q := List.forall_mem_cons.mpr ⟨lw_p16, List.forall_mem_cons.mpr ⟨lw_p17, List.forall_mem_cons.mpr ⟨lw_p18, List.forall_mem_cons.mpr ⟨lw_p19, List.forall_mem_cons.mpr ⟨lw_p20, List.forall_mem_cons.mpr ⟨lw_p21, List.forall_mem_cons.mpr ⟨lw_p22, List.forall_mem_cons.mpr ⟨lw_p23, List.forall_mem_cons.mpr ⟨lw_p24, List.forall_mem_cons.mpr ⟨lw_p25, List.forall_mem_cons.mpr ⟨lw_p26, List.forall_mem_cons.mpr ⟨lw_p27, List.forall_mem_cons.mpr ⟨lw_p28, List.forall_mem_cons.mpr ⟨lw_p29, List.forall_mem_cons.mpr ⟨lw_p30, List.forall_mem_cons.mpr ⟨lw_p31, fun _ h => absurd h List.not_mem_nil⟩⟩⟩⟩⟩⟩⟩⟩⟩⟩⟩⟩⟩⟩⟩⟩
theorem lw_p32 : lw_okq (⟨"GliderDayModel", "no", "(I)I"⟩, 30) := ⟨⟨by decide +kernel, by decide +kernel⟩, List.mem_of_getElem? (i := 740) (by decide +kernel), List.mem_of_getElem? (i := 849) (by decide +kernel), List.mem_of_getElem? (i := 850) (by decide +kernel)⟩
theorem lw_p33 : lw_okq (⟨"GliderDayModel", "takenTugs", "()I"⟩, 30) := ⟨⟨by decide +kernel, by decide +kernel⟩, List.mem_of_getElem? (i := 740) (by decide +kernel), List.mem_of_getElem? (i := 869) (by decide +kernel), List.mem_of_getElem? (i := 870) (by decide +kernel)⟩
theorem lw_p34 : lw_okq (⟨"GliderDayModel", "isGlider", "(I)Z"⟩, 30) := ⟨⟨by decide +kernel, by decide +kernel⟩, List.mem_of_getElem? (i := 740) (by decide +kernel), List.mem_of_getElem? (i := 877) (by decide +kernel), List.mem_of_getElem? (i := 878) (by decide +kernel)⟩
theorem lw_p35 : lw_okq (⟨"GliderDayModel", "flightOf", "(I)I"⟩, 30) := ⟨⟨by decide +kernel, by decide +kernel⟩, List.mem_of_getElem? (i := 740) (by decide +kernel), List.mem_of_getElem? (i := 881) (by decide +kernel), List.mem_of_getElem? (i := 882) (by decide +kernel)⟩
theorem lw_p36 : lw_okq (⟨"GliderDayModel", "isMember", "(I)Z"⟩, 30) := ⟨⟨by decide +kernel, by decide +kernel⟩, List.mem_of_getElem? (i := 740) (by decide +kernel), List.mem_of_getElem? (i := 889) (by decide +kernel), List.mem_of_getElem? (i := 890) (by decide +kernel)⟩
theorem lw_p37 : lw_okq (⟨"GliderDayModel", "landed", "(II)I"⟩, 30) := ⟨⟨by decide +kernel, by decide +kernel⟩, List.mem_of_getElem? (i := 740) (by decide +kernel), List.mem_of_getElem? (i := 893) (by decide +kernel), List.mem_of_getElem? (i := 894) (by decide +kernel)⟩
theorem lw_p38 : lw_okq (⟨"GliderDayModel", "withTeacher", "(I)Z"⟩, 30) := ⟨⟨by decide +kernel, by decide +kernel⟩, List.mem_of_getElem? (i := 740) (by decide +kernel), List.mem_of_getElem? (i := 897) (by decide +kernel), List.mem_of_getElem? (i := 898) (by decide +kernel)⟩
theorem lw_p39 : lw_okq (⟨"GliderDayModel", "flies", "(I)Z"⟩, 30) := ⟨⟨by decide +kernel, by decide +kernel⟩, List.mem_of_getElem? (i := 740) (by decide +kernel), List.mem_of_getElem? (i := 901) (by decide +kernel), List.mem_of_getElem? (i := 902) (by decide +kernel)⟩
theorem lw_p40 : lw_okq (⟨"GliderDayModel", "toldOfMember", "(II)I"⟩, 30) := ⟨⟨by decide +kernel, by decide +kernel⟩, List.mem_of_getElem? (i := 740) (by decide +kernel), List.mem_of_getElem? (i := 909) (by decide +kernel), List.mem_of_getElem? (i := 910) (by decide +kernel)⟩
theorem lw_p41 : lw_okq (⟨"GliderDayModel", "toldOfGlider", "(II)I"⟩, 30) := ⟨⟨by decide +kernel, by decide +kernel⟩, List.mem_of_getElem? (i := 740) (by decide +kernel), List.mem_of_getElem? (i := 917) (by decide +kernel), List.mem_of_getElem? (i := 918) (by decide +kernel)⟩
theorem lw_p42 : lw_okq (⟨"GliderDayModel", "with", "(I)I"⟩, 30) := ⟨⟨by decide +kernel, by decide +kernel⟩, List.mem_of_getElem? (i := 740) (by decide +kernel), List.mem_of_getElem? (i := 925) (by decide +kernel), List.mem_of_getElem? (i := 926) (by decide +kernel)⟩
theorem lw_p43 : lw_okq (⟨"GliderDayModel", "isFlight", "(I)Z"⟩, 30) := ⟨⟨by decide +kernel, by decide +kernel⟩, List.mem_of_getElem? (i := 740) (by decide +kernel), List.mem_of_getElem? (i := 933) (by decide +kernel), List.mem_of_getElem? (i := 934) (by decide +kernel)⟩
theorem lw_p44 : lw_okq (⟨"GliderDayModel", "place", "(I)I"⟩, 30) := ⟨⟨by decide +kernel, by decide +kernel⟩, List.mem_of_getElem? (i := 740) (by decide +kernel), List.mem_of_getElem? (i := 937) (by decide +kernel), List.mem_of_getElem? (i := 938) (by decide +kernel)⟩
theorem lw_p45 : lw_okq (⟨"GliderDayModel", "reasonOf", "(I)I"⟩, 30) := ⟨⟨by decide +kernel, by decide +kernel⟩, List.mem_of_getElem? (i := 740) (by decide +kernel), List.mem_of_getElem? (i := 949) (by decide +kernel), List.mem_of_getElem? (i := 950) (by decide +kernel)⟩
theorem lw_p46 : lw_okq (⟨"GliderDayModel", "isBusyNow", "()Z"⟩, 30) := ⟨⟨by decide +kernel, by decide +kernel⟩, List.mem_of_getElem? (i := 740) (by decide +kernel), List.mem_of_getElem? (i := 956) (by decide +kernel), List.mem_of_getElem? (i := 957) (by decide +kernel)⟩
theorem lw_p47 : lw_okq (⟨"GliderDayModel", "minute", "()Z"⟩, 30) := ⟨⟨by decide +kernel, by decide +kernel⟩, List.mem_of_getElem? (i := 740) (by decide +kernel), List.mem_of_getElem? (i := 968) (by decide +kernel), List.mem_of_getElem? (i := 969) (by decide +kernel)⟩
def lw_privs_3 : List (MethodName × Nat) := [(⟨"GliderDayModel", "no", "(I)I"⟩, 30), (⟨"GliderDayModel", "takenTugs", "()I"⟩, 30), (⟨"GliderDayModel", "isGlider", "(I)Z"⟩, 30), (⟨"GliderDayModel", "flightOf", "(I)I"⟩, 30), (⟨"GliderDayModel", "isMember", "(I)Z"⟩, 30), (⟨"GliderDayModel", "landed", "(II)I"⟩, 30), (⟨"GliderDayModel", "withTeacher", "(I)Z"⟩, 30), (⟨"GliderDayModel", "flies", "(I)Z"⟩, 30), (⟨"GliderDayModel", "toldOfMember", "(II)I"⟩, 30), (⟨"GliderDayModel", "toldOfGlider", "(II)I"⟩, 30), (⟨"GliderDayModel", "with", "(I)I"⟩, 30), (⟨"GliderDayModel", "isFlight", "(I)Z"⟩, 30), (⟨"GliderDayModel", "place", "(I)I"⟩, 30), (⟨"GliderDayModel", "reasonOf", "(I)I"⟩, 30), (⟨"GliderDayModel", "isBusyNow", "()Z"⟩, 30), (⟨"GliderDayModel", "minute", "()Z"⟩, 30)]
theorem lw_r3 : ∀ q ∈ lw_privs_3, lw_okq q := List.forall_mem_cons.mpr ⟨lw_p32, List.forall_mem_cons.mpr ⟨lw_p33, List.forall_mem_cons.mpr ⟨lw_p34, List.forall_mem_cons.mpr ⟨lw_p35, List.forall_mem_cons.mpr ⟨lw_p36, List.forall_mem_cons.mpr ⟨lw_p37, List.forall_mem_cons.mpr ⟨lw_p38, List.forall_mem_cons.mpr ⟨lw_p39, List.forall_mem_cons.mpr ⟨lw_p40, List.forall_mem_cons.mpr ⟨lw_p41, List.forall_mem_cons.mpr ⟨lw_p42, List.forall_mem_cons.mpr ⟨lw_p43, List.forall_mem_cons.mpr ⟨lw_p44, List.forall_mem_cons.mpr ⟨lw_p45, List.forall_mem_cons.mpr ⟨lw_p46, List.forall_mem_cons.mpr ⟨lw_p47, fun _ h => absurd h List.not_mem_nil⟩⟩⟩⟩⟩⟩⟩⟩⟩⟩⟩⟩⟩⟩⟩⟩
theorem lw_p48 : lw_okq (⟨"GliderDayModel", "land", "(I)V"⟩, 30) := ⟨⟨by decide +kernel, by decide +kernel⟩, List.mem_of_getElem? (i := 740) (by decide +kernel), List.mem_of_getElem? (i := 972) (by decide +kernel), List.mem_of_getElem? (i := 973) (by decide +kernel)⟩
theorem lw_p49 : lw_okq (⟨"GliderDayModel", "begin", "(I)V"⟩, 30) := ⟨⟨by decide +kernel, by decide +kernel⟩, List.mem_of_getElem? (i := 740) (by decide +kernel), List.mem_of_getElem? (i := 976) (by decide +kernel), List.mem_of_getElem? (i := 977) (by decide +kernel)⟩
theorem lw_p50 : lw_okq (⟨"GliderDayModel", "toldOf", "(II)I"⟩, 30) := ⟨⟨by decide +kernel, by decide +kernel⟩, List.mem_of_getElem? (i := 740) (by decide +kernel), List.mem_of_getElem? (i := 988) (by decide +kernel), List.mem_of_getElem? (i := 989) (by decide +kernel)⟩
theorem lw_p51 : lw_okq (⟨"GliderDayModel", "costOf", "(I)I"⟩, 30) := ⟨⟨by decide +kernel, by decide +kernel⟩, List.mem_of_getElem? (i := 740) (by decide +kernel), List.mem_of_getElem? (i := 992) (by decide +kernel), List.mem_of_getElem? (i := 993) (by decide +kernel)⟩
theorem lw_p52 : lw_okq (⟨"GliderDayModel", "counted", "(I)I"⟩, 30) := ⟨⟨by decide +kernel, by decide +kernel⟩, List.mem_of_getElem? (i := 740) (by decide +kernel), List.mem_of_getElem? (i := 1001) (by decide +kernel), List.mem_of_getElem? (i := 1002) (by decide +kernel)⟩
theorem lw_p53 : lw_okq (⟨"GliderDayModel", "billOf", "(I)I"⟩, 30) := ⟨⟨by decide +kernel, by decide +kernel⟩, List.mem_of_getElem? (i := 740) (by decide +kernel), List.mem_of_getElem? (i := 1013) (by decide +kernel), List.mem_of_getElem? (i := 1014) (by decide +kernel)⟩
def lw_privs_4 : List (MethodName × Nat) := [(⟨"GliderDayModel", "land", "(I)V"⟩, 30), (⟨"GliderDayModel", "begin", "(I)V"⟩, 30), (⟨"GliderDayModel", "toldOf", "(II)I"⟩, 30), (⟨"GliderDayModel", "costOf", "(I)I"⟩, 30), (⟨"GliderDayModel", "counted", "(I)I"⟩, 30), (⟨"GliderDayModel", "billOf", "(I)I"⟩, 30)]
theorem lw_r4 : ∀ q ∈ lw_privs_4, lw_okq q := List.forall_mem_cons.mpr ⟨lw_p48, List.forall_mem_cons.mpr ⟨lw_p49, List.forall_mem_cons.mpr ⟨lw_p50, List.forall_mem_cons.mpr ⟨lw_p51, List.forall_mem_cons.mpr ⟨lw_p52, List.forall_mem_cons.mpr ⟨lw_p53, fun _ h => absurd h List.not_mem_nil⟩⟩⟩⟩⟩⟩
def lw_privs : List (MethodName × Nat) := lw_privs_1 ++ (lw_privs_2 ++ (lw_privs_3 ++ (lw_privs_4)))
def lw_tbl : List Cond := k2_sels lw_privs ++ tables_1
theorem lw_privs_ok : ∀ q ∈ lw_privs, lw_okq q := by
  show ∀ q ∈ lw_privs_1 ++ (lw_privs_2 ++ (lw_privs_3 ++ (lw_privs_4))), lw_okq q
  exact List.forall_mem_append.mpr ⟨lw_r1, List.forall_mem_append.mpr ⟨lw_r2, List.forall_mem_append.mpr ⟨lw_r3, lw_r4⟩⟩⟩
/-- the streams that the claim lets the run draw from -/
abbrev lw_cs : List Choice := [Jvm.Choice.named "NaN.bits"]
theorem lw_bits : nanBits ∈ lw_cs := by first | decide | exact List.mem_cons_self | simp [lw_cs, nanBits]
-- ===== end of PART A; then your names; then what follows =====
end
section
/-! ===== BEGIN words of one list among another's, by their places ===== -/
theorem goodIn_r {big : List Cond} (ws : List Cond) (ps : List Nat) (hp : ws = ps.filterMap (fun i => big[i]?)) (h : ws.all goodWord = true) : GoodIn big ws := by
  intro w hw
  have h1 := List.all_eq_true.mp h w hw
  rw [hp] at hw
  obtain ⟨i, -, hi⟩ := List.mem_filterMap.mp hw
  have hm : w ∈ big := by first | exact List.mem_of_getElem? hi | exact List.getElem?_mem hi
  exact ⟨hm, good_of_word h1⟩
theorem goodIn_app {big a b : List Cond} (ha : GoodIn big a) (hb : GoodIn big b) : GoodIn big (a ++ b) := fun w h => (List.mem_append.mp h).elim (ha w) (hb w)
theorem goodIn_ca {big a b : List Cond} {c : Cond} (ha : GoodIn big (c :: a)) (hb : GoodIn big b) : GoodIn big (c :: (a ++ b)) := fun w h => (List.mem_cons.mp h).elim (fun e => ha w (List.mem_cons.mpr (Or.inl e))) (fun h => (List.mem_append.mp h).elim (fun h => ha w (List.mem_cons.mpr (Or.inr h))) (hb w))
theorem goodIn_sub {big ws : List Cond} (hm : ∀ w ∈ ws, w ∈ big) (h : ws.all goodWord = true) : GoodIn big ws := fun w hw => ⟨hm w hw, good_of_word (List.all_eq_true.mp h w hw)⟩
/-! ===== END ===== -/

/-! ===== BEGIN exceptions that leave a method, and their catching by the caller (launches without stack traces) ===== -/
section VXA
/-! The laws vx_back, vx_callV, vx_callS, vx_callSW, vx_throw0, vx_throwS follow proofs of the library, with one case more: JvmDerived/Free/Laws.lean (Back.of_free), Shelf42/LK1.lean (callV, callS), Shelf/KitTraced.lean (throwNew0V, throwNewS). -/
/-- where a method has thrown q: the class by its name, the cell, what was written, the world -/
def vx_T (XC : String → State → State → Prop) (st : State) (q : Addr) (t : State) (mc ms : Nat) (free : Addr → Prop) : Prop :=
  ∃ (E : String) (ce : Cell) (L : List Loc), XC E st t ∧ t.heap[q]? = some ce ∧ ce.vm = .none ∧ st.vm.findClass E = some ce.cls ∧ st.WarmedH t.vm ∧ st.sameButNew ({ t with vm := st.vm } : State) L mc ms ∧ ∀ z ∈ L, free z.base
def vx_Q (Qc : Array Value → State → Outcome → State → Prop) (XC : String → State → State → Prop) (mc ms : Nat) (free : Addr → Prop) : Array Value → State → Outcome → State → Prop := fun a st o t =>
  (Qc a st o t ∧ ∃ L, FrameEnd st o t L mc ms ∧ ∀ q ∈ L, free q.base) ∨ ∃ q, o = .threw q ∧ vx_T XC st q t mc ms free
/-- a callee that returns or throws -/
def vx_Met (l : Launch) (y : MethodName) (ws : List Cond) (rm : Room) (Pc : Array Value → State → Prop) (Qc : Array Value → State → Outcome → State → Prop) (XC : String → State → State → Prop) (mc ms : Nat) (free : Addr → Prop) : Prop :=
  MetFree l y (headSpec ws rm) Pc (fun _ _ _ _ _ => True) (vx_Q Qc XC mc ms free)
def vx_Post (XC : String → State → State → Prop) (mc ms : Nat) (free : Addr → Prop) : Pt → Array Value → Addr → Pt → Prop := fun A a q B =>
  ∃ (g : JFrame) (mk : MethodId) (t : State) (L : List Loc) (E : String) (ce : Cell), B.U.heap = t.heap ∧ B.U.vm = t.vm ∧ XC E (A.U.calling g mk a) t ∧ t.heap[q]? = some ce ∧ ce.vm = .none ∧ A.U.vm.findClass E = some ce.cls ∧ B.locs = A.locs ++ L ∧ (∀ z ∈ L, free z.base) ∧ B.cells = A.cells + mc ∧ B.slots = A.slots + ms
def vx_Back (l : Launch) (R : Room) (p : Program) (e : Env) (below : List Frame) (s : State) (sargs : Array Value) (y : MethodName) (len W9 : Nat)
    (Pre : Pt → Array Value → Prop) (Post : Pt → Array Value → Option Value → Pt → Prop) (PostX : Pt → Array Value → Addr → Pt → Prop) : Prop :=
  ∀ (m : MethodId) (meth : Method) (c : Code) (A : Pt) (g : JFrame) (ig : Instr) (mk : MethodId) (a : Array Value),
    Stand p l e R s m sargs below meth c A.U A.locs A.cells A.slots → g.method = m → g.locals.size = c.maxLocals → decode c.code g.pc = .ok (ig, len) →
    2 * g.monitorRoom + (g.stack.map fun v => v.category).sum ≤ W9 → A.U.methodNamed? y = some mk → Pre A a →
    (∃ (v : Option Value) (B : Pt), Stand p l e R s m sargs below meth c B.U B.locs B.cells B.slots ∧ Post A a v B ∧
      Steps p.tables e below (doInvoke e (A.U.setTop g) [] mk a).1 (B.U.setTop { g with pc := g.pc + len, stack := v.toList ++ g.stack })) ∨
    (∃ (q : Addr) (B : Pt), Stand p l e R s m sargs below meth c B.U B.locs B.cells B.slots ∧ PostX A a q B ∧
      Steps p.tables e below (doInvoke e (A.U.setTop g) [] mk a).1 ((B.U.setTop g).pushFrame (.throwing q)))
section Payer
variable {l : Launch} {R : Room} {p : Program} {e : Env} {below : List Frame} {s : State} {sargs : Array Value} {y : MethodName} {len W9 : Nat}
theorem vx_back {ws : List Cond} {rm : Room} {Pc : Array Value → State → Prop} {Qc : Array Value → State → Outcome → State → Prop} {XC : String → State → State → Prop} {mc ms : Nat} {free : Addr → Prop} {bytes : ByteArray} {maxL : Nat} {ret : Option FieldType}
    (hM : vx_Met l y ws rm Pc Qc XC mc ms free) (hblind : FrameBlind Pc) (hrc : rm.cells = mc) (hrs : rm.slots = ms)
    (hframes : rm.frames + 1 ≤ R.frames) (hlocals : W9 + (maxL + 11) + rm.locals ≤ R.locals)
    (hws : ∀ w ∈ ws, ∀ a' U, s.WarmedH U.vm → w.before a' U = true) (hcode : Cond.code y bytes maxL ret ∈ ws) (hinit : ∀ a' U, s.WarmedH U.vm → (Cond.initialized y.cls).before a' U = true) :
    vx_Back l R p e below s sargs y len W9 (PreOf R mc ms Pc) (PostOf Qc mc ms free) (vx_Post XC mc ms free) := by
  intro m meth c A g ig mk a X hg hsize hdg hW hn hp
  have h1 : (headSpec ws rm).pre.before a A.U = true := atoms_intro fun w hw => hws w hw _ _ X.warmed
  have h2 : (Cond.code y bytes maxL ret).before a A.U = true := hws _ hcode _ _ X.warmed
  have h3 : (Cond.initialized y.cls).before a A.U = true := hinit _ _ X.warmed
  have h4 : A.cells + (headSpec ws rm).room.cells ≤ R.cells := by rw [show (headSpec ws rm).room.cells = mc from hrc]; exact hp.1
  have h5 : A.slots + (headSpec ws rm).room.slots ≤ R.slots := by rw [show (headSpec ws rm).room.slots = ms from hrs]; exact hp.2.1
  have hPc : Pc a (A.U.calling g mk a) := hblind _ _ _ _ hp.2.2
  obtain ⟨U, Ls, c0, s0⟩ := A
  dsimp only [Pt.U, Pt.locs, Pt.cells, Pt.slots] at h1 h2 h3 h4 h5 X hn hPc ⊢
  obtain ⟨methY, cY, hmY, hcY, -, hlY, -, -, -, -⟩ := Cond.code_spec hn h2
  obtain ⟨kY, hkY, -⟩ := className_of_methodNamed hn
  have hinitY : kY.init = .initialized := Cond.initialized_spec (findClass_of_methodNamed hn) hkY h3
  have h : At U g.method c below := by rw [hg]; exact X.here
  have hlocals9 : W9 + (maxL + 11) + (headSpec ws rm).room.locals ≤ R.locals := hlocals
  have happ : (headSpec ws rm).appliesLoose y e.platform (U.calling g mk a) = true :=
    Spec.appliesLoose_calling (g := g) h hdg hn hkY hinitY
      (X.room_calling (g := g) (R' := (headSpec ws rm).room) hsize hmY hcY hframes (by rw [hlY]; omega) h4 h5) h1
  obtain ⟨mid, hmid⟩ := h.above
  have hfr : (U.setTop g).frames = (.java g :: mid) ++ below := by rw [State.frames_setTop' g h.top, hmid]; rfl
  obtain ⟨o, s₂, hsteps, -, hend, hq⟩ := Steps.callFree hM p X.admits X.cas X.clock (acts := []) hfr happ hPc trivial
  have hq' : vx_Q Qc XC mc ms free a (U.calling g mk a) o s₂ := hq
  rw [State.frames_setTop' g h.top] at hend
  obtain ⟨g₀, hg0⟩ := Option.isSome_iff_exists.mp h.top
  obtain ⟨r, hr⟩ := State.topJava?_eq_some.mp hg0
  have hr' : (({ U with heap := s₂.heap, slotsUsed := s₂.slotsUsed } : State).setVm s₂.vm).frames = .java g₀ :: r := hr
  rcases hq' with ⟨hqc, L, hfe, hL⟩ | ⟨q, rfl, E, ce, L, hx, hce, hcv, hcl, hW₂, hsm, hL⟩
  · obtain ⟨⟨v, rfl⟩, hW₂, e2, q2, q3, q4, q5, q6⟩ := id hfe
    have e3 : s₂ = ({ (U.calling g mk a).setFrames s₂.frames with heap := s₂.heap, slotsUsed := s₂.slotsUsed } : State).setVm s₂.vm := by
      have : s₂ = ({ s₂ with vm := (U.calling g mk a).vm } : State).setVm s₂.vm := rfl
      rw [e2] at this
      exact this
    obtain ⟨c₂, i₂, len₂, hc₂, hd₂, hf₂⟩ := hend
    have hW' : U.WarmedH s₂.vm := hW₂
    have hcc : c₂ = c := by
      have h1 : s₂.code? g.method = U.code? g.method := by
        rw [State.code?_eq, State.code?_eq, hW'.alike.method?]
      exact Option.some.inj (hc₂.symm.trans (h1.trans h.code))
    subst hcc
    have hlen : len₂ = len := by rw [hdg] at hd₂; cases hd₂; rfl
    subst hlen
    have hs₂ : s₂ = (({ U with heap := s₂.heap, slotsUsed := s₂.slotsUsed } : State).setVm s₂.vm).setTop { g with pc := g.pc + len₂, stack := v.toList ++ g.stack } := by
      refine e3.trans ?_
      rw [hf₂, State.calling_eq h.top, State.setFrames_setFrames, State.setTop_of_frames _ hr', hr]
      rfl
    have hsame : U.sameButNew ({ U with heap := s₂.heap, slotsUsed := s₂.slotsUsed } : State) L mc ms := by
      refine ⟨?_, q2, q3, q4, q5, q6⟩
      obtain ⟨t, ht, -⟩ := State.frames_cons hr
      show ({ U with heap := s₂.heap, slotsUsed := s₂.slotsUsed } : State) = { U.setFrames U.frames with heap := s₂.heap, slotsUsed := s₂.slotsUsed }
      rw [State.setFrames_self ht]
    subst hg
    refine Or.inl ⟨v, ⟨(({ U with heap := s₂.heap, slotsUsed := s₂.slotsUsed } : State).setVm s₂.vm), Ls ++ L, c0 + mc, s0 + ms⟩,
      ⟨X.admits, X.cas, X.clock, X.frames, X.room, X.hears, X.method, X.code, (X.here.setHeapUsed s₂.heap s₂.slotsUsed).setVm hW'.alike, X.tail, State.WarmedH.trans X.warmed hW', X.limits, X.bytes, X.same.trans (hsame.setVm s.vm)⟩,
      ⟨g, mk, s₂, L, rfl, rfl, hqc, rfl, hL, rfl, rfl⟩, ?_⟩
    show Steps p.tables e below _ ((({ U with heap := s₂.heap, slotsUsed := s₂.slotsUsed } : State).setVm s₂.vm).setTop { g with pc := g.pc + len₂, stack := v.toList ++ g.stack })
    rw [← hs₂]
    exact hsteps
  · obtain ⟨e2, q2, q3, q4, q5, q6⟩ := id hsm
    have e3 : s₂ = ({ (U.calling g mk a).setFrames s₂.frames with heap := s₂.heap, slotsUsed := s₂.slotsUsed } : State).setVm s₂.vm := by
      have : s₂ = ({ s₂ with vm := (U.calling g mk a).vm } : State).setVm s₂.vm := rfl
      rw [e2] at this
      exact this
    have hf₂ : s₂.frames = .throwing q :: .java g :: U.frames.tail := hend
    have hW' : U.WarmedH s₂.vm := hW₂
    have hs₂ : s₂ = ((({ U with heap := s₂.heap, slotsUsed := s₂.slotsUsed } : State).setVm s₂.vm).setTop g).pushFrame (.throwing q) := by
      refine e3.trans ?_
      rw [hf₂, State.calling_eq h.top, State.setFrames_setFrames, State.pushFrame, State.frames_setTop _ hr', State.setTop_of_frames _ hr', State.setFrames_setFrames, hr]
      rfl
    have hsame : U.sameButNew ({ U with heap := s₂.heap, slotsUsed := s₂.slotsUsed } : State) L mc ms := by
      refine ⟨?_, q2, q3, q4, q5, q6⟩
      obtain ⟨t, ht, -⟩ := State.frames_cons hr
      show ({ U with heap := s₂.heap, slotsUsed := s₂.slotsUsed } : State) = { U.setFrames U.frames with heap := s₂.heap, slotsUsed := s₂.slotsUsed }
      rw [State.setFrames_self ht]
    subst hg
    refine Or.inr ⟨q, ⟨(({ U with heap := s₂.heap, slotsUsed := s₂.slotsUsed } : State).setVm s₂.vm), Ls ++ L, c0 + mc, s0 + ms⟩,
      ⟨X.admits, X.cas, X.clock, X.frames, X.room, X.hears, X.method, X.code, (X.here.setHeapUsed s₂.heap s₂.slotsUsed).setVm hW'.alike, X.tail, State.WarmedH.trans X.warmed hW', X.limits, X.bytes, X.same.trans (hsame.setVm s.vm)⟩,
      ⟨g, mk, s₂, L, E, ce, rfl, rfl, hx, hce, hcv, hcl, rfl, hL, rfl, rfl⟩, ?_⟩
    show Steps p.tables e below _ (((({ U with heap := s₂.heap, slotsUsed := s₂.slotsUsed } : State).setVm s₂.vm).setTop g).pushFrame (.throwing q))
    rw [← hs₂]
    exact hsteps
end Payer
section Calls
variable {p : Program} {l : Launch} {e : Env} {R : Room} {s : State} {m : MethodId} {args : Array Value} {below : List Frame} {meth : Method} {c : Code} {T : State} {locs : List Loc} {cells slots : Nat}
theorem vx_callV (X : Stand p l e R s m args below meth c T locs cells slots) (hexec : p.tables.exec = Jvm.exec) {own C : String} {index : Nat} {y : MethodName} {bytes : ByteArray} {maxL : Nat} {ret : Option FieldType}
    (hown : s.vm.findClass own = some m.cls) (hlink : (Cond.methodLink own index y).before args s = true) (hinst : (Cond.instanceMethod y).before args s = true) (hsel : (Cond.selects C y y).before args s = true)
    (hcode : (Cond.code y bytes maxL ret).before args s = true) (hy : y.cls ≠ "java/lang/invoke/MethodHandle" ∧ y.cls ≠ "java/lang/invoke/VarHandle")
    {W9 : Nat} {Pre : Pt → Array Value → Prop} {Post : Pt → Array Value → Option Value → Pt → Prop} {PostX : Pt → Array Value → Addr → Pt → Prop} (hK : vx_Back l R p e below s args y 3 W9 Pre Post PostX)
    {b : Addr} {cellB : Cell} (hcell : T.heap[b]? = some cellB) (hobj : cellB.vm.isStatics = false) (hcls : s.vm.findClass C = some cellB.cls)
    {g : JFrame} (hg : g.method = m) (hsize : g.locals.size = c.maxLocals) {argsL rest : List Value} (hlen : ∀ sig, parseMethodDescriptor y.desc = some sig → argsL.length = sig.parameters.length)
    (hstack : g.stack = argsL.reverse ++ .ref b :: rest) (hW : 2 * g.monitorRoom + (rest.map fun v => v.category).sum ≤ W9) (hdg : decode c.code g.pc = .ok (.invokevirtual index, 3))
    (hpre : ∀ vm₁, s.WarmedH vm₁ → Pre ⟨T.setVm vm₁, locs, cells, slots⟩ (Value.ref b :: argsL).toArray) :
    (∃ (v : Option Value) (vm₁ : Vm) (B : Pt), s.WarmedH vm₁ ∧ Stand p l e R s m args below meth c B.U B.locs B.cells B.slots ∧ Post ⟨T.setVm vm₁, locs, cells, slots⟩ (Value.ref b :: argsL).toArray v B ∧
      ∀ target, Steps p.tables e below (B.U.setTop { g with pc := g.pc + 3, stack := v.toList ++ rest }) target → Steps p.tables e below (T.setTop g) target) ∨
    (∃ (q : Addr) (vm₁ : Vm) (B : Pt), s.WarmedH vm₁ ∧ Stand p l e R s m args below meth c B.U B.locs B.cells B.slots ∧ PostX ⟨T.setVm vm₁, locs, cells, slots⟩ (Value.ref b :: argsL).toArray q B ∧
      Steps p.tables e below (T.setTop g) ((B.U.setTop { g with stack := rest }).pushFrame (.throwing q))) := by
  obtain ⟨mk, methM, hnamed, hmethM, hstM, habM⟩ := Cond.instanceMethod_spec hinst
  obtain ⟨methM', cM, hmethM', -, -, -, -, -, -, hsigM⟩ := Cond.code_spec hnamed hcode
  cases hmethM.symm.trans hmethM'
  obtain ⟨c2, r2, m2, q1, q2, q3, q4, kP, hkP, hkPi⟩ := Cond.selects_spec hsel
  cases hcls.symm.trans q1
  cases (State.methodFound?_of_named hnamed hy).symm.trans q2
  cases hnamed.symm.trans q3
  have hselP : selectMethod e.platform s.vm cellB.cls mk = .method mk := by rw [Launch.admits_selectMethod X.admits]; exact q4
  obtain ⟨vm₁, X₁, hstep₁⟩ := X.invokevirtual hexec hown hlink hnamed hmethM hstM hkP hkPi hy (a := b) (cell := cellB) hcell
    (fun z h => by rw [h] at hobj; cases hobj) hselP hmethM habM hkP hkPi (g := g) hg (argsL := argsL) (rest := rest) (hlen _ hsigM) hstack hdg
  rcases hK m meth c ⟨T.setVm vm₁, locs, cells, slots⟩ { g with stack := rest } (.invokevirtual index) mk (Value.ref b :: argsL).toArray X₁ hg hsize hdg hW (X₁.named hnamed) (hpre vm₁ X₁.warmed) with ⟨v, B, X', hpost, hsteps⟩ | ⟨q, B, X', hpost, hsteps⟩
  · exact Or.inl ⟨v, vm₁, B, X₁.warmed, X', hpost, fun target h => hstep₁ _ fun acts => by rw [doInvoke_state]; exact hsteps.trans h⟩
  · exact Or.inr ⟨q, vm₁, B, X₁.warmed, X', hpost, hstep₁ _ fun acts => by rw [doInvoke_state]; exact hsteps⟩
theorem vx_callS (X : Stand p l e R s m args below meth c T locs cells slots) (hexec : p.tables.exec = Jvm.exec) {own : String} {index : Nat} {y : MethodName} {bytes : ByteArray} {maxL : Nat} {ret : Option FieldType}
    (hown : s.vm.findClass own = some m.cls) (hlink : (Cond.methodLink own index y).before args s = true) (hstat : (Cond.static y).before args s = true) (hinit : (Cond.initialized y.cls).before args s = true)
    (hcode : (Cond.code y bytes maxL ret).before args s = true) (hy : y.cls ≠ "java/lang/invoke/MethodHandle" ∧ y.cls ≠ "java/lang/invoke/VarHandle")
    {W9 : Nat} {Pre : Pt → Array Value → Prop} {Post : Pt → Array Value → Option Value → Pt → Prop} {PostX : Pt → Array Value → Addr → Pt → Prop} (hK : vx_Back l R p e below s args y 3 W9 Pre Post PostX)
    {g : JFrame} (hg : g.method = m) (hsize : g.locals.size = c.maxLocals) {argsL rest : List Value} (hlen : ∀ sig, parseMethodDescriptor y.desc = some sig → argsL.length = sig.parameters.length)
    (hstack : g.stack = argsL.reverse ++ rest) (hW : 2 * g.monitorRoom + (rest.map fun v => v.category).sum ≤ W9) (hdg : decode c.code g.pc = .ok (.invokestatic index, 3))
    (hpre : ∀ vm₁, s.WarmedH vm₁ → Pre ⟨T.setVm vm₁, locs, cells, slots⟩ argsL.toArray) :
    (∃ (v : Option Value) (vm₁ : Vm) (B : Pt), s.WarmedH vm₁ ∧ Stand p l e R s m args below meth c B.U B.locs B.cells B.slots ∧ Post ⟨T.setVm vm₁, locs, cells, slots⟩ argsL.toArray v B ∧
      ∀ target, Steps p.tables e below (B.U.setTop { g with pc := g.pc + 3, stack := v.toList ++ rest }) target → Steps p.tables e below (T.setTop g) target) ∨
    (∃ (q : Addr) (vm₁ : Vm) (B : Pt), s.WarmedH vm₁ ∧ Stand p l e R s m args below meth c B.U B.locs B.cells B.slots ∧ PostX ⟨T.setVm vm₁, locs, cells, slots⟩ argsL.toArray q B ∧
      Steps p.tables e below (T.setTop g) ((B.U.setTop { g with stack := rest }).pushFrame (.throwing q))) := by
  obtain ⟨mk, hnamed⟩ := Cond.code_named hcode
  obtain ⟨methM, cM, hmethM, -, -, -, -, -, -, hsigM⟩ := Cond.code_spec hnamed hcode
  have hstatic : methM.isStatic = true := Cond.static_spec hnamed hmethM hstat
  obtain ⟨kP, hkP, -⟩ := className_of_methodNamed hnamed
  have hinitP : kP.init = .initialized := Cond.initialized_spec (findClass_of_methodNamed hnamed) hkP hinit
  obtain ⟨vm₁, X₁, hstep₁⟩ := X.invokestatic hexec hown hlink hnamed hmethM hstatic hkP hinitP hy (g := g) hg (argsL := argsL) (rest := rest) (hlen _ hsigM) hstack hdg
  rcases hK m meth c ⟨T.setVm vm₁, locs, cells, slots⟩ { g with stack := rest } (.invokestatic index) mk argsL.toArray X₁ hg hsize hdg hW (X₁.named hnamed) (hpre vm₁ X₁.warmed) with ⟨v, B, X', hpost, hsteps⟩ | ⟨q, B, X', hpost, hsteps⟩
  · exact Or.inl ⟨v, vm₁, B, X₁.warmed, X', hpost, fun target h => hstep₁ _ fun acts => by rw [doInvoke_state]; exact hsteps.trans h⟩
  · exact Or.inr ⟨q, vm₁, B, X₁.warmed, X', hpost, hstep₁ _ fun acts => by rw [doInvoke_state]; exact hsteps⟩
end Calls
theorem vx_cls {s : State} {T : State} {vm₁ : Vm} {E : String} {k : ClassId} (hW : s.WarmedH vm₁) (h : (T.setVm vm₁).vm.findClass E = some k) : s.vm.findClass E = some k := by
  have h1 : vm₁.findClass E = some k := h
  rw [hW.alike.findClass] at h1
  exact h1
/-- the method's frame g, with q thrown over it -/
def vx_W (p : Program) (l : Launch) (e : Env) (R : Room) (s : State) (m : MethodId) (args : Array Value) (below : List Frame) (meth : Method) (c : Code) (H : Heap) (locs : List Loc) (cells slots : Nat) (Q : State → Prop) (g : JFrame) (q : Addr) : Prop :=
  ∀ T : State, T.heap = H → Stand p l e R s m args below meth c T locs cells slots → ∃ t, Steps p.tables e below ((T.setTop g).pushFrame (.throwing q)) t ∧ Q t
def vx_Run (p : Program) (l : Launch) (e : Env) (R : Room) (s : State) (m : MethodId) (args : Array Value) (below : List Frame) (meth : Method) (c : Code) (H : Heap) (locs : List Loc) (cells slots mc ms : Nat) (g : JFrame) (rest : List Value) (Qa : State → Outcome → State → Prop) (XC : String → State → State → Prop) (free : Addr → Prop) : Prop :=
  ∀ T : State, T.heap = H → Stand p l e R s m args below meth c T locs cells slots →
    (∃ (v : Option Value) (st₀ t T' : State) (L : List Loc), st₀.heap = H ∧ Stand p l e R s m args below meth c T' (locs ++ L) (cells + mc) (slots + ms) ∧ (∀ q ∈ L, free q.base) ∧ T'.heap = t.heap ∧ T'.vm = t.vm ∧ Qa st₀ (.returned v) t ∧
      Goes p e below T g T' { g with pc := g.pc + 3, stack := v.toList ++ rest }) ∨
    (∃ (q : Addr) (st₀ t T' : State) (L : List Loc) (E : String) (ce : Cell), st₀.heap = H ∧ Stand p l e R s m args below meth c T' (locs ++ L) (cells + mc) (slots + ms) ∧ (∀ z ∈ L, free z.base) ∧ T'.heap = t.heap ∧ T'.vm = t.vm ∧ XC E st₀ t ∧ t.heap[q]? = some ce ∧ ce.vm = .none ∧ s.vm.findClass E = some ce.cls ∧
      Steps p.tables e below (T.setTop g) ((T'.setTop { g with stack := rest }).pushFrame (.throwing q)))
def vx_X {S : Type} (px : S → Prop) (B : String → S → State → Prop) (A : Nat → Prop) : String → State → State → Prop := fun E st t => ∃ u : S, px u ∧ B E u t ∧ va_F A st t
section Runs
variable {p : Program} {l : Launch} {e : Env} {R : Room} {s : State} {m : MethodId} {args : Array Value} {below : List Frame} {meth : Method} {c : Code} {H : Heap} {locs : List Loc} {cells slots : Nat}
variable {y : MethodName} {bytes cc : ByteArray} {maxL nL mc ms n index : Nat} {ret : Option FieldType} {ws : List Cond} {rm : Room} {Pc : Array Value → State → Prop} {Qc : Array Value → State → Outcome → State → Prop} {XC : String → State → State → Prop} {free : Addr → Prop} {Ts : List Cond} {own C : String} {b : Addr} {As rest : List Value} {g : JFrame}
theorem vx_callBack (cb : CallB R s args own index y bytes maxL ret ws rm mc ms n) (hM : vx_Met l y ws rm Pc Qc XC mc ms free) (hbl : FrameBlind Pc) : vx_Back l R p e below s args y 3 8 (PreOf R mc ms Pc) (PostOf Qc mc ms free) (vx_Post XC mc ms free) := by
  obtain ⟨hrc, hrs, hfr, hlo, hws, hcw, -, hini, -⟩ := cb
  exact vx_back (bytes := bytes) (maxL := maxL) (ret := ret) hM hbl hrc hrs hfr hlo hws hcw (fun a' U hW => word_at hW (Or.inl (by first | rfl | simp [Cond.onTables, Cond.keeps, Cond.steady])) hini)
theorem vx_runV (S : CallFix p m c cc nL s args Ts own) (hM : vx_Met l y ws rm Pc Qc XC mc ms free) (cw : CallW R s args own C index y bytes maxL ret ws rm mc ms n) (hp : PreV s H C b Pc As)
    (hg : g.method = m) (hn : As.length = n) (hsize : g.locals.size = nL) (hstack : g.stack = As.reverse ++ .ref b :: rest) (hW : 2 * g.monitorRoom + (rest.map fun v => v.category).sum ≤ 8) (hdg : decode cc g.pc = .ok (.invokevirtual index, 3)) (hf : cells + mc ≤ R.cells ∧ slots + ms ≤ R.slots) :
    vx_Run p l e R s m args below meth c H locs cells slots mc ms g rest (Qc (Value.ref b :: As).toArray) XC free := by
  have hK : vx_Back l R p e below s args y 3 8 (PreOf R mc ms Pc) (PostOf Qc mc ms free) (vx_Post XC mc ms free) := vx_callBack cw.1 hM hp.1
  obtain ⟨⟨-, -, -, -, -, -, hcode, -, hy, hlen, hl⟩, hin, hse⟩ := cw
  obtain ⟨hx, hb, hml, ho, -⟩ := S
  obtain ⟨-, ⟨cellB, hcB, hoB, hclB⟩, hPc⟩ := hp
  intro T hT X
  rcases vx_callV X hx (C := C) (bytes := bytes) (maxL := maxL) (ret := ret) ho hl hin hse hcode hy hK (by rw [hT]; exact hcB) hoB hclB hg (hsize.trans hml.symm) (argsL := As) (rest := rest) (fun sig h => hn.trans (hlen sig h)) hstack hW (by rw [hb]; exact hdg)
    (fun vm₁ hW₁ => ⟨hf.1, hf.2, hPc (T.setVm vm₁) hT hW₁⟩) with ⟨v, vm₁, ⟨U', l2, c2, s2⟩, hW₁, X', ⟨g', mk, t, L, e1, e2, hq, h1, hL, h2, h3⟩, st⟩ | ⟨q, vm₁, ⟨U', l2, c2, s2⟩, hW₁, X', ⟨g', mk, t, L, E, ce, e1, e2, hq, hce, hcv, hcl, h1, hL, h2, h3⟩, st⟩
  · dsimp only [Pt.U, Pt.locs, Pt.cells, Pt.slots] at X' e1 e2 h1 h2 h3 st
    subst h1; subst h2; subst h3
    exact Or.inl ⟨v, (T.setVm vm₁).calling g' mk (Value.ref b :: As).toArray, t, U', L, hT, X', hL, e1, e2, hq, st⟩
  · dsimp only [Pt.U, Pt.locs, Pt.cells, Pt.slots] at X' e1 e2 h1 h2 h3 st hcl
    subst h1; subst h2; subst h3
    exact Or.inr ⟨q, (T.setVm vm₁).calling g' mk (Value.ref b :: As).toArray, t, U', L, E, ce, hT, X', hL, e1, e2, hq, hce, hcv, vx_cls hW₁ hcl, st⟩
theorem vx_runS (S : CallFix p m c cc nL s args Ts own) (hM : vx_Met l y ws rm Pc Qc XC mc ms free) (cw : CallB R s args own index y bytes maxL ret ws rm mc ms n ∧ (Cond.static y).before args s = true) (hp : PreS s H Pc As)
    (hg : g.method = m) (hn : As.length = n) (hsize : g.locals.size = nL) (hstack : g.stack = As.reverse ++ rest) (hW : 2 * g.monitorRoom + (rest.map fun v => v.category).sum ≤ 8) (hdg : decode cc g.pc = .ok (.invokestatic index, 3)) (hf : cells + mc ≤ R.cells ∧ slots + ms ≤ R.slots) :
    vx_Run p l e R s m args below meth c H locs cells slots mc ms g rest (Qc As.toArray) XC free := by
  have hK : vx_Back l R p e below s args y 3 8 (PreOf R mc ms Pc) (PostOf Qc mc ms free) (vx_Post XC mc ms free) := vx_callBack cw.1 hM hp.1
  obtain ⟨⟨-, -, -, -, -, -, hcode, hini, hy, hlen, hl⟩, hstt⟩ := cw
  obtain ⟨hx, hb, hml, ho, -⟩ := S
  intro T hT X
  rcases vx_callS X hx (bytes := bytes) (maxL := maxL) (ret := ret) ho hl hstt hini hcode hy hK hg (hsize.trans hml.symm) (argsL := As) (rest := rest) (fun sig h => hn.trans (hlen sig h)) hstack hW (by rw [hb]; exact hdg)
    (fun vm₁ hW₁ => ⟨hf.1, hf.2, hp.2 (T.setVm vm₁) hT hW₁⟩) with ⟨v, vm₁, ⟨U', l2, c2, s2⟩, hW₁, X', ⟨g', mk, t, L, e1, e2, hq, h1, hL, h2, h3⟩, st⟩ | ⟨q, vm₁, ⟨U', l2, c2, s2⟩, hW₁, X', ⟨g', mk, t, L, E, ce, e1, e2, hq, hce, hcv, hcl, h1, hL, h2, h3⟩, st⟩
  · dsimp only [Pt.U, Pt.locs, Pt.cells, Pt.slots] at X' e1 e2 h1 h2 h3 st
    subst h1; subst h2; subst h3
    exact Or.inl ⟨v, (T.setVm vm₁).calling g' mk As.toArray, t, U', L, hT, X', hL, e1, e2, hq, st⟩
  · dsimp only [Pt.U, Pt.locs, Pt.cells, Pt.slots] at X' e1 e2 h1 h2 h3 st hcl
    subst h1; subst h2; subst h3
    exact Or.inr ⟨q, (T.setVm vm₁).calling g' mk As.toArray, t, U', L, E, ce, hT, X', hL, e1, e2, hq, hce, hcv, vx_cls hW₁ hcl, st⟩
end Runs
section Rows
variable {p : Program} {l : Launch} {e : Env} {R : Room} {s : State} {m : MethodId} {args : Array Value} {below : List Frame} {meth : Method} {c : Code} {H : Heap} {locs : List Loc} {cells slots : Nat} {Q : State → Prop}
variable {mc ms : Nat} {free : Addr → Prop} {A0 A1 : Nat → Prop} {H0 : Heap} {a : Array Value} {pc : Nat} {ls : Array Slot} {st0 rest : List Value}
theorem vx_keep {st₀ t T' : State} {L : List Loc} (h0 : st₀.heap = H) (e1 : T'.heap = t.heap) (hS : va_S A0 H0 H locs) (hA : ∀ q, q < H.size → A1 q → A0 q) (hf : ∀ q, free q → A0 q) (hL : ∀ q ∈ L, free q.base) (hF : va_F A1 st₀ t) :
    H.size ≤ T'.heap.size ∧ (∀ q : Nat, q < H.size → ¬ A1 q → T'.heap[q]? = H[q]?) ∧ va_S A0 H0 T'.heap (locs ++ L) := by
  obtain ⟨hz, hk⟩ := hF
  rw [h0] at hz hk
  exact ⟨by rw [e1]; exact hz, fun q h1 h2 => by rw [e1]; exact hk q h1 h2,
    ⟨Nat.le_trans hS.1 (by rw [e1]; exact hz), fun q h1 h2 => by rw [e1, hk q (Nat.lt_of_lt_of_le h1 hS.1) (fun z => h2 (hA q (Nat.lt_of_lt_of_le h1 hS.1) z))]; exact hS.2.1 q h1 h2, fun q hq => by
      rcases List.mem_append.mp hq with h | h
      · exact hS.2.2 q h
      · exact hf _ (hL q h)⟩⟩
theorem vx_calli {S SX : Type} {post : Int32 → S → Prop} {px : SX → Prop} {B : S → State → Prop} {BX : String → SX → State → Prop} {AX : Nat → Prop} (hr : vx_Run p l e R s m args below meth c H locs cells slots mc ms (F0 m pc ls st0) rest (va_Qi post B A1 a) (vx_X px BX AX) free) (hS : va_S A0 H0 H locs) (hA : ∀ q, q < H.size → A1 q → A0 q) (hf : ∀ q, free q → A0 q) (hAX : ∀ q, q < H.size → AX q → A0 q)
    (kx : ∀ (E : String) (ce : Cell) (q9 : Addr) (u : SX) (t : State) (H1 : Heap) (locs1 : List Loc), t.heap = H1 → s.vm.Alike t.vm → px u → BX E u t → H.size ≤ H1.size → (∀ q : Nat, q < H.size → ¬ AX q → H1[q]? = H[q]?) → va_S A0 H0 H1 locs1 → H1[q9]? = some ce → ce.vm = .none → s.vm.findClass E = some ce.cls → vx_W p l e R s m args below meth c H1 locs1 (cells + mc) (slots + ms) Q (F0 m pc ls rest) q9)
    (kk : ∀ (r : Int32) (u : S) (t : State) (H1 : Heap) (locs1 : List Loc), t.heap = H1 → s.vm.Alike t.vm → post r u → B u t → H.size ≤ H1.size → (∀ q : Nat, q < H.size → ¬ A1 q → H1[q]? = H[q]?) → va_S A0 H0 H1 locs1 → W p l e R s m args below meth c H1 locs1 (cells + mc) (slots + ms) Q (F0 m (pc + 3) ls (.int r :: rest))) : W p l e R s m args below meth c H locs cells slots Q (F0 m pc ls st0) := by
  intro T hT X
  rcases hr T hT X with ⟨v, st₀, t, T', L, h0, X', hL, e1, e2, ⟨⟨r, u, hv, hp, hb⟩, hF⟩, st⟩ | ⟨q, st₀, t, T', L, E, ce, h0, X', hL, e1, e2, ⟨u, hp, hb, hF⟩, hce, hcv, hcl, st⟩
  · cases hv
    obtain ⟨k1, k2, k3⟩ := vx_keep h0 e1 hS hA hf hL hF
    obtain ⟨t2, a1, b1⟩ := kk r u t T'.heap (locs ++ L) e1.symm (by rw [← e2]; exact X'.warmed.alike) hp hb k1 k2 k3 T' rfl X'
    exact ⟨t2, st t2 a1, b1⟩
  · obtain ⟨k1, k2, k3⟩ := vx_keep h0 e1 hS hAX hf hL hF
    obtain ⟨t2, a1, b1⟩ := kx E ce q u t T'.heap (locs ++ L) e1.symm (by rw [← e2]; exact X'.warmed.alike) hp hb k1 k2 k3 (by rw [e1]; exact hce) hcv hcl T' rfl X'
    exact ⟨t2, st.trans a1, b1⟩
theorem vx_calll {S SX : Type} {post : Int64 → S → Prop} {px : SX → Prop} {B : S → State → Prop} {BX : String → SX → State → Prop} {AX : Nat → Prop} (hr : vx_Run p l e R s m args below meth c H locs cells slots mc ms (F0 m pc ls st0) rest (va_Ql post B A1 a) (vx_X px BX AX) free) (hS : va_S A0 H0 H locs) (hA : ∀ q, q < H.size → A1 q → A0 q) (hf : ∀ q, free q → A0 q) (hAX : ∀ q, q < H.size → AX q → A0 q)
    (kx : ∀ (E : String) (ce : Cell) (q9 : Addr) (u : SX) (t : State) (H1 : Heap) (locs1 : List Loc), t.heap = H1 → s.vm.Alike t.vm → px u → BX E u t → H.size ≤ H1.size → (∀ q : Nat, q < H.size → ¬ AX q → H1[q]? = H[q]?) → va_S A0 H0 H1 locs1 → H1[q9]? = some ce → ce.vm = .none → s.vm.findClass E = some ce.cls → vx_W p l e R s m args below meth c H1 locs1 (cells + mc) (slots + ms) Q (F0 m pc ls rest) q9)
    (kk : ∀ (r : Int64) (u : S) (t : State) (H1 : Heap) (locs1 : List Loc), t.heap = H1 → s.vm.Alike t.vm → post r u → B u t → H.size ≤ H1.size → (∀ q : Nat, q < H.size → ¬ A1 q → H1[q]? = H[q]?) → va_S A0 H0 H1 locs1 → W p l e R s m args below meth c H1 locs1 (cells + mc) (slots + ms) Q (F0 m (pc + 3) ls (.long r :: rest))) : W p l e R s m args below meth c H locs cells slots Q (F0 m pc ls st0) := by
  intro T hT X
  rcases hr T hT X with ⟨v, st₀, t, T', L, h0, X', hL, e1, e2, ⟨⟨r, u, hv, hp, hb⟩, hF⟩, st⟩ | ⟨q, st₀, t, T', L, E, ce, h0, X', hL, e1, e2, ⟨u, hp, hb, hF⟩, hce, hcv, hcl, st⟩
  · cases hv
    obtain ⟨k1, k2, k3⟩ := vx_keep h0 e1 hS hA hf hL hF
    obtain ⟨t2, a1, b1⟩ := kk r u t T'.heap (locs ++ L) e1.symm (by rw [← e2]; exact X'.warmed.alike) hp hb k1 k2 k3 T' rfl X'
    exact ⟨t2, st t2 a1, b1⟩
  · obtain ⟨k1, k2, k3⟩ := vx_keep h0 e1 hS hAX hf hL hF
    obtain ⟨t2, a1, b1⟩ := kx E ce q u t T'.heap (locs ++ L) e1.symm (by rw [← e2]; exact X'.warmed.alike) hp hb k1 k2 k3 (by rw [e1]; exact hce) hcv hcl T' rfl X'
    exact ⟨t2, st.trans a1, b1⟩
theorem vx_callf {S SX : Type} {post : UInt32 → S → Prop} {px : SX → Prop} {B : S → State → Prop} {BX : String → SX → State → Prop} {AX : Nat → Prop} (hr : vx_Run p l e R s m args below meth c H locs cells slots mc ms (F0 m pc ls st0) rest (va_Qf post B A1 a) (vx_X px BX AX) free) (hS : va_S A0 H0 H locs) (hA : ∀ q, q < H.size → A1 q → A0 q) (hf : ∀ q, free q → A0 q) (hAX : ∀ q, q < H.size → AX q → A0 q)
    (kx : ∀ (E : String) (ce : Cell) (q9 : Addr) (u : SX) (t : State) (H1 : Heap) (locs1 : List Loc), t.heap = H1 → s.vm.Alike t.vm → px u → BX E u t → H.size ≤ H1.size → (∀ q : Nat, q < H.size → ¬ AX q → H1[q]? = H[q]?) → va_S A0 H0 H1 locs1 → H1[q9]? = some ce → ce.vm = .none → s.vm.findClass E = some ce.cls → vx_W p l e R s m args below meth c H1 locs1 (cells + mc) (slots + ms) Q (F0 m pc ls rest) q9)
    (kk : ∀ (r : UInt32) (u : S) (t : State) (H1 : Heap) (locs1 : List Loc), t.heap = H1 → s.vm.Alike t.vm → post r u → B u t → H.size ≤ H1.size → (∀ q : Nat, q < H.size → ¬ A1 q → H1[q]? = H[q]?) → va_S A0 H0 H1 locs1 → W p l e R s m args below meth c H1 locs1 (cells + mc) (slots + ms) Q (F0 m (pc + 3) ls (.float r :: rest))) : W p l e R s m args below meth c H locs cells slots Q (F0 m pc ls st0) := by
  intro T hT X
  rcases hr T hT X with ⟨v, st₀, t, T', L, h0, X', hL, e1, e2, ⟨⟨r, u, hv, hp, hb⟩, hF⟩, st⟩ | ⟨q, st₀, t, T', L, E, ce, h0, X', hL, e1, e2, ⟨u, hp, hb, hF⟩, hce, hcv, hcl, st⟩
  · cases hv
    obtain ⟨k1, k2, k3⟩ := vx_keep h0 e1 hS hA hf hL hF
    obtain ⟨t2, a1, b1⟩ := kk r u t T'.heap (locs ++ L) e1.symm (by rw [← e2]; exact X'.warmed.alike) hp hb k1 k2 k3 T' rfl X'
    exact ⟨t2, st t2 a1, b1⟩
  · obtain ⟨k1, k2, k3⟩ := vx_keep h0 e1 hS hAX hf hL hF
    obtain ⟨t2, a1, b1⟩ := kx E ce q u t T'.heap (locs ++ L) e1.symm (by rw [← e2]; exact X'.warmed.alike) hp hb k1 k2 k3 (by rw [e1]; exact hce) hcv hcl T' rfl X'
    exact ⟨t2, st.trans a1, b1⟩
theorem vx_calld {S SX : Type} {post : UInt64 → S → Prop} {px : SX → Prop} {B : S → State → Prop} {BX : String → SX → State → Prop} {AX : Nat → Prop} (hr : vx_Run p l e R s m args below meth c H locs cells slots mc ms (F0 m pc ls st0) rest (va_Qd post B A1 a) (vx_X px BX AX) free) (hS : va_S A0 H0 H locs) (hA : ∀ q, q < H.size → A1 q → A0 q) (hf : ∀ q, free q → A0 q) (hAX : ∀ q, q < H.size → AX q → A0 q)
    (kx : ∀ (E : String) (ce : Cell) (q9 : Addr) (u : SX) (t : State) (H1 : Heap) (locs1 : List Loc), t.heap = H1 → s.vm.Alike t.vm → px u → BX E u t → H.size ≤ H1.size → (∀ q : Nat, q < H.size → ¬ AX q → H1[q]? = H[q]?) → va_S A0 H0 H1 locs1 → H1[q9]? = some ce → ce.vm = .none → s.vm.findClass E = some ce.cls → vx_W p l e R s m args below meth c H1 locs1 (cells + mc) (slots + ms) Q (F0 m pc ls rest) q9)
    (kk : ∀ (r : UInt64) (u : S) (t : State) (H1 : Heap) (locs1 : List Loc), t.heap = H1 → s.vm.Alike t.vm → post r u → B u t → H.size ≤ H1.size → (∀ q : Nat, q < H.size → ¬ A1 q → H1[q]? = H[q]?) → va_S A0 H0 H1 locs1 → W p l e R s m args below meth c H1 locs1 (cells + mc) (slots + ms) Q (F0 m (pc + 3) ls (.double r :: rest))) : W p l e R s m args below meth c H locs cells slots Q (F0 m pc ls st0) := by
  intro T hT X
  rcases hr T hT X with ⟨v, st₀, t, T', L, h0, X', hL, e1, e2, ⟨⟨r, u, hv, hp, hb⟩, hF⟩, st⟩ | ⟨q, st₀, t, T', L, E, ce, h0, X', hL, e1, e2, ⟨u, hp, hb, hF⟩, hce, hcv, hcl, st⟩
  · cases hv
    obtain ⟨k1, k2, k3⟩ := vx_keep h0 e1 hS hA hf hL hF
    obtain ⟨t2, a1, b1⟩ := kk r u t T'.heap (locs ++ L) e1.symm (by rw [← e2]; exact X'.warmed.alike) hp hb k1 k2 k3 T' rfl X'
    exact ⟨t2, st t2 a1, b1⟩
  · obtain ⟨k1, k2, k3⟩ := vx_keep h0 e1 hS hAX hf hL hF
    obtain ⟨t2, a1, b1⟩ := kx E ce q u t T'.heap (locs ++ L) e1.symm (by rw [← e2]; exact X'.warmed.alike) hp hb k1 k2 k3 (by rw [e1]; exact hce) hcv hcl T' rfl X'
    exact ⟨t2, st.trans a1, b1⟩
theorem vx_callv {S SX : Type} {post : S → Prop} {px : SX → Prop} {B : S → State → Prop} {BX : String → SX → State → Prop} {AX : Nat → Prop} (hr : vx_Run p l e R s m args below meth c H locs cells slots mc ms (F0 m pc ls st0) rest (va_Qv post B A1 a) (vx_X px BX AX) free) (hS : va_S A0 H0 H locs) (hA : ∀ q, q < H.size → A1 q → A0 q) (hf : ∀ q, free q → A0 q) (hAX : ∀ q, q < H.size → AX q → A0 q)
    (kx : ∀ (E : String) (ce : Cell) (q9 : Addr) (u : SX) (t : State) (H1 : Heap) (locs1 : List Loc), t.heap = H1 → s.vm.Alike t.vm → px u → BX E u t → H.size ≤ H1.size → (∀ q : Nat, q < H.size → ¬ AX q → H1[q]? = H[q]?) → va_S A0 H0 H1 locs1 → H1[q9]? = some ce → ce.vm = .none → s.vm.findClass E = some ce.cls → vx_W p l e R s m args below meth c H1 locs1 (cells + mc) (slots + ms) Q (F0 m pc ls rest) q9)
    (kk : ∀ (u : S) (t : State) (H1 : Heap) (locs1 : List Loc), t.heap = H1 → s.vm.Alike t.vm → post u → B u t → H.size ≤ H1.size → (∀ q : Nat, q < H.size → ¬ A1 q → H1[q]? = H[q]?) → va_S A0 H0 H1 locs1 → W p l e R s m args below meth c H1 locs1 (cells + mc) (slots + ms) Q (F0 m (pc + 3) ls (rest))) : W p l e R s m args below meth c H locs cells slots Q (F0 m pc ls st0) := by
  intro T hT X
  rcases hr T hT X with ⟨v, st₀, t, T', L, h0, X', hL, e1, e2, ⟨⟨u, hv, hp, hb⟩, hF⟩, st⟩ | ⟨q, st₀, t, T', L, E, ce, h0, X', hL, e1, e2, ⟨u, hp, hb, hF⟩, hce, hcv, hcl, st⟩
  · cases hv
    obtain ⟨k1, k2, k3⟩ := vx_keep h0 e1 hS hA hf hL hF
    obtain ⟨t2, a1, b1⟩ := kk u t T'.heap (locs ++ L) e1.symm (by rw [← e2]; exact X'.warmed.alike) hp hb k1 k2 k3 T' rfl X'
    exact ⟨t2, st t2 a1, b1⟩
  · obtain ⟨k1, k2, k3⟩ := vx_keep h0 e1 hS hAX hf hL hF
    obtain ⟨t2, a1, b1⟩ := kx E ce q u t T'.heap (locs ++ L) e1.symm (by rw [← e2]; exact X'.warmed.alike) hp hb k1 k2 k3 (by rw [e1]; exact hce) hcv hcl T' rfl X'
    exact ⟨t2, st.trans a1, b1⟩
/-- caught by the row x of this method's table; the rows ahead don't take it -/
theorem vx_catch {own name : String} {E : String} {ce : Cell} {q : Addr} (hown : s.vm.findClass own = some m.cls) (pre : List ExceptionTableEntry) (x : ExceptionTableEntry) (suf : List ExceptionTableEntry) (hsplit : c.exceptionTable.toList = pre ++ x :: suf)
    (hpass : ∀ z ∈ pre, covers z pc = false ∨ (z.catchType ≠ 0 ∧ ∃ nm : String, (Cond.classLink own z.catchType nm).before args s = true ∧ va_Nc E nm s)) (hx : covers x pc = true) (h0 : x.catchType ≠ 0)
    (hlink : (Cond.classLink own x.catchType name).before args s = true) (hcast : (Cond.castable E name).before args s = true) (hcell : H[q]? = some ce) (hv : ce.vm = .none) (hcl : s.vm.findClass E = some ce.cls)
    (kk : W p l e R s m args below meth c H locs cells slots Q (F0 m x.handlerPc ls [.ref q])) : vx_W p l e R s m args below meth c H locs cells slots Q (F0 m pc ls rest) q := by
  intro T hT X
  have hpl : e.platform.magicAccessors = ({} : Platform).magicAccessors := by rw [X.admits.platform]
  obtain ⟨c3, c4, hc3, hc4, hasg⟩ := Cond.castable_spec hcast
  cases Option.some.inj (hc3.symm.trans hcl)
  obtain ⟨c5, hc5, hcl5⟩ := Cond.classLink_spec hown hlink e.platform hpl
  cases Option.some.inj (hc4.symm.trans hc5)
  obtain ⟨vm', X', st⟩ := X.thenCaughtThrough q (g := F0 m pc ls rest) rfl (Steps.refl _) (by rw [hT]; exact hcell) (by rw [hv]; rfl) (by obtain ⟨k9, h9, -⟩ := Vm.findClass_spec hcl; exact ⟨k9, h9⟩) pre x suf hsplit
    (fun z hz => by
      rcases hpass z hz with h | ⟨hz0, nm, hl1, hn1⟩
      · exact Or.inl h
      · obtain ⟨c6, hc6, hcl6⟩ := Cond.classLink_spec hown hl1 e.platform hpl
        obtain ⟨a8, b8, h1, h2, h3⟩ := hn1
        cases Option.some.inj (h1.symm.trans hcl)
        cases Option.some.inj (h2.symm.trans hc6)
        exact Or.inr ⟨hz0, _, hcl6, h3⟩) hx (Or.inr ⟨h0, c4, hcl5, hasg⟩)
  obtain ⟨t, a1, b1⟩ := kk (T.setVm vm') hT X'
  exact ⟨t, st.trans a1, b1⟩
end Rows
section Ends
variable {p : Program} {l : Launch} {e : Env} {R : Room} {s : State} {m : MethodId} {args : Array Value} {below : List Frame} {meth : Method} {c : Code} {H : Heap} {locs : List Loc} {cells slots : Nat} {Q : State → Prop}
variable {mc ms : Nat} {free : Addr → Prop} {A0 A1 : Nat → Prop} {H0 : Heap} {a : Array Value} {ls : Array Slot} {st0 rest : List Value}
variable {Qc : Array Value → State → Outcome → State → Prop} {XC : String → State → State → Prop}
/-- what a body that may throw owes at its end -/
def vx_MQ (below : List Frame) (Qc : Array Value → State → Outcome → State → Prop) (XC : String → State → State → Prop) (a : Array Value) (s : State) (mc ms : Nat) (free : Addr → Prop) : State → Prop := fun t =>
  ∃ o, t.status = .running ∧ Ended t below o ∧ vx_Q Qc XC mc ms free a s o t
theorem vx_ret {g : JFrame} {mc ms : Nat} (k : W p l e R s m args below meth c H locs cells slots (MQ below Qc args s mc ms free) g) : W p l e R s m args below meth c H locs cells slots (vx_MQ below Qc XC args s mc ms free) g := by
  intro T hT X
  obtain ⟨t, a1, o, b1, b2, b3, b4⟩ := k T hT X
  exact ⟨t, a1, o, b1, b2, Or.inl ⟨b3, b4⟩⟩
/-- not caught here: it goes on to the caller -/
theorem vx_widen {g : JFrame} {q : Addr} {k n : Nat} (h1 : cells ≤ k) (h2 : slots ≤ n) (kk : vx_W p l e R s m args below meth c H locs k n Q g q) : vx_W p l e R s m args below meth c H locs cells slots Q g q := fun T hT X => kk T hT (stand_widen X h1 h2)
theorem vx_out {pc : Nat} {E : String} {ce : Cell} {q : Addr} {mc ms : Nat} (hout : ∀ x ∈ c.exceptionTable.toList, covers x pc = false) (hlocks : meth.locks = false) (hcell : H[q]? = some ce) (hv : ce.vm = .none) (hcl : s.vm.findClass E = some ce.cls)
    (hx : ∀ t : State, t.heap = H → s.vm.Alike t.vm → XC E s t) (hf : ∀ z ∈ locs, free z.base) (hc : cells ≤ mc) (hs : slots ≤ ms) :
    vx_W p l e R s m args below meth c H locs cells slots (vx_MQ below Qc XC args s mc ms free) (F0 m pc ls rest) q := by
  intro T hT X
  obtain ⟨st1, hrun, hend, hW, hsm⟩ := X.leaveThrown q (g := F0 m pc ls rest) rfl rfl rfl hout hlocks
  have hcell9 : (T.setFrames (.throwing q :: below)).heap[q]? = some ce := by
    show T.heap[q]? = some ce
    rw [hT]; exact hcell
  exact ⟨_, st1, .threw q, hrun, hend, Or.inr ⟨q, rfl, E, ce, locs, hx _ hT hW.alike, hcell9, hv, hcl, hW, hsm.mono hc hs, hf⟩⟩
theorem vx_frame {U : State} {k n : Nat} (h : s.sameButNew ({ U with vm := s.vm } : State) locs k n) : s.heap.size ≤ U.heap.size ∧ ∀ q : Nat, q < s.heap.size → (∀ z ∈ locs, z.base ≠ q) → U.heap[q]? = s.heap[q]? := by
  obtain ⟨-, h2, -, -, -, h6⟩ := h
  refine ⟨h2, fun q hq hz => ?_⟩
  obtain ⟨c9, e1, e2, e3, e4⟩ := h6 q _ (Array.getElem?_eq_getElem hq)
  have hs : c9.slots = (s.heap[q]).slots := Array.ext_getElem? fun i => e4 i fun hm => hz _ hm rfl
  have h9 : c9 = s.heap[q] := by
    rw [hs] at e2
    exact e2
  have e5 : U.heap[q]? = some c9 := e1
  rw [e5, h9, Array.getElem?_eq_getElem hq]
/-- the words of a throw but the four that speak of the heap -/
def vx_no (w : Cond) : Bool := decide (w ≠ .isRef (.static Bundle.tN "UNASSIGNED_STACK" Bundle.steD)) && decide (w ≠ .isRef (.static Bundle.tN "SUPPRESSED_SENTINEL" Bundle.listD)) && decide (w ≠ .laysStatic Bundle.tN "UNASSIGNED_STACK" Bundle.steD) && decide (w ≠ .laysStatic Bundle.tN "SUPPRESSED_SENTINEL" Bundle.listD)
def vx_at0 (own : String) (ic : Nat) (X : String) (names : List String) : List Cond := (Bundle.ownAtoms0 own ic X names).filter vx_no
def vx_atS (own : String) (ic : Nat) (X : String) (names : List String) : List Cond := (Bundle.ownAtoms own ic X names).filter vx_no
/-- a word that the tables alone decide, or a good one -/
def vx_ot (w : Cond) : Bool := w.onTables || goodWord w
theorem vx_ot_at {args a' : Array Value} {s U : State} {w : Cond} (hW : s.WarmedH U.vm) (hvm : s.vm = U.vm) (hg : vx_ot w = true) (h : w.before args s = true) : w.before a' U = true := by
  simp only [vx_ot, Bool.or_eq_true] at hg
  rcases hg with hg | hg
  · exact va_tabs hg hvm h
  · exact word_at hW (good_of_word hg) h
/-- a list's words: the good ones out of the method's own list, the others by premises of their own -/
theorem vx_hat {args : Array Value} {s : State} {L B : List Cond} (h1 : ∀ w ∈ L.filter goodWord, w.before args s = true) (h2 : ∀ w ∈ L.filter (fun w => !goodWord w), w ∈ B) (h3 : ∀ w ∈ B, w.before args s = true) : ∀ w ∈ L, w.before args s = true := by
  intro w hw
  by_cases g : goodWord w = true
  · exact h1 w (List.mem_filter.mpr ⟨hw, g⟩)
  · refine h3 w (h2 w (List.mem_filter.mpr ⟨hw, ?_⟩))
    show (!goodWord w) = true
    cases hgw : goodWord w
    · rfl
    · exact absurd hgw g
theorem vx_c {args : Array Value} {s : State} {w : Cond} {B : List Cond} (h : w.before args s = true) (t : ∀ w ∈ B, w.before args s = true) : ∀ w' ∈ w :: B, w'.before args s = true := fun w' h' => (List.mem_cons.mp h').elim (fun e => by rw [e]; exact h) (t w')
theorem vx_n {args : Array Value} {s : State} : ∀ w ∈ ([] : List Cond), w.before args s = true := fun _ h => nomatch h
theorem vx_own {args : Array Value} {s : State} {L : List Cond} (h1 : ∀ w ∈ L.filter vx_no, w.before args s = true)
    (hU : (Cond.isRef (.static Bundle.tN "UNASSIGNED_STACK" Bundle.steD)).before args s = true) (hN : (Cond.isRef (.static Bundle.tN "SUPPRESSED_SENTINEL" Bundle.listD)).before args s = true)
    (lU : (Cond.laysStatic Bundle.tN "UNASSIGNED_STACK" Bundle.steD).before args s = true) (lN : (Cond.laysStatic Bundle.tN "SUPPRESSED_SENTINEL" Bundle.listD).before args s = true) : ∀ w ∈ L, w.before args s = true := by
  intro w hw
  by_cases e1 : w = .isRef (.static Bundle.tN "UNASSIGNED_STACK" Bundle.steD)
  · rw [e1]; exact hU
  · by_cases e2 : w = .isRef (.static Bundle.tN "SUPPRESSED_SENTINEL" Bundle.listD)
    · rw [e2]; exact hN
    · by_cases e3 : w = .laysStatic Bundle.tN "UNASSIGNED_STACK" Bundle.steD
      · rw [e3]; exact lU
      · by_cases e4 : w = .laysStatic Bundle.tN "SUPPRESSED_SENTINEL" Bundle.listD
        · rw [e4]; exact lN
        · exact h1 w (List.mem_filter.mpr ⟨hw, by unfold vx_no; rw [decide_eq_true e1, decide_eq_true e2, decide_eq_true e3, decide_eq_true e4]; rfl⟩)
/-- where a static field lies, its class's statics cell in H -/
def vx_L (C n d : String) (A : Nat → Prop) (U : State) (H : Heap) : Prop := ∃ (c : ClassId) (k : Class) (i : Nat) (f : Field) (a : Nat) (cell : Cell), U.vm.findClass C = some c ∧ U.fieldFound? C n d = some (c, k, i, f) ∧ f.isStatic = true ∧ k.statics = some a ∧ H[a]? = some cell ∧ cell.vm.isStatics = true ∧ cell.cls = c ∧ f.slot < cell.slots.size ∧ k.staticTypes[f.slot]? = some f.type ∧ ¬ A a
theorem vx_L.moved {C n d : String} {A : Nat → Prop} {u U : State} {H : Heap} (hvm : u.vm.Alike U.vm) (h : vx_L C n d A u H) : vx_L C n d A U H := by
  obtain ⟨c, k, i, f, a, cell, h1, h2, h3, h4, h5, h6, h7, h8, h9, h10⟩ := h
  obtain ⟨k', hi', he⟩ := State.fieldFound?_setVm hvm h2
  exact ⟨c, k', i, f, a, cell, by rw [hvm.findClass]; exact h1, hi', h3, by rw [he]; exact h4, h5, h6, h7, h8, by rw [he]; exact h9, h10⟩
theorem vx_L.kept {C n d : String} {A : Nat → Prop} {U : State} {H H1 : Heap} (h : vx_L C n d A U H) (hq : ∀ a : Nat, a < H.size → ¬ A a → H1[a]? = H[a]?) : vx_L C n d A U H1 := by
  obtain ⟨c, k, i, f, a, cell, h1, h2, h3, h4, h5, h6, h7, h8, h9, h10⟩ := h
  exact ⟨c, k, i, f, a, cell, h1, h2, h3, h4, by rw [hq a (Array.getElem?_eq_some_iff.mp h5).1 h10]; exact h5, h6, h7, h8, h9, h10⟩
theorem vx_L.narrow {C n d : String} {A B : Nat → Prop} {U : State} {H : Heap} (h : vx_L C n d A U H) (hAB : ∀ q, B q → A q) : vx_L C n d B U H := by
  obtain ⟨c, k, i, f, a, cell, h1, h2, h3, h4, h5, h6, h7, h8, h9, h10⟩ := h
  exact ⟨c, k, i, f, a, cell, h1, h2, h3, h4, h5, h6, h7, h8, h9, fun z => h10 (hAB _ z)⟩
theorem vx_L.word {C n d : String} {A : Nat → Prop} {s : State} {args : Array Value} (h : vx_L C n d A s s.heap) : (Cond.laysStatic C n d).before args s = true := by
  obtain ⟨c, k, i, f, a, cell, h1, h2, h3, h4, h5, h6, h7, h8, h9, -⟩ := h
  show (Cond.laysStatic C n d).holds args s none s [] = true
  exact Cond.laysStatic_of h1 h2 h3 h4 h5 h6 h7 h8 h9
/-- .. and what it holds: null or some reference -/
def vx_Zq (C n d : String) (A : Nat → Prop) (U : State) (H : Heap) : Prop := va_Zq C n d A U H ∧ vx_L C n d A U H
theorem vx_Zq.moved {C n d : String} {A : Nat → Prop} {u U : State} {H : Heap} (hvm : u.vm.Alike U.vm) (h : vx_Zq C n d A u H) : vx_Zq C n d A U H := ⟨va_Zq.moved hvm h.1, vx_L.moved hvm h.2⟩
theorem vx_Zq.kept {C n d : String} {A : Nat → Prop} {U : State} {H H1 : Heap} (h : vx_Zq C n d A U H) (hq : ∀ a : Nat, a < H.size → ¬ A a → H1[a]? = H[a]?) : vx_Zq C n d A U H1 := ⟨va_Zq.kept h.1 hq, vx_L.kept h.2 hq⟩
theorem vx_Zq.narrow {C n d : String} {A B : Nat → Prop} {U : State} {H : Heap} (h : vx_Zq C n d A U H) (hAB : ∀ q, B q → A q) : vx_Zq C n d B U H := ⟨va_Zq.narrow h.1 hAB, vx_L.narrow h.2 hAB⟩
theorem vx_Zqof {args : Array Value} {s : State} {C n d : String} {A : Nat → Prop} (hl : (Cond.laysStatic C n d).before args s = true) (hini : (Cond.initialized C).before args s = true) (h : (Cond.isRef (.static C n d)).before args s = true) (hA : ∀ a : Nat, a < s.heap.size → ¬ A a) : vx_Zq C n d A s s.heap := by
  refine ⟨va_Zqof hl hini h hA, ?_⟩
  obtain ⟨c, k, i, f, a, cell, h1, h2, h3, h4, h5, h6, h7, h8, h9⟩ := Cond.laysStatic_spec hl
  exact ⟨c, k, i, f, a, cell, h1, h2, h3, h4, h5, h6, h7, h8, h9, hA a (Array.getElem?_eq_some_iff.mp h5).1⟩
theorem vx_isRef {C n d : String} {v : Value} {A : Nat → Prop} {s : State} {args : Array Value} (h : va_Z C n d v A s s.heap) (hv : v.isRef = true) : (Cond.isRef (.static C n d)).before args s = true := by
  obtain ⟨cf, kf, fi, f, a, cell, h1, h2, h3, h4, h5, h6, h7, -⟩ := h
  have he : (Term.static C n d).eval args s none [] s = some v := by
    simp [Term.eval, State.fieldNamed?, h1, h2, h4, h5, h6, h7]
  simp only [Cond.before, Cond.holds, Cond.value, he]
  cases v <;> simp_all [Value.isRef]
theorem vx_isRefq {C n d : String} {A : Nat → Prop} {s : State} {args : Array Value} (h : va_Zq C n d A s s.heap) : (Cond.isRef (.static C n d)).before args s = true := by
  rcases h with h | ⟨t, h⟩
  · exact vx_isRef h rfl
  · exact vx_isRef h rfl
/-- the same frame, seen from here: as if the method were called anew in this heap -/
theorem vx_rebase {T : State} (X : Stand p l e R s m args below meth c T locs cells slots) {R' : Room} (hf : R'.frames ≤ R.frames) (hl : R'.locals ≤ R.locals) (hc : cells + R'.cells ≤ R.cells) (hs : slots + R'.slots ≤ R.slots) :
    Stand p l e R' ((T.setVm s.vm).setFrames (.invoking m args :: below)) m args below meth c T [] 0 0 := by
  have htop : (T.setVm s.vm).topJava?.isSome := X.here.top
  have hF : ((T.setVm s.vm).setFrames (.invoking m args :: below)).frames = .invoking m args :: below := State.frames_setFrames _ (State.cur_lt_of_top htop)
  obtain ⟨g₀, hg0⟩ := Option.isSome_iff_exists.mp htop
  obtain ⟨r, hr⟩ := State.topJava?_eq_some.mp hg0
  have hl9 : e.platform.stackLimits (T.setVm s.vm).me = e.platform.stackLimits s.me := X.limits
  have hb9 : (T.setVm s.vm).me.stackBytes = s.me.stackBytes := X.bytes
  refine ⟨X.admits, X.cas, X.clock, hF, ?_, X.hears, X.method, X.code, X.here, X.tail, X.warmed, ?_, ?_, ?_⟩
  · have h := X.room
    have hU : ((T.setVm s.vm).setFrames (.invoking m args :: below)).localsInUse = s.localsInUse := by
      rw [State.localsInUse_invoking hF (meth := meth) (c := c) X.method X.code, State.localsInUse_invoking X.frames X.method X.code]
    simp only [State.hasRoom, Bool.and_eq_true, decide_eq_true_eq] at h ⊢
    obtain ⟨⟨⟨⟨h1, h2, h3, h4, h5, h6⟩, h7⟩, h8⟩, h9⟩ := h
    rw [X.frames, List.length_cons] at h2 h3
    have q1 := X.heapSize
    have q2 := X.used
    simp only [hF, hU, List.length_cons, State.stackLimits_setFrames, State.stackBytes_setFrames, hl9, hb9]
    refine ⟨⟨⟨⟨by omega, by omega, by omega, by omega, by omega, h6⟩, ?_⟩, ?_⟩, X.book⟩
    · show T.heap.size + R'.cells ≤ e.platform.maxCells
      omega
    · show T.slotsUsed + R'.slots ≤ e.platform.maxSlots
      omega
  · rw [State.stackLimits_setFrames]; rfl
  · rw [State.stackBytes_setFrames]; rfl
  · refine ⟨?_, Nat.le_refl _, Nat.le_refl _, ?_, ?_, fun a c9 h9 => ⟨c9, h9, rfl, rfl, fun _ _ => rfl⟩⟩
    · obtain ⟨t, ht, -⟩ := State.frames_cons hr
      show T.setVm s.vm = { ((T.setVm s.vm).setFrames (.invoking m args :: below)).setFrames (T.setVm s.vm).frames with heap := T.heap, slotsUsed := T.slotsUsed }
      rw [State.setFrames_setFrames, State.setFrames_self ht]
      rfl
    · show T.slotsUsed = T.slotsUsed + ((T.heap.toList.drop T.heap.size).map (·.slots.size)).sum
      rw [List.drop_eq_nil_of_le (Nat.le_of_eq Array.length_toList)]
      rfl
    · show ((T.heap.toList.drop T.heap.size).map (·.slots.size)).sum ≤ 0
      rw [List.drop_eq_nil_of_le (Nat.le_of_eq Array.length_toList)]
      exact Nat.le_refl _
/-- 'throw new E()': new; dup; invokespecial; athrow -/
theorem vx_throw0 {cc : ByteArray} {pc : Nat} (hexec : p.tables.exec = Jvm.exec) (hb : c.code = cc) (hl : l.stackTraces = false) {own cls : String} {names : List String} {ik ic mc ms : Nat} {A : Nat → Prop}
    (hown : s.vm.findClass own = some m.cls) (hcls : Bundle.fit cls = true) (hnames : ∀ n ∈ names, Bundle.fit n = true)
    (hk : (Cond.classLink own ik cls).before args s = true) (hini : (Cond.initialized cls).before args s = true) (hat : ∀ w ∈ vx_at0 own ic cls names, w.before args s = true)
    (hgood : ∀ w ∈ Cond.classLink own ik cls :: Cond.initialized cls :: vx_at0 own ic cls names, vx_ot w = true)
    (hU : vx_Zq Bundle.tN "UNASSIGNED_STACK" Bundle.steD A s s.heap) (hN : vx_Zq Bundle.tN "SUPPRESSED_SENTINEL" Bundle.listD A s s.heap) (hS : va_S A s.heap H locs) (hsize : ls.size = c.maxLocals)
    (d0 : decode cc pc = .ok (.new ik, 3)) (d3 : decode cc (pc + 3) = .ok (.dup, 1)) (d4 : decode cc (pc + 4) = .ok (.invokespecial ic, 3)) (d7 : decode cc (pc + 7) = .ok (.athrow, 1))
    (hout : ∀ x ∈ c.exceptionTable.toList, covers x (pc + 7) = false)
    (hRframes : names.length + 3 < R.frames) (hRlocals : (rest.map fun v => v.category).sum + (13 * (names.length + 1) + 42) ≤ R.locals) (hRcells : cells + 1 ≤ R.cells) (hRslots : slots + 6 ≤ R.slots) (hlocks : meth.locks = false)
    (hx : ∀ t : State, s.vm.Alike t.vm → H.size ≤ t.heap.size → (∀ q : Nat, q < H.size → t.heap[q]? = H[q]?) → XC cls s t)
    (hf : ∀ z ∈ locs, free z.base) (hc : cells + 1 ≤ mc) (hs : slots + 6 ≤ ms) :
    W p l e R s m args below meth c H locs cells slots (vx_MQ below Qc XC args s mc ms free) (F0 m pc ls rest) := by
  intro T hT X
  have htr : e.platform.stackTraces = false := (show e.platform.stackTraces = l.stackTraces by rw [X.admits.platform]).trans hl
  have Y := vx_rebase X (R' := { frames := R.frames, locals := R.locals, cells := 1, slots := 6 }) (Nat.le_refl _) (Nat.le_refl _) hRcells hRslots
  obtain ⟨s', hA⟩ : ∃ z, z = (T.setVm s.vm).setFrames (.invoking m args :: below) := ⟨_, rfl⟩
  rw [← hA] at Y
  have hvm : s'.vm = s.vm := by rw [hA]; rfl
  have hhp : s'.heap = H := by rw [hA]; exact hT
  have hW0 : s.WarmedH s'.vm := by rw [hvm]; exact State.WarmedH.refl s
  have hat' : ∀ w ∈ vx_at0 own ic cls names, w.before args s' = true := fun w hw => vx_ot_at hW0 hvm.symm (hgood w (List.mem_cons_of_mem _ (List.mem_cons_of_mem _ hw))) (hat w hw)
  have hk' : (Cond.classLink own ik cls).before args s' = true := vx_ot_at hW0 hvm.symm (hgood _ List.mem_cons_self) hk
  have hini' : (Cond.initialized cls).before args s' = true := vx_ot_at hW0 hvm.symm (hgood _ (List.mem_cons_of_mem _ List.mem_cons_self)) hini
  have hU' : vx_Zq Bundle.tN "UNASSIGNED_STACK" Bundle.steD A s' s'.heap := by rw [hhp]; exact vx_Zq.moved hW0.alike (hU.kept hS.2.1)
  have hN' : vx_Zq Bundle.tN "SUPPRESSED_SENTINEL" Bundle.listD A s' s'.heap := by rw [hhp]; exact vx_Zq.moved hW0.alike (hN.kept hS.2.1)
  have h : ∀ w ∈ Bundle.ownAtoms0 own ic cls names, w.before args s' = true := vx_own hat' (vx_isRefq hU'.1) (vx_isRefq hN'.1) hU'.2.word hN'.2.word
  have hown' : s'.vm.findClass own = some m.cls := by rw [hvm]; exact hown
  have hins : (Cond.instantiable cls 6).before args s' = true := h _ (by simp [Bundle.ownAtoms0])
  obtain ⟨vm₁, cX, kX, hfX, hkX, -, -, X₁, st1⟩ := Y.newCold hexec (own := own) (C := cls) (index := ik) (n := 6) hown' hk' hins hini'
    (g := F0 m pc ls rest) rfl (by rw [hb]; exact d0) (Nat.le_refl _) (Nat.le_refl _)
  generalize hT1 : (T.setVm vm₁).pushCell { cls := cX, slots := kX.instanceTypes.map defaultValue, vm := .none } = T1 at X₁ st1
  have hcat : (Value.ref T.heap.size).category = 1 := rfl
  have hcellA : T1.heap[T.heap.size]? = some (freshCell cX kX) := by rw [← hT1]; exact State.heap_pushCell_size _ _
  have d3' : decode c.code (pc + 3) = .ok (.dup, 1) := by rw [hb]; exact d3
  obtain ⟨U, hsteps, hrun, hend, hW, hsame, ce, hce, hO⟩ := X₁.ctorThrow0 hexec htr (own := own) (cls := cls) (names := names) (ic := ic) hown' hcls hnames h (fun x hx => nomatch hx) hfX hkX hcellA (by rw [hhp, hT]; exact Nat.le_refl _)
    (g := { method := m, pc := pc + 4, locals := ls, stack := .ref T.heap.size :: .ref T.heap.size :: rest, locked := none }) rfl hsize rfl rfl (rest := rest) rfl
    (by rw [hb]; exact d4) (by rw [hb]; exact d7) hout hRframes (by simp only [List.map_cons, List.sum_cons, hcat]; omega) hlocks
  obtain ⟨f1, f2⟩ := vx_frame hsame
  rw [hhp] at f1 f2
  have hWs : s.WarmedH U.vm := State.WarmedH.trans hW0 hW
  have hcl : s.vm.findClass cls = some ce.cls := by
    have h9 := hO.cls
    rw [hvm] at h9
    exact h9
  have hall : s.sameButNew ({ U with vm := s.vm } : State) locs mc ms := by
    subst hA
    obtain ⟨e1, e2⟩ := hsame
    rw [State.setFrames_setFrames] at e1
    have h2 : (T.setVm s.vm).sameButNew ({ U with vm := s.vm } : State) [] (0 + 1) (0 + 6) := ⟨e1, e2⟩
    have h3 := X.same.trans h2
    rw [List.append_nil] at h3
    exact h3.mono hc hs
  refine ⟨U, ?_, .threw T.heap.size, hrun, hend, Or.inr ⟨T.heap.size, rfl, cls, ce, locs, hx U hWs.alike f1 (fun q hq => f2 q hq (fun z hz => nomatch hz)), hce, hO.vm, hcl, hWs, hall, hf⟩⟩
  refine st1 _ ?_
  show Steps p.tables e below (T1.setTop { method := m, pc := pc + 3, locals := ls, stack := .ref T.heap.size :: rest, locked := none }) _
  jvm_step X₁.here [X₁.here.top, hexec, d3', Value.category]
  exact hsteps
/-- 'throw new E("text")': new; dup; ldc; invokespecial; athrow -/
theorem vx_throwS {cc : ByteArray} {pc : Nat} (hexec : p.tables.exec = Jvm.exec) (hb : c.code = cc) (hl : l.stackTraces = false) {own cls text : String} {names : List String} {ik is ic mc ms sa : Nat} {A : Nat → Prop}
    (hown : s.vm.findClass own = some m.cls) (hcls : Bundle.fit cls = true) (hnames : ∀ n ∈ names, Bundle.fit n = true)
    (hk : (Cond.classLink own ik cls).before args s = true) (hini : (Cond.initialized cls).before args s = true) (hstr : vk_R own is text sa s) (hat : ∀ w ∈ vx_atS own ic cls names, w.before args s = true)
    (hgood : ∀ w ∈ Cond.classLink own ik cls :: Cond.initialized cls :: vx_atS own ic cls names, vx_ot w = true)
    (hU : vx_Zq Bundle.tN "UNASSIGNED_STACK" Bundle.steD A s s.heap) (hN : vx_Zq Bundle.tN "SUPPRESSED_SENTINEL" Bundle.listD A s s.heap) (hS : va_S A s.heap H locs) (hsize : ls.size = c.maxLocals)
    (d0 : decode cc pc = .ok (.new ik, 3)) (d3 : decode cc (pc + 3) = .ok (.dup, 1)) (d4 : decode cc (pc + 4) = .ok (.ldc is, 2)) (d6 : decode cc (pc + 6) = .ok (.invokespecial ic, 3)) (d9 : decode cc (pc + 9) = .ok (.athrow, 1))
    (hout : ∀ x ∈ c.exceptionTable.toList, covers x (pc + 9) = false)
    (hRframes : names.length + 3 < R.frames) (hRlocals : (rest.map fun v => v.category).sum + (13 * (names.length + 1) + 43) ≤ R.locals) (hRcells : cells + 1 ≤ R.cells) (hRslots : slots + 6 ≤ R.slots) (hlocks : meth.locks = false)
    (hx : ∀ t : State, s.vm.Alike t.vm → H.size ≤ t.heap.size → (∀ q : Nat, q < H.size → t.heap[q]? = H[q]?) → XC cls s t)
    (hf : ∀ z ∈ locs, free z.base) (hc : cells + 1 ≤ mc) (hs : slots + 6 ≤ ms) :
    W p l e R s m args below meth c H locs cells slots (vx_MQ below Qc XC args s mc ms free) (F0 m pc ls rest) := by
  intro T hT X
  have htr : e.platform.stackTraces = false := (show e.platform.stackTraces = l.stackTraces by rw [X.admits.platform]).trans hl
  have Y := vx_rebase X (R' := { frames := R.frames, locals := R.locals, cells := 1, slots := 6 }) (Nat.le_refl _) (Nat.le_refl _) hRcells hRslots
  obtain ⟨s', hA⟩ : ∃ z, z = (T.setVm s.vm).setFrames (.invoking m args :: below) := ⟨_, rfl⟩
  rw [← hA] at Y
  have hvm : s'.vm = s.vm := by rw [hA]; rfl
  have hhp : s'.heap = H := by rw [hA]; exact hT
  have hW0 : s.WarmedH s'.vm := by rw [hvm]; exact State.WarmedH.refl s
  have hat' : ∀ w ∈ vx_atS own ic cls names, w.before args s' = true := fun w hw => vx_ot_at hW0 hvm.symm (hgood w (List.mem_cons_of_mem _ (List.mem_cons_of_mem _ hw))) (hat w hw)
  have hk' : (Cond.classLink own ik cls).before args s' = true := vx_ot_at hW0 hvm.symm (hgood _ List.mem_cons_self) hk
  have hini' : (Cond.initialized cls).before args s' = true := vx_ot_at hW0 hvm.symm (hgood _ (List.mem_cons_of_mem _ List.mem_cons_self)) hini
  have hU' : vx_Zq Bundle.tN "UNASSIGNED_STACK" Bundle.steD A s' s'.heap := by rw [hhp]; exact vx_Zq.moved hW0.alike (hU.kept hS.2.1)
  have hN' : vx_Zq Bundle.tN "SUPPRESSED_SENTINEL" Bundle.listD A s' s'.heap := by rw [hhp]; exact vx_Zq.moved hW0.alike (hN.kept hS.2.1)
  have h : ∀ w ∈ Bundle.ownAtoms own ic cls names, w.before args s' = true := vx_own hat' (vx_isRefq hU'.1) (vx_isRefq hN'.1) hU'.2.word hN'.2.word
  have hown' : s'.vm.findClass own = some m.cls := by rw [hvm]; exact hown
  have hins : (Cond.instantiable cls 6).before args s' = true := h _ (by simp [Bundle.ownAtoms])
  obtain ⟨vm₁, cX, kX, hfX, hkX, -, -, X₁, st1⟩ := Y.newCold hexec (own := own) (C := cls) (index := ik) (n := 6) hown' hk' hins hini'
    (g := F0 m pc ls rest) rfl (by rw [hb]; exact d0) (Nat.le_refl _) (Nat.le_refl _)
  generalize hT1 : (T.setVm vm₁).pushCell { cls := cX, slots := kX.instanceTypes.map defaultValue, vm := .none } = T1 at X₁ st1
  have hcat : (Value.ref T.heap.size).category = 1 := rfl
  have hcellA : T1.heap[T.heap.size]? = some (freshCell cX kX) := by rw [← hT1]; exact State.heap_pushCell_size _ _
  have d3' : decode c.code (pc + 3) = .ok (.dup, 1) := by rw [hb]; exact d3
  have d4' : decode c.code (pc + 4) = .ok (.ldc is, 2) := by rw [hb]; exact d4
  have hstr' : vk_R own is text sa s' := vk_R.warm hW0 hstr
  obtain ⟨U, hsteps, hrun, hend, hW, hsame, ce, hce, hO⟩ := X₁.ctorThrowS hexec htr (own := own) (cls := cls) (names := names) (ic := ic) hown' hcls hnames h (fun x hx => nomatch hx) hfX hkX hcellA (by rw [hhp, hT]; exact Nat.le_refl _) (msg := .ref sa) rfl
    (g := { method := m, pc := pc + 6, locals := ls, stack := .ref sa :: .ref T.heap.size :: .ref T.heap.size :: rest, locked := none }) rfl hsize rfl rfl (rest := rest) rfl
    (by rw [hb]; exact d6) (by rw [hb]; exact d9) hout hRframes (by simp only [List.map_cons, List.sum_cons, hcat]; omega) hlocks
  obtain ⟨f1, f2⟩ := vx_frame hsame
  rw [hhp] at f1 f2
  have hWs : s.WarmedH U.vm := State.WarmedH.trans hW0 hW
  have hcl : s.vm.findClass cls = some ce.cls := by
    have h9 := hO.cls
    rw [hvm] at h9
    exact h9
  have hall : s.sameButNew ({ U with vm := s.vm } : State) locs mc ms := by
    subst hA
    obtain ⟨e1, e2⟩ := hsame
    rw [State.setFrames_setFrames] at e1
    have h2 : (T.setVm s.vm).sameButNew ({ U with vm := s.vm } : State) [] (0 + 1) (0 + 6) := ⟨e1, e2⟩
    have h3 := X.same.trans h2
    rw [List.append_nil] at h3
    exact h3.mono hc hs
  refine ⟨U, ?_, .threw T.heap.size, hrun, hend, Or.inr ⟨T.heap.size, rfl, cls, ce, locs, hx U hWs.alike f1 (fun q hq => f2 q hq (fun z hz => nomatch hz)), hce, hO.vm, hcl, hWs, hall, hf⟩⟩
  refine st1 _ ?_
  show Steps p.tables e below (T1.setTop { method := m, pc := pc + 3, locals := ls, stack := .ref T.heap.size :: rest, locked := none }) _
  jvm_step X₁.here [X₁.here.top, hexec, d3', Value.category]
  exact X₁.ldcString hexec (own := own) (text := text) (index := is) (a := sa) hown' hstr'.1 hstr'.2
    (g := { method := m, pc := pc + 4, locals := ls, stack := .ref T.heap.size :: .ref T.heap.size :: rest, locked := none }) rfl d4' _ hsteps
/-- 'throw new E("text")', the text by a wide index -/
theorem vx_throwSW {cc : ByteArray} {pc : Nat} (hexec : p.tables.exec = Jvm.exec) (hb : c.code = cc) (hl : l.stackTraces = false) {own cls text : String} {names : List String} {ik is ic mc ms sa : Nat} {A : Nat → Prop}
    (hown : s.vm.findClass own = some m.cls) (hcls : Bundle.fit cls = true) (hnames : ∀ n ∈ names, Bundle.fit n = true)
    (hk : (Cond.classLink own ik cls).before args s = true) (hini : (Cond.initialized cls).before args s = true) (hstr : vk_R own is text sa s) (hat : ∀ w ∈ vx_atS own ic cls names, w.before args s = true)
    (hgood : ∀ w ∈ Cond.classLink own ik cls :: Cond.initialized cls :: vx_atS own ic cls names, vx_ot w = true)
    (hU : vx_Zq Bundle.tN "UNASSIGNED_STACK" Bundle.steD A s s.heap) (hN : vx_Zq Bundle.tN "SUPPRESSED_SENTINEL" Bundle.listD A s s.heap) (hS : va_S A s.heap H locs) (hsize : ls.size = c.maxLocals)
    (d0 : decode cc pc = .ok (.new ik, 3)) (d3 : decode cc (pc + 3) = .ok (.dup, 1)) (d4 : decode cc (pc + 4) = .ok (.ldc_w is, 3)) (d7 : decode cc (pc + 7) = .ok (.invokespecial ic, 3)) (d10 : decode cc (pc + 10) = .ok (.athrow, 1))
    (hout : ∀ x ∈ c.exceptionTable.toList, covers x (pc + 10) = false)
    (hRframes : names.length + 3 < R.frames) (hRlocals : (rest.map fun v => v.category).sum + (13 * (names.length + 1) + 43) ≤ R.locals) (hRcells : cells + 1 ≤ R.cells) (hRslots : slots + 6 ≤ R.slots) (hlocks : meth.locks = false)
    (hx : ∀ t : State, s.vm.Alike t.vm → H.size ≤ t.heap.size → (∀ q : Nat, q < H.size → t.heap[q]? = H[q]?) → XC cls s t)
    (hf : ∀ z ∈ locs, free z.base) (hc : cells + 1 ≤ mc) (hs : slots + 6 ≤ ms) :
    W p l e R s m args below meth c H locs cells slots (vx_MQ below Qc XC args s mc ms free) (F0 m pc ls rest) := by
  intro T hT X
  have htr : e.platform.stackTraces = false := (show e.platform.stackTraces = l.stackTraces by rw [X.admits.platform]).trans hl
  have Y := vx_rebase X (R' := { frames := R.frames, locals := R.locals, cells := 1, slots := 6 }) (Nat.le_refl _) (Nat.le_refl _) hRcells hRslots
  obtain ⟨s', hA⟩ : ∃ z, z = (T.setVm s.vm).setFrames (.invoking m args :: below) := ⟨_, rfl⟩
  rw [← hA] at Y
  have hvm : s'.vm = s.vm := by rw [hA]; rfl
  have hhp : s'.heap = H := by rw [hA]; exact hT
  have hW0 : s.WarmedH s'.vm := by rw [hvm]; exact State.WarmedH.refl s
  have hat' : ∀ w ∈ vx_atS own ic cls names, w.before args s' = true := fun w hw => vx_ot_at hW0 hvm.symm (hgood w (List.mem_cons_of_mem _ (List.mem_cons_of_mem _ hw))) (hat w hw)
  have hk' : (Cond.classLink own ik cls).before args s' = true := vx_ot_at hW0 hvm.symm (hgood _ List.mem_cons_self) hk
  have hini' : (Cond.initialized cls).before args s' = true := vx_ot_at hW0 hvm.symm (hgood _ (List.mem_cons_of_mem _ List.mem_cons_self)) hini
  have hU' : vx_Zq Bundle.tN "UNASSIGNED_STACK" Bundle.steD A s' s'.heap := by rw [hhp]; exact vx_Zq.moved hW0.alike (hU.kept hS.2.1)
  have hN' : vx_Zq Bundle.tN "SUPPRESSED_SENTINEL" Bundle.listD A s' s'.heap := by rw [hhp]; exact vx_Zq.moved hW0.alike (hN.kept hS.2.1)
  have h : ∀ w ∈ Bundle.ownAtoms own ic cls names, w.before args s' = true := vx_own hat' (vx_isRefq hU'.1) (vx_isRefq hN'.1) hU'.2.word hN'.2.word
  have hown' : s'.vm.findClass own = some m.cls := by rw [hvm]; exact hown
  have hins : (Cond.instantiable cls 6).before args s' = true := h _ (by simp [Bundle.ownAtoms])
  obtain ⟨vm₁, cX, kX, hfX, hkX, -, -, X₁, st1⟩ := Y.newCold hexec (own := own) (C := cls) (index := ik) (n := 6) hown' hk' hins hini'
    (g := F0 m pc ls rest) rfl (by rw [hb]; exact d0) (Nat.le_refl _) (Nat.le_refl _)
  generalize hT1 : (T.setVm vm₁).pushCell { cls := cX, slots := kX.instanceTypes.map defaultValue, vm := .none } = T1 at X₁ st1
  have hcat : (Value.ref T.heap.size).category = 1 := rfl
  have hcellA : T1.heap[T.heap.size]? = some (freshCell cX kX) := by rw [← hT1]; exact State.heap_pushCell_size _ _
  have d3' : decode c.code (pc + 3) = .ok (.dup, 1) := by rw [hb]; exact d3
  have d4' : decode c.code (pc + 4) = .ok (.ldc_w is, 3) := by rw [hb]; exact d4
  have hstr' : vk_R own is text sa s' := vk_R.warm hW0 hstr
  obtain ⟨U, hsteps, hrun, hend, hW, hsame, ce, hce, hO⟩ := X₁.ctorThrowS hexec htr (own := own) (cls := cls) (names := names) (ic := ic) hown' hcls hnames h (fun x hx => nomatch hx) hfX hkX hcellA (by rw [hhp, hT]; exact Nat.le_refl _) (msg := .ref sa) rfl
    (g := { method := m, pc := pc + 7, locals := ls, stack := .ref sa :: .ref T.heap.size :: .ref T.heap.size :: rest, locked := none }) rfl hsize rfl rfl (rest := rest) rfl
    (by rw [hb]; exact d7) (by rw [hb]; exact d10) hout hRframes (by simp only [List.map_cons, List.sum_cons, hcat]; omega) hlocks
  obtain ⟨f1, f2⟩ := vx_frame hsame
  rw [hhp] at f1 f2
  have hWs : s.WarmedH U.vm := State.WarmedH.trans hW0 hW
  have hcl : s.vm.findClass cls = some ce.cls := by
    have h9 := hO.cls
    rw [hvm] at h9
    exact h9
  have hall : s.sameButNew ({ U with vm := s.vm } : State) locs mc ms := by
    subst hA
    obtain ⟨e1, e2⟩ := hsame
    rw [State.setFrames_setFrames] at e1
    have h2 : (T.setVm s.vm).sameButNew ({ U with vm := s.vm } : State) [] (0 + 1) (0 + 6) := ⟨e1, e2⟩
    have h3 := X.same.trans h2
    rw [List.append_nil] at h3
    exact h3.mono hc hs
  refine ⟨U, ?_, .threw T.heap.size, hrun, hend, Or.inr ⟨T.heap.size, rfl, cls, ce, locs, hx U hWs.alike f1 (fun q hq => f2 q hq (fun z hz => nomatch hz)), hce, hO.vm, hcl, hWs, hall, hf⟩⟩
  refine st1 _ ?_
  show Steps p.tables e below (T1.setTop { method := m, pc := pc + 3, locals := ls, stack := .ref T.heap.size :: rest, locked := none }) _
  jvm_step X₁.here [X₁.here.top, hexec, d3', Value.category]
  exact X₁.ldcStringW hexec (own := own) (text := text) (index := is) (a := sa) hown' hstr'.1 hstr'.2
    (g := { method := m, pc := pc + 4, locals := ls, stack := .ref T.heap.size :: .ref T.heap.size :: rest, locked := none }) rfl d4' _ hsteps
end Ends
section Bodies
variable {l : Launch}
theorem vx_ofW {y : MethodName} {ws ws' : List Cond} {rm : Room} {Pc : Array Value → State → Prop} {Qc : Array Value → State → Outcome → State → Prop} {XC : String → State → State → Prop} {mc ms : Nat} {free : Addr → Prop} {cc : ByteArray} {maxL : Nat} {ret : Option FieldType}
    (hy : plainName y.cls = true) (hw : ws = Cond.code y cc maxL ret :: ws')
    (body : ∀ p e s m args below meth c s₁, BodyLoose p l y (headSpec ws rm) cc maxL ret e s m args below meth c s₁ → c.maxLocals = maxL → (∀ x ∈ c.exceptionTable.toList, False) → Pc args s →
      W p l e (headSpec ws rm).room s m args below meth c s.heap [] 0 0 (vx_MQ below Qc XC args s mc ms free) (entryFrame m args maxL)) : vx_Met l y ws rm Pc Qc XC mc ms free := by
  refine MetFree.of_bodyS (code := cc) (maxLocals := maxL) (ret := ret) hy ?_ ?_
  · intro args s m h hn
    obtain ⟨meth, c, h1, h2, h3, h4, h5, h6, -, -⟩ := Cond.code_spec hn (atoms_spec (ws := ws) h _ (by rw [hw]; exact List.mem_cons_self))
    exact ⟨meth, c, h1, h2, h3, h4, h5, h6⟩
  · intro p e s m args below meth c s₁ B hml hP _
    have hh0 : s₁.heap = s.heap := by rw [B.state]; rfl
    have ht : ∀ x ∈ c.exceptionTable.toList, False := by
      obtain ⟨meth9, c9, h1, h2, -, -, -, -, h7, -⟩ := Cond.code_spec B.named (atoms_spec (ws := ws) B.pre _ (by rw [hw]; exact List.mem_cons_self))
      cases Option.some.inj (h1.symm.trans B.method)
      cases Option.some.inj (h2.symm.trans (Stand.of_body B).code)
      intro x hx
      rw [Array.isEmpty_iff.mp h7] at hx
      cases hx
    obtain ⟨t, a1, o, b1, b2, b3⟩ := body p e s m args below meth c s₁ B hml ht hP s₁ hh0 (Stand.of_body B)
    exact ⟨t, o, a1, b1, b2, b3⟩
/-- the table of a body with handlers -/
theorem vx_table {p : Program} {x y : MethodName} {S : Spec} {cc bytes : ByteArray} {maxL maxL' : Nat} {ret ret' : Option FieldType} {e : Env} {s s₁ : State} {m : MethodId} {args : Array Value} {below : List Frame} {meth : Method} {c : Code} {hh : List (Nat × Nat × Nat × Nat)}
    (B : BodyLoose p l y S cc maxL ret e s m args below meth c s₁) (h : (Cond.codeWith y bytes maxL' ret' hh).before args s = true) : c.exceptionTable.toList = tableOf hh := by
  obtain ⟨m9, meth9, c9, hn9, h1, h2, -, -, h6, -⟩ := Cond.codeWith_spec h
  cases Option.some.inj (hn9.symm.trans B.named)
  cases Option.some.inj (h1.symm.trans B.method)
  cases Option.some.inj (h2.symm.trans (Stand.of_body B).code)
  rw [← h6, table_eq]
end Bodies
end VXA
/-! ===== END ===== -/
/-! ===== BEGIN a static call of a method with an exception table ===== -/
section VXS
variable {p : Program} {l : Launch} {e : Env} {R : Room} {s : State} {m : MethodId} {args : Array Value} {below : List Frame} {meth : Method} {c : Code} {T : State} {H : Heap} {locs : List Loc} {cells slots : Nat}
abbrev vx_CSW (R : Room) (s : State) (args : Array Value) (own : String) (index : Nat) (y : MethodName) (bytes : ByteArray) (maxL : Nat) (ret : Option FieldType) (hh : List (Nat × Nat × Nat × Nat)) (ws : List Cond) (rm : Room) (mc ms n : Nat) : Prop :=
  (rm.cells = mc ∧ rm.slots = ms ∧ rm.frames + 1 ≤ R.frames ∧ 8 + (maxL + 11) + rm.locals ≤ R.locals ∧ (∀ w ∈ ws, ∀ (a' : Array Value) (U : State), s.WarmedH U.vm → w.before a' U = true) ∧ Cond.codeWith y bytes maxL ret hh ∈ ws) ∧
  (Cond.codeWith y bytes maxL ret hh).before args s = true ∧ (Cond.initialized y.cls).before args s = true ∧ (y.cls ≠ "java/lang/invoke/MethodHandle" ∧ y.cls ≠ "java/lang/invoke/VarHandle") ∧
  (∀ sig, parseMethodDescriptor y.desc = some sig → n = sig.parameters.length) ∧ (Cond.methodLink own index y).before args s = true ∧ (Cond.static y).before args s = true
theorem vx_cwSW {own : String} {index maxL mc ms : Nat} {y : MethodName} {bytes : ByteArray} {ret : Option FieldType} {hh : List (Nat × Nat × Nat × Nat)} {Ts ws ws' : List Cond} {rm : Room} (n : Nat) (ht : ∀ w ∈ Ts, w.before args s = true) (hT : GoodIn Ts (va_wsS own index y ws)) (hw : ws = Cond.codeWith y bytes maxL ret hh :: ws') (hrc : rm.cells = mc) (hrs : rm.slots = ms)
    (hd : y.cls ≠ "java/lang/invoke/MethodHandle" ∧ y.cls ≠ "java/lang/invoke/VarHandle" ∧ (parseMethodDescriptor y.desc).map (fun d => d.parameters.length) = some n) (hR : rm.frames + 1 ≤ R.frames ∧ 8 + (maxL + 11) + rm.locals ≤ R.locals) :
    vx_CSW R s args own index y bytes maxL ret hh ws rm mc ms n := by
  have ok : ∀ w ∈ va_wsS own index y ws, w.before args s = true := fun w h => ht w (hT w h).1
  have hG : GoodIn Ts ws := fun w h => hT w (by unfold va_wsS; exact List.mem_append_right _ h)
  have hc : Cond.codeWith y bytes maxL ret hh ∈ ws := by rw [hw]; exact List.mem_cons_self
  refine ⟨⟨hrc, hrs, hR.1, hR.2, pay_in ht hG, hc⟩, ht _ (hG _ hc).1, ok _ (by simp [va_wsS]), ⟨hd.1, hd.2.1⟩, fun sig h => ?_, ok _ (by simp [va_wsS]), ok _ (by simp [va_wsS])⟩
  have h2 := hd.2.2
  rw [h] at h2
  exact (Option.some.inj h2).symm
theorem vx_callSW (X : Stand p l e R s m args below meth c T locs cells slots) (hexec : p.tables.exec = Jvm.exec) {own : String} {index : Nat} {y : MethodName} {bytes : ByteArray} {maxL : Nat} {ret : Option FieldType} {hh : List (Nat × Nat × Nat × Nat)}
    (hown : s.vm.findClass own = some m.cls) (hlink : (Cond.methodLink own index y).before args s = true) (hstat : (Cond.static y).before args s = true) (hinit : (Cond.initialized y.cls).before args s = true)
    (hcode : (Cond.codeWith y bytes maxL ret hh).before args s = true) (hy : y.cls ≠ "java/lang/invoke/MethodHandle" ∧ y.cls ≠ "java/lang/invoke/VarHandle")
    {W9 : Nat} {Pre : Pt → Array Value → Prop} {Post : Pt → Array Value → Option Value → Pt → Prop} (hK : Back l R p e below s args y 3 W9 Pre Post)
    {g : JFrame} (hg : g.method = m) (hsize : g.locals.size = c.maxLocals) {argsL rest : List Value} (hlen : ∀ sig, parseMethodDescriptor y.desc = some sig → argsL.length = sig.parameters.length)
    (hstack : g.stack = argsL.reverse ++ rest) (hW : 2 * g.monitorRoom + (rest.map fun v => v.category).sum ≤ W9) (hdg : decode c.code g.pc = .ok (.invokestatic index, 3))
    (hpre : ∀ vm₁, s.WarmedH vm₁ → Pre ⟨T.setVm vm₁, locs, cells, slots⟩ argsL.toArray) :
    ∃ (v : Option Value) (vm₁ : Vm) (B : Pt), s.WarmedH vm₁ ∧ Stand p l e R s m args below meth c B.U B.locs B.cells B.slots ∧ Post ⟨T.setVm vm₁, locs, cells, slots⟩ argsL.toArray v B ∧
      ∀ target, Steps p.tables e below (B.U.setTop { g with pc := g.pc + 3, stack := v.toList ++ rest }) target → Steps p.tables e below (T.setTop g) target := by
  obtain ⟨mk, methM, cM, hnamed, hmethM, -, -, -, -, -, -, hsigM⟩ := Cond.codeWith_spec hcode
  have hstatic : methM.isStatic = true := Cond.static_spec hnamed hmethM hstat
  obtain ⟨kP, hkP, -⟩ := className_of_methodNamed hnamed
  have hinitP : kP.init = .initialized := Cond.initialized_spec (findClass_of_methodNamed hnamed) hkP hinit
  obtain ⟨vm₁, X₁, hstep₁⟩ := X.invokestatic hexec hown hlink hnamed hmethM hstatic hkP hinitP hy (g := g) hg (argsL := argsL) (rest := rest) (hlen _ hsigM) hstack hdg
  obtain ⟨v, B, X', hpost, hsteps⟩ := hK m meth c ⟨T.setVm vm₁, locs, cells, slots⟩ { g with stack := rest } (.invokestatic index) mk argsL.toArray X₁ hg hsize hdg hW (X₁.named hnamed) (hpre vm₁ X₁.warmed)
  exact ⟨v, vm₁, B, X₁.warmed, X', hpost, fun target h => hstep₁ _ fun acts => by rw [doInvoke_state]; exact hsteps.trans h⟩
theorem vx_runSW {y : MethodName} {bytes cc : ByteArray} {maxL nL mc ms n index : Nat} {ret : Option FieldType} {hh : List (Nat × Nat × Nat × Nat)} {ws : List Cond} {rm : Room} {Pc : Array Value → State → Prop} {Qc : Array Value → State → Outcome → State → Prop} {free : Addr → Prop} {Ts : List Cond} {own : String} {As rest : List Value} {g : JFrame}
    (S : CallFix p m c cc nL s args Ts own) (hM : Met l y ws rm Pc Qc mc ms free) (cw : vx_CSW R s args own index y bytes maxL ret hh ws rm mc ms n) (hp : PreS s H Pc As)
    (hg : g.method = m) (hn : As.length = n) (hsize : g.locals.size = nL) (hstack : g.stack = As.reverse ++ rest) (hW : 2 * g.monitorRoom + (rest.map fun v => v.category).sum ≤ 8) (hdg : decode cc g.pc = .ok (.invokestatic index, 3)) (hf : cells + mc ≤ R.cells ∧ slots + ms ≤ R.slots) :
    va_Run p l e R s m args below meth c H locs cells slots mc ms g rest (Qc As.toArray) (free) := by
  obtain ⟨⟨hrc, hrs, hfr, hlo, hws, hcw⟩, hcode, hini, hy, hlen, hl, hstt⟩ := cw
  have hK : Back l R p e below s args y 3 8 (PreOf R mc ms Pc) (PostOf Qc mc ms free) := va_backW (hh := hh) (bytes := bytes) (maxL := maxL) (ret := ret) hM hp.1 hrc hrs hfr hlo hws hcw (fun a' U hW => word_at hW (Or.inl (by first | rfl | simp [Cond.onTables, Cond.keeps, Cond.steady])) hini)
  obtain ⟨hx, hb, hml, ho, -⟩ := S
  intro T hT X
  obtain ⟨v, vm₁, ⟨U', l2, c2, s2⟩, hW₁, X', ⟨g', mk, t, L, e1, e2, hq, h1, hL, h2, h3⟩, st⟩ := vx_callSW X hx (hh := hh) (bytes := bytes) (maxL := maxL) (ret := ret) ho hl hstt hini hcode hy hK hg (hsize.trans hml.symm) (argsL := As) (rest := rest) (fun sig h => hn.trans (hlen sig h)) hstack hW (by rw [hb]; exact hdg)
    (fun vm₁ hW₁ => ⟨hf.1, hf.2, hp.2 (T.setVm vm₁) hT hW₁⟩)
  dsimp only [Pt.U, Pt.locs, Pt.cells, Pt.slots] at X' e1 e2 h1 h2 h3 st
  subst h1; subst h2; subst h3
  exact ⟨v, (T.setVm vm₁).calling g' mk As.toArray, t, U', L, hT, X', hL, e1, e2, hq, st⟩
/-- not caught here, past rows that name other classes: it goes on to the caller -/
theorem vx_outP {p : Program} {l : Launch} {e : Env} {R : Room} {s : State} {m : MethodId} {args : Array Value} {below : List Frame} {meth : Method} {c : Code} {H : Heap} {locs : List Loc} {cells slots : Nat} {free : Addr → Prop} {ls : Array Slot} {rest : List Value} {Qc : Array Value → State → Outcome → State → Prop} {XC : String → State → State → Prop}
    {pc : Nat} {own E : String} {ce : Cell} {q : Addr} {mc ms : Nat} (hown : s.vm.findClass own = some m.cls) (hlocks : meth.locks = false)
    (hpass : ∀ z ∈ c.exceptionTable.toList, covers z pc = false ∨ (z.catchType ≠ 0 ∧ ∃ nm : String, (Cond.classLink own z.catchType nm).before args s = true ∧ va_Nc E nm s)) (hcell : H[q]? = some ce) (hv : ce.vm = .none) (hcl : s.vm.findClass E = some ce.cls)
    (hx : ∀ t : State, t.heap = H → s.vm.Alike t.vm → XC E s t) (hf : ∀ z ∈ locs, free z.base) (hc : cells ≤ mc) (hs : slots ≤ ms) :
    vx_W p l e R s m args below meth c H locs cells slots (vx_MQ below Qc XC args s mc ms free) (F0 m pc ls rest) q := by
  intro T hT X
  have hpl : e.platform.magicAccessors = ({} : Platform).magicAccessors := by rw [X.admits.platform]
  obtain ⟨vm', hW', X', st⟩ := X.outThrough hlocks q (g := F0 m pc ls rest) rfl rfl rfl (cell := ce) (by rw [hT]; exact hcell) (by rw [hv]; rfl)
    (by obtain ⟨k9, h9, -⟩ := Vm.findClass_spec hcl; exact ⟨k9, h9⟩) (fun z hz => by
      rcases hpass z hz with h | ⟨hz0, nm, hl1, hn1⟩
      · exact Or.inl h
      · obtain ⟨c6, hc6, hcl6⟩ := Cond.classLink_spec hown hl1 e.platform hpl
        obtain ⟨a8, b8, h1, h2, h3⟩ := hn1
        cases Option.some.inj (h1.symm.trans hcl)
        cases Option.some.inj (h2.symm.trans hc6)
        exact Or.inr ⟨hz0, _, hcl6, h3⟩)
  obtain ⟨g₀, hfr⟩ := X'.frames_eq
  have hcell9 : ((T.setVm vm').setFrames (.throwing q :: below)).heap[q]? = some ce := by
    show T.heap[q]? = some ce
    rw [hT]; exact hcell
  have hend : Ended ((T.setVm vm').setFrames (.throwing q :: below)) below (.threw q) := State.frames_setFrames _ (State.cur_lt_of_frames hfr)
  refine ⟨(T.setVm vm').setFrames (.throwing q :: below), ?_, .threw q, X'.here.running, hend, Or.inr ⟨q, rfl, E, ce, locs, hx _ hT (X'.ends _).1.alike, hcell9, hv, hcl, (X'.ends _).1, (X'.ends _).2.mono hc hs, hf⟩⟩
  rw [X.pushThrowing_eq]
  exact st
/-- a thing of a world lies in the heap -/
theorem vx_lt {D : va_G} {cl : List vw_C} {ws : va_W} {H1 : Heap} (h : va_P D cl ws H1) {k : Nat} {q : Nat × va_E} (hk : ws[k]? = some q) : q.1 < H1.size := (h k q hk).lt
end VXS
/-! ===== END ===== -/
/-! ===== BEGIN methods with a table of their own: called by a name, returning or throwing ===== -/
section VXH
/-! vx_backW, vx_callVX, vx_callSX, vx_callVW, vx_runVW, vx_runVX, vx_runSX, vx_ofWH follow the same proofs as their sisters above (Free/Laws.lean, Shelf42/LK1.lean); vx_outP calls Shelf42/NT130.lean (outThrough). -/
section
variable {l : Launch} {R : Room} {p : Program} {e : Env} {below : List Frame} {s : State} {sargs : Array Value} {y : MethodName} {len W9 : Nat}
theorem vx_backW {ws : List Cond} {rm : Room} {Pc : Array Value → State → Prop} {Qc : Array Value → State → Outcome → State → Prop} {XC : String → State → State → Prop} {mc ms : Nat} {free : Addr → Prop} {bytes : ByteArray} {maxL : Nat} {ret : Option FieldType} {hh : List (Nat × Nat × Nat × Nat)}
    (hM : vx_Met l y ws rm Pc Qc XC mc ms free) (hblind : FrameBlind Pc) (hrc : rm.cells = mc) (hrs : rm.slots = ms)
    (hframes : rm.frames + 1 ≤ R.frames) (hlocals : W9 + (maxL + 11) + rm.locals ≤ R.locals)
    (hws : ∀ w ∈ ws, ∀ a' U, s.WarmedH U.vm → w.before a' U = true) (hcode : Cond.codeWith y bytes maxL ret hh ∈ ws) (hinit : ∀ a' U, s.WarmedH U.vm → (Cond.initialized y.cls).before a' U = true) :
    vx_Back l R p e below s sargs y len W9 (PreOf R mc ms Pc) (PostOf Qc mc ms free) (vx_Post XC mc ms free) := by
  intro m meth c A g ig mk a X hg hsize hdg hW hn hp
  have h1 : (headSpec ws rm).pre.before a A.U = true := atoms_intro fun w hw => hws w hw _ _ X.warmed
  have h2 : (Cond.codeWith y bytes maxL ret hh).before a A.U = true := hws _ hcode _ _ X.warmed
  have h3 : (Cond.initialized y.cls).before a A.U = true := hinit _ _ X.warmed
  have h4 : A.cells + (headSpec ws rm).room.cells ≤ R.cells := by rw [show (headSpec ws rm).room.cells = mc from hrc]; exact hp.1
  have h5 : A.slots + (headSpec ws rm).room.slots ≤ R.slots := by rw [show (headSpec ws rm).room.slots = ms from hrs]; exact hp.2.1
  have hPc : Pc a (A.U.calling g mk a) := hblind _ _ _ _ hp.2.2
  obtain ⟨U, Ls, c0, s0⟩ := A
  dsimp only [Pt.U, Pt.locs, Pt.cells, Pt.slots] at h1 h2 h3 h4 h5 X hn hPc ⊢
  obtain ⟨m9, methY, cY, hn9, hmY, hcY, -, hlY, -⟩ := Cond.codeWith_spec h2
  cases Option.some.inj (hn9.symm.trans hn)
  obtain ⟨kY, hkY, -⟩ := className_of_methodNamed hn
  have hinitY : kY.init = .initialized := Cond.initialized_spec (findClass_of_methodNamed hn) hkY h3
  have h : At U g.method c below := by rw [hg]; exact X.here
  have hlocals9 : W9 + (maxL + 11) + (headSpec ws rm).room.locals ≤ R.locals := hlocals
  have happ : (headSpec ws rm).appliesLoose y e.platform (U.calling g mk a) = true :=
    Spec.appliesLoose_calling (g := g) h hdg hn hkY hinitY
      (X.room_calling (g := g) (R' := (headSpec ws rm).room) hsize hmY hcY hframes (by rw [hlY]; omega) h4 h5) h1
  obtain ⟨mid, hmid⟩ := h.above
  have hfr : (U.setTop g).frames = (.java g :: mid) ++ below := by rw [State.frames_setTop' g h.top, hmid]; rfl
  obtain ⟨o, s₂, hsteps, -, hend, hq⟩ := Steps.callFree hM p X.admits X.cas X.clock (acts := []) hfr happ hPc trivial
  have hq' : vx_Q Qc XC mc ms free a (U.calling g mk a) o s₂ := hq
  rw [State.frames_setTop' g h.top] at hend
  obtain ⟨g₀, hg0⟩ := Option.isSome_iff_exists.mp h.top
  obtain ⟨r, hr⟩ := State.topJava?_eq_some.mp hg0
  have hr' : (({ U with heap := s₂.heap, slotsUsed := s₂.slotsUsed } : State).setVm s₂.vm).frames = .java g₀ :: r := hr
  rcases hq' with ⟨hqc, L, hfe, hL⟩ | ⟨q, rfl, E, ce, L, hx, hce, hcv, hcl, hW₂, hsm, hL⟩
  · obtain ⟨⟨v, rfl⟩, hW₂, e2, q2, q3, q4, q5, q6⟩ := id hfe
    have e3 : s₂ = ({ (U.calling g mk a).setFrames s₂.frames with heap := s₂.heap, slotsUsed := s₂.slotsUsed } : State).setVm s₂.vm := by
      have : s₂ = ({ s₂ with vm := (U.calling g mk a).vm } : State).setVm s₂.vm := rfl
      rw [e2] at this
      exact this
    obtain ⟨c₂, i₂, len₂, hc₂, hd₂, hf₂⟩ := hend
    have hW' : U.WarmedH s₂.vm := hW₂
    have hcc : c₂ = c := by
      have h1 : s₂.code? g.method = U.code? g.method := by
        rw [State.code?_eq, State.code?_eq, hW'.alike.method?]
      exact Option.some.inj (hc₂.symm.trans (h1.trans h.code))
    subst hcc
    have hlen : len₂ = len := by rw [hdg] at hd₂; cases hd₂; rfl
    subst hlen
    have hs₂ : s₂ = (({ U with heap := s₂.heap, slotsUsed := s₂.slotsUsed } : State).setVm s₂.vm).setTop { g with pc := g.pc + len₂, stack := v.toList ++ g.stack } := by
      refine e3.trans ?_
      rw [hf₂, State.calling_eq h.top, State.setFrames_setFrames, State.setTop_of_frames _ hr', hr]
      rfl
    have hsame : U.sameButNew ({ U with heap := s₂.heap, slotsUsed := s₂.slotsUsed } : State) L mc ms := by
      refine ⟨?_, q2, q3, q4, q5, q6⟩
      obtain ⟨t, ht, -⟩ := State.frames_cons hr
      show ({ U with heap := s₂.heap, slotsUsed := s₂.slotsUsed } : State) = { U.setFrames U.frames with heap := s₂.heap, slotsUsed := s₂.slotsUsed }
      rw [State.setFrames_self ht]
    subst hg
    refine Or.inl ⟨v, ⟨(({ U with heap := s₂.heap, slotsUsed := s₂.slotsUsed } : State).setVm s₂.vm), Ls ++ L, c0 + mc, s0 + ms⟩,
      ⟨X.admits, X.cas, X.clock, X.frames, X.room, X.hears, X.method, X.code, (X.here.setHeapUsed s₂.heap s₂.slotsUsed).setVm hW'.alike, X.tail, State.WarmedH.trans X.warmed hW', X.limits, X.bytes, X.same.trans (hsame.setVm s.vm)⟩,
      ⟨g, mk, s₂, L, rfl, rfl, hqc, rfl, hL, rfl, rfl⟩, ?_⟩
    show Steps p.tables e below _ ((({ U with heap := s₂.heap, slotsUsed := s₂.slotsUsed } : State).setVm s₂.vm).setTop { g with pc := g.pc + len₂, stack := v.toList ++ g.stack })
    rw [← hs₂]
    exact hsteps
  · obtain ⟨e2, q2, q3, q4, q5, q6⟩ := id hsm
    have e3 : s₂ = ({ (U.calling g mk a).setFrames s₂.frames with heap := s₂.heap, slotsUsed := s₂.slotsUsed } : State).setVm s₂.vm := by
      have : s₂ = ({ s₂ with vm := (U.calling g mk a).vm } : State).setVm s₂.vm := rfl
      rw [e2] at this
      exact this
    have hf₂ : s₂.frames = .throwing q :: .java g :: U.frames.tail := hend
    have hW' : U.WarmedH s₂.vm := hW₂
    have hs₂ : s₂ = ((({ U with heap := s₂.heap, slotsUsed := s₂.slotsUsed } : State).setVm s₂.vm).setTop g).pushFrame (.throwing q) := by
      refine e3.trans ?_
      rw [hf₂, State.calling_eq h.top, State.setFrames_setFrames, State.pushFrame, State.frames_setTop _ hr', State.setTop_of_frames _ hr', State.setFrames_setFrames, hr]
      rfl
    have hsame : U.sameButNew ({ U with heap := s₂.heap, slotsUsed := s₂.slotsUsed } : State) L mc ms := by
      refine ⟨?_, q2, q3, q4, q5, q6⟩
      obtain ⟨t, ht, -⟩ := State.frames_cons hr
      show ({ U with heap := s₂.heap, slotsUsed := s₂.slotsUsed } : State) = { U.setFrames U.frames with heap := s₂.heap, slotsUsed := s₂.slotsUsed }
      rw [State.setFrames_self ht]
    subst hg
    refine Or.inr ⟨q, ⟨(({ U with heap := s₂.heap, slotsUsed := s₂.slotsUsed } : State).setVm s₂.vm), Ls ++ L, c0 + mc, s0 + ms⟩,
      ⟨X.admits, X.cas, X.clock, X.frames, X.room, X.hears, X.method, X.code, (X.here.setHeapUsed s₂.heap s₂.slotsUsed).setVm hW'.alike, X.tail, State.WarmedH.trans X.warmed hW', X.limits, X.bytes, X.same.trans (hsame.setVm s.vm)⟩,
      ⟨g, mk, s₂, L, E, ce, rfl, rfl, hx, hce, hcv, hcl, rfl, hL, rfl, rfl⟩, ?_⟩
    show Steps p.tables e below _ (((({ U with heap := s₂.heap, slotsUsed := s₂.slotsUsed } : State).setVm s₂.vm).setTop g).pushFrame (.throwing q))
    rw [← hs₂]
    exact hsteps
end
variable {p : Program} {l : Launch} {e : Env} {R : Room} {s : State} {m : MethodId} {args : Array Value} {below : List Frame} {meth : Method} {c : Code} {T : State} {H : Heap} {locs : List Loc} {cells slots : Nat}
theorem vx_callVX (X : Stand p l e R s m args below meth c T locs cells slots) (hexec : p.tables.exec = Jvm.exec) {own C : String} {index : Nat} {y : MethodName} {bytes : ByteArray} {maxL : Nat} {ret : Option FieldType} {hh : List (Nat × Nat × Nat × Nat)}
    (hown : s.vm.findClass own = some m.cls) (hlink : (Cond.methodLink own index y).before args s = true) (hinst : (Cond.instanceMethod y).before args s = true) (hsel : (Cond.selects C y y).before args s = true)
    (hcode : (Cond.codeWith y bytes maxL ret hh).before args s = true) (hy : y.cls ≠ "java/lang/invoke/MethodHandle" ∧ y.cls ≠ "java/lang/invoke/VarHandle")
    {W9 : Nat} {Pre : Pt → Array Value → Prop} {Post : Pt → Array Value → Option Value → Pt → Prop} {PostX : Pt → Array Value → Addr → Pt → Prop} (hK : vx_Back l R p e below s args y 3 W9 Pre Post PostX)
    {b : Addr} {cellB : Cell} (hcell : T.heap[b]? = some cellB) (hobj : cellB.vm.isStatics = false) (hcls : s.vm.findClass C = some cellB.cls)
    {g : JFrame} (hg : g.method = m) (hsize : g.locals.size = c.maxLocals) {argsL rest : List Value} (hlen : ∀ sig, parseMethodDescriptor y.desc = some sig → argsL.length = sig.parameters.length)
    (hstack : g.stack = argsL.reverse ++ .ref b :: rest) (hW : 2 * g.monitorRoom + (rest.map fun v => v.category).sum ≤ W9) (hdg : decode c.code g.pc = .ok (.invokevirtual index, 3))
    (hpre : ∀ vm₁, s.WarmedH vm₁ → Pre ⟨T.setVm vm₁, locs, cells, slots⟩ (Value.ref b :: argsL).toArray) :
    (∃ (v : Option Value) (vm₁ : Vm) (B : Pt), s.WarmedH vm₁ ∧ Stand p l e R s m args below meth c B.U B.locs B.cells B.slots ∧ Post ⟨T.setVm vm₁, locs, cells, slots⟩ (Value.ref b :: argsL).toArray v B ∧
      ∀ target, Steps p.tables e below (B.U.setTop { g with pc := g.pc + 3, stack := v.toList ++ rest }) target → Steps p.tables e below (T.setTop g) target) ∨
    (∃ (q : Addr) (vm₁ : Vm) (B : Pt), s.WarmedH vm₁ ∧ Stand p l e R s m args below meth c B.U B.locs B.cells B.slots ∧ PostX ⟨T.setVm vm₁, locs, cells, slots⟩ (Value.ref b :: argsL).toArray q B ∧
      Steps p.tables e below (T.setTop g) ((B.U.setTop { g with stack := rest }).pushFrame (.throwing q))) := by
  obtain ⟨mk, methM, hnamed, hmethM, hstM, habM⟩ := Cond.instanceMethod_spec hinst
  obtain ⟨m8, methM', cM, hn8, hmethM', -, -, -, -, -, -, hsigM⟩ := Cond.codeWith_spec hcode
  cases Option.some.inj (hn8.symm.trans hnamed)
  cases hmethM.symm.trans hmethM'
  obtain ⟨c2, r2, m2, q1, q2, q3, q4, kP, hkP, hkPi⟩ := Cond.selects_spec hsel
  cases hcls.symm.trans q1
  cases (State.methodFound?_of_named hnamed hy).symm.trans q2
  cases hnamed.symm.trans q3
  have hselP : selectMethod e.platform s.vm cellB.cls mk = .method mk := by rw [Launch.admits_selectMethod X.admits]; exact q4
  obtain ⟨vm₁, X₁, hstep₁⟩ := X.invokevirtual hexec hown hlink hnamed hmethM hstM hkP hkPi hy (a := b) (cell := cellB) hcell
    (fun z h => by rw [h] at hobj; cases hobj) hselP hmethM habM hkP hkPi (g := g) hg (argsL := argsL) (rest := rest) (hlen _ hsigM) hstack hdg
  rcases hK m meth c ⟨T.setVm vm₁, locs, cells, slots⟩ { g with stack := rest } (.invokevirtual index) mk (Value.ref b :: argsL).toArray X₁ hg hsize hdg hW (X₁.named hnamed) (hpre vm₁ X₁.warmed) with ⟨v, B, X', hpost, hsteps⟩ | ⟨q, B, X', hpost, hsteps⟩
  · exact Or.inl ⟨v, vm₁, B, X₁.warmed, X', hpost, fun target h => hstep₁ _ fun acts => by rw [doInvoke_state]; exact hsteps.trans h⟩
  · exact Or.inr ⟨q, vm₁, B, X₁.warmed, X', hpost, hstep₁ _ fun acts => by rw [doInvoke_state]; exact hsteps⟩
theorem vx_callSX (X : Stand p l e R s m args below meth c T locs cells slots) (hexec : p.tables.exec = Jvm.exec) {own : String} {index : Nat} {y : MethodName} {bytes : ByteArray} {maxL : Nat} {ret : Option FieldType} {hh : List (Nat × Nat × Nat × Nat)}
    (hown : s.vm.findClass own = some m.cls) (hlink : (Cond.methodLink own index y).before args s = true) (hstat : (Cond.static y).before args s = true) (hinit : (Cond.initialized y.cls).before args s = true)
    (hcode : (Cond.codeWith y bytes maxL ret hh).before args s = true) (hy : y.cls ≠ "java/lang/invoke/MethodHandle" ∧ y.cls ≠ "java/lang/invoke/VarHandle")
    {W9 : Nat} {Pre : Pt → Array Value → Prop} {Post : Pt → Array Value → Option Value → Pt → Prop} {PostX : Pt → Array Value → Addr → Pt → Prop} (hK : vx_Back l R p e below s args y 3 W9 Pre Post PostX)
    {g : JFrame} (hg : g.method = m) (hsize : g.locals.size = c.maxLocals) {argsL rest : List Value} (hlen : ∀ sig, parseMethodDescriptor y.desc = some sig → argsL.length = sig.parameters.length)
    (hstack : g.stack = argsL.reverse ++ rest) (hW : 2 * g.monitorRoom + (rest.map fun v => v.category).sum ≤ W9) (hdg : decode c.code g.pc = .ok (.invokestatic index, 3))
    (hpre : ∀ vm₁, s.WarmedH vm₁ → Pre ⟨T.setVm vm₁, locs, cells, slots⟩ argsL.toArray) :
    (∃ (v : Option Value) (vm₁ : Vm) (B : Pt), s.WarmedH vm₁ ∧ Stand p l e R s m args below meth c B.U B.locs B.cells B.slots ∧ Post ⟨T.setVm vm₁, locs, cells, slots⟩ argsL.toArray v B ∧
      ∀ target, Steps p.tables e below (B.U.setTop { g with pc := g.pc + 3, stack := v.toList ++ rest }) target → Steps p.tables e below (T.setTop g) target) ∨
    (∃ (q : Addr) (vm₁ : Vm) (B : Pt), s.WarmedH vm₁ ∧ Stand p l e R s m args below meth c B.U B.locs B.cells B.slots ∧ PostX ⟨T.setVm vm₁, locs, cells, slots⟩ argsL.toArray q B ∧
      Steps p.tables e below (T.setTop g) ((B.U.setTop { g with stack := rest }).pushFrame (.throwing q))) := by
  obtain ⟨mk, methM, cM, hnamed, hmethM, -, -, -, -, -, -, hsigM⟩ := Cond.codeWith_spec hcode
  have hstatic : methM.isStatic = true := Cond.static_spec hnamed hmethM hstat
  obtain ⟨kP, hkP, -⟩ := className_of_methodNamed hnamed
  have hinitP : kP.init = .initialized := Cond.initialized_spec (findClass_of_methodNamed hnamed) hkP hinit
  obtain ⟨vm₁, X₁, hstep₁⟩ := X.invokestatic hexec hown hlink hnamed hmethM hstatic hkP hinitP hy (g := g) hg (argsL := argsL) (rest := rest) (hlen _ hsigM) hstack hdg
  rcases hK m meth c ⟨T.setVm vm₁, locs, cells, slots⟩ { g with stack := rest } (.invokestatic index) mk argsL.toArray X₁ hg hsize hdg hW (X₁.named hnamed) (hpre vm₁ X₁.warmed) with ⟨v, B, X', hpost, hsteps⟩ | ⟨q, B, X', hpost, hsteps⟩
  · exact Or.inl ⟨v, vm₁, B, X₁.warmed, X', hpost, fun target h => hstep₁ _ fun acts => by rw [doInvoke_state]; exact hsteps.trans h⟩
  · exact Or.inr ⟨q, vm₁, B, X₁.warmed, X', hpost, hstep₁ _ fun acts => by rw [doInvoke_state]; exact hsteps⟩
theorem vx_callVW (X : Stand p l e R s m args below meth c T locs cells slots) (hexec : p.tables.exec = Jvm.exec) {own C : String} {index : Nat} {y : MethodName} {bytes : ByteArray} {maxL : Nat} {ret : Option FieldType} {hh : List (Nat × Nat × Nat × Nat)}
    (hown : s.vm.findClass own = some m.cls) (hlink : (Cond.methodLink own index y).before args s = true) (hinst : (Cond.instanceMethod y).before args s = true) (hsel : (Cond.selects C y y).before args s = true)
    (hcode : (Cond.codeWith y bytes maxL ret hh).before args s = true) (hy : y.cls ≠ "java/lang/invoke/MethodHandle" ∧ y.cls ≠ "java/lang/invoke/VarHandle")
    {W9 : Nat} {Pre : Pt → Array Value → Prop} {Post : Pt → Array Value → Option Value → Pt → Prop} (hK : Back l R p e below s args y 3 W9 Pre Post)
    {b : Addr} {cellB : Cell} (hcell : T.heap[b]? = some cellB) (hobj : cellB.vm.isStatics = false) (hcls : s.vm.findClass C = some cellB.cls)
    {g : JFrame} (hg : g.method = m) (hsize : g.locals.size = c.maxLocals) {argsL rest : List Value} (hlen : ∀ sig, parseMethodDescriptor y.desc = some sig → argsL.length = sig.parameters.length)
    (hstack : g.stack = argsL.reverse ++ .ref b :: rest) (hW : 2 * g.monitorRoom + (rest.map fun v => v.category).sum ≤ W9) (hdg : decode c.code g.pc = .ok (.invokevirtual index, 3))
    (hpre : ∀ vm₁, s.WarmedH vm₁ → Pre ⟨T.setVm vm₁, locs, cells, slots⟩ (Value.ref b :: argsL).toArray) :
    ∃ (v : Option Value) (vm₁ : Vm) (B : Pt), s.WarmedH vm₁ ∧ Stand p l e R s m args below meth c B.U B.locs B.cells B.slots ∧ Post ⟨T.setVm vm₁, locs, cells, slots⟩ (Value.ref b :: argsL).toArray v B ∧
      ∀ target, Steps p.tables e below (B.U.setTop { g with pc := g.pc + 3, stack := v.toList ++ rest }) target → Steps p.tables e below (T.setTop g) target := by
  obtain ⟨mk, methM, hnamed, hmethM, hstM, habM⟩ := Cond.instanceMethod_spec hinst
  obtain ⟨m8, methM', cM, hn8, hmethM', -, -, -, -, -, -, hsigM⟩ := Cond.codeWith_spec hcode
  cases Option.some.inj (hn8.symm.trans hnamed)
  cases hmethM.symm.trans hmethM'
  obtain ⟨c2, r2, m2, q1, q2, q3, q4, kP, hkP, hkPi⟩ := Cond.selects_spec hsel
  cases hcls.symm.trans q1
  cases (State.methodFound?_of_named hnamed hy).symm.trans q2
  cases hnamed.symm.trans q3
  have hselP : selectMethod e.platform s.vm cellB.cls mk = .method mk := by rw [Launch.admits_selectMethod X.admits]; exact q4
  obtain ⟨vm₁, X₁, hstep₁⟩ := X.invokevirtual hexec hown hlink hnamed hmethM hstM hkP hkPi hy (a := b) (cell := cellB) hcell
    (fun z h => by rw [h] at hobj; cases hobj) hselP hmethM habM hkP hkPi (g := g) hg (argsL := argsL) (rest := rest) (hlen _ hsigM) hstack hdg
  obtain ⟨v, B, X', hpost, hsteps⟩ := hK m meth c ⟨T.setVm vm₁, locs, cells, slots⟩ { g with stack := rest } (.invokevirtual index) mk (Value.ref b :: argsL).toArray X₁ hg hsize hdg hW (X₁.named hnamed) (hpre vm₁ X₁.warmed)
  exact ⟨v, vm₁, B, X₁.warmed, X', hpost, fun target h => hstep₁ _ fun acts => by rw [doInvoke_state]; exact hsteps.trans h⟩
abbrev vx_CVW (R : Room) (s : State) (args : Array Value) (own C : String) (index : Nat) (y : MethodName) (bytes : ByteArray) (maxL : Nat) (ret : Option FieldType) (hh : List (Nat × Nat × Nat × Nat)) (ws : List Cond) (rm : Room) (mc ms n : Nat) : Prop :=
  (rm.cells = mc ∧ rm.slots = ms ∧ rm.frames + 1 ≤ R.frames ∧ 8 + (maxL + 11) + rm.locals ≤ R.locals ∧ (∀ w ∈ ws, ∀ (a' : Array Value) (U : State), s.WarmedH U.vm → w.before a' U = true) ∧ Cond.codeWith y bytes maxL ret hh ∈ ws) ∧
  (Cond.codeWith y bytes maxL ret hh).before args s = true ∧ (Cond.initialized y.cls).before args s = true ∧ (y.cls ≠ "java/lang/invoke/MethodHandle" ∧ y.cls ≠ "java/lang/invoke/VarHandle") ∧
  (∀ sig, parseMethodDescriptor y.desc = some sig → n = sig.parameters.length) ∧ (Cond.methodLink own index y).before args s = true ∧ (Cond.instanceMethod y).before args s = true ∧ (Cond.selects C y y).before args s = true
theorem vx_cwVW {own C : String} {index maxL mc ms : Nat} {y : MethodName} {bytes : ByteArray} {ret : Option FieldType} {hh : List (Nat × Nat × Nat × Nat)} {Ts ws ws' : List Cond} {rm : Room} (n : Nat) (ht : ∀ w ∈ Ts, w.before args s = true) (hT : GoodIn Ts (wsV own index C y ws)) (hw : ws = Cond.codeWith y bytes maxL ret hh :: ws') (hrc : rm.cells = mc) (hrs : rm.slots = ms)
    (hd : y.cls = C ∧ y.cls ≠ "java/lang/invoke/MethodHandle" ∧ y.cls ≠ "java/lang/invoke/VarHandle" ∧ (parseMethodDescriptor y.desc).map (fun d => d.parameters.length) = some n) (hR : rm.frames + 1 ≤ R.frames ∧ 8 + (maxL + 11) + rm.locals ≤ R.locals) :
    vx_CVW R s args own C index y bytes maxL ret hh ws rm mc ms n := by
  obtain ⟨hC, hd⟩ := hd
  subst hC
  have ok : ∀ w ∈ wsV own index y.cls y ws, w.before args s = true := fun w h => ht w (hT w h).1
  have hG : GoodIn Ts ws := fun w h => hT w (by unfold wsV; exact List.mem_append_right _ h)
  have hc : Cond.codeWith y bytes maxL ret hh ∈ ws := by rw [hw]; exact List.mem_cons_self
  refine ⟨⟨hrc, hrs, hR.1, hR.2, pay_in ht hG, hc⟩, ht _ (hG _ hc).1, ok _ (by simp [wsV]), ⟨hd.1, hd.2.1⟩, fun sig h => ?_, ok _ (by simp [wsV]), ok _ (by simp [wsV]), ok _ (by simp [wsV])⟩
  have h2 := hd.2.2
  rw [h] at h2
  exact (Option.some.inj h2).symm
theorem vx_runVW {y : MethodName} {bytes cc : ByteArray} {maxL nL mc ms n index : Nat} {ret : Option FieldType} {hh : List (Nat × Nat × Nat × Nat)} {ws : List Cond} {rm : Room} {Pc : Array Value → State → Prop} {Qc : Array Value → State → Outcome → State → Prop} {free : Addr → Prop} {Ts : List Cond} {own C : String} {b : Addr} {As rest : List Value} {g : JFrame}
    (S : CallFix p m c cc nL s args Ts own) (hM : Met l y ws rm Pc Qc mc ms free) (cw : vx_CVW R s args own C index y bytes maxL ret hh ws rm mc ms n) (hp : PreV s H C b Pc As)
    (hg : g.method = m) (hn : As.length = n) (hsize : g.locals.size = nL) (hstack : g.stack = As.reverse ++ .ref b :: rest) (hW : 2 * g.monitorRoom + (rest.map fun v => v.category).sum ≤ 8) (hdg : decode cc g.pc = .ok (.invokevirtual index, 3)) (hf : cells + mc ≤ R.cells ∧ slots + ms ≤ R.slots) :
    va_Run p l e R s m args below meth c H locs cells slots mc ms g rest (Qc (Value.ref b :: As).toArray) free := by
  obtain ⟨⟨hrc, hrs, hfr, hlo, hws, hcw⟩, hcode, hini, hy, hlen, hl, hin, hse⟩ := cw
  have hK : Back l R p e below s args y 3 8 (PreOf R mc ms Pc) (PostOf Qc mc ms free) := va_backW (hh := hh) (bytes := bytes) (maxL := maxL) (ret := ret) hM hp.1 hrc hrs hfr hlo hws hcw (fun a' U hW => word_at hW (Or.inl (by first | rfl | simp [Cond.onTables, Cond.keeps, Cond.steady])) hini)
  obtain ⟨hx, hb, hml, ho, -⟩ := S
  obtain ⟨-, ⟨cellB, hcB, hoB, hclB⟩, hPc⟩ := hp
  intro T hT X
  obtain ⟨v, vm₁, ⟨U', l2, c2, s2⟩, hW₁, X', ⟨g', mk, t, L, e1, e2, hq, h1, hL, h2, h3⟩, st⟩ := vx_callVW X hx (C := C) (hh := hh) (bytes := bytes) (maxL := maxL) (ret := ret) ho hl hin hse hcode hy hK (by rw [hT]; exact hcB) hoB hclB hg (hsize.trans hml.symm) (argsL := As) (rest := rest) (fun sig h => hn.trans (hlen sig h)) hstack hW (by rw [hb]; exact hdg)
    (fun vm₁ hW₁ => ⟨hf.1, hf.2, hPc (T.setVm vm₁) hT hW₁⟩)
  dsimp only [Pt.U, Pt.locs, Pt.cells, Pt.slots] at X' e1 e2 h1 h2 h3 st
  subst h1; subst h2; subst h3
  exact ⟨v, (T.setVm vm₁).calling g' mk (Value.ref b :: As).toArray, t, U', L, hT, X', hL, e1, e2, hq, st⟩
section
variable {y : MethodName} {bytes cc : ByteArray} {maxL nL mc ms n index : Nat} {ret : Option FieldType} {ws : List Cond} {rm : Room} {Pc : Array Value → State → Prop} {Qc : Array Value → State → Outcome → State → Prop} {XC : String → State → State → Prop} {free : Addr → Prop} {Ts : List Cond} {own C : String} {b : Addr} {As rest : List Value} {g : JFrame}
theorem vx_runVX {hh : List (Nat × Nat × Nat × Nat)} (S : CallFix p m c cc nL s args Ts own) (hM : vx_Met l y ws rm Pc Qc XC mc ms free) (cw : vx_CVW R s args own C index y bytes maxL ret hh ws rm mc ms n) (hp : PreV s H C b Pc As)
    (hg : g.method = m) (hn : As.length = n) (hsize : g.locals.size = nL) (hstack : g.stack = As.reverse ++ .ref b :: rest) (hW : 2 * g.monitorRoom + (rest.map fun v => v.category).sum ≤ 8) (hdg : decode cc g.pc = .ok (.invokevirtual index, 3)) (hf : cells + mc ≤ R.cells ∧ slots + ms ≤ R.slots) :
    vx_Run p l e R s m args below meth c H locs cells slots mc ms g rest (Qc (Value.ref b :: As).toArray) XC free := by
  obtain ⟨⟨hrc, hrs, hfr, hlo, hws, hcw⟩, hcode, hini, hy, hlen, hl, hin, hse⟩ := cw
  have hK : vx_Back l R p e below s args y 3 8 (PreOf R mc ms Pc) (PostOf Qc mc ms free) (vx_Post XC mc ms free) := vx_backW (hh := hh) (bytes := bytes) (maxL := maxL) (ret := ret) hM hp.1 hrc hrs hfr hlo hws hcw (fun a' U hW => word_at hW (Or.inl (by first | rfl | simp [Cond.onTables, Cond.keeps, Cond.steady])) hini)
  obtain ⟨hx, hb, hml, ho, -⟩ := S
  obtain ⟨-, ⟨cellB, hcB, hoB, hclB⟩, hPc⟩ := hp
  intro T hT X
  rcases vx_callVX X hx (C := C) (hh := hh) (bytes := bytes) (maxL := maxL) (ret := ret) ho hl hin hse hcode hy hK (by rw [hT]; exact hcB) hoB hclB hg (hsize.trans hml.symm) (argsL := As) (rest := rest) (fun sig h => hn.trans (hlen sig h)) hstack hW (by rw [hb]; exact hdg)
    (fun vm₁ hW₁ => ⟨hf.1, hf.2, hPc (T.setVm vm₁) hT hW₁⟩) with ⟨v, vm₁, ⟨U', l2, c2, s2⟩, hW₁, X', ⟨g', mk, t, L, e1, e2, hq, h1, hL, h2, h3⟩, st⟩ | ⟨q, vm₁, ⟨U', l2, c2, s2⟩, hW₁, X', ⟨g', mk, t, L, E, ce, e1, e2, hq, hce, hcv, hcl, h1, hL, h2, h3⟩, st⟩
  · dsimp only [Pt.U, Pt.locs, Pt.cells, Pt.slots] at X' e1 e2 h1 h2 h3 st
    subst h1; subst h2; subst h3
    exact Or.inl ⟨v, (T.setVm vm₁).calling g' mk (Value.ref b :: As).toArray, t, U', L, hT, X', hL, e1, e2, hq, st⟩
  · dsimp only [Pt.U, Pt.locs, Pt.cells, Pt.slots] at X' e1 e2 h1 h2 h3 st hcl
    subst h1; subst h2; subst h3
    exact Or.inr ⟨q, (T.setVm vm₁).calling g' mk (Value.ref b :: As).toArray, t, U', L, E, ce, hT, X', hL, e1, e2, hq, hce, hcv, vx_cls hW₁ hcl, st⟩
theorem vx_runSX {hh : List (Nat × Nat × Nat × Nat)} (S : CallFix p m c cc nL s args Ts own) (hM : vx_Met l y ws rm Pc Qc XC mc ms free) (cw : vx_CSW R s args own index y bytes maxL ret hh ws rm mc ms n) (hp : PreS s H Pc As)
    (hg : g.method = m) (hn : As.length = n) (hsize : g.locals.size = nL) (hstack : g.stack = As.reverse ++ rest) (hW : 2 * g.monitorRoom + (rest.map fun v => v.category).sum ≤ 8) (hdg : decode cc g.pc = .ok (.invokestatic index, 3)) (hf : cells + mc ≤ R.cells ∧ slots + ms ≤ R.slots) :
    vx_Run p l e R s m args below meth c H locs cells slots mc ms g rest (Qc As.toArray) XC free := by
  obtain ⟨⟨hrc, hrs, hfr, hlo, hws, hcw⟩, hcode, hini, hy, hlen, hl, hstt⟩ := cw
  have hK : vx_Back l R p e below s args y 3 8 (PreOf R mc ms Pc) (PostOf Qc mc ms free) (vx_Post XC mc ms free) := vx_backW (hh := hh) (bytes := bytes) (maxL := maxL) (ret := ret) hM hp.1 hrc hrs hfr hlo hws hcw (fun a' U hW => word_at hW (Or.inl (by first | rfl | simp [Cond.onTables, Cond.keeps, Cond.steady])) hini)
  obtain ⟨hx, hb, hml, ho, -⟩ := S
  intro T hT X
  rcases vx_callSX X hx (hh := hh) (bytes := bytes) (maxL := maxL) (ret := ret) ho hl hstt hini hcode hy hK hg (hsize.trans hml.symm) (argsL := As) (rest := rest) (fun sig h => hn.trans (hlen sig h)) hstack hW (by rw [hb]; exact hdg)
    (fun vm₁ hW₁ => ⟨hf.1, hf.2, hp.2 (T.setVm vm₁) hT hW₁⟩) with ⟨v, vm₁, ⟨U', l2, c2, s2⟩, hW₁, X', ⟨g', mk, t, L, e1, e2, hq, h1, hL, h2, h3⟩, st⟩ | ⟨q, vm₁, ⟨U', l2, c2, s2⟩, hW₁, X', ⟨g', mk, t, L, E, ce, e1, e2, hq, hce, hcv, hcl, h1, hL, h2, h3⟩, st⟩
  · dsimp only [Pt.U, Pt.locs, Pt.cells, Pt.slots] at X' e1 e2 h1 h2 h3 st
    subst h1; subst h2; subst h3
    exact Or.inl ⟨v, (T.setVm vm₁).calling g' mk As.toArray, t, U', L, hT, X', hL, e1, e2, hq, st⟩
  · dsimp only [Pt.U, Pt.locs, Pt.cells, Pt.slots] at X' e1 e2 h1 h2 h3 st hcl
    subst h1; subst h2; subst h3
    exact Or.inr ⟨q, (T.setVm vm₁).calling g' mk As.toArray, t, U', L, E, ce, hT, X', hL, e1, e2, hq, hce, hcv, vx_cls hW₁ hcl, st⟩
end
end VXH
theorem vx_ofWH {l : Launch} {y : MethodName} {ws ws' : List Cond} {rm : Room} {Pc : Array Value → State → Prop} {Qc : Array Value → State → Outcome → State → Prop} {XC : String → State → State → Prop} {mc ms : Nat} {free : Addr → Prop} {cc : ByteArray} {maxL : Nat} {ret : Option FieldType} {hh : List (Nat × Nat × Nat × Nat)}
    (hy : plainName y.cls = true) (hw : ws = Cond.codeWith y cc maxL ret hh :: ws')
    (body : ∀ p e s m args below meth c s₁, BodyLoose p l y (headSpec ws rm) cc maxL ret e s m args below meth c s₁ → c.maxLocals = maxL → Pc args s →
      W p l e (headSpec ws rm).room s m args below meth c s.heap [] 0 0 (vx_MQ below Qc XC args s mc ms free) (entryFrame m args maxL)) : vx_Met l y ws rm Pc Qc XC mc ms free := by
  refine MetFree.of_bodyS (code := cc) (maxLocals := maxL) (ret := ret) hy ?_ ?_
  · intro args s m h hn
    obtain ⟨m9, meth, c, hn9, h1, h2, h3, h4, -, h5, h6, -⟩ := Cond.codeWith_spec (atoms_spec (ws := ws) h _ (by rw [hw]; exact List.mem_cons_self))
    cases hn.symm.trans hn9
    exact ⟨meth, c, h1, h2, h3, h4, h5, h6⟩
  · intro p e s m args below meth c s₁ B hml hP _
    have hh0 : s₁.heap = s.heap := by rw [B.state]; rfl
    obtain ⟨t, a1, o, b1, b2, b3⟩ := body p e s m args below meth c s₁ B hml hP s₁ hh0 (Stand.of_body B)
    exact ⟨t, o, a1, b1, b2, b3⟩
/-! ===== END ===== -/
end
section
/-! ===== BEGIN printed: names, fields, word lists, decode rows ===== -/
def RX0 : String := "GliderDay$Flight"
def TX0 : u_T := fun k => match k with
  | 0 => ("GliderDay$Flight", "number", "I", true)
  | 1 => ("GliderDay$Flight", "member", "LGliderDay$Member;", true)
  | 2 => ("GliderDay$Flight", "second", "LGliderDay$Member;", true)
  | 3 => ("GliderDay$Flight", "glider", "LGliderDay$Glider;", true)
  | 4 => ("GliderDay$Flight", "height", "I", false)
  | 5 => ("GliderDay$Flight", "minutes", "I", false)
  | 6 => ("GliderDay$Flight", "state", "I", false)
  | 7 => ("GliderDay$Flight", "askedAt", "I", false)
  | 8 => ("GliderDay$Flight", "begin", "I", false)
  | 9 => ("GliderDay$Flight", "landing", "I", false)
  | _ => ("GliderDay$Flight", "cost", "I", false)
def tyX0 : Nat → FieldType := fun k => match k with
  | 0 => .int
  | 1 => .object "GliderDay$Member"
  | 2 => .object "GliderDay$Member"
  | 3 => .object "GliderDay$Glider"
  | 4 => .int
  | 5 => .int
  | 6 => .int
  | 7 => .int
  | 8 => .int
  | 9 => .int
  | _ => .int
abbrev wsX00 : List Cond := u_ws RX0 TX0 11
theorem nmX0 : ∀ a, a < 11 → ∀ b, b < 11 → a ≠ b → (TX0 a).2.1 ≠ (TX0 b).2.1 := by decide +kernel
theorem tyX0_ok : ∀ k, k < 11 → parseFieldDescriptor (TX0 k).2.2.1 = some (tyX0 k) := by decide +kernel
abbrev cX0_init : ByteArray := prog_2_method_1_code
def yX0_init : MethodName := ⟨RX0, "<init>", "(ILGliderDay$Member;LGliderDay$Member;LGliderDay$Glider;)V"⟩
def RX1 : String := "GliderDay$Glider"
def TX1 : u_T := fun k => match k with
  | 0 => ("GliderDay$Glider", "number", "I", true)
  | 1 => ("GliderDay$Glider", "seats", "I", true)
  | 2 => ("GliderDay$Glider", "rate", "I", true)
  | 3 => ("GliderDay$Glider", "limit", "I", true)
  | 4 => ("GliderDay$Glider", "state", "I", false)
  | 5 => ("GliderDay$Glider", "isBarred", "Z", false)
  | 6 => ("GliderDay$Glider", "isCalled", "Z", false)
  | 7 => ("GliderDay$Glider", "landings", "I", false)
  | 8 => ("GliderDay$Glider", "minutes", "I", false)
  | _ => ("GliderDay$Glider", "flight", "LGliderDay$Flight;", false)
def tyX1 : Nat → FieldType := fun k => match k with
  | 0 => .int
  | 1 => .int
  | 2 => .int
  | 3 => .int
  | 4 => .int
  | 5 => .boolean
  | 6 => .boolean
  | 7 => .int
  | 8 => .int
  | _ => .object "GliderDay$Flight"
abbrev wsX10 : List Cond := u_ws RX1 TX1 10
theorem nmX1 : ∀ a, a < 10 → ∀ b, b < 10 → a ≠ b → (TX1 a).2.1 ≠ (TX1 b).2.1 := by decide +kernel
theorem tyX1_ok : ∀ k, k < 10 → parseFieldDescriptor (TX1 k).2.2.1 = some (tyX1 k) := by decide +kernel
abbrev cX1_init : ByteArray := prog_3_method_1_code
def yX1_init : MethodName := ⟨RX1, "<init>", "(IIII)V"⟩
def RX2 : String := "GliderDay$Member"
def TX2 : u_T := fun k => match k with
  | 0 => ("GliderDay$Member", "number", "I", true)
  | 1 => ("GliderDay$Member", "level", "I", false)
  | 2 => ("GliderDay$Member", "isFlying", "Z", false)
  | 3 => ("GliderDay$Member", "landings", "I", false)
  | 4 => ("GliderDay$Member", "minutes", "I", false)
  | 5 => ("GliderDay$Member", "lessons", "I", false)
  | 6 => ("GliderDay$Member", "solos", "I", false)
  | _ => ("GliderDay$Member", "bill", "I", false)
def tyX2 : Nat → FieldType := fun k => match k with
  | 0 => .int
  | 1 => .int
  | 2 => .boolean
  | 3 => .int
  | 4 => .int
  | 5 => .int
  | 6 => .int
  | _ => .int
abbrev wsX20 : List Cond := u_ws RX2 TX2 8
theorem nmX2 : ∀ a, a < 8 → ∀ b, b < 8 → a ≠ b → (TX2 a).2.1 ≠ (TX2 b).2.1 := by decide +kernel
theorem tyX2_ok : ∀ k, k < 8 → parseFieldDescriptor (TX2 k).2.2.1 = some (tyX2 k) := by decide +kernel
abbrev cX2_init : ByteArray := prog_4_method_1_code
def yX2_init : MethodName := ⟨RX2, "<init>", "(II)V"⟩
def RX3 : String := "GliderDay"
def TX3 : u_T := fun k => match k with
  | 0 => ("GliderDay", "members", "Ljava/util/ArrayList;", true)
  | 1 => ("GliderDay", "gliders", "Ljava/util/ArrayList;", true)
  | 2 => ("GliderDay", "flights", "Ljava/util/ArrayList;", true)
  | 3 => ("GliderDay", "listed", "Ljava/util/ArrayList;", true)
  | 4 => ("GliderDay", "waiting", "Ljava/util/ArrayList;", true)
  | 5 => ("GliderDay", "tugsDue", "[I", true)
  | 6 => ("GliderDay", "tugs", "I", false)
  | 7 => ("GliderDay", "cablesTaken", "I", false)
  | 8 => ("GliderDay", "cablesDue", "I", false)
  | 9 => ("GliderDay", "time", "I", false)
  | 10 => ("GliderDay", "wind", "I", false)
  | 11 => ("GliderDay", "sunset", "I", false)
  | _ => ("GliderDay", "busyUntil", "I", false)
def tyX3 : Nat → FieldType := fun k => match k with
  | 0 => .object "java/util/ArrayList"
  | 1 => .object "java/util/ArrayList"
  | 2 => .object "java/util/ArrayList"
  | 3 => .object "java/util/ArrayList"
  | 4 => .object "java/util/ArrayList"
  | 5 => .array .int
  | 6 => .int
  | 7 => .int
  | 8 => .int
  | 9 => .int
  | 10 => .int
  | 11 => .int
  | _ => .int
abbrev wsX30 : List Cond := u_ws RX3 TX3 13
theorem nmX3 : ∀ a, a < 13 → ∀ b, b < 13 → a ≠ b → (TX3 a).2.1 ≠ (TX3 b).2.1 := by decide +kernel
theorem tyX3_ok : ∀ k, k < 13 → parseFieldDescriptor (TX3 k).2.2.1 = some (tyX3 k) := by decide +kernel
abbrev cX3_init : ByteArray := prog_1_method_1_code
def yX3_init : MethodName := ⟨RX3, "<init>", "()V"⟩
abbrev cX3_addMember : ByteArray := prog_1_method_2_code
def yX3_addMember : MethodName := ⟨RX3, "addMember", "(I)I"⟩
abbrev cX3_addGlider : ByteArray := prog_1_method_3_code
def yX3_addGlider : MethodName := ⟨RX3, "addGlider", "(III)I"⟩
abbrev cX3_setWind : ByteArray := prog_1_method_4_code
def yX3_setWind : MethodName := ⟨RX3, "setWind", "(I)I"⟩
abbrev cX3_setSunset : ByteArray := prog_1_method_5_code
def yX3_setSunset : MethodName := ⟨RX3, "setSunset", "(I)I"⟩
abbrev cX3_setTugs : ByteArray := prog_1_method_6_code
def yX3_setTugs : MethodName := ⟨RX3, "setTugs", "(I)I"⟩
abbrev cX3_bar : ByteArray := prog_1_method_7_code
def yX3_bar : MethodName := ⟨RX3, "bar", "(IZ)Z"⟩
abbrev cX3_promote : ByteArray := prog_1_method_8_code
def yX3_promote : MethodName := ⟨RX3, "promote", "(I)I"⟩
abbrev cX3_member : ByteArray := prog_1_method_9_code
def yX3_member : MethodName := ⟨RX3, "member", "(II)I"⟩
abbrev cX3_glider : ByteArray := prog_1_method_10_code
def yX3_glider : MethodName := ⟨RX3, "glider", "(II)I"⟩
abbrev cX3_ask : ByteArray := prog_1_method_11_code
def yX3_ask : MethodName := ⟨RX3, "ask", "(IIIII)I"⟩
abbrev cX3_drop : ByteArray := prog_1_method_12_code
def yX3_drop : MethodName := ⟨RX3, "drop", "(I)I"⟩
abbrev cX3_list : ByteArray := prog_1_method_13_code
def yX3_list : MethodName := ⟨RX3, "list", "(I)I"⟩
abbrev cX3_reason : ByteArray := prog_1_method_14_code
def yX3_reason : MethodName := ⟨RX3, "reason", "(I)I"⟩
abbrev cX3_call : ByteArray := prog_1_method_15_code
def yX3_call : MethodName := ⟨RX3, "call", "(I)I"⟩
abbrev cX3_tick : ByteArray := prog_1_method_16_code
def yX3_tick : MethodName := ⟨RX3, "tick", "(I)I"⟩
abbrev cX3_now : ByteArray := prog_1_method_17_code
def yX3_now : MethodName := ⟨RX3, "now", "()I"⟩
abbrev cX3_flight : ByteArray := prog_1_method_18_code
def yX3_flight : MethodName := ⟨RX3, "flight", "(II)I"⟩
abbrev cX3_count : ByteArray := prog_1_method_19_code
def yX3_count : MethodName := ⟨RX3, "count", "(I)I"⟩
abbrev cX3_isBusy : ByteArray := prog_1_method_20_code
def yX3_isBusy : MethodName := ⟨RX3, "isBusy", "()Z"⟩
abbrev cX3_bill : ByteArray := prog_1_method_21_code
def yX3_bill : MethodName := ⟨RX3, "bill", "(I)I"⟩
abbrev cX3_pay : ByteArray := prog_1_method_22_code
def yX3_pay : MethodName := ⟨RX3, "pay", "(II)I"⟩
abbrev cX3_income : ByteArray := prog_1_method_23_code
def yX3_income : MethodName := ⟨RX3, "income", "()I"⟩
abbrev cX3_longest : ByteArray := prog_1_method_24_code
def yX3_longest : MethodName := ⟨RX3, "longest", "()I"⟩
abbrev cX3_waited : ByteArray := prog_1_method_25_code
def yX3_waited : MethodName := ⟨RX3, "waited", "()D"⟩
abbrev cX3_digest : ByteArray := prog_1_method_26_code
def yX3_digest : MethodName := ⟨RX3, "digest", "()J"⟩
abbrev cX3_mixed : ByteArray := prog_1_method_27_code
def yX3_mixed : MethodName := ⟨RX3, "mixed", "(JI)J"⟩
abbrev cX3_mixedMembers : ByteArray := prog_1_method_28_code
def yX3_mixedMembers : MethodName := ⟨RX3, "mixedMembers", "(J)J"⟩
abbrev cX3_mixedGliders : ByteArray := prog_1_method_29_code
def yX3_mixedGliders : MethodName := ⟨RX3, "mixedGliders", "(J)J"⟩
abbrev cX3_mixedFlights : ByteArray := prog_1_method_30_code
def yX3_mixedFlights : MethodName := ⟨RX3, "mixedFlights", "(J)J"⟩
abbrev cX3_isWithin : ByteArray := prog_1_method_31_code
def yX3_isWithin : MethodName := ⟨RX3, "isWithin", "(III)Z"⟩
abbrev cX3_isHeight : ByteArray := prog_1_method_32_code
def yX3_isHeight : MethodName := ⟨RX3, "isHeight", "(I)Z"⟩
abbrev cX3_memberAt : ByteArray := prog_1_method_33_code
def yX3_memberAt : MethodName := ⟨RX3, "memberAt", "(I)LGliderDay$Member;"⟩
abbrev cX3_gliderAt : ByteArray := prog_1_method_34_code
def yX3_gliderAt : MethodName := ⟨RX3, "gliderAt", "(I)LGliderDay$Glider;"⟩
abbrev cX3_flightAt : ByteArray := prog_1_method_35_code
def yX3_flightAt : MethodName := ⟨RX3, "flightAt", "(I)LGliderDay$Flight;"⟩
abbrev cX3_listedFlightAt : ByteArray := prog_1_method_36_code
def yX3_listedFlightAt : MethodName := ⟨RX3, "listedFlightAt", "(I)LGliderDay$Flight;"⟩
abbrev cX3_placeOf : ByteArray := prog_1_method_37_code
def yX3_placeOf : MethodName := ⟨RX3, "placeOf", "(LGliderDay$Flight;)I"⟩
abbrev cX3_takeOffList : ByteArray := prog_1_method_38_code
def yX3_takeOffList : MethodName := ⟨RX3, "takeOffList", "(I)V"⟩
abbrev cX3_memberFact : ByteArray := prog_1_method_39_code
def yX3_memberFact : MethodName := ⟨RX3, "memberFact", "(LGliderDay$Member;I)I"⟩
abbrev cX3_gliderFact : ByteArray := prog_1_method_40_code
def yX3_gliderFact : MethodName := ⟨RX3, "gliderFact", "(LGliderDay$Glider;I)I"⟩
abbrev cX3_flightFact : ByteArray := prog_1_method_41_code
def yX3_flightFact : MethodName := ⟨RX3, "flightFact", "(LGliderDay$Flight;I)I"⟩
abbrev cX3_countOf : ByteArray := prog_1_method_42_code
def yX3_countOf : MethodName := ⟨RX3, "countOf", "(I)I"⟩
abbrev cX3_glidersInTheAir : ByteArray := prog_1_method_43_code
def yX3_glidersInTheAir : MethodName := ⟨RX3, "glidersInTheAir", "()I"⟩
abbrev cX3_tugsTaken : ByteArray := prog_1_method_44_code
def yX3_tugsTaken : MethodName := ⟨RX3, "tugsTaken", "()I"⟩
abbrev cX3_freeTugs : ByteArray := prog_1_method_45_code
def yX3_freeTugs : MethodName := ⟨RX3, "freeTugs", "()I"⟩
abbrev cX3_hasEarnedNextLevel : ByteArray := prog_1_method_46_code
def yX3_hasEarnedNextLevel : MethodName := ⟨RX3, "hasEarnedNextLevel", "(LGliderDay$Member;)Z"⟩
abbrev cX3_hasTeacher : ByteArray := prog_1_method_47_code
def yX3_hasTeacher : MethodName := ⟨RX3, "hasTeacher", "(LGliderDay$Flight;)Z"⟩
abbrev cX3_needsTeacher : ByteArray := prog_1_method_48_code
def yX3_needsTeacher : MethodName := ⟨RX3, "needsTeacher", "(LGliderDay$Member;)Z"⟩
abbrev cX3_windLimitOf : ByteArray := prog_1_method_49_code
def yX3_windLimitOf : MethodName := ⟨RX3, "windLimitOf", "(I)I"⟩
abbrev cX3_hasFlyingMember : ByteArray := prog_1_method_50_code
def yX3_hasFlyingMember : MethodName := ⟨RX3, "hasFlyingMember", "(LGliderDay$Flight;)Z"⟩
abbrev cX3_isTooWindyFor : ByteArray := prog_1_method_51_code
def yX3_isTooWindyFor : MethodName := ⟨RX3, "isTooWindyFor", "(LGliderDay$Flight;)Z"⟩
abbrev cX3_hasNothingToLaunch : ByteArray := prog_1_method_52_code
def yX3_hasNothingToLaunch : MethodName := ⟨RX3, "hasNothingToLaunch", "(LGliderDay$Flight;)Z"⟩
abbrev cX3_reasonAgainst : ByteArray := prog_1_method_53_code
def yX3_reasonAgainst : MethodName := ⟨RX3, "reasonAgainst", "(LGliderDay$Flight;)I"⟩
abbrev cX3_passMinute : ByteArray := prog_1_method_54_code
def yX3_passMinute : MethodName := ⟨RX3, "passMinute", "()Z"⟩
abbrev cX3_freeCables : ByteArray := prog_1_method_55_code
def yX3_freeCables : MethodName := ⟨RX3, "freeCables", "()V"⟩
abbrev cX3_freeDueTugs : ByteArray := prog_1_method_56_code
def yX3_freeDueTugs : MethodName := ⟨RX3, "freeDueTugs", "()V"⟩
abbrev cX3_beginToWait : ByteArray := prog_1_method_57_code
def yX3_beginToWait : MethodName := ⟨RX3, "beginToWait", "()V"⟩
abbrev cX3_mustLand : ByteArray := prog_1_method_58_code
def yX3_mustLand : MethodName := ⟨RX3, "mustLand", "(LGliderDay$Glider;)Z"⟩
abbrev cX3_landFirstWaiting : ByteArray := prog_1_method_59_code
def yX3_landFirstWaiting : MethodName := ⟨RX3, "landFirstWaiting", "()V"⟩
abbrev cX3_land : ByteArray := prog_1_method_60_code
def yX3_land : MethodName := ⟨RX3, "land", "(LGliderDay$Glider;LGliderDay$Flight;)V"⟩
abbrev cX3_launchPrice : ByteArray := prog_1_method_61_code
def yX3_launchPrice : MethodName := ⟨RX3, "launchPrice", "(I)I"⟩
abbrev cX3_writeDown : ByteArray := prog_1_method_62_code
def yX3_writeDown : MethodName := ⟨RX3, "writeDown", "(LGliderDay$Flight;I)V"⟩
abbrev cX3_bringDown : ByteArray := prog_1_method_63_code
def yX3_bringDown : MethodName := ⟨RX3, "bringDown", "(LGliderDay$Member;I)V"⟩
abbrev cX3_startFirstThatCan : ByteArray := prog_1_method_64_code
def yX3_startFirstThatCan : MethodName := ⟨RX3, "startFirstThatCan", "()Z"⟩
abbrev cX3_start : ByteArray := prog_1_method_65_code
def yX3_start : MethodName := ⟨RX3, "start", "(LGliderDay$Flight;)V"⟩
abbrev cX3_takeCable : ByteArray := prog_1_method_66_code
def yX3_takeCable : MethodName := ⟨RX3, "takeCable", "()V"⟩
abbrev cX3_takeTug : ByteArray := prog_1_method_67_code
def yX3_takeTug : MethodName := ⟨RX3, "takeTug", "(I)V"⟩
def RX4 : String := "GliderDayModel"
def TX4 : u_T := fun k => match k with
  | 0 => ("GliderDayModel", "thrown", "I", false)
  | 1 => ("GliderDayModel", "now", "I", false)
  | 2 => ("GliderDayModel", "wind", "I", false)
  | 3 => ("GliderDayModel", "sunset", "I", false)
  | 4 => ("GliderDayModel", "busyUntil", "I", false)
  | 5 => ("GliderDayModel", "cables", "I", false)
  | 6 => ("GliderDayModel", "cablesAt", "I", false)
  | 7 => ("GliderDayModel", "tugs", "I", false)
  | 8 => ("GliderDayModel", "tugUntil", "[I", true)
  | 9 => ("GliderDayModel", "members", "I", false)
  | 10 => ("GliderDayModel", "levels", "[I", true)
  | 11 => ("GliderDayModel", "paid", "[I", true)
  | 12 => ("GliderDayModel", "gliders", "I", false)
  | 13 => ("GliderDayModel", "seats", "[I", true)
  | 14 => ("GliderDayModel", "rates", "[I", true)
  | 15 => ("GliderDayModel", "limits", "[I", true)
  | 16 => ("GliderDayModel", "areBarred", "[Z", true)
  | 17 => ("GliderDayModel", "areCalled", "[Z", true)
  | 18 => ("GliderDayModel", "waits", "[I", true)
  | 19 => ("GliderDayModel", "lastWait", "I", false)
  | 20 => ("GliderDayModel", "flights", "I", false)
  | 21 => ("GliderDayModel", "flyers", "[I", true)
  | 22 => ("GliderDayModel", "seconds", "[I", true)
  | 23 => ("GliderDayModel", "ships", "[I", true)
  | 24 => ("GliderDayModel", "heights", "[I", true)
  | 25 => ("GliderDayModel", "lengths", "[I", true)
  | 26 => ("GliderDayModel", "asked", "[I", true)
  | 27 => ("GliderDayModel", "begins", "[I", true)
  | 28 => ("GliderDayModel", "landings", "[I", true)
  | _ => ("GliderDayModel", "states", "[I", true)
def tyX4 : Nat → FieldType := fun k => match k with
  | 0 => .int
  | 1 => .int
  | 2 => .int
  | 3 => .int
  | 4 => .int
  | 5 => .int
  | 6 => .int
  | 7 => .int
  | 8 => .array .int
  | 9 => .int
  | 10 => .array .int
  | 11 => .array .int
  | 12 => .int
  | 13 => .array .int
  | 14 => .array .int
  | 15 => .array .int
  | 16 => .array .boolean
  | 17 => .array .boolean
  | 18 => .array .int
  | 19 => .int
  | 20 => .int
  | 21 => .array .int
  | 22 => .array .int
  | 23 => .array .int
  | 24 => .array .int
  | 25 => .array .int
  | 26 => .array .int
  | 27 => .array .int
  | 28 => .array .int
  | _ => .array .int
abbrev wsX40 : List Cond := u_ws RX4 TX4 30
theorem nmX4 : ∀ a, a < 30 → ∀ b, b < 30 → a ≠ b → (TX4 a).2.1 ≠ (TX4 b).2.1 := by decide +kernel
theorem tyX4_ok : ∀ k, k < 30 → parseFieldDescriptor (TX4 k).2.2.1 = some (tyX4 k) := by decide +kernel
abbrev cX4_init : ByteArray := prog_6_method_1_code
def yX4_init : MethodName := ⟨RX4, "<init>", "()V"⟩
abbrev cX4_thrown : ByteArray := prog_6_method_2_code
def yX4_thrown : MethodName := ⟨RX4, "thrown", "()I"⟩
abbrev cX4_no : ByteArray := prog_6_method_3_code
def yX4_no : MethodName := ⟨RX4, "no", "(I)I"⟩
abbrev cX4_isIn : ByteArray := prog_6_method_4_code
def yX4_isIn : MethodName := ⟨RX4, "isIn", "(III)Z"⟩
abbrev cX4_isMember : ByteArray := prog_6_method_5_code
def yX4_isMember : MethodName := ⟨RX4, "isMember", "(I)Z"⟩
abbrev cX4_isGlider : ByteArray := prog_6_method_6_code
def yX4_isGlider : MethodName := ⟨RX4, "isGlider", "(I)Z"⟩
abbrev cX4_isFlight : ByteArray := prog_6_method_7_code
def yX4_isFlight : MethodName := ⟨RX4, "isFlight", "(I)Z"⟩
abbrev cX4_addMember : ByteArray := prog_6_method_8_code
def yX4_addMember : MethodName := ⟨RX4, "addMember", "(I)I"⟩
abbrev cX4_addGlider : ByteArray := prog_6_method_9_code
def yX4_addGlider : MethodName := ⟨RX4, "addGlider", "(III)I"⟩
abbrev cX4_setWind : ByteArray := prog_6_method_10_code
def yX4_setWind : MethodName := ⟨RX4, "setWind", "(I)I"⟩
abbrev cX4_setSunset : ByteArray := prog_6_method_11_code
def yX4_setSunset : MethodName := ⟨RX4, "setSunset", "(I)I"⟩
abbrev cX4_takenTugs : ByteArray := prog_6_method_12_code
def yX4_takenTugs : MethodName := ⟨RX4, "takenTugs", "()I"⟩
abbrev cX4_setTugs : ByteArray := prog_6_method_13_code
def yX4_setTugs : MethodName := ⟨RX4, "setTugs", "(I)I"⟩
abbrev cX4_flightOf : ByteArray := prog_6_method_14_code
def yX4_flightOf : MethodName := ⟨RX4, "flightOf", "(I)I"⟩
abbrev cX4_flies : ByteArray := prog_6_method_15_code
def yX4_flies : MethodName := ⟨RX4, "flies", "(I)Z"⟩
abbrev cX4_bar : ByteArray := prog_6_method_16_code
def yX4_bar : MethodName := ⟨RX4, "bar", "(IZ)Z"⟩
abbrev cX4_withTeacher : ByteArray := prog_6_method_17_code
def yX4_withTeacher : MethodName := ⟨RX4, "withTeacher", "(I)Z"⟩
abbrev cX4_landed : ByteArray := prog_6_method_18_code
def yX4_landed : MethodName := ⟨RX4, "landed", "(II)I"⟩
abbrev cX4_promote : ByteArray := prog_6_method_19_code
def yX4_promote : MethodName := ⟨RX4, "promote", "(I)I"⟩
abbrev cX4_toldOfMember : ByteArray := prog_6_method_20_code
def yX4_toldOfMember : MethodName := ⟨RX4, "toldOfMember", "(II)I"⟩
abbrev cX4_member : ByteArray := prog_6_method_21_code
def yX4_member : MethodName := ⟨RX4, "member", "(II)I"⟩
abbrev cX4_toldOfGlider : ByteArray := prog_6_method_22_code
def yX4_toldOfGlider : MethodName := ⟨RX4, "toldOfGlider", "(II)I"⟩
abbrev cX4_glider : ByteArray := prog_6_method_23_code
def yX4_glider : MethodName := ⟨RX4, "glider", "(II)I"⟩
abbrev cX4_with : ByteArray := prog_6_method_24_code
def yX4_with : MethodName := ⟨RX4, "with", "(I)I"⟩
abbrev cX4_ask : ByteArray := prog_6_method_25_code
def yX4_ask : MethodName := ⟨RX4, "ask", "(IIIII)I"⟩
abbrev cX4_place : ByteArray := prog_6_method_26_code
def yX4_place : MethodName := ⟨RX4, "place", "(I)I"⟩
abbrev cX4_drop : ByteArray := prog_6_method_27_code
def yX4_drop : MethodName := ⟨RX4, "drop", "(I)I"⟩
abbrev cX4_list : ByteArray := prog_6_method_28_code
def yX4_list : MethodName := ⟨RX4, "list", "(I)I"⟩
abbrev cX4_isBusyNow : ByteArray := prog_6_method_29_code
def yX4_isBusyNow : MethodName := ⟨RX4, "isBusyNow", "()Z"⟩
abbrev cX4_windOf : ByteArray := prog_6_method_30_code
def yX4_windOf : MethodName := ⟨RX4, "windOf", "(I)I"⟩
abbrev cX4_reasonOf : ByteArray := prog_6_method_31_code
def yX4_reasonOf : MethodName := ⟨RX4, "reasonOf", "(I)I"⟩
abbrev cX4_reason : ByteArray := prog_6_method_32_code
def yX4_reason : MethodName := ⟨RX4, "reason", "(I)I"⟩
abbrev cX4_call : ByteArray := prog_6_method_33_code
def yX4_call : MethodName := ⟨RX4, "call", "(I)I"⟩
abbrev cX4_begin : ByteArray := prog_6_method_34_code
def yX4_begin : MethodName := ⟨RX4, "begin", "(I)V"⟩
abbrev cX4_land : ByteArray := prog_6_method_35_code
def yX4_land : MethodName := ⟨RX4, "land", "(I)V"⟩
abbrev cX4_minute : ByteArray := prog_6_method_36_code
def yX4_minute : MethodName := ⟨RX4, "minute", "()Z"⟩
abbrev cX4_tick : ByteArray := prog_6_method_37_code
def yX4_tick : MethodName := ⟨RX4, "tick", "(I)I"⟩
abbrev cX4_now : ByteArray := prog_6_method_38_code
def yX4_now : MethodName := ⟨RX4, "now", "()I"⟩
abbrev cX4_costOf : ByteArray := prog_6_method_39_code
def yX4_costOf : MethodName := ⟨RX4, "costOf", "(I)I"⟩
abbrev cX4_toldOf : ByteArray := prog_6_method_40_code
def yX4_toldOf : MethodName := ⟨RX4, "toldOf", "(II)I"⟩
abbrev cX4_flight : ByteArray := prog_6_method_41_code
def yX4_flight : MethodName := ⟨RX4, "flight", "(II)I"⟩
abbrev cX4_counted : ByteArray := prog_6_method_42_code
def yX4_counted : MethodName := ⟨RX4, "counted", "(I)I"⟩
abbrev cX4_count : ByteArray := prog_6_method_43_code
def yX4_count : MethodName := ⟨RX4, "count", "(I)I"⟩
abbrev cX4_isBusy : ByteArray := prog_6_method_44_code
def yX4_isBusy : MethodName := ⟨RX4, "isBusy", "()Z"⟩
abbrev cX4_billOf : ByteArray := prog_6_method_45_code
def yX4_billOf : MethodName := ⟨RX4, "billOf", "(I)I"⟩
abbrev cX4_bill : ByteArray := prog_6_method_46_code
def yX4_bill : MethodName := ⟨RX4, "bill", "(I)I"⟩
abbrev cX4_pay : ByteArray := prog_6_method_47_code
def yX4_pay : MethodName := ⟨RX4, "pay", "(II)I"⟩
abbrev cX4_income : ByteArray := prog_6_method_48_code
def yX4_income : MethodName := ⟨RX4, "income", "()I"⟩
abbrev cX4_longest : ByteArray := prog_6_method_49_code
def yX4_longest : MethodName := ⟨RX4, "longest", "()I"⟩
abbrev cX4_waited : ByteArray := prog_6_method_50_code
def yX4_waited : MethodName := ⟨RX4, "waited", "()D"⟩
abbrev cX4_digest : ByteArray := prog_6_method_51_code
def yX4_digest : MethodName := ⟨RX4, "digest", "()J"⟩
def RJx145de : String := "java/io/Serializable"
def TJx145de : u_T := fun k => match k with
  | _ => ("", "", "", false)
def tyJx145de : Nat → FieldType := fun k => match k with
  | _ => .int
abbrev wsJx145de0 : List Cond := u_ws RJx145de TJx145de 0
theorem nmJx145de : ∀ a, a < 0 → ∀ b, b < 0 → a ≠ b → (TJx145de a).2.1 ≠ (TJx145de b).2.1 := by decide +kernel
theorem tyJx145de_ok : ∀ k, k < 0 → parseFieldDescriptor (TJx145de k).2.2.1 = some (tyJx145de k) := by decide +kernel
def RJx8e188 : String := "java/lang/Cloneable"
def TJx8e188 : u_T := fun k => match k with
  | _ => ("", "", "", false)
def tyJx8e188 : Nat → FieldType := fun k => match k with
  | _ => .int
abbrev wsJx8e1880 : List Cond := u_ws RJx8e188 TJx8e188 0
theorem nmJx8e188 : ∀ a, a < 0 → ∀ b, b < 0 → a ≠ b → (TJx8e188 a).2.1 ≠ (TJx8e188 b).2.1 := by decide +kernel
theorem tyJx8e188_ok : ∀ k, k < 0 → parseFieldDescriptor (TJx8e188 k).2.2.1 = some (tyJx8e188 k) := by decide +kernel
def RJxab1ab : String := "java/lang/Iterable"
def TJxab1ab : u_T := fun k => match k with
  | _ => ("", "", "", false)
def tyJxab1ab : Nat → FieldType := fun k => match k with
  | _ => .int
abbrev wsJxab1ab0 : List Cond := u_ws RJxab1ab TJxab1ab 0
theorem nmJxab1ab : ∀ a, a < 0 → ∀ b, b < 0 → a ≠ b → (TJxab1ab a).2.1 ≠ (TJxab1ab b).2.1 := by decide +kernel
theorem tyJxab1ab_ok : ∀ k, k < 0 → parseFieldDescriptor (TJxab1ab k).2.2.1 = some (tyJxab1ab k) := by decide +kernel
def RJ9 : String := "java/lang/Math"
def TJ9 : u_T := fun k => match k with
  | _ => ("", "", "", false)
def tyJ9 : Nat → FieldType := fun k => match k with
  | _ => .int
abbrev wsJ90 : List Cond := u_ws RJ9 TJ9 0
theorem nmJ9 : ∀ a, a < 0 → ∀ b, b < 0 → a ≠ b → (TJ9 a).2.1 ≠ (TJ9 b).2.1 := by decide +kernel
theorem tyJ9_ok : ∀ k, k < 0 → parseFieldDescriptor (TJ9 k).2.2.1 = some (tyJ9 k) := by decide +kernel
abbrev cJ9_max_7cf53 : ByteArray := prog_14_method_65_code
def yJ9_max_7cf53 : MethodName := ⟨RJ9, "max", "(II)I"⟩
abbrev cJ9_min_7cf53 : ByteArray := prog_14_method_69_code
def yJ9_min_7cf53 : MethodName := ⟨RJ9, "min", "(II)I"⟩
def RJ0 : String := "java/lang/String"
def TJ0 : u_T := fun k => match k with
  | _ => ("", "", "", false)
def tyJ0 : Nat → FieldType := fun k => match k with
  | _ => .int
abbrev wsJ00 : List Cond := u_ws RJ0 TJ0 0
theorem nmJ0 : ∀ a, a < 0 → ∀ b, b < 0 → a ≠ b → (TJ0 a).2.1 ≠ (TJ0 b).2.1 := by decide +kernel
theorem tyJ0_ok : ∀ k, k < 0 → parseFieldDescriptor (TJ0 k).2.2.1 = some (tyJ0 k) := by decide +kernel
def RJ10 : String := "java/lang/System"
def TJ10 : u_T := fun k => match k with
  | _ => ("", "", "", false)
def tyJ10 : Nat → FieldType := fun k => match k with
  | _ => .int
abbrev wsJ100 : List Cond := u_ws RJ10 TJ10 0
theorem nmJ10 : ∀ a, a < 0 → ∀ b, b < 0 → a ≠ b → (TJ10 a).2.1 ≠ (TJ10 b).2.1 := by decide +kernel
theorem tyJ10_ok : ∀ k, k < 0 → parseFieldDescriptor (TJ10 k).2.2.1 = some (tyJ10 k) := by decide +kernel
def RJxa1e45 : String := "java/util/AbstractCollection"
def TJxa1e45 : u_T := fun k => match k with
  | _ => ("", "", "", false)
def tyJxa1e45 : Nat → FieldType := fun k => match k with
  | _ => .int
abbrev wsJxa1e450 : List Cond := u_ws RJxa1e45 TJxa1e45 0
theorem nmJxa1e45 : ∀ a, a < 0 → ∀ b, b < 0 → a ≠ b → (TJxa1e45 a).2.1 ≠ (TJxa1e45 b).2.1 := by decide +kernel
theorem tyJxa1e45_ok : ∀ k, k < 0 → parseFieldDescriptor (TJxa1e45 k).2.2.1 = some (tyJxa1e45 k) := by decide +kernel
abbrev cJxa1e45_init_da8c8 : ByteArray := prog_19_method_1_code
def yJxa1e45_init_da8c8 : MethodName := ⟨RJxa1e45, "<init>", "()V"⟩
def RJxc12de : String := "java/util/AbstractList"
def TJxc12de : u_T := fun k => match k with
  | _ => ("", "", "", false)
def tyJxc12de : Nat → FieldType := fun k => match k with
  | _ => .int
abbrev wsJxc12de0 : List Cond := u_ws RJxc12de TJxc12de 0
theorem nmJxc12de : ∀ a, a < 0 → ∀ b, b < 0 → a ≠ b → (TJxc12de a).2.1 ≠ (TJxc12de b).2.1 := by decide +kernel
theorem tyJxc12de_ok : ∀ k, k < 0 → parseFieldDescriptor (TJxc12de k).2.2.1 = some (tyJxc12de k) := by decide +kernel
abbrev cJxc12de_init_da8c8 : ByteArray := prog_20_method_1_code
def yJxc12de_init_da8c8 : MethodName := ⟨RJxc12de, "<init>", "()V"⟩
def RJx4a65c : String := "java/util/ArrayList"
def TJx4a65c : u_T := fun k => match k with
  | 0 => ("java/util/AbstractList", "modCount", "I", false)
  | 1 => ("java/util/ArrayList", "elementData", "[Ljava/lang/Object;", false)
  | _ => ("java/util/ArrayList", "size", "I", false)
def tyJx4a65c : Nat → FieldType := fun k => match k with
  | 0 => .int
  | 1 => .array (.object "java/lang/Object")
  | _ => .int
abbrev wsJx4a65c0 : List Cond := u_ws RJx4a65c TJx4a65c 3
theorem nmJx4a65c : ∀ a, a < 3 → ∀ b, b < 3 → a ≠ b → (TJx4a65c a).2.1 ≠ (TJx4a65c b).2.1 := by decide +kernel
theorem tyJx4a65c_ok : ∀ k, k < 3 → parseFieldDescriptor (TJx4a65c k).2.2.1 = some (tyJx4a65c k) := by decide +kernel
abbrev cJx4a65c_init_da8c8 : ByteArray := prog_21_method_2_code
def yJx4a65c_init_da8c8 : MethodName := ⟨RJx4a65c, "<init>", "()V"⟩
abbrev cJx4a65c_grow_92f84 : ByteArray := prog_21_method_6_code
def yJx4a65c_grow_92f84 : MethodName := ⟨RJx4a65c, "grow", "(I)[Ljava/lang/Object;"⟩
abbrev cJx4a65c_grow_d5877 : ByteArray := prog_21_method_7_code
def yJx4a65c_grow_d5877 : MethodName := ⟨RJx4a65c, "grow", "()[Ljava/lang/Object;"⟩
abbrev cJx4a65c_size_8abf5 : ByteArray := prog_21_method_8_code
def yJx4a65c_size_8abf5 : MethodName := ⟨RJx4a65c, "size", "()I"⟩
abbrev cJx4a65c_isEmpty_aae02 : ByteArray := prog_21_method_9_code
def yJx4a65c_isEmpty_aae02 : MethodName := ⟨RJx4a65c, "isEmpty", "()Z"⟩
abbrev cJx4a65c_elementData_915e3 : ByteArray := prog_21_method_18_code
def yJx4a65c_elementData_915e3 : MethodName := ⟨RJx4a65c, "elementData", "(I)Ljava/lang/Object;"⟩
abbrev cJx4a65c_get_915e3 : ByteArray := prog_21_method_20_code
def yJx4a65c_get_915e3 : MethodName := ⟨RJx4a65c, "get", "(I)Ljava/lang/Object;"⟩
abbrev cJx4a65c_add_72be8 : ByteArray := prog_21_method_24_code
def yJx4a65c_add_72be8 : MethodName := ⟨RJx4a65c, "add", "(Ljava/lang/Object;[Ljava/lang/Object;I)V"⟩
abbrev cJx4a65c_add_9ea2d : ByteArray := prog_21_method_25_code
def yJx4a65c_add_9ea2d : MethodName := ⟨RJx4a65c, "add", "(Ljava/lang/Object;)Z"⟩
abbrev cJx4a65c_remove_915e3 : ByteArray := prog_21_method_29_code
def yJx4a65c_remove_915e3 : MethodName := ⟨RJx4a65c, "remove", "(I)Ljava/lang/Object;"⟩
abbrev cJx4a65c_fastRemove_b59b0 : ByteArray := prog_21_method_39_code
def yJx4a65c_fastRemove_b59b0 : MethodName := ⟨RJx4a65c, "fastRemove", "([Ljava/lang/Object;I)V"⟩
def RJ7 : String := "java/util/Arrays"
def TJ7 : u_T := fun k => match k with
  | _ => ("", "", "", false)
def tyJ7 : Nat → FieldType := fun k => match k with
  | _ => .int
abbrev wsJ70 : List Cond := u_ws RJ7 TJ7 0
theorem nmJ7 : ∀ a, a < 0 → ∀ b, b < 0 → a ≠ b → (TJ7 a).2.1 ≠ (TJ7 b).2.1 := by decide +kernel
theorem tyJ7_ok : ∀ k, k < 0 → parseFieldDescriptor (TJ7 k).2.2.1 = some (tyJ7 k) := by decide +kernel
abbrev cJ7_copyOf_1904c : ByteArray := prog_22_method_119_code
def yJ7_copyOf_1904c : MethodName := ⟨RJ7, "copyOf", "([Ljava/lang/Object;I)[Ljava/lang/Object;"⟩
abbrev cJ7_copyOf_6403c : ByteArray := prog_22_method_120_code
def yJ7_copyOf_6403c : MethodName := ⟨RJ7, "copyOf", "([Ljava/lang/Object;ILjava/lang/Class;)[Ljava/lang/Object;"⟩
def RJx5ef63 : String := "java/util/Collection"
def TJx5ef63 : u_T := fun k => match k with
  | _ => ("", "", "", false)
def tyJx5ef63 : Nat → FieldType := fun k => match k with
  | _ => .int
abbrev wsJx5ef630 : List Cond := u_ws RJx5ef63 TJx5ef63 0
theorem nmJx5ef63 : ∀ a, a < 0 → ∀ b, b < 0 → a ≠ b → (TJx5ef63 a).2.1 ≠ (TJx5ef63 b).2.1 := by decide +kernel
theorem tyJx5ef63_ok : ∀ k, k < 0 → parseFieldDescriptor (TJx5ef63 k).2.2.1 = some (tyJx5ef63 k) := by decide +kernel
def RJxbd725 : String := "java/util/List"
def TJxbd725 : u_T := fun k => match k with
  | _ => ("", "", "", false)
def tyJxbd725 : Nat → FieldType := fun k => match k with
  | _ => .int
abbrev wsJxbd7250 : List Cond := u_ws RJxbd725 TJxbd725 0
theorem nmJxbd725 : ∀ a, a < 0 → ∀ b, b < 0 → a ≠ b → (TJxbd725 a).2.1 ≠ (TJxbd725 b).2.1 := by decide +kernel
theorem tyJxbd725_ok : ∀ k, k < 0 → parseFieldDescriptor (TJxbd725 k).2.2.1 = some (tyJxbd725 k) := by decide +kernel
def RJ15 : String := "java/util/Objects"
def TJ15 : u_T := fun k => match k with
  | _ => ("", "", "", false)
def tyJ15 : Nat → FieldType := fun k => match k with
  | _ => .int
abbrev wsJ150 : List Cond := u_ws RJ15 TJ15 0
theorem nmJ15 : ∀ a, a < 0 → ∀ b, b < 0 → a ≠ b → (TJ15 a).2.1 ≠ (TJ15 b).2.1 := by decide +kernel
theorem tyJ15_ok : ∀ k, k < 0 → parseFieldDescriptor (TJ15 k).2.2.1 = some (tyJ15 k) := by decide +kernel
abbrev cJ15_checkIndex_7cf53 : ByteArray := prog_25_method_17_code
def yJ15_checkIndex_7cf53 : MethodName := ⟨RJ15, "checkIndex", "(II)I"⟩
def RJxf0a74 : String := "java/util/RandomAccess"
def TJxf0a74 : u_T := fun k => match k with
  | _ => ("", "", "", false)
def tyJxf0a74 : Nat → FieldType := fun k => match k with
  | _ => .int
abbrev wsJxf0a740 : List Cond := u_ws RJxf0a74 TJxf0a74 0
theorem nmJxf0a74 : ∀ a, a < 0 → ∀ b, b < 0 → a ≠ b → (TJxf0a74 a).2.1 ≠ (TJxf0a74 b).2.1 := by decide +kernel
theorem tyJxf0a74_ok : ∀ k, k < 0 → parseFieldDescriptor (TJxf0a74 k).2.2.1 = some (tyJxf0a74 k) := by decide +kernel
def RJxa66e6 : String := "java/util/SequencedCollection"
def TJxa66e6 : u_T := fun k => match k with
  | _ => ("", "", "", false)
def tyJxa66e6 : Nat → FieldType := fun k => match k with
  | _ => .int
abbrev wsJxa66e60 : List Cond := u_ws RJxa66e6 TJxa66e6 0
theorem nmJxa66e6 : ∀ a, a < 0 → ∀ b, b < 0 → a ≠ b → (TJxa66e6 a).2.1 ≠ (TJxa66e6 b).2.1 := by decide +kernel
theorem tyJxa66e6_ok : ∀ k, k < 0 → parseFieldDescriptor (TJxa66e6 k).2.2.1 = some (tyJxa66e6 k) := by decide +kernel
def RJ8 : String := "jdk/internal/util/ArraysSupport"
def TJ8 : u_T := fun k => match k with
  | _ => ("", "", "", false)
def tyJ8 : Nat → FieldType := fun k => match k with
  | _ => .int
abbrev wsJ80 : List Cond := u_ws RJ8 TJ8 0
theorem nmJ8 : ∀ a, a < 0 → ∀ b, b < 0 → a ≠ b → (TJ8 a).2.1 ≠ (TJ8 b).2.1 := by decide +kernel
theorem tyJ8_ok : ∀ k, k < 0 → parseFieldDescriptor (TJ8 k).2.2.1 = some (tyJ8 k) := by decide +kernel
abbrev cJ8_newLength_cabcc : ByteArray := prog_28_method_27_code
def yJ8_newLength_cabcc : MethodName := ⟨RJ8, "newLength", "(III)I"⟩
abbrev cJ8_hugeLength_7cf53 : ByteArray := prog_28_method_28_code
def yJ8_hugeLength_7cf53 : MethodName := ⟨RJ8, "hugeLength", "(II)I"⟩
def RJ3 : String := "jdk/internal/util/Preconditions"
def TJ3 : u_T := fun k => match k with
  | _ => ("", "", "", false)
def tyJ3 : Nat → FieldType := fun k => match k with
  | _ => .int
abbrev wsJ30 : List Cond := u_ws RJ3 TJ3 0
theorem nmJ3 : ∀ a, a < 0 → ∀ b, b < 0 → a ≠ b → (TJ3 a).2.1 ≠ (TJ3 b).2.1 := by decide +kernel
theorem tyJ3_ok : ∀ k, k < 0 → parseFieldDescriptor (TJ3 k).2.2.1 = some (tyJ3 k) := by decide +kernel
abbrev cJ3_checkIndex_8e157 : ByteArray := prog_29_method_11_code
def yJ3_checkIndex_8e157 : MethodName := ⟨RJ3, "checkIndex", "(IILjava/util/function/BiFunction;)I"⟩
def RL : String := "GliderDayLaw"
abbrev cL_addMember : ByteArray := method_3_code
def yL_addMember : MethodName := ⟨RL, "addMember", "(LGliderDay;I[J)I"⟩
abbrev cL_addGlider : ByteArray := method_4_code
def yL_addGlider : MethodName := ⟨RL, "addGlider", "(LGliderDay;III[J)I"⟩
abbrev cL_setWind : ByteArray := method_5_code
def yL_setWind : MethodName := ⟨RL, "setWind", "(LGliderDay;I[J)I"⟩
abbrev cL_setSunset : ByteArray := method_6_code
def yL_setSunset : MethodName := ⟨RL, "setSunset", "(LGliderDay;I[J)I"⟩
abbrev cL_setTugs : ByteArray := method_7_code
def yL_setTugs : MethodName := ⟨RL, "setTugs", "(LGliderDay;I[J)I"⟩
abbrev cL_bar : ByteArray := method_8_code
def yL_bar : MethodName := ⟨RL, "bar", "(LGliderDay;IZ[J)I"⟩
abbrev cL_promote : ByteArray := method_9_code
def yL_promote : MethodName := ⟨RL, "promote", "(LGliderDay;I[J)I"⟩
abbrev cL_member : ByteArray := method_10_code
def yL_member : MethodName := ⟨RL, "member", "(LGliderDay;II[J)I"⟩
abbrev cL_glider : ByteArray := method_11_code
def yL_glider : MethodName := ⟨RL, "glider", "(LGliderDay;II[J)I"⟩
abbrev cL_ask : ByteArray := method_12_code
def yL_ask : MethodName := ⟨RL, "ask", "(LGliderDay;IIIII[J)I"⟩
abbrev cL_drop : ByteArray := method_13_code
def yL_drop : MethodName := ⟨RL, "drop", "(LGliderDay;I[J)I"⟩
abbrev cL_list : ByteArray := method_14_code
def yL_list : MethodName := ⟨RL, "list", "(LGliderDay;I[J)I"⟩
abbrev cL_reason : ByteArray := method_15_code
def yL_reason : MethodName := ⟨RL, "reason", "(LGliderDay;I[J)I"⟩
abbrev cL_call : ByteArray := method_16_code
def yL_call : MethodName := ⟨RL, "call", "(LGliderDay;I[J)I"⟩
abbrev cL_tick : ByteArray := method_17_code
def yL_tick : MethodName := ⟨RL, "tick", "(LGliderDay;I[J)I"⟩
abbrev cL_flight : ByteArray := method_18_code
def yL_flight : MethodName := ⟨RL, "flight", "(LGliderDay;II[J)I"⟩
abbrev cL_count : ByteArray := method_19_code
def yL_count : MethodName := ⟨RL, "count", "(LGliderDay;I[J)I"⟩
abbrev cL_bill : ByteArray := method_20_code
def yL_bill : MethodName := ⟨RL, "bill", "(LGliderDay;I[J)I"⟩
abbrev cL_pay : ByteArray := method_21_code
def yL_pay : MethodName := ⟨RL, "pay", "(LGliderDay;II[J)I"⟩
abbrev cL_law : ByteArray := code
def yL_law : MethodName := ⟨RL, "law", "([I)Z"⟩
abbrev vwCl : List vw_C := [(RJx4a65c, TJx4a65c, 3), (RX0, TX0, 11), (RX1, TX1, 10), (RX2, TX2, 8), (RX3, TX3, 13), (RX4, TX4, 30)]
/-- the good words of the tables: every method here has them all -/
def WALL : List Cond := lw_tbl.filter goodWord
theorem mW {w : Cond} (i : Nat) (h : lw_tbl[i]? = some w) (g : goodWord w = true) : w ∈ WALL := List.mem_filter.mpr ⟨List.mem_of_getElem? h, g⟩
theorem WALL_tbl : ∀ w ∈ WALL, w ∈ lw_tbl := fun _ h => (List.mem_filter.mp h).1
theorem WALL_good : ∀ w ∈ WALL, goodWord w = true := fun _ h => (List.mem_filter.mp h).2
end
section
theorem mw_0 : Cond.selects "GliderDay" yX3_countOf yX3_countOf ∈ WALL := mW 0 (by decide +kernel) rfl
theorem mw_1 : Cond.selects "GliderDay" yX3_glidersInTheAir yX3_glidersInTheAir ∈ WALL := mW 1 (by decide +kernel) rfl
theorem mw_2 : Cond.selects "GliderDay" yX3_freeTugs yX3_freeTugs ∈ WALL := mW 2 (by decide +kernel) rfl
theorem mw_3 : Cond.selects "GliderDay" yX3_tugsTaken yX3_tugsTaken ∈ WALL := mW 3 (by decide +kernel) rfl
theorem mw_4 : Cond.selects "GliderDay" yX3_mixedMembers yX3_mixedMembers ∈ WALL := mW 4 (by decide +kernel) rfl
theorem mw_5 : Cond.selects "GliderDay" yX3_mixedGliders yX3_mixedGliders ∈ WALL := mW 5 (by decide +kernel) rfl
theorem mw_6 : Cond.selects "GliderDay" yX3_mixedFlights yX3_mixedFlights ∈ WALL := mW 6 (by decide +kernel) rfl
theorem mw_7 : Cond.selects "java/lang/Throwable" (⟨"java/lang/Throwable", "fillInStackTrace", "(I)Ljava/lang/Throwable;"⟩ : MethodName) (⟨"java/lang/Throwable", "fillInStackTrace", "(I)Ljava/lang/Throwable;"⟩ : MethodName) ∈ WALL := mW 7 (by decide +kernel) rfl
theorem mw_8 : Cond.selects "java/util/ArrayList" yJx4a65c_add_72be8 yJx4a65c_add_72be8 ∈ WALL := mW 8 (by decide +kernel) rfl
theorem mw_9 : Cond.selects "java/util/ArrayList" yJx4a65c_grow_d5877 yJx4a65c_grow_d5877 ∈ WALL := mW 9 (by decide +kernel) rfl
theorem mw_10 : Cond.selects "java/util/ArrayList" yJx4a65c_grow_92f84 yJx4a65c_grow_92f84 ∈ WALL := mW 10 (by decide +kernel) rfl
theorem mw_11 : Cond.selects "GliderDay" yX3_gliderAt yX3_gliderAt ∈ WALL := mW 11 (by decide +kernel) rfl
theorem mw_12 : Cond.selects "GliderDay" yX3_memberAt yX3_memberAt ∈ WALL := mW 12 (by decide +kernel) rfl
theorem mw_13 : Cond.selects "GliderDay" yX3_listedFlightAt yX3_listedFlightAt ∈ WALL := mW 13 (by decide +kernel) rfl
theorem mw_14 : Cond.selects "GliderDay" yX3_flightAt yX3_flightAt ∈ WALL := mW 14 (by decide +kernel) rfl
theorem mw_15 : Cond.selects "GliderDay" yX3_placeOf yX3_placeOf ∈ WALL := mW 15 (by decide +kernel) rfl
theorem mw_16 : Cond.selects "GliderDay" yX3_takeOffList yX3_takeOffList ∈ WALL := mW 16 (by decide +kernel) rfl
theorem mw_17 : Cond.selects "java/util/ArrayList" yJx4a65c_fastRemove_b59b0 yJx4a65c_fastRemove_b59b0 ∈ WALL := mW 17 (by decide +kernel) rfl
theorem mw_18 : Cond.selects "GliderDay" yX3_reasonAgainst yX3_reasonAgainst ∈ WALL := mW 18 (by decide +kernel) rfl
theorem mw_19 : Cond.selects "GliderDay" yX3_isTooWindyFor yX3_isTooWindyFor ∈ WALL := mW 19 (by decide +kernel) rfl
theorem mw_20 : Cond.selects "GliderDay" yX3_hasNothingToLaunch yX3_hasNothingToLaunch ∈ WALL := mW 20 (by decide +kernel) rfl
theorem mw_21 : Cond.selects "GliderDay" yX3_passMinute yX3_passMinute ∈ WALL := mW 21 (by decide +kernel) rfl
theorem mw_22 : Cond.selects "GliderDay" yX3_freeCables yX3_freeCables ∈ WALL := mW 22 (by decide +kernel) rfl
theorem mw_23 : Cond.selects "GliderDay" yX3_freeDueTugs yX3_freeDueTugs ∈ WALL := mW 23 (by decide +kernel) rfl
theorem mw_24 : Cond.selects "GliderDay" yX3_beginToWait yX3_beginToWait ∈ WALL := mW 24 (by decide +kernel) rfl
theorem mw_25 : Cond.selects "GliderDay" yX3_mustLand yX3_mustLand ∈ WALL := mW 25 (by decide +kernel) rfl
theorem mw_26 : Cond.selects "GliderDay" yX3_landFirstWaiting yX3_landFirstWaiting ∈ WALL := mW 26 (by decide +kernel) rfl
theorem mw_27 : Cond.selects "GliderDay" yX3_land yX3_land ∈ WALL := mW 27 (by decide +kernel) rfl
theorem mw_28 : Cond.selects "GliderDay" yX3_startFirstThatCan yX3_startFirstThatCan ∈ WALL := mW 28 (by decide +kernel) rfl
theorem mw_29 : Cond.selects "GliderDay" yX3_start yX3_start ∈ WALL := mW 29 (by decide +kernel) rfl
theorem mw_30 : Cond.selects "GliderDay" yX3_takeCable yX3_takeCable ∈ WALL := mW 30 (by decide +kernel) rfl
theorem mw_31 : Cond.selects "GliderDay" yX3_takeTug yX3_takeTug ∈ WALL := mW 31 (by decide +kernel) rfl
theorem mw_32 : Cond.selects "GliderDayModel" yX4_no yX4_no ∈ WALL := mW 32 (by decide +kernel) rfl
theorem mw_33 : Cond.selects "GliderDayModel" yX4_takenTugs yX4_takenTugs ∈ WALL := mW 33 (by decide +kernel) rfl
theorem mw_34 : Cond.selects "GliderDayModel" yX4_isGlider yX4_isGlider ∈ WALL := mW 34 (by decide +kernel) rfl
theorem mw_35 : Cond.selects "GliderDayModel" yX4_flightOf yX4_flightOf ∈ WALL := mW 35 (by decide +kernel) rfl
theorem mw_36 : Cond.selects "GliderDayModel" yX4_isMember yX4_isMember ∈ WALL := mW 36 (by decide +kernel) rfl
theorem mw_37 : Cond.selects "GliderDayModel" yX4_landed yX4_landed ∈ WALL := mW 37 (by decide +kernel) rfl
theorem mw_38 : Cond.selects "GliderDayModel" yX4_withTeacher yX4_withTeacher ∈ WALL := mW 38 (by decide +kernel) rfl
theorem mw_39 : Cond.selects "GliderDayModel" yX4_flies yX4_flies ∈ WALL := mW 39 (by decide +kernel) rfl
theorem mw_40 : Cond.selects "GliderDayModel" yX4_toldOfMember yX4_toldOfMember ∈ WALL := mW 40 (by decide +kernel) rfl
theorem mw_41 : Cond.selects "GliderDayModel" yX4_toldOfGlider yX4_toldOfGlider ∈ WALL := mW 41 (by decide +kernel) rfl
theorem mw_42 : Cond.selects "GliderDayModel" yX4_with yX4_with ∈ WALL := mW 42 (by decide +kernel) rfl
theorem mw_43 : Cond.selects "GliderDayModel" yX4_isFlight yX4_isFlight ∈ WALL := mW 43 (by decide +kernel) rfl
theorem mw_44 : Cond.selects "GliderDayModel" yX4_place yX4_place ∈ WALL := mW 44 (by decide +kernel) rfl
theorem mw_45 : Cond.selects "GliderDayModel" yX4_reasonOf yX4_reasonOf ∈ WALL := mW 45 (by decide +kernel) rfl
theorem mw_46 : Cond.selects "GliderDayModel" yX4_isBusyNow yX4_isBusyNow ∈ WALL := mW 46 (by decide +kernel) rfl
theorem mw_47 : Cond.selects "GliderDayModel" yX4_minute yX4_minute ∈ WALL := mW 47 (by decide +kernel) rfl
theorem mw_48 : Cond.selects "GliderDayModel" yX4_land yX4_land ∈ WALL := mW 48 (by decide +kernel) rfl
theorem mw_49 : Cond.selects "GliderDayModel" yX4_begin yX4_begin ∈ WALL := mW 49 (by decide +kernel) rfl
theorem mw_50 : Cond.selects "GliderDayModel" yX4_toldOf yX4_toldOf ∈ WALL := mW 50 (by decide +kernel) rfl
theorem mw_51 : Cond.selects "GliderDayModel" yX4_costOf yX4_costOf ∈ WALL := mW 51 (by decide +kernel) rfl
theorem mw_52 : Cond.selects "GliderDayModel" yX4_counted yX4_counted ∈ WALL := mW 52 (by decide +kernel) rfl
theorem mw_53 : Cond.selects "GliderDayModel" yX4_billOf yX4_billOf ∈ WALL := mW 53 (by decide +kernel) rfl
theorem mw_54 : Cond.initialized "GliderDayLaw" ∈ WALL := mW 54 (by decide +kernel) rfl
theorem mw_55 : Cond.initialized "GliderDay" ∈ WALL := mW 55 (by decide +kernel) rfl
theorem mw_56 : Cond.initialized "java/util/AbstractCollection" ∈ WALL := mW 56 (by decide +kernel) rfl
theorem mw_57 : Cond.initialized "java/util/AbstractList" ∈ WALL := mW 57 (by decide +kernel) rfl
theorem mw_58 : Cond.initialized "java/util/ArrayList" ∈ WALL := mW 58 (by decide +kernel) rfl
theorem mw_59 : Cond.initialized "GliderDayModel" ∈ WALL := mW 59 (by decide +kernel) rfl
theorem mw_60 : Cond.initialized "java/lang/Throwable" ∈ WALL := mW 60 (by decide +kernel) rfl
theorem mw_61 : Cond.initialized "java/lang/Exception" ∈ WALL := mW 61 (by decide +kernel) rfl
theorem mw_62 : Cond.initialized "java/lang/RuntimeException" ∈ WALL := mW 62 (by decide +kernel) rfl
theorem mw_63 : Cond.initialized "java/lang/IllegalArgumentException" ∈ WALL := mW 63 (by decide +kernel) rfl
theorem mw_64 : Cond.initialized "java/lang/IllegalStateException" ∈ WALL := mW 64 (by decide +kernel) rfl
theorem mw_65 : Cond.initialized "GliderDay$Member" ∈ WALL := mW 65 (by decide +kernel) rfl
theorem mw_66 : Cond.initialized "jdk/internal/util/ArraysSupport" ∈ WALL := mW 66 (by decide +kernel) rfl
theorem mw_67 : Cond.initialized "java/lang/Math" ∈ WALL := mW 67 (by decide +kernel) rfl
theorem mw_68 : Cond.initialized "java/util/Arrays" ∈ WALL := mW 68 (by decide +kernel) rfl
theorem mw_69 : Cond.initialized "java/lang/System" ∈ WALL := mW 69 (by decide +kernel) rfl
theorem mw_70 : Cond.initialized "GliderDay$Glider" ∈ WALL := mW 70 (by decide +kernel) rfl
theorem mw_71 : Cond.initialized "java/lang/IndexOutOfBoundsException" ∈ WALL := mW 71 (by decide +kernel) rfl
theorem mw_72 : Cond.initialized "java/util/Objects" ∈ WALL := mW 72 (by decide +kernel) rfl
theorem mw_73 : Cond.initialized "jdk/internal/util/Preconditions" ∈ WALL := mW 73 (by decide +kernel) rfl
theorem mw_74 : Cond.initialized "GliderDay$Flight" ∈ WALL := mW 74 (by decide +kernel) rfl
theorem mw_75 : Cond.classLink "GliderDayLaw" 8 "GliderDay" ∈ WALL := mW 75 (by decide +kernel) rfl
theorem mw_76 : Cond.instantiable "GliderDay" 13 ∈ WALL := mW 76 (by decide +kernel) rfl
theorem mw_77 : Cond.methodLink "GliderDayLaw" 77 yX3_init ∈ WALL := mW 77 (by decide +kernel) rfl
theorem mw_78 : Cond.instanceMethod yX3_init ∈ WALL := mW 78 (by decide +kernel) rfl
theorem mw_79 : Cond.code yX3_init prog_1_method_1_code 1 Option.none ∈ WALL := mW 79 (by decide +kernel) rfl
theorem mw_80 : Cond.methodLink "GliderDay" 1 (⟨"java/lang/Object", "<init>", "()V"⟩ : MethodName) ∈ WALL := mW 80 (by decide +kernel) rfl
theorem mw_81 : Cond.instanceMethod (⟨"java/lang/Object", "<init>", "()V"⟩ : MethodName) ∈ WALL := mW 81 (by decide +kernel) rfl
theorem mw_82 : Cond.code (⟨"java/lang/Object", "<init>", "()V"⟩ : MethodName) object_method_1_code 1 Option.none ∈ WALL := mW 82 (by decide +kernel) rfl
theorem mw_83 : Cond.classLink "GliderDay" 7 "java/util/ArrayList" ∈ WALL := mW 83 (by decide +kernel) rfl
theorem mw_84 : Cond.instantiable "java/util/ArrayList" 3 ∈ WALL := mW 84 (by decide +kernel) rfl
theorem mw_85 : Cond.methodLink "GliderDay" 9 yJx4a65c_init_da8c8 ∈ WALL := mW 85 (by decide +kernel) rfl
theorem mw_86 : Cond.instanceMethod yJx4a65c_init_da8c8 ∈ WALL := mW 86 (by decide +kernel) rfl
theorem mw_87 : Cond.code yJx4a65c_init_da8c8 prog_21_method_2_code 1 Option.none ∈ WALL := mW 87 (by decide +kernel) rfl
theorem mw_88 : Cond.methodLink "java/util/ArrayList" 1 yJxc12de_init_da8c8 ∈ WALL := mW 88 (by decide +kernel) rfl
theorem mw_89 : Cond.instanceMethod yJxc12de_init_da8c8 ∈ WALL := mW 89 (by decide +kernel) rfl
theorem mw_90 : Cond.code yJxc12de_init_da8c8 prog_20_method_1_code 1 Option.none ∈ WALL := mW 90 (by decide +kernel) rfl
theorem mw_91 : Cond.methodLink "java/util/AbstractList" 1 yJxa1e45_init_da8c8 ∈ WALL := mW 91 (by decide +kernel) rfl
theorem mw_92 : Cond.instanceMethod yJxa1e45_init_da8c8 ∈ WALL := mW 92 (by decide +kernel) rfl
theorem mw_93 : Cond.code yJxa1e45_init_da8c8 prog_19_method_1_code 1 Option.none ∈ WALL := mW 93 (by decide +kernel) rfl
theorem mw_94 : Cond.methodLink "java/util/AbstractCollection" 1 (⟨"java/lang/Object", "<init>", "()V"⟩ : MethodName) ∈ WALL := mW 94 (by decide +kernel) rfl
theorem mw_95 : Cond.fieldLink "java/util/ArrayList" 39 "java/util/ArrayList" "DEFAULTCAPACITY_EMPTY_ELEMENTDATA" "[Ljava/lang/Object;" ∈ WALL := mW 95 (by decide +kernel) rfl
theorem mw_97 : Cond.fieldLink "java/util/ArrayList" 9 "java/util/ArrayList" "elementData" "[Ljava/lang/Object;" ∈ WALL := mW 97 (by decide +kernel) rfl
theorem mw_98 : Cond.fieldLink "java/util/ArrayList" 48 "java/util/ArrayList" "size" "I" ∈ WALL := mW 98 (by decide +kernel) rfl
theorem mw_99 : Cond.fieldLink "java/util/AbstractList" 7 "java/util/AbstractList" "modCount" "I" ∈ WALL := mW 99 (by decide +kernel) rfl
theorem mw_100 : Cond.fieldLink "java/util/ArrayList" 63 "java/util/ArrayList" "modCount" "I" ∈ WALL := mW 100 (by decide +kernel) rfl
theorem mw_101 : Cond.sameField "java/util/ArrayList" "java/util/AbstractList" "modCount" "I" ∈ WALL := mW 101 (by decide +kernel) rfl
theorem mw_102 : Cond.lays "java/util/ArrayList" "java/util/ArrayList" "elementData" "[Ljava/lang/Object;" ∈ WALL := mW 102 (by decide +kernel) rfl
theorem mw_104 : Cond.lays "java/util/ArrayList" "java/util/ArrayList" "size" "I" ∈ WALL := mW 104 (by decide +kernel) rfl
theorem mw_106 : Cond.lays "java/util/ArrayList" "java/util/AbstractList" "modCount" "I" ∈ WALL := mW 106 (by decide +kernel) rfl
theorem mw_108 : Cond.superclass "java/util/ArrayList" "java/util/AbstractList" ∈ WALL := mW 108 (by decide +kernel) rfl
theorem mw_109 : Cond.fieldLink "GliderDay" 10 "GliderDay" "members" "Ljava/util/ArrayList;" ∈ WALL := mW 109 (by decide +kernel) rfl
theorem mw_110 : Cond.fieldLink "GliderDay" 16 "GliderDay" "gliders" "Ljava/util/ArrayList;" ∈ WALL := mW 110 (by decide +kernel) rfl
theorem mw_111 : Cond.fieldLink "GliderDay" 19 "GliderDay" "flights" "Ljava/util/ArrayList;" ∈ WALL := mW 111 (by decide +kernel) rfl
theorem mw_112 : Cond.fieldLink "GliderDay" 22 "GliderDay" "listed" "Ljava/util/ArrayList;" ∈ WALL := mW 112 (by decide +kernel) rfl
theorem mw_113 : Cond.fieldLink "GliderDay" 25 "GliderDay" "waiting" "Ljava/util/ArrayList;" ∈ WALL := mW 113 (by decide +kernel) rfl
theorem mw_114 : Cond.fieldLink "GliderDay" 28 "GliderDay" "tugsDue" "[I" ∈ WALL := mW 114 (by decide +kernel) rfl
theorem mw_115 : Cond.fieldLink "GliderDay" 32 "GliderDay" "tugs" "I" ∈ WALL := mW 115 (by decide +kernel) rfl
theorem mw_116 : Cond.fieldLink "GliderDay" 36 "GliderDay" "cablesTaken" "I" ∈ WALL := mW 116 (by decide +kernel) rfl
theorem mw_117 : Cond.fieldLink "GliderDay" 39 "GliderDay" "cablesDue" "I" ∈ WALL := mW 117 (by decide +kernel) rfl
theorem mw_118 : Cond.fieldLink "GliderDay" 42 "GliderDay" "time" "I" ∈ WALL := mW 118 (by decide +kernel) rfl
theorem mw_119 : Cond.fieldLink "GliderDay" 45 "GliderDay" "wind" "I" ∈ WALL := mW 119 (by decide +kernel) rfl
theorem mw_120 : Cond.fieldLink "GliderDay" 48 "GliderDay" "sunset" "I" ∈ WALL := mW 120 (by decide +kernel) rfl
theorem mw_121 : Cond.fieldLink "GliderDay" 51 "GliderDay" "busyUntil" "I" ∈ WALL := mW 121 (by decide +kernel) rfl
theorem mw_122 : Cond.laysFinal "GliderDay" "GliderDay" "members" "Ljava/util/ArrayList;" ∈ WALL := mW 122 (by decide +kernel) rfl
theorem mw_124 : Cond.laysFinal "GliderDay" "GliderDay" "gliders" "Ljava/util/ArrayList;" ∈ WALL := mW 124 (by decide +kernel) rfl
theorem mw_126 : Cond.laysFinal "GliderDay" "GliderDay" "flights" "Ljava/util/ArrayList;" ∈ WALL := mW 126 (by decide +kernel) rfl
theorem mw_128 : Cond.laysFinal "GliderDay" "GliderDay" "listed" "Ljava/util/ArrayList;" ∈ WALL := mW 128 (by decide +kernel) rfl
theorem mw_130 : Cond.laysFinal "GliderDay" "GliderDay" "waiting" "Ljava/util/ArrayList;" ∈ WALL := mW 130 (by decide +kernel) rfl
theorem mw_132 : Cond.laysFinal "GliderDay" "GliderDay" "tugsDue" "[I" ∈ WALL := mW 132 (by decide +kernel) rfl
theorem mw_134 : Cond.lays "GliderDay" "GliderDay" "tugs" "I" ∈ WALL := mW 134 (by decide +kernel) rfl
theorem mw_136 : Cond.lays "GliderDay" "GliderDay" "cablesTaken" "I" ∈ WALL := mW 136 (by decide +kernel) rfl
theorem mw_138 : Cond.lays "GliderDay" "GliderDay" "cablesDue" "I" ∈ WALL := mW 138 (by decide +kernel) rfl
theorem mw_140 : Cond.lays "GliderDay" "GliderDay" "time" "I" ∈ WALL := mW 140 (by decide +kernel) rfl
theorem mw_142 : Cond.lays "GliderDay" "GliderDay" "wind" "I" ∈ WALL := mW 142 (by decide +kernel) rfl
theorem mw_144 : Cond.lays "GliderDay" "GliderDay" "sunset" "I" ∈ WALL := mW 144 (by decide +kernel) rfl
theorem mw_146 : Cond.lays "GliderDay" "GliderDay" "busyUntil" "I" ∈ WALL := mW 146 (by decide +kernel) rfl
theorem mw_148 : Cond.superclass "GliderDay" "java/lang/Object" ∈ WALL := mW 148 (by decide +kernel) rfl
theorem mw_149 : Cond.arrayClass ClassFile.FieldType.int ∈ WALL := mW 149 (by decide +kernel) rfl
theorem mw_150 : Cond.methodLink "GliderDayLaw" 137 yX3_now ∈ WALL := mW 150 (by decide +kernel) rfl
theorem mw_151 : Cond.instanceMethod yX3_now ∈ WALL := mW 151 (by decide +kernel) rfl
theorem mw_152 : Cond.selects "GliderDay" yX3_now yX3_now ∈ WALL := mW 152 (by decide +kernel) rfl
theorem mw_153 : Cond.code yX3_now prog_1_method_17_code 1 (Option.some ClassFile.FieldType.int) ∈ WALL := mW 153 (by decide +kernel) rfl
theorem mw_154 : Cond.methodLink "GliderDayLaw" 147 yX3_isBusy ∈ WALL := mW 154 (by decide +kernel) rfl
theorem mw_155 : Cond.instanceMethod yX3_isBusy ∈ WALL := mW 155 (by decide +kernel) rfl
theorem mw_156 : Cond.selects "GliderDay" yX3_isBusy yX3_isBusy ∈ WALL := mW 156 (by decide +kernel) rfl
theorem mw_157 : Cond.code yX3_isBusy prog_1_method_20_code 1 (Option.some ClassFile.FieldType.boolean) ∈ WALL := mW 157 (by decide +kernel) rfl
theorem mw_158 : Cond.methodLink "GliderDayLaw" 158 yX3_income ∈ WALL := mW 158 (by decide +kernel) rfl
theorem mw_159 : Cond.instanceMethod yX3_income ∈ WALL := mW 159 (by decide +kernel) rfl
theorem mw_160 : Cond.selects "GliderDay" yX3_income yX3_income ∈ WALL := mW 160 (by decide +kernel) rfl
theorem mw_161 : Cond.code yX3_income prog_1_method_23_code 3 (Option.some ClassFile.FieldType.int) ∈ WALL := mW 161 (by decide +kernel) rfl
theorem mw_162 : Cond.methodLink "GliderDay" 65 yJx4a65c_size_8abf5 ∈ WALL := mW 162 (by decide +kernel) rfl
theorem mw_163 : Cond.instanceMethod yJx4a65c_size_8abf5 ∈ WALL := mW 163 (by decide +kernel) rfl
theorem mw_164 : Cond.selects "java/util/ArrayList" yJx4a65c_size_8abf5 yJx4a65c_size_8abf5 ∈ WALL := mW 164 (by decide +kernel) rfl
theorem mw_165 : Cond.code yJx4a65c_size_8abf5 prog_21_method_8_code 1 (Option.some ClassFile.FieldType.int) ∈ WALL := mW 165 (by decide +kernel) rfl
theorem mw_166 : Cond.methodLink "GliderDay" 188 yJx4a65c_get_915e3 ∈ WALL := mW 166 (by decide +kernel) rfl
theorem mw_167 : Cond.instanceMethod yJx4a65c_get_915e3 ∈ WALL := mW 167 (by decide +kernel) rfl
theorem mw_168 : Cond.selects "java/util/ArrayList" yJx4a65c_get_915e3 yJx4a65c_get_915e3 ∈ WALL := mW 168 (by decide +kernel) rfl
theorem mw_169 : Cond.code yJx4a65c_get_915e3 prog_21_method_20_code 2 (Option.some (ClassFile.FieldType.object "java/lang/Object")) ∈ WALL := mW 169 (by decide +kernel) rfl
theorem mw_170 : Cond.methodLink "java/util/ArrayList" 118 yJ15_checkIndex_7cf53 ∈ WALL := mW 170 (by decide +kernel) rfl
theorem mw_171 : Cond.static yJ15_checkIndex_7cf53 ∈ WALL := mW 171 (by decide +kernel) rfl
theorem mw_172 : Cond.code yJ15_checkIndex_7cf53 prog_25_method_17_code 2 (Option.some ClassFile.FieldType.int) ∈ WALL := mW 172 (by decide +kernel) rfl
theorem mw_173 : Cond.methodLink "java/util/Objects" 105 yJ3_checkIndex_8e157 ∈ WALL := mW 173 (by decide +kernel) rfl
theorem mw_174 : Cond.static yJ3_checkIndex_8e157 ∈ WALL := mW 174 (by decide +kernel) rfl
theorem mw_175 : Cond.code yJ3_checkIndex_8e157 prog_29_method_11_code 3 (Option.some ClassFile.FieldType.int) ∈ WALL := mW 175 (by decide +kernel) rfl
theorem mw_176 : Cond.methodLink "java/util/ArrayList" 123 yJx4a65c_elementData_915e3 ∈ WALL := mW 176 (by decide +kernel) rfl
theorem mw_177 : Cond.instanceMethod yJx4a65c_elementData_915e3 ∈ WALL := mW 177 (by decide +kernel) rfl
theorem mw_178 : Cond.selects "java/util/ArrayList" yJx4a65c_elementData_915e3 yJx4a65c_elementData_915e3 ∈ WALL := mW 178 (by decide +kernel) rfl
theorem mw_179 : Cond.code yJx4a65c_elementData_915e3 prog_21_method_18_code 2 (Option.some (ClassFile.FieldType.object "java/lang/Object")) ∈ WALL := mW 179 (by decide +kernel) rfl
theorem mw_180 : Cond.classLink "GliderDay" 156 "GliderDay$Flight" ∈ WALL := mW 180 (by decide +kernel) rfl
theorem mw_181 : Cond.methodLink "GliderDayLaw" 162 yX3_longest ∈ WALL := mW 181 (by decide +kernel) rfl
theorem mw_182 : Cond.instanceMethod yX3_longest ∈ WALL := mW 182 (by decide +kernel) rfl
theorem mw_183 : Cond.selects "GliderDay" yX3_longest yX3_longest ∈ WALL := mW 183 (by decide +kernel) rfl
theorem mw_184 : Cond.code yX3_longest prog_1_method_24_code 5 (Option.some ClassFile.FieldType.int) ∈ WALL := mW 184 (by decide +kernel) rfl
theorem mw_185 : Cond.methodLink "GliderDayLaw" 166 yX3_waited ∈ WALL := mW 185 (by decide +kernel) rfl
theorem mw_186 : Cond.instanceMethod yX3_waited ∈ WALL := mW 186 (by decide +kernel) rfl
theorem mw_187 : Cond.selects "GliderDay" yX3_waited yX3_waited ∈ WALL := mW 187 (by decide +kernel) rfl
theorem mw_188 : Cond.code yX3_waited prog_1_method_25_code 5 (Option.some ClassFile.FieldType.double) ∈ WALL := mW 188 (by decide +kernel) rfl
theorem mw_189 : Cond.methodLink "GliderDayLaw" 171 yX3_digest ∈ WALL := mW 189 (by decide +kernel) rfl
theorem mw_190 : Cond.instanceMethod yX3_digest ∈ WALL := mW 190 (by decide +kernel) rfl
theorem mw_191 : Cond.selects "GliderDay" yX3_digest yX3_digest ∈ WALL := mW 191 (by decide +kernel) rfl
theorem mw_192 : Cond.code yX3_digest prog_1_method_26_code 4 (Option.some ClassFile.FieldType.long) ∈ WALL := mW 192 (by decide +kernel) rfl
theorem mw_193 : Cond.constantLong "GliderDay" 238 317 ∈ WALL := mW 193 (by decide +kernel) rfl
theorem mw_194 : Cond.methodLink "GliderDay" 240 yX3_mixed ∈ WALL := mW 194 (by decide +kernel) rfl
theorem mw_195 : Cond.static yX3_mixed ∈ WALL := mW 195 (by decide +kernel) rfl
theorem mw_196 : Cond.code yX3_mixed prog_1_method_27_code 3 (Option.some ClassFile.FieldType.long) ∈ WALL := mW 196 (by decide +kernel) rfl
theorem mw_197 : Cond.constantLong "GliderDay" 254 31 ∈ WALL := mW 197 (by decide +kernel) rfl
theorem mw_198 : Cond.methodLink "GliderDay" 222 yX3_countOf ∈ WALL := mW 198 (by decide +kernel) rfl
theorem mw_200 : Cond.instanceMethod yX3_countOf ∈ WALL := mW 200 (by decide +kernel) rfl
theorem mw_201 : Cond.code yX3_countOf prog_1_method_42_code 2 (Option.some ClassFile.FieldType.int) ∈ WALL := mW 201 (by decide +kernel) rfl
theorem mw_202 : Cond.methodLink "GliderDay" 292 yX3_glidersInTheAir ∈ WALL := mW 202 (by decide +kernel) rfl
theorem mw_204 : Cond.instanceMethod yX3_glidersInTheAir ∈ WALL := mW 204 (by decide +kernel) rfl
theorem mw_205 : Cond.code yX3_glidersInTheAir prog_1_method_43_code 3 (Option.some ClassFile.FieldType.int) ∈ WALL := mW 205 (by decide +kernel) rfl
theorem mw_206 : Cond.classLink "GliderDay" 87 "GliderDay$Glider" ∈ WALL := mW 206 (by decide +kernel) rfl
theorem mw_207 : Cond.methodLink "GliderDay" 103 yX3_freeTugs ∈ WALL := mW 207 (by decide +kernel) rfl
theorem mw_209 : Cond.instanceMethod yX3_freeTugs ∈ WALL := mW 209 (by decide +kernel) rfl
theorem mw_210 : Cond.code yX3_freeTugs prog_1_method_45_code 1 (Option.some ClassFile.FieldType.int) ∈ WALL := mW 210 (by decide +kernel) rfl
theorem mw_211 : Cond.methodLink "GliderDay" 98 yX3_tugsTaken ∈ WALL := mW 211 (by decide +kernel) rfl
theorem mw_213 : Cond.instanceMethod yX3_tugsTaken ∈ WALL := mW 213 (by decide +kernel) rfl
theorem mw_214 : Cond.code yX3_tugsTaken prog_1_method_44_code 3 (Option.some ClassFile.FieldType.int) ∈ WALL := mW 214 (by decide +kernel) rfl
theorem mw_215 : Cond.methodLink "GliderDay" 244 yX3_mixedMembers ∈ WALL := mW 215 (by decide +kernel) rfl
theorem mw_217 : Cond.instanceMethod yX3_mixedMembers ∈ WALL := mW 217 (by decide +kernel) rfl
theorem mw_218 : Cond.code yX3_mixedMembers prog_1_method_28_code 8 (Option.some ClassFile.FieldType.long) ∈ WALL := mW 218 (by decide +kernel) rfl
theorem mw_219 : Cond.classLink "GliderDay" 74 "GliderDay$Member" ∈ WALL := mW 219 (by decide +kernel) rfl
theorem mw_220 : Cond.methodLink "GliderDay" 140 yX3_memberFact ∈ WALL := mW 220 (by decide +kernel) rfl
theorem mw_221 : Cond.static yX3_memberFact ∈ WALL := mW 221 (by decide +kernel) rfl
theorem mw_222 : Cond.code yX3_memberFact prog_1_method_39_code 2 (Option.some ClassFile.FieldType.int) ∈ WALL := mW 222 (by decide +kernel) rfl
theorem mw_223 : Cond.methodLink "GliderDay" 248 yX3_mixedGliders ∈ WALL := mW 223 (by decide +kernel) rfl
theorem mw_225 : Cond.instanceMethod yX3_mixedGliders ∈ WALL := mW 225 (by decide +kernel) rfl
theorem mw_226 : Cond.code yX3_mixedGliders prog_1_method_29_code 7 (Option.some ClassFile.FieldType.long) ∈ WALL := mW 226 (by decide +kernel) rfl
theorem mw_227 : Cond.methodLink "GliderDay" 144 yX3_gliderFact ∈ WALL := mW 227 (by decide +kernel) rfl
theorem mw_228 : Cond.static yX3_gliderFact ∈ WALL := mW 228 (by decide +kernel) rfl
theorem mw_229 : Cond.code yX3_gliderFact prog_1_method_40_code 2 (Option.some ClassFile.FieldType.int) ∈ WALL := mW 229 (by decide +kernel) rfl
theorem mw_230 : Cond.methodLink "GliderDay" 251 yX3_mixedFlights ∈ WALL := mW 230 (by decide +kernel) rfl
theorem mw_232 : Cond.instanceMethod yX3_mixedFlights ∈ WALL := mW 232 (by decide +kernel) rfl
theorem mw_233 : Cond.code yX3_mixedFlights prog_1_method_30_code 7 (Option.some ClassFile.FieldType.long) ∈ WALL := mW 233 (by decide +kernel) rfl
theorem mw_234 : Cond.methodLink "GliderDay" 216 yX3_flightFact ∈ WALL := mW 234 (by decide +kernel) rfl
theorem mw_235 : Cond.static yX3_flightFact ∈ WALL := mW 235 (by decide +kernel) rfl
theorem mw_236 : Cond.code yX3_flightFact prog_1_method_41_code 2 (Option.some ClassFile.FieldType.int) ∈ WALL := mW 236 (by decide +kernel) rfl
theorem mw_237 : Cond.methodLink "GliderDayLaw" 81 yL_addMember ∈ WALL := mW 237 (by decide +kernel) rfl
theorem mw_238 : Cond.static yL_addMember ∈ WALL := mW 238 (by decide +kernel) rfl
theorem mw_239 : Cond.codeWith yL_addMember method_3_code 4 (Option.some ClassFile.FieldType.int) [(0, 9, 12, 13), (0, 9, 15, 15)] ∈ WALL := mW 239 (by decide +kernel) rfl
theorem mw_240 : Cond.classLink "GliderDayLaw" 13 "java/lang/IllegalArgumentException" ∈ WALL := mW 240 (by decide +kernel) rfl
theorem mw_241 : Cond.classLink "GliderDayLaw" 15 "java/lang/IllegalStateException" ∈ WALL := mW 241 (by decide +kernel) rfl
theorem mw_242 : Cond.methodLink "GliderDayLaw" 7 yX3_addMember ∈ WALL := mW 242 (by decide +kernel) rfl
theorem mw_243 : Cond.instanceMethod yX3_addMember ∈ WALL := mW 243 (by decide +kernel) rfl
theorem mw_244 : Cond.selects "GliderDay" yX3_addMember yX3_addMember ∈ WALL := mW 244 (by decide +kernel) rfl
theorem mw_245 : Cond.code yX3_addMember prog_1_method_2_code 3 (Option.some ClassFile.FieldType.int) ∈ WALL := mW 245 (by decide +kernel) rfl
theorem mw_246 : Cond.methodLink "GliderDay" 54 yX3_isWithin ∈ WALL := mW 246 (by decide +kernel) rfl
theorem mw_247 : Cond.static yX3_isWithin ∈ WALL := mW 247 (by decide +kernel) rfl
theorem mw_248 : Cond.code yX3_isWithin prog_1_method_31_code 3 (Option.some ClassFile.FieldType.boolean) ∈ WALL := mW 248 (by decide +kernel) rfl
theorem mw_249 : Cond.classLink "GliderDay" 58 "java/lang/IllegalArgumentException" ∈ WALL := mW 249 (by decide +kernel) rfl
theorem mw_250 : Cond.instantiable "java/lang/IllegalArgumentException" 6 ∈ WALL := mW 250 (by decide +kernel) rfl
theorem mw_258 : Cond.selects "java/lang/IllegalArgumentException" (⟨"java/lang/Throwable", "fillInStackTrace", "(I)Ljava/lang/Throwable;"⟩ : MethodName) (⟨"java/lang/Throwable", "fillInStackTrace", "(I)Ljava/lang/Throwable;"⟩ : MethodName) ∈ WALL := mW 258 (by decide +kernel) rfl
theorem mw_259 : Cond.selects "java/lang/IllegalArgumentException" (⟨"java/lang/Throwable", "fillInStackTrace", "()Ljava/lang/Throwable;"⟩ : MethodName) (⟨"java/lang/Throwable", "fillInStackTrace", "()Ljava/lang/Throwable;"⟩ : MethodName) ∈ WALL := mW 259 (by decide +kernel) rfl
theorem mw_260 : Cond.lays "java/lang/IllegalArgumentException" "java/lang/Throwable" "cause" "Ljava/lang/Throwable;" ∈ WALL := mW 260 (by decide +kernel) rfl
theorem mw_261 : Cond.lays "java/lang/Throwable" "java/lang/Throwable" "cause" "Ljava/lang/Throwable;" ∈ WALL := mW 261 (by decide +kernel) rfl
theorem mw_262 : Cond.lays "java/lang/IllegalArgumentException" "java/lang/Throwable" "stackTrace" "[Ljava/lang/StackTraceElement;" ∈ WALL := mW 262 (by decide +kernel) rfl
theorem mw_263 : Cond.lays "java/lang/Throwable" "java/lang/Throwable" "stackTrace" "[Ljava/lang/StackTraceElement;" ∈ WALL := mW 263 (by decide +kernel) rfl
theorem mw_264 : Cond.lays "java/lang/IllegalArgumentException" "java/lang/Throwable" "suppressedExceptions" "Ljava/util/List;" ∈ WALL := mW 264 (by decide +kernel) rfl
theorem mw_265 : Cond.lays "java/lang/Throwable" "java/lang/Throwable" "suppressedExceptions" "Ljava/util/List;" ∈ WALL := mW 265 (by decide +kernel) rfl
theorem mw_266 : Cond.lays "java/lang/IllegalArgumentException" "java/lang/Throwable" "detailMessage" "Ljava/lang/String;" ∈ WALL := mW 266 (by decide +kernel) rfl
theorem mw_267 : Cond.lays "java/lang/Throwable" "java/lang/Throwable" "detailMessage" "Ljava/lang/String;" ∈ WALL := mW 267 (by decide +kernel) rfl
theorem mw_268 : Cond.lays "java/lang/IllegalArgumentException" "java/lang/Throwable" "backtrace" "Ljava/lang/Object;" ∈ WALL := mW 268 (by decide +kernel) rfl
theorem mw_269 : Cond.lays "java/lang/Throwable" "java/lang/Throwable" "backtrace" "Ljava/lang/Object;" ∈ WALL := mW 269 (by decide +kernel) rfl
theorem mw_270 : Cond.fieldLink "java/lang/Throwable" 198 "java/lang/Throwable" "backtrace" "Ljava/lang/Object;" ∈ WALL := mW 270 (by decide +kernel) rfl
theorem mw_271 : Cond.superclass "java/lang/Throwable" "java/lang/Object" ∈ WALL := mW 271 (by decide +kernel) rfl
theorem mw_272 : Cond.instanceMethod (⟨"java/lang/Throwable", "<init>", "()V"⟩ : MethodName) ∈ WALL := mW 272 (by decide +kernel) rfl
theorem mw_273 : Cond.code (⟨"java/lang/Throwable", "<init>", "()V"⟩ : MethodName) prog_18_method_1_code 1 Option.none ∈ WALL := mW 273 (by decide +kernel) rfl
theorem mw_274 : Cond.methodLink "java/lang/Throwable" 1 (⟨"java/lang/Object", "<init>", "()V"⟩ : MethodName) ∈ WALL := mW 274 (by decide +kernel) rfl
theorem mw_275 : Cond.fieldLink "java/lang/Throwable" 13 "java/lang/Throwable" "UNASSIGNED_STACK" "[Ljava/lang/StackTraceElement;" ∈ WALL := mW 275 (by decide +kernel) rfl
theorem mw_277 : Cond.fieldLink "java/lang/Throwable" 20 "java/lang/Throwable" "SUPPRESSED_SENTINEL" "Ljava/util/List;" ∈ WALL := mW 277 (by decide +kernel) rfl
theorem mw_279 : Cond.methodLink "java/lang/Throwable" 27 (⟨"java/lang/Throwable", "fillInStackTrace", "()Ljava/lang/Throwable;"⟩ : MethodName) ∈ WALL := mW 279 (by decide +kernel) rfl
theorem mw_280 : Cond.instanceMethod (⟨"java/lang/Throwable", "fillInStackTrace", "()Ljava/lang/Throwable;"⟩ : MethodName) ∈ WALL := mW 280 (by decide +kernel) rfl
theorem mw_281 : Cond.sameMethod "java/lang/Throwable" "java/lang/Throwable" "fillInStackTrace" "()Ljava/lang/Throwable;" ∈ WALL := mW 281 (by decide +kernel) rfl
theorem mw_282 : Cond.selects "java/lang/IllegalStateException" (⟨"java/lang/Throwable", "fillInStackTrace", "()Ljava/lang/Throwable;"⟩ : MethodName) (⟨"java/lang/Throwable", "fillInStackTrace", "()Ljava/lang/Throwable;"⟩ : MethodName) ∈ WALL := mW 282 (by decide +kernel) rfl
theorem mw_283 : Cond.selects "java/lang/IndexOutOfBoundsException" (⟨"java/lang/Throwable", "fillInStackTrace", "()Ljava/lang/Throwable;"⟩ : MethodName) (⟨"java/lang/Throwable", "fillInStackTrace", "()Ljava/lang/Throwable;"⟩ : MethodName) ∈ WALL := mW 283 (by decide +kernel) rfl
theorem mw_285 : Cond.methodLink "java/lang/Throwable" 202 (⟨"java/lang/Throwable", "fillInStackTrace", "(I)Ljava/lang/Throwable;"⟩ : MethodName) ∈ WALL := mW 285 (by decide +kernel) rfl
theorem mw_287 : Cond.instanceMethod (⟨"java/lang/Throwable", "fillInStackTrace", "(I)Ljava/lang/Throwable;"⟩ : MethodName) ∈ WALL := mW 287 (by decide +kernel) rfl
theorem mw_288 : Cond.instantiable "java/lang/Throwable" 6 ∈ WALL := mW 288 (by decide +kernel) rfl
theorem mw_289 : Cond.native (⟨"java/lang/Throwable", "fillInStackTrace", "(I)Ljava/lang/Throwable;"⟩ : MethodName) ∈ WALL := mW 289 (by decide +kernel) rfl
theorem mw_291 : Cond.methodLink "GliderDay" 62 (⟨"java/lang/IllegalArgumentException", "<init>", "(Ljava/lang/String;)V"⟩ : MethodName) ∈ WALL := mW 291 (by decide +kernel) rfl
theorem mw_292 : Cond.instanceMethod (⟨"java/lang/IllegalArgumentException", "<init>", "(Ljava/lang/String;)V"⟩ : MethodName) ∈ WALL := mW 292 (by decide +kernel) rfl
theorem mw_293 : Cond.code (⟨"java/lang/IllegalArgumentException", "<init>", "(Ljava/lang/String;)V"⟩ : MethodName) prog_10_method_2_code 2 Option.none ∈ WALL := mW 293 (by decide +kernel) rfl
theorem mw_294 : Cond.methodLink "java/lang/IllegalArgumentException" 7 (⟨"java/lang/RuntimeException", "<init>", "(Ljava/lang/String;)V"⟩ : MethodName) ∈ WALL := mW 294 (by decide +kernel) rfl
theorem mw_295 : Cond.instanceMethod (⟨"java/lang/RuntimeException", "<init>", "(Ljava/lang/String;)V"⟩ : MethodName) ∈ WALL := mW 295 (by decide +kernel) rfl
theorem mw_296 : Cond.code (⟨"java/lang/RuntimeException", "<init>", "(Ljava/lang/String;)V"⟩ : MethodName) prog_15_method_2_code 2 Option.none ∈ WALL := mW 296 (by decide +kernel) rfl
theorem mw_297 : Cond.methodLink "java/lang/RuntimeException" 7 (⟨"java/lang/Exception", "<init>", "(Ljava/lang/String;)V"⟩ : MethodName) ∈ WALL := mW 297 (by decide +kernel) rfl
theorem mw_298 : Cond.instanceMethod (⟨"java/lang/Exception", "<init>", "(Ljava/lang/String;)V"⟩ : MethodName) ∈ WALL := mW 298 (by decide +kernel) rfl
theorem mw_299 : Cond.code (⟨"java/lang/Exception", "<init>", "(Ljava/lang/String;)V"⟩ : MethodName) prog_9_method_2_code 2 Option.none ∈ WALL := mW 299 (by decide +kernel) rfl
theorem mw_300 : Cond.methodLink "java/lang/Exception" 7 (⟨"java/lang/Throwable", "<init>", "(Ljava/lang/String;)V"⟩ : MethodName) ∈ WALL := mW 300 (by decide +kernel) rfl
theorem mw_301 : Cond.instanceMethod (⟨"java/lang/Throwable", "<init>", "(Ljava/lang/String;)V"⟩ : MethodName) ∈ WALL := mW 301 (by decide +kernel) rfl
theorem mw_302 : Cond.code (⟨"java/lang/Throwable", "<init>", "(Ljava/lang/String;)V"⟩ : MethodName) prog_18_method_2_code 2 Option.none ∈ WALL := mW 302 (by decide +kernel) rfl
theorem mw_304 : Cond.fieldLink "java/lang/Throwable" 31 "java/lang/Throwable" "detailMessage" "Ljava/lang/String;" ∈ WALL := mW 304 (by decide +kernel) rfl
theorem mw_305 : Cond.fieldLink "java/lang/Throwable" 7 "java/lang/Throwable" "cause" "Ljava/lang/Throwable;" ∈ WALL := mW 305 (by decide +kernel) rfl
theorem mw_306 : Cond.fieldLink "java/lang/Throwable" 17 "java/lang/Throwable" "stackTrace" "[Ljava/lang/StackTraceElement;" ∈ WALL := mW 306 (by decide +kernel) rfl
theorem mw_307 : Cond.fieldLink "java/lang/Throwable" 24 "java/lang/Throwable" "suppressedExceptions" "Ljava/util/List;" ∈ WALL := mW 307 (by decide +kernel) rfl
theorem mw_312 : Cond.lays "java/lang/IllegalArgumentException" "java/lang/Throwable" "depth" "I" ∈ WALL := mW 312 (by decide +kernel) rfl
theorem mw_315 : Cond.superclass "java/lang/IllegalArgumentException" "java/lang/RuntimeException" ∈ WALL := mW 315 (by decide +kernel) rfl
theorem mw_316 : Cond.arrayClass ClassFile.FieldType.byte ∈ WALL := mW 316 (by decide +kernel) rfl
theorem mw_317 : Cond.classLink "GliderDay" 69 "java/lang/IllegalStateException" ∈ WALL := mW 317 (by decide +kernel) rfl
theorem mw_318 : Cond.instantiable "java/lang/IllegalStateException" 6 ∈ WALL := mW 318 (by decide +kernel) rfl
theorem mw_320 : Cond.selects "java/lang/IllegalStateException" (⟨"java/lang/Throwable", "fillInStackTrace", "(I)Ljava/lang/Throwable;"⟩ : MethodName) (⟨"java/lang/Throwable", "fillInStackTrace", "(I)Ljava/lang/Throwable;"⟩ : MethodName) ∈ WALL := mW 320 (by decide +kernel) rfl
theorem mw_321 : Cond.lays "java/lang/IllegalStateException" "java/lang/Throwable" "cause" "Ljava/lang/Throwable;" ∈ WALL := mW 321 (by decide +kernel) rfl
theorem mw_322 : Cond.lays "java/lang/IllegalStateException" "java/lang/Throwable" "stackTrace" "[Ljava/lang/StackTraceElement;" ∈ WALL := mW 322 (by decide +kernel) rfl
theorem mw_323 : Cond.lays "java/lang/IllegalStateException" "java/lang/Throwable" "suppressedExceptions" "Ljava/util/List;" ∈ WALL := mW 323 (by decide +kernel) rfl
theorem mw_324 : Cond.lays "java/lang/IllegalStateException" "java/lang/Throwable" "detailMessage" "Ljava/lang/String;" ∈ WALL := mW 324 (by decide +kernel) rfl
theorem mw_325 : Cond.lays "java/lang/IllegalStateException" "java/lang/Throwable" "backtrace" "Ljava/lang/Object;" ∈ WALL := mW 325 (by decide +kernel) rfl
theorem mw_327 : Cond.methodLink "GliderDay" 73 (⟨"java/lang/IllegalStateException", "<init>", "(Ljava/lang/String;)V"⟩ : MethodName) ∈ WALL := mW 327 (by decide +kernel) rfl
theorem mw_328 : Cond.instanceMethod (⟨"java/lang/IllegalStateException", "<init>", "(Ljava/lang/String;)V"⟩ : MethodName) ∈ WALL := mW 328 (by decide +kernel) rfl
theorem mw_329 : Cond.code (⟨"java/lang/IllegalStateException", "<init>", "(Ljava/lang/String;)V"⟩ : MethodName) prog_11_method_2_code 2 Option.none ∈ WALL := mW 329 (by decide +kernel) rfl
theorem mw_330 : Cond.methodLink "java/lang/IllegalStateException" 7 (⟨"java/lang/RuntimeException", "<init>", "(Ljava/lang/String;)V"⟩ : MethodName) ∈ WALL := mW 330 (by decide +kernel) rfl
theorem mw_331 : Cond.lays "java/lang/IllegalStateException" "java/lang/Throwable" "depth" "I" ∈ WALL := mW 331 (by decide +kernel) rfl
theorem mw_332 : Cond.superclass "java/lang/IllegalStateException" "java/lang/RuntimeException" ∈ WALL := mW 332 (by decide +kernel) rfl
theorem mw_333 : Cond.instantiable "GliderDay$Member" 8 ∈ WALL := mW 333 (by decide +kernel) rfl
theorem mw_335 : Cond.instanceMethod yX2_init ∈ WALL := mW 335 (by decide +kernel) rfl
theorem mw_336 : Cond.code yX2_init prog_4_method_1_code 3 Option.none ∈ WALL := mW 336 (by decide +kernel) rfl
theorem mw_337 : Cond.methodLink "GliderDay$Member" 1 (⟨"java/lang/Object", "<init>", "()V"⟩ : MethodName) ∈ WALL := mW 337 (by decide +kernel) rfl
theorem mw_338 : Cond.fieldLink "GliderDay$Member" 7 "GliderDay$Member" "number" "I" ∈ WALL := mW 338 (by decide +kernel) rfl
theorem mw_340 : Cond.fieldLink "GliderDay$Member" 13 "GliderDay$Member" "level" "I" ∈ WALL := mW 340 (by decide +kernel) rfl
theorem mw_348 : Cond.laysFinal "GliderDay$Member" "GliderDay$Member" "number" "I" ∈ WALL := mW 348 (by decide +kernel) rfl
theorem mw_350 : Cond.lays "GliderDay$Member" "GliderDay$Member" "level" "I" ∈ WALL := mW 350 (by decide +kernel) rfl
theorem mw_352 : Cond.lays "GliderDay$Member" "GliderDay$Member" "isFlying" "Z" ∈ WALL := mW 352 (by decide +kernel) rfl
theorem mw_354 : Cond.lays "GliderDay$Member" "GliderDay$Member" "landings" "I" ∈ WALL := mW 354 (by decide +kernel) rfl
theorem mw_356 : Cond.lays "GliderDay$Member" "GliderDay$Member" "minutes" "I" ∈ WALL := mW 356 (by decide +kernel) rfl
theorem mw_358 : Cond.lays "GliderDay$Member" "GliderDay$Member" "lessons" "I" ∈ WALL := mW 358 (by decide +kernel) rfl
theorem mw_360 : Cond.lays "GliderDay$Member" "GliderDay$Member" "solos" "I" ∈ WALL := mW 360 (by decide +kernel) rfl
theorem mw_362 : Cond.lays "GliderDay$Member" "GliderDay$Member" "bill" "I" ∈ WALL := mW 362 (by decide +kernel) rfl
theorem mw_364 : Cond.superclass "GliderDay$Member" "java/lang/Object" ∈ WALL := mW 364 (by decide +kernel) rfl
theorem mw_365 : Cond.methodLink "GliderDay" 79 yJx4a65c_add_9ea2d ∈ WALL := mW 365 (by decide +kernel) rfl
theorem mw_366 : Cond.instanceMethod yJx4a65c_add_9ea2d ∈ WALL := mW 366 (by decide +kernel) rfl
theorem mw_367 : Cond.selects "java/util/ArrayList" yJx4a65c_add_9ea2d yJx4a65c_add_9ea2d ∈ WALL := mW 367 (by decide +kernel) rfl
theorem mw_368 : Cond.code yJx4a65c_add_9ea2d prog_21_method_25_code 2 (Option.some ClassFile.FieldType.boolean) ∈ WALL := mW 368 (by decide +kernel) rfl
theorem mw_369 : Cond.methodLink "java/util/ArrayList" 131 yJx4a65c_add_72be8 ∈ WALL := mW 369 (by decide +kernel) rfl
theorem mw_371 : Cond.instanceMethod yJx4a65c_add_72be8 ∈ WALL := mW 371 (by decide +kernel) rfl
theorem mw_372 : Cond.code yJx4a65c_add_72be8 prog_21_method_24_code 4 Option.none ∈ WALL := mW 372 (by decide +kernel) rfl
theorem mw_373 : Cond.methodLink "java/util/ArrayList" 129 yJx4a65c_grow_d5877 ∈ WALL := mW 373 (by decide +kernel) rfl
theorem mw_375 : Cond.instanceMethod yJx4a65c_grow_d5877 ∈ WALL := mW 375 (by decide +kernel) rfl
theorem mw_376 : Cond.code yJx4a65c_grow_d5877 prog_21_method_7_code 1 (Option.some (ClassFile.FieldType.array (ClassFile.FieldType.object "java/lang/Object"))) ∈ WALL := mW 376 (by decide +kernel) rfl
theorem mw_377 : Cond.methodLink "java/util/ArrayList" 69 yJx4a65c_grow_92f84 ∈ WALL := mW 377 (by decide +kernel) rfl
theorem mw_379 : Cond.instanceMethod yJx4a65c_grow_92f84 ∈ WALL := mW 379 (by decide +kernel) rfl
theorem mw_380 : Cond.code yJx4a65c_grow_92f84 prog_21_method_6_code 4 (Option.some (ClassFile.FieldType.array (ClassFile.FieldType.object "java/lang/Object"))) ∈ WALL := mW 380 (by decide +kernel) rfl
theorem mw_381 : Cond.methodLink "java/util/ArrayList" 73 yJ8_newLength_cabcc ∈ WALL := mW 381 (by decide +kernel) rfl
theorem mw_382 : Cond.static yJ8_newLength_cabcc ∈ WALL := mW 382 (by decide +kernel) rfl
theorem mw_383 : Cond.code yJ8_newLength_cabcc prog_28_method_27_code 4 (Option.some ClassFile.FieldType.int) ∈ WALL := mW 383 (by decide +kernel) rfl
theorem mw_384 : Cond.methodLink "jdk/internal/util/ArraysSupport" 194 yJ9_max_7cf53 ∈ WALL := mW 384 (by decide +kernel) rfl
theorem mw_385 : Cond.static yJ9_max_7cf53 ∈ WALL := mW 385 (by decide +kernel) rfl
theorem mw_386 : Cond.code yJ9_max_7cf53 prog_14_method_65_code 2 (Option.some ClassFile.FieldType.int) ∈ WALL := mW 386 (by decide +kernel) rfl
theorem mw_387 : Cond.constant "jdk/internal/util/ArraysSupport" 200 2147483639 ∈ WALL := mW 387 (by decide +kernel) rfl
theorem mw_388 : Cond.methodLink "jdk/internal/util/ArraysSupport" 201 yJ8_hugeLength_7cf53 ∈ WALL := mW 388 (by decide +kernel) rfl
theorem mw_389 : Cond.static yJ8_hugeLength_7cf53 ∈ WALL := mW 389 (by decide +kernel) rfl
theorem mw_390 : Cond.code yJ8_hugeLength_7cf53 prog_28_method_28_code 3 (Option.some ClassFile.FieldType.int) ∈ WALL := mW 390 (by decide +kernel) rfl
theorem mw_391 : Cond.methodLink "java/util/ArrayList" 66 yJ7_copyOf_1904c ∈ WALL := mW 391 (by decide +kernel) rfl
theorem mw_392 : Cond.static yJ7_copyOf_1904c ∈ WALL := mW 392 (by decide +kernel) rfl
theorem mw_393 : Cond.code yJ7_copyOf_1904c prog_22_method_119_code 2 (Option.some (ClassFile.FieldType.array (ClassFile.FieldType.object "java/lang/Object"))) ∈ WALL := mW 393 (by decide +kernel) rfl
theorem mw_394 : Cond.methodLink "java/util/Arrays" 86 (⟨"java/lang/Object", "getClass", "()Ljava/lang/Class;"⟩ : MethodName) ∈ WALL := mW 394 (by decide +kernel) rfl
theorem mw_395 : Cond.instanceMethod (⟨"java/lang/Object", "getClass", "()Ljava/lang/Class;"⟩ : MethodName) ∈ WALL := mW 395 (by decide +kernel) rfl
theorem mw_396 : Cond.sameMethod "java/lang/Object" "java/lang/Object" "getClass" "()Ljava/lang/Class;" ∈ WALL := mW 396 (by decide +kernel) rfl
theorem mw_397 : Cond.selects "GliderDay" (⟨"java/lang/Object", "getClass", "()Ljava/lang/Class;"⟩ : MethodName) (⟨"java/lang/Object", "getClass", "()Ljava/lang/Class;"⟩ : MethodName) ∈ WALL := mW 397 (by decide +kernel) rfl
theorem mw_398 : Cond.selects "GliderDay$Flight" (⟨"java/lang/Object", "getClass", "()Ljava/lang/Class;"⟩ : MethodName) (⟨"java/lang/Object", "getClass", "()Ljava/lang/Class;"⟩ : MethodName) ∈ WALL := mW 398 (by decide +kernel) rfl
theorem mw_399 : Cond.selects "GliderDay$Glider" (⟨"java/lang/Object", "getClass", "()Ljava/lang/Class;"⟩ : MethodName) (⟨"java/lang/Object", "getClass", "()Ljava/lang/Class;"⟩ : MethodName) ∈ WALL := mW 399 (by decide +kernel) rfl
theorem mw_400 : Cond.selects "GliderDay$Member" (⟨"java/lang/Object", "getClass", "()Ljava/lang/Class;"⟩ : MethodName) (⟨"java/lang/Object", "getClass", "()Ljava/lang/Class;"⟩ : MethodName) ∈ WALL := mW 400 (by decide +kernel) rfl
theorem mw_401 : Cond.selects "GliderDayModel" (⟨"java/lang/Object", "getClass", "()Ljava/lang/Class;"⟩ : MethodName) (⟨"java/lang/Object", "getClass", "()Ljava/lang/Class;"⟩ : MethodName) ∈ WALL := mW 401 (by decide +kernel) rfl
theorem mw_402 : Cond.selects "java/lang/IllegalArgumentException" (⟨"java/lang/Object", "getClass", "()Ljava/lang/Class;"⟩ : MethodName) (⟨"java/lang/Object", "getClass", "()Ljava/lang/Class;"⟩ : MethodName) ∈ WALL := mW 402 (by decide +kernel) rfl
theorem mw_403 : Cond.selects "java/lang/IllegalStateException" (⟨"java/lang/Object", "getClass", "()Ljava/lang/Class;"⟩ : MethodName) (⟨"java/lang/Object", "getClass", "()Ljava/lang/Class;"⟩ : MethodName) ∈ WALL := mW 403 (by decide +kernel) rfl
theorem mw_404 : Cond.selects "java/lang/IndexOutOfBoundsException" (⟨"java/lang/Object", "getClass", "()Ljava/lang/Class;"⟩ : MethodName) (⟨"java/lang/Object", "getClass", "()Ljava/lang/Class;"⟩ : MethodName) ∈ WALL := mW 404 (by decide +kernel) rfl
theorem mw_405 : Cond.selects "java/util/ArrayList" (⟨"java/lang/Object", "getClass", "()Ljava/lang/Class;"⟩ : MethodName) (⟨"java/lang/Object", "getClass", "()Ljava/lang/Class;"⟩ : MethodName) ∈ WALL := mW 405 (by decide +kernel) rfl
theorem mw_406 : Cond.native (⟨"java/lang/Object", "getClass", "()Ljava/lang/Class;"⟩ : MethodName) ∈ WALL := mW 406 (by decide +kernel) rfl
theorem mw_407 : Cond.methodLink "java/util/Arrays" 300 yJ7_copyOf_6403c ∈ WALL := mW 407 (by decide +kernel) rfl
theorem mw_408 : Cond.static yJ7_copyOf_6403c ∈ WALL := mW 408 (by decide +kernel) rfl
theorem mw_409 : Cond.code yJ7_copyOf_6403c prog_22_method_120_code 4 (Option.some (ClassFile.FieldType.array (ClassFile.FieldType.object "java/lang/Object"))) ∈ WALL := mW 409 (by decide +kernel) rfl
theorem mw_410 : Cond.classLink "java/util/Arrays" 110 "[Ljava/lang/Object;" ∈ WALL := mW 410 (by decide +kernel) rfl
theorem mw_412 : Cond.classLink "java/util/Arrays" 2 "java/lang/Object" ∈ WALL := mW 412 (by decide +kernel) rfl
theorem mw_413 : Cond.methodLink "java/util/Arrays" 304 yJ9_min_7cf53 ∈ WALL := mW 413 (by decide +kernel) rfl
theorem mw_414 : Cond.static yJ9_min_7cf53 ∈ WALL := mW 414 (by decide +kernel) rfl
theorem mw_415 : Cond.code yJ9_min_7cf53 prog_14_method_69_code 2 (Option.some ClassFile.FieldType.int) ∈ WALL := mW 415 (by decide +kernel) rfl
theorem mw_416 : Cond.methodLink "java/util/Arrays" 150 (⟨"java/lang/System", "arraycopy", "(Ljava/lang/Object;ILjava/lang/Object;II)V"⟩ : MethodName) ∈ WALL := mW 416 (by decide +kernel) rfl
theorem mw_417 : Cond.static (⟨"java/lang/System", "arraycopy", "(Ljava/lang/Object;ILjava/lang/Object;II)V"⟩ : MethodName) ∈ WALL := mW 417 (by decide +kernel) rfl
theorem mw_418 : Cond.native (⟨"java/lang/System", "arraycopy", "(Ljava/lang/Object;ILjava/lang/Object;II)V"⟩ : MethodName) ∈ WALL := mW 418 (by decide +kernel) rfl
theorem mw_419 : Cond.methodLink "java/util/ArrayList" 79 yJ9_max_7cf53 ∈ WALL := mW 419 (by decide +kernel) rfl
theorem mw_420 : Cond.classLink "java/util/ArrayList" 7 "java/lang/Object" ∈ WALL := mW 420 (by decide +kernel) rfl
theorem mw_421 : Cond.methodLink "GliderDayLaw" 91 yL_addGlider ∈ WALL := mW 421 (by decide +kernel) rfl
theorem mw_422 : Cond.static yL_addGlider ∈ WALL := mW 422 (by decide +kernel) rfl
theorem mw_423 : Cond.codeWith yL_addGlider method_4_code 6 (Option.some ClassFile.FieldType.int) [(0, 12, 15, 13), (0, 12, 19, 15)] ∈ WALL := mW 423 (by decide +kernel) rfl
theorem mw_424 : Cond.methodLink "GliderDayLaw" 17 yX3_addGlider ∈ WALL := mW 424 (by decide +kernel) rfl
theorem mw_425 : Cond.instanceMethod yX3_addGlider ∈ WALL := mW 425 (by decide +kernel) rfl
theorem mw_426 : Cond.selects "GliderDay" yX3_addGlider yX3_addGlider ∈ WALL := mW 426 (by decide +kernel) rfl
theorem mw_427 : Cond.code yX3_addGlider prog_1_method_3_code 5 (Option.some ClassFile.FieldType.int) ∈ WALL := mW 427 (by decide +kernel) rfl
theorem mw_430 : Cond.instantiable "GliderDay$Glider" 10 ∈ WALL := mW 430 (by decide +kernel) rfl
theorem mw_432 : Cond.instanceMethod yX1_init ∈ WALL := mW 432 (by decide +kernel) rfl
theorem mw_433 : Cond.code yX1_init prog_3_method_1_code 5 Option.none ∈ WALL := mW 433 (by decide +kernel) rfl
theorem mw_434 : Cond.methodLink "GliderDay$Glider" 3 (⟨"java/lang/Object", "<init>", "()V"⟩ : MethodName) ∈ WALL := mW 434 (by decide +kernel) rfl
theorem mw_435 : Cond.fieldLink "GliderDay$Glider" 9 "GliderDay$Glider" "number" "I" ∈ WALL := mW 435 (by decide +kernel) rfl
theorem mw_437 : Cond.fieldLink "GliderDay$Glider" 15 "GliderDay$Glider" "seats" "I" ∈ WALL := mW 437 (by decide +kernel) rfl
theorem mw_439 : Cond.fieldLink "GliderDay$Glider" 18 "GliderDay$Glider" "rate" "I" ∈ WALL := mW 439 (by decide +kernel) rfl
theorem mw_441 : Cond.fieldLink "GliderDay$Glider" 21 "GliderDay$Glider" "limit" "I" ∈ WALL := mW 441 (by decide +kernel) rfl
theorem mw_443 : Cond.fieldLink "GliderDay$Glider" 24 "GliderDay$Glider" "state" "I" ∈ WALL := mW 443 (by decide +kernel) rfl
theorem mw_450 : Cond.laysFinal "GliderDay$Glider" "GliderDay$Glider" "number" "I" ∈ WALL := mW 450 (by decide +kernel) rfl
theorem mw_452 : Cond.laysFinal "GliderDay$Glider" "GliderDay$Glider" "seats" "I" ∈ WALL := mW 452 (by decide +kernel) rfl
theorem mw_454 : Cond.laysFinal "GliderDay$Glider" "GliderDay$Glider" "rate" "I" ∈ WALL := mW 454 (by decide +kernel) rfl
theorem mw_456 : Cond.laysFinal "GliderDay$Glider" "GliderDay$Glider" "limit" "I" ∈ WALL := mW 456 (by decide +kernel) rfl
theorem mw_458 : Cond.lays "GliderDay$Glider" "GliderDay$Glider" "state" "I" ∈ WALL := mW 458 (by decide +kernel) rfl
theorem mw_460 : Cond.lays "GliderDay$Glider" "GliderDay$Glider" "isBarred" "Z" ∈ WALL := mW 460 (by decide +kernel) rfl
theorem mw_462 : Cond.lays "GliderDay$Glider" "GliderDay$Glider" "isCalled" "Z" ∈ WALL := mW 462 (by decide +kernel) rfl
theorem mw_464 : Cond.lays "GliderDay$Glider" "GliderDay$Glider" "landings" "I" ∈ WALL := mW 464 (by decide +kernel) rfl
theorem mw_466 : Cond.lays "GliderDay$Glider" "GliderDay$Glider" "minutes" "I" ∈ WALL := mW 466 (by decide +kernel) rfl
theorem mw_468 : Cond.lays "GliderDay$Glider" "GliderDay$Glider" "flight" "LGliderDay$Flight;" ∈ WALL := mW 468 (by decide +kernel) rfl
theorem mw_470 : Cond.superclass "GliderDay$Glider" "java/lang/Object" ∈ WALL := mW 470 (by decide +kernel) rfl
theorem mw_471 : Cond.methodLink "GliderDayLaw" 95 yL_setWind ∈ WALL := mW 471 (by decide +kernel) rfl
theorem mw_472 : Cond.static yL_setWind ∈ WALL := mW 472 (by decide +kernel) rfl
theorem mw_473 : Cond.codeWith yL_setWind method_5_code 4 (Option.some ClassFile.FieldType.int) [(0, 9, 12, 13)] ∈ WALL := mW 473 (by decide +kernel) rfl
theorem mw_474 : Cond.methodLink "GliderDayLaw" 21 yX3_setWind ∈ WALL := mW 474 (by decide +kernel) rfl
theorem mw_475 : Cond.instanceMethod yX3_setWind ∈ WALL := mW 475 (by decide +kernel) rfl
theorem mw_476 : Cond.selects "GliderDay" yX3_setWind yX3_setWind ∈ WALL := mW 476 (by decide +kernel) rfl
theorem mw_477 : Cond.code yX3_setWind prog_1_method_4_code 3 (Option.some ClassFile.FieldType.int) ∈ WALL := mW 477 (by decide +kernel) rfl
theorem mw_479 : Cond.methodLink "GliderDayLaw" 98 yL_setSunset ∈ WALL := mW 479 (by decide +kernel) rfl
theorem mw_480 : Cond.static yL_setSunset ∈ WALL := mW 480 (by decide +kernel) rfl
theorem mw_481 : Cond.codeWith yL_setSunset method_6_code 4 (Option.some ClassFile.FieldType.int) [(0, 9, 12, 13)] ∈ WALL := mW 481 (by decide +kernel) rfl
theorem mw_482 : Cond.methodLink "GliderDayLaw" 24 yX3_setSunset ∈ WALL := mW 482 (by decide +kernel) rfl
theorem mw_483 : Cond.instanceMethod yX3_setSunset ∈ WALL := mW 483 (by decide +kernel) rfl
theorem mw_484 : Cond.selects "GliderDay" yX3_setSunset yX3_setSunset ∈ WALL := mW 484 (by decide +kernel) rfl
theorem mw_485 : Cond.code yX3_setSunset prog_1_method_5_code 3 (Option.some ClassFile.FieldType.int) ∈ WALL := mW 485 (by decide +kernel) rfl
theorem mw_487 : Cond.methodLink "GliderDayLaw" 101 yL_setTugs ∈ WALL := mW 487 (by decide +kernel) rfl
theorem mw_488 : Cond.static yL_setTugs ∈ WALL := mW 488 (by decide +kernel) rfl
theorem mw_489 : Cond.codeWith yL_setTugs method_7_code 4 (Option.some ClassFile.FieldType.int) [(0, 9, 12, 13), (0, 9, 15, 15)] ∈ WALL := mW 489 (by decide +kernel) rfl
theorem mw_490 : Cond.methodLink "GliderDayLaw" 27 yX3_setTugs ∈ WALL := mW 490 (by decide +kernel) rfl
theorem mw_491 : Cond.instanceMethod yX3_setTugs ∈ WALL := mW 491 (by decide +kernel) rfl
theorem mw_492 : Cond.selects "GliderDay" yX3_setTugs yX3_setTugs ∈ WALL := mW 492 (by decide +kernel) rfl
theorem mw_493 : Cond.code yX3_setTugs prog_1_method_6_code 2 (Option.some ClassFile.FieldType.int) ∈ WALL := mW 493 (by decide +kernel) rfl
theorem mw_496 : Cond.methodLink "GliderDayLaw" 104 yL_bar ∈ WALL := mW 496 (by decide +kernel) rfl
theorem mw_497 : Cond.static yL_bar ∈ WALL := mW 497 (by decide +kernel) rfl
theorem mw_498 : Cond.codeWith yL_bar method_8_code 5 (Option.some ClassFile.FieldType.int) [(0, 17, 20, 34), (0, 17, 24, 15)] ∈ WALL := mW 498 (by decide +kernel) rfl
theorem mw_499 : Cond.classLink "GliderDayLaw" 34 "java/lang/IndexOutOfBoundsException" ∈ WALL := mW 499 (by decide +kernel) rfl
theorem mw_500 : Cond.methodLink "GliderDayLaw" 30 yX3_bar ∈ WALL := mW 500 (by decide +kernel) rfl
theorem mw_501 : Cond.instanceMethod yX3_bar ∈ WALL := mW 501 (by decide +kernel) rfl
theorem mw_502 : Cond.selects "GliderDay" yX3_bar yX3_bar ∈ WALL := mW 502 (by decide +kernel) rfl
theorem mw_503 : Cond.code yX3_bar prog_1_method_7_code 5 (Option.some ClassFile.FieldType.boolean) ∈ WALL := mW 503 (by decide +kernel) rfl
theorem mw_504 : Cond.methodLink "GliderDay" 106 yX3_gliderAt ∈ WALL := mW 504 (by decide +kernel) rfl
theorem mw_506 : Cond.instanceMethod yX3_gliderAt ∈ WALL := mW 506 (by decide +kernel) rfl
theorem mw_507 : Cond.code yX3_gliderAt prog_1_method_34_code 2 (Option.some (ClassFile.FieldType.object "GliderDay$Glider")) ∈ WALL := mW 507 (by decide +kernel) rfl
theorem mw_508 : Cond.classLink "GliderDay" 135 "java/lang/IndexOutOfBoundsException" ∈ WALL := mW 508 (by decide +kernel) rfl
theorem mw_509 : Cond.instantiable "java/lang/IndexOutOfBoundsException" 6 ∈ WALL := mW 509 (by decide +kernel) rfl
theorem mw_511 : Cond.selects "java/lang/IndexOutOfBoundsException" (⟨"java/lang/Throwable", "fillInStackTrace", "(I)Ljava/lang/Throwable;"⟩ : MethodName) (⟨"java/lang/Throwable", "fillInStackTrace", "(I)Ljava/lang/Throwable;"⟩ : MethodName) ∈ WALL := mW 511 (by decide +kernel) rfl
theorem mw_512 : Cond.lays "java/lang/IndexOutOfBoundsException" "java/lang/Throwable" "cause" "Ljava/lang/Throwable;" ∈ WALL := mW 512 (by decide +kernel) rfl
theorem mw_513 : Cond.lays "java/lang/IndexOutOfBoundsException" "java/lang/Throwable" "stackTrace" "[Ljava/lang/StackTraceElement;" ∈ WALL := mW 513 (by decide +kernel) rfl
theorem mw_514 : Cond.lays "java/lang/IndexOutOfBoundsException" "java/lang/Throwable" "suppressedExceptions" "Ljava/util/List;" ∈ WALL := mW 514 (by decide +kernel) rfl
theorem mw_515 : Cond.lays "java/lang/IndexOutOfBoundsException" "java/lang/Throwable" "detailMessage" "Ljava/lang/String;" ∈ WALL := mW 515 (by decide +kernel) rfl
theorem mw_516 : Cond.lays "java/lang/IndexOutOfBoundsException" "java/lang/Throwable" "backtrace" "Ljava/lang/Object;" ∈ WALL := mW 516 (by decide +kernel) rfl
theorem mw_518 : Cond.methodLink "GliderDay" 139 (⟨"java/lang/IndexOutOfBoundsException", "<init>", "(Ljava/lang/String;)V"⟩ : MethodName) ∈ WALL := mW 518 (by decide +kernel) rfl
theorem mw_519 : Cond.instanceMethod (⟨"java/lang/IndexOutOfBoundsException", "<init>", "(Ljava/lang/String;)V"⟩ : MethodName) ∈ WALL := mW 519 (by decide +kernel) rfl
theorem mw_520 : Cond.code (⟨"java/lang/IndexOutOfBoundsException", "<init>", "(Ljava/lang/String;)V"⟩ : MethodName) prog_12_method_2_code 2 Option.none ∈ WALL := mW 520 (by decide +kernel) rfl
theorem mw_521 : Cond.methodLink "java/lang/IndexOutOfBoundsException" 7 (⟨"java/lang/RuntimeException", "<init>", "(Ljava/lang/String;)V"⟩ : MethodName) ∈ WALL := mW 521 (by decide +kernel) rfl
theorem mw_522 : Cond.lays "java/lang/IndexOutOfBoundsException" "java/lang/Throwable" "depth" "I" ∈ WALL := mW 522 (by decide +kernel) rfl
theorem mw_523 : Cond.superclass "java/lang/IndexOutOfBoundsException" "java/lang/RuntimeException" ∈ WALL := mW 523 (by decide +kernel) rfl
theorem mw_525 : Cond.methodLink "GliderDayLaw" 108 yL_promote ∈ WALL := mW 525 (by decide +kernel) rfl
theorem mw_526 : Cond.static yL_promote ∈ WALL := mW 526 (by decide +kernel) rfl
theorem mw_527 : Cond.codeWith yL_promote method_9_code 4 (Option.some ClassFile.FieldType.int) [(0, 9, 12, 34), (0, 9, 15, 15)] ∈ WALL := mW 527 (by decide +kernel) rfl
theorem mw_528 : Cond.methodLink "GliderDayLaw" 36 yX3_promote ∈ WALL := mW 528 (by decide +kernel) rfl
theorem mw_529 : Cond.instanceMethod yX3_promote ∈ WALL := mW 529 (by decide +kernel) rfl
theorem mw_530 : Cond.selects "GliderDay" yX3_promote yX3_promote ∈ WALL := mW 530 (by decide +kernel) rfl
theorem mw_531 : Cond.code yX3_promote prog_1_method_8_code 3 (Option.some ClassFile.FieldType.int) ∈ WALL := mW 531 (by decide +kernel) rfl
theorem mw_532 : Cond.methodLink "GliderDay" 119 yX3_memberAt ∈ WALL := mW 532 (by decide +kernel) rfl
theorem mw_534 : Cond.instanceMethod yX3_memberAt ∈ WALL := mW 534 (by decide +kernel) rfl
theorem mw_535 : Cond.code yX3_memberAt prog_1_method_33_code 2 (Option.some (ClassFile.FieldType.object "GliderDay$Member")) ∈ WALL := mW 535 (by decide +kernel) rfl
theorem mw_537 : Cond.methodLink "GliderDay" 126 yX3_hasEarnedNextLevel ∈ WALL := mW 537 (by decide +kernel) rfl
theorem mw_538 : Cond.static yX3_hasEarnedNextLevel ∈ WALL := mW 538 (by decide +kernel) rfl
theorem mw_539 : Cond.code yX3_hasEarnedNextLevel prog_1_method_46_code 1 (Option.some ClassFile.FieldType.boolean) ∈ WALL := mW 539 (by decide +kernel) rfl
theorem mw_541 : Cond.methodLink "GliderDayLaw" 111 yL_member ∈ WALL := mW 541 (by decide +kernel) rfl
theorem mw_542 : Cond.static yL_member ∈ WALL := mW 542 (by decide +kernel) rfl
theorem mw_543 : Cond.codeWith yL_member method_10_code 5 (Option.some ClassFile.FieldType.int) [(0, 10, 13, 34)] ∈ WALL := mW 543 (by decide +kernel) rfl
theorem mw_544 : Cond.methodLink "GliderDayLaw" 39 yX3_member ∈ WALL := mW 544 (by decide +kernel) rfl
theorem mw_545 : Cond.instanceMethod yX3_member ∈ WALL := mW 545 (by decide +kernel) rfl
theorem mw_546 : Cond.selects "GliderDay" yX3_member yX3_member ∈ WALL := mW 546 (by decide +kernel) rfl
theorem mw_547 : Cond.code yX3_member prog_1_method_9_code 4 (Option.some ClassFile.FieldType.int) ∈ WALL := mW 547 (by decide +kernel) rfl
theorem mw_549 : Cond.methodLink "GliderDayLaw" 115 yL_glider ∈ WALL := mW 549 (by decide +kernel) rfl
theorem mw_550 : Cond.static yL_glider ∈ WALL := mW 550 (by decide +kernel) rfl
theorem mw_551 : Cond.codeWith yL_glider method_11_code 5 (Option.some ClassFile.FieldType.int) [(0, 10, 13, 34)] ∈ WALL := mW 551 (by decide +kernel) rfl
theorem mw_552 : Cond.methodLink "GliderDayLaw" 43 yX3_glider ∈ WALL := mW 552 (by decide +kernel) rfl
theorem mw_553 : Cond.instanceMethod yX3_glider ∈ WALL := mW 553 (by decide +kernel) rfl
theorem mw_554 : Cond.selects "GliderDay" yX3_glider yX3_glider ∈ WALL := mW 554 (by decide +kernel) rfl
theorem mw_555 : Cond.code yX3_glider prog_1_method_10_code 4 (Option.some ClassFile.FieldType.int) ∈ WALL := mW 555 (by decide +kernel) rfl
theorem mw_556 : Cond.methodLink "GliderDayLaw" 118 yL_ask ∈ WALL := mW 556 (by decide +kernel) rfl
theorem mw_557 : Cond.static yL_ask ∈ WALL := mW 557 (by decide +kernel) rfl
theorem mw_558 : Cond.codeWith yL_ask method_12_code 8 (Option.some ClassFile.FieldType.int) [(0, 16, 19, 34), (0, 16, 23, 13), (0, 16, 27, 15)] ∈ WALL := mW 558 (by decide +kernel) rfl
theorem mw_559 : Cond.methodLink "GliderDayLaw" 46 yX3_ask ∈ WALL := mW 559 (by decide +kernel) rfl
theorem mw_560 : Cond.instanceMethod yX3_ask ∈ WALL := mW 560 (by decide +kernel) rfl
theorem mw_561 : Cond.selects "GliderDay" yX3_ask yX3_ask ∈ WALL := mW 561 (by decide +kernel) rfl
theorem mw_562 : Cond.code yX3_ask prog_1_method_11_code 10 (Option.some ClassFile.FieldType.int) ∈ WALL := mW 562 (by decide +kernel) rfl
theorem mw_563 : Cond.methodLink "GliderDay" 148 yX3_isHeight ∈ WALL := mW 563 (by decide +kernel) rfl
theorem mw_564 : Cond.static yX3_isHeight ∈ WALL := mW 564 (by decide +kernel) rfl
theorem mw_565 : Cond.code yX3_isHeight prog_1_method_32_code 1 (Option.some ClassFile.FieldType.boolean) ∈ WALL := mW 565 (by decide +kernel) rfl
theorem mw_568 : Cond.instantiable "GliderDay$Flight" 11 ∈ WALL := mW 568 (by decide +kernel) rfl
theorem mw_570 : Cond.instanceMethod yX0_init ∈ WALL := mW 570 (by decide +kernel) rfl
theorem mw_571 : Cond.code yX0_init prog_2_method_1_code 5 Option.none ∈ WALL := mW 571 (by decide +kernel) rfl
theorem mw_572 : Cond.methodLink "GliderDay$Flight" 3 (⟨"java/lang/Object", "<init>", "()V"⟩ : MethodName) ∈ WALL := mW 572 (by decide +kernel) rfl
theorem mw_573 : Cond.fieldLink "GliderDay$Flight" 9 "GliderDay$Flight" "number" "I" ∈ WALL := mW 573 (by decide +kernel) rfl
theorem mw_575 : Cond.fieldLink "GliderDay$Flight" 15 "GliderDay$Flight" "member" "LGliderDay$Member;" ∈ WALL := mW 575 (by decide +kernel) rfl
theorem mw_577 : Cond.fieldLink "GliderDay$Flight" 19 "GliderDay$Flight" "second" "LGliderDay$Member;" ∈ WALL := mW 577 (by decide +kernel) rfl
theorem mw_579 : Cond.fieldLink "GliderDay$Flight" 22 "GliderDay$Flight" "glider" "LGliderDay$Glider;" ∈ WALL := mW 579 (by decide +kernel) rfl
theorem mw_583 : Cond.fieldLink "GliderDay$Flight" 26 "GliderDay$Flight" "state" "I" ∈ WALL := mW 583 (by decide +kernel) rfl
theorem mw_586 : Cond.fieldLink "GliderDay$Flight" 29 "GliderDay$Flight" "begin" "I" ∈ WALL := mW 586 (by decide +kernel) rfl
theorem mw_588 : Cond.fieldLink "GliderDay$Flight" 32 "GliderDay$Flight" "landing" "I" ∈ WALL := mW 588 (by decide +kernel) rfl
theorem mw_591 : Cond.laysFinal "GliderDay$Flight" "GliderDay$Flight" "number" "I" ∈ WALL := mW 591 (by decide +kernel) rfl
theorem mw_593 : Cond.laysFinal "GliderDay$Flight" "GliderDay$Flight" "member" "LGliderDay$Member;" ∈ WALL := mW 593 (by decide +kernel) rfl
theorem mw_595 : Cond.laysFinal "GliderDay$Flight" "GliderDay$Flight" "second" "LGliderDay$Member;" ∈ WALL := mW 595 (by decide +kernel) rfl
theorem mw_597 : Cond.laysFinal "GliderDay$Flight" "GliderDay$Flight" "glider" "LGliderDay$Glider;" ∈ WALL := mW 597 (by decide +kernel) rfl
theorem mw_599 : Cond.lays "GliderDay$Flight" "GliderDay$Flight" "height" "I" ∈ WALL := mW 599 (by decide +kernel) rfl
theorem mw_601 : Cond.lays "GliderDay$Flight" "GliderDay$Flight" "minutes" "I" ∈ WALL := mW 601 (by decide +kernel) rfl
theorem mw_603 : Cond.lays "GliderDay$Flight" "GliderDay$Flight" "state" "I" ∈ WALL := mW 603 (by decide +kernel) rfl
theorem mw_605 : Cond.lays "GliderDay$Flight" "GliderDay$Flight" "askedAt" "I" ∈ WALL := mW 605 (by decide +kernel) rfl
theorem mw_607 : Cond.lays "GliderDay$Flight" "GliderDay$Flight" "begin" "I" ∈ WALL := mW 607 (by decide +kernel) rfl
theorem mw_609 : Cond.lays "GliderDay$Flight" "GliderDay$Flight" "landing" "I" ∈ WALL := mW 609 (by decide +kernel) rfl
theorem mw_611 : Cond.lays "GliderDay$Flight" "GliderDay$Flight" "cost" "I" ∈ WALL := mW 611 (by decide +kernel) rfl
theorem mw_613 : Cond.superclass "GliderDay$Flight" "java/lang/Object" ∈ WALL := mW 613 (by decide +kernel) rfl
theorem mw_614 : Cond.methodLink "GliderDayLaw" 122 yL_drop ∈ WALL := mW 614 (by decide +kernel) rfl
theorem mw_615 : Cond.static yL_drop ∈ WALL := mW 615 (by decide +kernel) rfl
theorem mw_616 : Cond.codeWith yL_drop method_13_code 4 (Option.some ClassFile.FieldType.int) [(0, 9, 12, 34), (0, 9, 15, 15)] ∈ WALL := mW 616 (by decide +kernel) rfl
theorem mw_617 : Cond.methodLink "GliderDayLaw" 50 yX3_drop ∈ WALL := mW 617 (by decide +kernel) rfl
theorem mw_618 : Cond.instanceMethod yX3_drop ∈ WALL := mW 618 (by decide +kernel) rfl
theorem mw_619 : Cond.selects "GliderDay" yX3_drop yX3_drop ∈ WALL := mW 619 (by decide +kernel) rfl
theorem mw_620 : Cond.code yX3_drop prog_1_method_12_code 4 (Option.some ClassFile.FieldType.int) ∈ WALL := mW 620 (by decide +kernel) rfl
theorem mw_621 : Cond.methodLink "GliderDay" 173 yX3_listedFlightAt ∈ WALL := mW 621 (by decide +kernel) rfl
theorem mw_623 : Cond.instanceMethod yX3_listedFlightAt ∈ WALL := mW 623 (by decide +kernel) rfl
theorem mw_624 : Cond.code yX3_listedFlightAt prog_1_method_36_code 3 (Option.some (ClassFile.FieldType.object "GliderDay$Flight")) ∈ WALL := mW 624 (by decide +kernel) rfl
theorem mw_625 : Cond.methodLink "GliderDay" 213 yX3_flightAt ∈ WALL := mW 625 (by decide +kernel) rfl
theorem mw_627 : Cond.instanceMethod yX3_flightAt ∈ WALL := mW 627 (by decide +kernel) rfl
theorem mw_628 : Cond.code yX3_flightAt prog_1_method_35_code 2 (Option.some (ClassFile.FieldType.object "GliderDay$Flight")) ∈ WALL := mW 628 (by decide +kernel) rfl
theorem mw_631 : Cond.methodLink "GliderDay" 177 yX3_placeOf ∈ WALL := mW 631 (by decide +kernel) rfl
theorem mw_633 : Cond.instanceMethod yX3_placeOf ∈ WALL := mW 633 (by decide +kernel) rfl
theorem mw_634 : Cond.code yX3_placeOf prog_1_method_37_code 3 (Option.some ClassFile.FieldType.int) ∈ WALL := mW 634 (by decide +kernel) rfl
theorem mw_635 : Cond.methodLink "GliderDay" 181 yX3_takeOffList ∈ WALL := mW 635 (by decide +kernel) rfl
theorem mw_637 : Cond.instanceMethod yX3_takeOffList ∈ WALL := mW 637 (by decide +kernel) rfl
theorem mw_638 : Cond.code yX3_takeOffList prog_1_method_38_code 2 Option.none ∈ WALL := mW 638 (by decide +kernel) rfl
theorem mw_639 : Cond.methodLink "GliderDay" 264 yJx4a65c_remove_915e3 ∈ WALL := mW 639 (by decide +kernel) rfl
theorem mw_640 : Cond.instanceMethod yJx4a65c_remove_915e3 ∈ WALL := mW 640 (by decide +kernel) rfl
theorem mw_641 : Cond.selects "java/util/ArrayList" yJx4a65c_remove_915e3 yJx4a65c_remove_915e3 ∈ WALL := mW 641 (by decide +kernel) rfl
theorem mw_642 : Cond.code yJx4a65c_remove_915e3 prog_21_method_29_code 4 (Option.some (ClassFile.FieldType.object "java/lang/Object")) ∈ WALL := mW 642 (by decide +kernel) rfl
theorem mw_643 : Cond.methodLink "java/util/ArrayList" 144 yJx4a65c_fastRemove_b59b0 ∈ WALL := mW 643 (by decide +kernel) rfl
theorem mw_645 : Cond.instanceMethod yJx4a65c_fastRemove_b59b0 ∈ WALL := mW 645 (by decide +kernel) rfl
theorem mw_646 : Cond.code yJx4a65c_fastRemove_b59b0 prog_21_method_39_code 4 Option.none ∈ WALL := mW 646 (by decide +kernel) rfl
theorem mw_647 : Cond.methodLink "java/util/ArrayList" 112 (⟨"java/lang/System", "arraycopy", "(Ljava/lang/Object;ILjava/lang/Object;II)V"⟩ : MethodName) ∈ WALL := mW 647 (by decide +kernel) rfl
theorem mw_648 : Cond.methodLink "GliderDayLaw" 125 yL_list ∈ WALL := mW 648 (by decide +kernel) rfl
theorem mw_649 : Cond.static yL_list ∈ WALL := mW 649 (by decide +kernel) rfl
theorem mw_650 : Cond.codeWith yL_list method_14_code 4 (Option.some ClassFile.FieldType.int) [(0, 9, 12, 34)] ∈ WALL := mW 650 (by decide +kernel) rfl
theorem mw_651 : Cond.methodLink "GliderDayLaw" 53 yX3_list ∈ WALL := mW 651 (by decide +kernel) rfl
theorem mw_652 : Cond.instanceMethod yX3_list ∈ WALL := mW 652 (by decide +kernel) rfl
theorem mw_653 : Cond.selects "GliderDay" yX3_list yX3_list ∈ WALL := mW 653 (by decide +kernel) rfl
theorem mw_654 : Cond.code yX3_list prog_1_method_13_code 2 (Option.some ClassFile.FieldType.int) ∈ WALL := mW 654 (by decide +kernel) rfl
theorem mw_656 : Cond.methodLink "GliderDayLaw" 128 yL_reason ∈ WALL := mW 656 (by decide +kernel) rfl
theorem mw_657 : Cond.static yL_reason ∈ WALL := mW 657 (by decide +kernel) rfl
theorem mw_658 : Cond.codeWith yL_reason method_15_code 4 (Option.some ClassFile.FieldType.int) [(0, 9, 12, 34), (0, 9, 15, 15)] ∈ WALL := mW 658 (by decide +kernel) rfl
theorem mw_659 : Cond.methodLink "GliderDayLaw" 56 yX3_reason ∈ WALL := mW 659 (by decide +kernel) rfl
theorem mw_660 : Cond.instanceMethod yX3_reason ∈ WALL := mW 660 (by decide +kernel) rfl
theorem mw_661 : Cond.selects "GliderDay" yX3_reason yX3_reason ∈ WALL := mW 661 (by decide +kernel) rfl
theorem mw_662 : Cond.code yX3_reason prog_1_method_14_code 2 (Option.some ClassFile.FieldType.int) ∈ WALL := mW 662 (by decide +kernel) rfl
theorem mw_663 : Cond.methodLink "GliderDay" 192 yX3_reasonAgainst ∈ WALL := mW 663 (by decide +kernel) rfl
theorem mw_665 : Cond.instanceMethod yX3_reasonAgainst ∈ WALL := mW 665 (by decide +kernel) rfl
theorem mw_666 : Cond.code yX3_reasonAgainst prog_1_method_53_code 3 (Option.some ClassFile.FieldType.int) ∈ WALL := mW 666 (by decide +kernel) rfl
theorem mw_667 : Cond.methodLink "GliderDay" 305 yX3_hasFlyingMember ∈ WALL := mW 667 (by decide +kernel) rfl
theorem mw_668 : Cond.static yX3_hasFlyingMember ∈ WALL := mW 668 (by decide +kernel) rfl
theorem mw_669 : Cond.code yX3_hasFlyingMember prog_1_method_50_code 1 (Option.some ClassFile.FieldType.boolean) ∈ WALL := mW 669 (by decide +kernel) rfl
theorem mw_670 : Cond.methodLink "GliderDay" 311 yX3_needsTeacher ∈ WALL := mW 670 (by decide +kernel) rfl
theorem mw_671 : Cond.static yX3_needsTeacher ∈ WALL := mW 671 (by decide +kernel) rfl
theorem mw_672 : Cond.code yX3_needsTeacher prog_1_method_48_code 1 (Option.some ClassFile.FieldType.boolean) ∈ WALL := mW 672 (by decide +kernel) rfl
theorem mw_673 : Cond.methodLink "GliderDay" 295 yX3_hasTeacher ∈ WALL := mW 673 (by decide +kernel) rfl
theorem mw_674 : Cond.static yX3_hasTeacher ∈ WALL := mW 674 (by decide +kernel) rfl
theorem mw_675 : Cond.code yX3_hasTeacher prog_1_method_47_code 1 (Option.some ClassFile.FieldType.boolean) ∈ WALL := mW 675 (by decide +kernel) rfl
theorem mw_676 : Cond.methodLink "GliderDay" 314 yX3_isTooWindyFor ∈ WALL := mW 676 (by decide +kernel) rfl
theorem mw_678 : Cond.instanceMethod yX3_isTooWindyFor ∈ WALL := mW 678 (by decide +kernel) rfl
theorem mw_679 : Cond.code yX3_isTooWindyFor prog_1_method_51_code 3 (Option.some ClassFile.FieldType.boolean) ∈ WALL := mW 679 (by decide +kernel) rfl
theorem mw_680 : Cond.methodLink "GliderDay" 302 yX3_windLimitOf ∈ WALL := mW 680 (by decide +kernel) rfl
theorem mw_681 : Cond.static yX3_windLimitOf ∈ WALL := mW 681 (by decide +kernel) rfl
theorem mw_682 : Cond.code yX3_windLimitOf prog_1_method_49_code 1 (Option.some ClassFile.FieldType.int) ∈ WALL := mW 682 (by decide +kernel) rfl
theorem mw_683 : Cond.methodLink "GliderDay" 317 yX3_hasNothingToLaunch ∈ WALL := mW 683 (by decide +kernel) rfl
theorem mw_685 : Cond.instanceMethod yX3_hasNothingToLaunch ∈ WALL := mW 685 (by decide +kernel) rfl
theorem mw_686 : Cond.code yX3_hasNothingToLaunch prog_1_method_52_code 2 (Option.some ClassFile.FieldType.boolean) ∈ WALL := mW 686 (by decide +kernel) rfl
theorem mw_687 : Cond.methodLink "GliderDay" 320 yX3_isBusy ∈ WALL := mW 687 (by decide +kernel) rfl
theorem mw_688 : Cond.methodLink "GliderDayLaw" 131 yL_call ∈ WALL := mW 688 (by decide +kernel) rfl
theorem mw_689 : Cond.static yL_call ∈ WALL := mW 689 (by decide +kernel) rfl
theorem mw_690 : Cond.codeWith yL_call method_16_code 4 (Option.some ClassFile.FieldType.int) [(0, 9, 12, 34), (0, 9, 15, 15)] ∈ WALL := mW 690 (by decide +kernel) rfl
theorem mw_691 : Cond.methodLink "GliderDayLaw" 59 yX3_call ∈ WALL := mW 691 (by decide +kernel) rfl
theorem mw_692 : Cond.instanceMethod yX3_call ∈ WALL := mW 692 (by decide +kernel) rfl
theorem mw_693 : Cond.selects "GliderDay" yX3_call yX3_call ∈ WALL := mW 693 (by decide +kernel) rfl
theorem mw_694 : Cond.code yX3_call prog_1_method_15_code 4 (Option.some ClassFile.FieldType.int) ∈ WALL := mW 694 (by decide +kernel) rfl
theorem mw_696 : Cond.methodLink "GliderDayLaw" 134 yL_tick ∈ WALL := mW 696 (by decide +kernel) rfl
theorem mw_697 : Cond.static yL_tick ∈ WALL := mW 697 (by decide +kernel) rfl
theorem mw_698 : Cond.codeWith yL_tick method_17_code 4 (Option.some ClassFile.FieldType.int) [(0, 9, 12, 13)] ∈ WALL := mW 698 (by decide +kernel) rfl
theorem mw_699 : Cond.methodLink "GliderDayLaw" 62 yX3_tick ∈ WALL := mW 699 (by decide +kernel) rfl
theorem mw_700 : Cond.instanceMethod yX3_tick ∈ WALL := mW 700 (by decide +kernel) rfl
theorem mw_701 : Cond.selects "GliderDay" yX3_tick yX3_tick ∈ WALL := mW 701 (by decide +kernel) rfl
theorem mw_702 : Cond.code yX3_tick prog_1_method_16_code 4 (Option.some ClassFile.FieldType.int) ∈ WALL := mW 702 (by decide +kernel) rfl
theorem mw_704 : Cond.methodLink "GliderDay" 209 yX3_passMinute ∈ WALL := mW 704 (by decide +kernel) rfl
theorem mw_706 : Cond.instanceMethod yX3_passMinute ∈ WALL := mW 706 (by decide +kernel) rfl
theorem mw_707 : Cond.code yX3_passMinute prog_1_method_54_code 1 (Option.some ClassFile.FieldType.boolean) ∈ WALL := mW 707 (by decide +kernel) rfl
theorem mw_708 : Cond.methodLink "GliderDay" 323 yX3_freeCables ∈ WALL := mW 708 (by decide +kernel) rfl
theorem mw_710 : Cond.instanceMethod yX3_freeCables ∈ WALL := mW 710 (by decide +kernel) rfl
theorem mw_711 : Cond.code yX3_freeCables prog_1_method_55_code 1 Option.none ∈ WALL := mW 711 (by decide +kernel) rfl
theorem mw_712 : Cond.methodLink "GliderDay" 326 yX3_freeDueTugs ∈ WALL := mW 712 (by decide +kernel) rfl
theorem mw_714 : Cond.instanceMethod yX3_freeDueTugs ∈ WALL := mW 714 (by decide +kernel) rfl
theorem mw_715 : Cond.code yX3_freeDueTugs prog_1_method_56_code 2 Option.none ∈ WALL := mW 715 (by decide +kernel) rfl
theorem mw_716 : Cond.methodLink "GliderDay" 329 yX3_beginToWait ∈ WALL := mW 716 (by decide +kernel) rfl
theorem mw_718 : Cond.instanceMethod yX3_beginToWait ∈ WALL := mW 718 (by decide +kernel) rfl
theorem mw_719 : Cond.code yX3_beginToWait prog_1_method_57_code 3 Option.none ∈ WALL := mW 719 (by decide +kernel) rfl
theorem mw_720 : Cond.methodLink "GliderDay" 338 yX3_mustLand ∈ WALL := mW 720 (by decide +kernel) rfl
theorem mw_722 : Cond.instanceMethod yX3_mustLand ∈ WALL := mW 722 (by decide +kernel) rfl
theorem mw_723 : Cond.code yX3_mustLand prog_1_method_58_code 3 (Option.some ClassFile.FieldType.boolean) ∈ WALL := mW 723 (by decide +kernel) rfl
theorem mw_724 : Cond.methodLink "GliderDay" 332 yX3_landFirstWaiting ∈ WALL := mW 724 (by decide +kernel) rfl
theorem mw_726 : Cond.instanceMethod yX3_landFirstWaiting ∈ WALL := mW 726 (by decide +kernel) rfl
theorem mw_727 : Cond.code yX3_landFirstWaiting prog_1_method_59_code 3 Option.none ∈ WALL := mW 727 (by decide +kernel) rfl
theorem mw_728 : Cond.methodLink "GliderDay" 342 yJx4a65c_isEmpty_aae02 ∈ WALL := mW 728 (by decide +kernel) rfl
theorem mw_729 : Cond.instanceMethod yJx4a65c_isEmpty_aae02 ∈ WALL := mW 729 (by decide +kernel) rfl
theorem mw_730 : Cond.selects "java/util/ArrayList" yJx4a65c_isEmpty_aae02 yJx4a65c_isEmpty_aae02 ∈ WALL := mW 730 (by decide +kernel) rfl
theorem mw_731 : Cond.code yJx4a65c_isEmpty_aae02 prog_21_method_9_code 1 (Option.some ClassFile.FieldType.boolean) ∈ WALL := mW 731 (by decide +kernel) rfl
theorem mw_732 : Cond.methodLink "GliderDay" 345 yX3_land ∈ WALL := mW 732 (by decide +kernel) rfl
theorem mw_734 : Cond.instanceMethod yX3_land ∈ WALL := mW 734 (by decide +kernel) rfl
theorem mw_735 : Cond.code yX3_land prog_1_method_60_code 4 Option.none ∈ WALL := mW 735 (by decide +kernel) rfl
theorem mw_736 : Cond.methodLink "GliderDay" 349 yX3_launchPrice ∈ WALL := mW 736 (by decide +kernel) rfl
theorem mw_737 : Cond.static yX3_launchPrice ∈ WALL := mW 737 (by decide +kernel) rfl
theorem mw_738 : Cond.code yX3_launchPrice prog_1_method_61_code 1 (Option.some ClassFile.FieldType.int) ∈ WALL := mW 738 (by decide +kernel) rfl
theorem mw_739 : Cond.methodLink "GliderDay" 355 yJ9_min_7cf53 ∈ WALL := mW 739 (by decide +kernel) rfl
theorem mw_740 : Cond.methodLink "GliderDay" 361 yX3_writeDown ∈ WALL := mW 740 (by decide +kernel) rfl
theorem mw_741 : Cond.static yX3_writeDown ∈ WALL := mW 741 (by decide +kernel) rfl
theorem mw_742 : Cond.code yX3_writeDown prog_1_method_62_code 4 Option.none ∈ WALL := mW 742 (by decide +kernel) rfl
theorem mw_743 : Cond.methodLink "GliderDay" 365 yX3_bringDown ∈ WALL := mW 743 (by decide +kernel) rfl
theorem mw_744 : Cond.static yX3_bringDown ∈ WALL := mW 744 (by decide +kernel) rfl
theorem mw_745 : Cond.code yX3_bringDown prog_1_method_63_code 2 Option.none ∈ WALL := mW 745 (by decide +kernel) rfl
theorem mw_746 : Cond.methodLink "GliderDay" 335 yX3_startFirstThatCan ∈ WALL := mW 746 (by decide +kernel) rfl
theorem mw_748 : Cond.instanceMethod yX3_startFirstThatCan ∈ WALL := mW 748 (by decide +kernel) rfl
theorem mw_749 : Cond.code yX3_startFirstThatCan prog_1_method_64_code 3 (Option.some ClassFile.FieldType.boolean) ∈ WALL := mW 749 (by decide +kernel) rfl
theorem mw_750 : Cond.methodLink "GliderDay" 369 yX3_start ∈ WALL := mW 750 (by decide +kernel) rfl
theorem mw_752 : Cond.instanceMethod yX3_start ∈ WALL := mW 752 (by decide +kernel) rfl
theorem mw_753 : Cond.code yX3_start prog_1_method_65_code 2 Option.none ∈ WALL := mW 753 (by decide +kernel) rfl
theorem mw_754 : Cond.methodLink "GliderDay" 373 yX3_takeCable ∈ WALL := mW 754 (by decide +kernel) rfl
theorem mw_756 : Cond.instanceMethod yX3_takeCable ∈ WALL := mW 756 (by decide +kernel) rfl
theorem mw_757 : Cond.code yX3_takeCable prog_1_method_66_code 1 Option.none ∈ WALL := mW 757 (by decide +kernel) rfl
theorem mw_758 : Cond.methodLink "GliderDay" 376 yX3_takeTug ∈ WALL := mW 758 (by decide +kernel) rfl
theorem mw_760 : Cond.instanceMethod yX3_takeTug ∈ WALL := mW 760 (by decide +kernel) rfl
theorem mw_761 : Cond.code yX3_takeTug prog_1_method_67_code 3 Option.none ∈ WALL := mW 761 (by decide +kernel) rfl
theorem mw_762 : Cond.methodLink "GliderDayLaw" 141 yL_flight ∈ WALL := mW 762 (by decide +kernel) rfl
theorem mw_763 : Cond.static yL_flight ∈ WALL := mW 763 (by decide +kernel) rfl
theorem mw_764 : Cond.codeWith yL_flight method_18_code 5 (Option.some ClassFile.FieldType.int) [(0, 10, 13, 34)] ∈ WALL := mW 764 (by decide +kernel) rfl
theorem mw_765 : Cond.methodLink "GliderDayLaw" 65 yX3_flight ∈ WALL := mW 765 (by decide +kernel) rfl
theorem mw_766 : Cond.instanceMethod yX3_flight ∈ WALL := mW 766 (by decide +kernel) rfl
theorem mw_767 : Cond.selects "GliderDay" yX3_flight yX3_flight ∈ WALL := mW 767 (by decide +kernel) rfl
theorem mw_768 : Cond.code yX3_flight prog_1_method_18_code 4 (Option.some ClassFile.FieldType.int) ∈ WALL := mW 768 (by decide +kernel) rfl
theorem mw_769 : Cond.methodLink "GliderDayLaw" 144 yL_count ∈ WALL := mW 769 (by decide +kernel) rfl
theorem mw_770 : Cond.static yL_count ∈ WALL := mW 770 (by decide +kernel) rfl
theorem mw_771 : Cond.codeWith yL_count method_19_code 4 (Option.some ClassFile.FieldType.int) [(0, 9, 12, 34)] ∈ WALL := mW 771 (by decide +kernel) rfl
theorem mw_772 : Cond.methodLink "GliderDayLaw" 68 yX3_count ∈ WALL := mW 772 (by decide +kernel) rfl
theorem mw_773 : Cond.instanceMethod yX3_count ∈ WALL := mW 773 (by decide +kernel) rfl
theorem mw_774 : Cond.selects "GliderDay" yX3_count yX3_count ∈ WALL := mW 774 (by decide +kernel) rfl
theorem mw_775 : Cond.code yX3_count prog_1_method_19_code 2 (Option.some ClassFile.FieldType.int) ∈ WALL := mW 775 (by decide +kernel) rfl
theorem mw_777 : Cond.methodLink "GliderDayLaw" 152 yL_bill ∈ WALL := mW 777 (by decide +kernel) rfl
theorem mw_778 : Cond.static yL_bill ∈ WALL := mW 778 (by decide +kernel) rfl
theorem mw_779 : Cond.codeWith yL_bill method_20_code 4 (Option.some ClassFile.FieldType.int) [(0, 9, 12, 34)] ∈ WALL := mW 779 (by decide +kernel) rfl
theorem mw_780 : Cond.methodLink "GliderDayLaw" 71 yX3_bill ∈ WALL := mW 780 (by decide +kernel) rfl
theorem mw_781 : Cond.instanceMethod yX3_bill ∈ WALL := mW 781 (by decide +kernel) rfl
theorem mw_782 : Cond.selects "GliderDay" yX3_bill yX3_bill ∈ WALL := mW 782 (by decide +kernel) rfl
theorem mw_783 : Cond.code yX3_bill prog_1_method_21_code 2 (Option.some ClassFile.FieldType.int) ∈ WALL := mW 783 (by decide +kernel) rfl
theorem mw_784 : Cond.methodLink "GliderDayLaw" 155 yL_pay ∈ WALL := mW 784 (by decide +kernel) rfl
theorem mw_785 : Cond.static yL_pay ∈ WALL := mW 785 (by decide +kernel) rfl
theorem mw_786 : Cond.codeWith yL_pay method_21_code 5 (Option.some ClassFile.FieldType.int) [(0, 10, 13, 34), (0, 10, 17, 13)] ∈ WALL := mW 786 (by decide +kernel) rfl
theorem mw_787 : Cond.methodLink "GliderDayLaw" 74 yX3_pay ∈ WALL := mW 787 (by decide +kernel) rfl
theorem mw_788 : Cond.instanceMethod yX3_pay ∈ WALL := mW 788 (by decide +kernel) rfl
theorem mw_789 : Cond.selects "GliderDay" yX3_pay yX3_pay ∈ WALL := mW 789 (by decide +kernel) rfl
theorem mw_790 : Cond.code yX3_pay prog_1_method_22_code 4 (Option.some ClassFile.FieldType.int) ∈ WALL := mW 790 (by decide +kernel) rfl
theorem mw_791 : Cond.constant "GliderDay" 229 100000 ∈ WALL := mW 791 (by decide +kernel) rfl
theorem mw_793 : Cond.classLink "GliderDayLaw" 78 "GliderDayModel" ∈ WALL := mW 793 (by decide +kernel) rfl
theorem mw_794 : Cond.instantiable "GliderDayModel" 30 ∈ WALL := mW 794 (by decide +kernel) rfl
theorem mw_795 : Cond.methodLink "GliderDayLaw" 80 yX4_init ∈ WALL := mW 795 (by decide +kernel) rfl
theorem mw_796 : Cond.instanceMethod yX4_init ∈ WALL := mW 796 (by decide +kernel) rfl
theorem mw_797 : Cond.code yX4_init prog_6_method_1_code 1 Option.none ∈ WALL := mW 797 (by decide +kernel) rfl
theorem mw_798 : Cond.methodLink "GliderDayModel" 1 (⟨"java/lang/Object", "<init>", "()V"⟩ : MethodName) ∈ WALL := mW 798 (by decide +kernel) rfl
theorem mw_799 : Cond.fieldLink "GliderDayModel" 78 "GliderDayModel" "thrown" "I" ∈ WALL := mW 799 (by decide +kernel) rfl
theorem mw_800 : Cond.fieldLink "GliderDayModel" 131 "GliderDayModel" "now" "I" ∈ WALL := mW 800 (by decide +kernel) rfl
theorem mw_801 : Cond.fieldLink "GliderDayModel" 7 "GliderDayModel" "wind" "I" ∈ WALL := mW 801 (by decide +kernel) rfl
theorem mw_802 : Cond.fieldLink "GliderDayModel" 13 "GliderDayModel" "sunset" "I" ∈ WALL := mW 802 (by decide +kernel) rfl
theorem mw_803 : Cond.fieldLink "GliderDayModel" 140 "GliderDayModel" "busyUntil" "I" ∈ WALL := mW 803 (by decide +kernel) rfl
theorem mw_804 : Cond.fieldLink "GliderDayModel" 16 "GliderDayModel" "cables" "I" ∈ WALL := mW 804 (by decide +kernel) rfl
theorem mw_805 : Cond.fieldLink "GliderDayModel" 153 "GliderDayModel" "cablesAt" "I" ∈ WALL := mW 805 (by decide +kernel) rfl
theorem mw_806 : Cond.fieldLink "GliderDayModel" 19 "GliderDayModel" "tugs" "I" ∈ WALL := mW 806 (by decide +kernel) rfl
theorem mw_807 : Cond.fieldLink "GliderDayModel" 22 "GliderDayModel" "tugUntil" "[I" ∈ WALL := mW 807 (by decide +kernel) rfl
theorem mw_808 : Cond.fieldLink "GliderDayModel" 81 "GliderDayModel" "members" "I" ∈ WALL := mW 808 (by decide +kernel) rfl
theorem mw_809 : Cond.fieldLink "GliderDayModel" 26 "GliderDayModel" "levels" "[I" ∈ WALL := mW 809 (by decide +kernel) rfl
theorem mw_810 : Cond.fieldLink "GliderDayModel" 29 "GliderDayModel" "paid" "[I" ∈ WALL := mW 810 (by decide +kernel) rfl
theorem mw_811 : Cond.fieldLink "GliderDayModel" 88 "GliderDayModel" "gliders" "I" ∈ WALL := mW 811 (by decide +kernel) rfl
theorem mw_812 : Cond.fieldLink "GliderDayModel" 32 "GliderDayModel" "seats" "[I" ∈ WALL := mW 812 (by decide +kernel) rfl
theorem mw_813 : Cond.fieldLink "GliderDayModel" 35 "GliderDayModel" "rates" "[I" ∈ WALL := mW 813 (by decide +kernel) rfl
theorem mw_814 : Cond.fieldLink "GliderDayModel" 38 "GliderDayModel" "limits" "[I" ∈ WALL := mW 814 (by decide +kernel) rfl
theorem mw_815 : Cond.fieldLink "GliderDayModel" 41 "GliderDayModel" "areBarred" "[Z" ∈ WALL := mW 815 (by decide +kernel) rfl
theorem mw_816 : Cond.fieldLink "GliderDayModel" 45 "GliderDayModel" "areCalled" "[Z" ∈ WALL := mW 816 (by decide +kernel) rfl
theorem mw_817 : Cond.fieldLink "GliderDayModel" 48 "GliderDayModel" "waits" "[I" ∈ WALL := mW 817 (by decide +kernel) rfl
theorem mw_818 : Cond.fieldLink "GliderDayModel" 156 "GliderDayModel" "lastWait" "I" ∈ WALL := mW 818 (by decide +kernel) rfl
theorem mw_819 : Cond.fieldLink "GliderDayModel" 91 "GliderDayModel" "flights" "I" ∈ WALL := mW 819 (by decide +kernel) rfl
theorem mw_820 : Cond.fieldLink "GliderDayModel" 51 "GliderDayModel" "flyers" "[I" ∈ WALL := mW 820 (by decide +kernel) rfl
theorem mw_821 : Cond.fieldLink "GliderDayModel" 54 "GliderDayModel" "seconds" "[I" ∈ WALL := mW 821 (by decide +kernel) rfl
theorem mw_822 : Cond.fieldLink "GliderDayModel" 57 "GliderDayModel" "ships" "[I" ∈ WALL := mW 822 (by decide +kernel) rfl
theorem mw_823 : Cond.fieldLink "GliderDayModel" 60 "GliderDayModel" "heights" "[I" ∈ WALL := mW 823 (by decide +kernel) rfl
theorem mw_824 : Cond.fieldLink "GliderDayModel" 63 "GliderDayModel" "lengths" "[I" ∈ WALL := mW 824 (by decide +kernel) rfl
theorem mw_825 : Cond.fieldLink "GliderDayModel" 66 "GliderDayModel" "asked" "[I" ∈ WALL := mW 825 (by decide +kernel) rfl
theorem mw_826 : Cond.fieldLink "GliderDayModel" 69 "GliderDayModel" "begins" "[I" ∈ WALL := mW 826 (by decide +kernel) rfl
theorem mw_827 : Cond.fieldLink "GliderDayModel" 72 "GliderDayModel" "landings" "[I" ∈ WALL := mW 827 (by decide +kernel) rfl
theorem mw_828 : Cond.fieldLink "GliderDayModel" 75 "GliderDayModel" "states" "[I" ∈ WALL := mW 828 (by decide +kernel) rfl
theorem mw_829 : Cond.lays "GliderDayModel" "GliderDayModel" "thrown" "I" ∈ WALL := mW 829 (by decide +kernel) rfl
theorem mw_831 : Cond.lays "GliderDayModel" "GliderDayModel" "now" "I" ∈ WALL := mW 831 (by decide +kernel) rfl
theorem mw_833 : Cond.lays "GliderDayModel" "GliderDayModel" "wind" "I" ∈ WALL := mW 833 (by decide +kernel) rfl
theorem mw_835 : Cond.lays "GliderDayModel" "GliderDayModel" "sunset" "I" ∈ WALL := mW 835 (by decide +kernel) rfl
theorem mw_837 : Cond.lays "GliderDayModel" "GliderDayModel" "busyUntil" "I" ∈ WALL := mW 837 (by decide +kernel) rfl
theorem mw_839 : Cond.lays "GliderDayModel" "GliderDayModel" "cables" "I" ∈ WALL := mW 839 (by decide +kernel) rfl
theorem mw_841 : Cond.lays "GliderDayModel" "GliderDayModel" "cablesAt" "I" ∈ WALL := mW 841 (by decide +kernel) rfl
theorem mw_843 : Cond.lays "GliderDayModel" "GliderDayModel" "tugs" "I" ∈ WALL := mW 843 (by decide +kernel) rfl
theorem mw_845 : Cond.laysFinal "GliderDayModel" "GliderDayModel" "tugUntil" "[I" ∈ WALL := mW 845 (by decide +kernel) rfl
theorem mw_847 : Cond.lays "GliderDayModel" "GliderDayModel" "members" "I" ∈ WALL := mW 847 (by decide +kernel) rfl
theorem mw_849 : Cond.laysFinal "GliderDayModel" "GliderDayModel" "levels" "[I" ∈ WALL := mW 849 (by decide +kernel) rfl
theorem mw_851 : Cond.laysFinal "GliderDayModel" "GliderDayModel" "paid" "[I" ∈ WALL := mW 851 (by decide +kernel) rfl
theorem mw_853 : Cond.lays "GliderDayModel" "GliderDayModel" "gliders" "I" ∈ WALL := mW 853 (by decide +kernel) rfl
theorem mw_855 : Cond.laysFinal "GliderDayModel" "GliderDayModel" "seats" "[I" ∈ WALL := mW 855 (by decide +kernel) rfl
theorem mw_857 : Cond.laysFinal "GliderDayModel" "GliderDayModel" "rates" "[I" ∈ WALL := mW 857 (by decide +kernel) rfl
theorem mw_859 : Cond.laysFinal "GliderDayModel" "GliderDayModel" "limits" "[I" ∈ WALL := mW 859 (by decide +kernel) rfl
theorem mw_861 : Cond.laysFinal "GliderDayModel" "GliderDayModel" "areBarred" "[Z" ∈ WALL := mW 861 (by decide +kernel) rfl
theorem mw_863 : Cond.laysFinal "GliderDayModel" "GliderDayModel" "areCalled" "[Z" ∈ WALL := mW 863 (by decide +kernel) rfl
theorem mw_865 : Cond.laysFinal "GliderDayModel" "GliderDayModel" "waits" "[I" ∈ WALL := mW 865 (by decide +kernel) rfl
theorem mw_867 : Cond.lays "GliderDayModel" "GliderDayModel" "lastWait" "I" ∈ WALL := mW 867 (by decide +kernel) rfl
theorem mw_869 : Cond.lays "GliderDayModel" "GliderDayModel" "flights" "I" ∈ WALL := mW 869 (by decide +kernel) rfl
theorem mw_871 : Cond.laysFinal "GliderDayModel" "GliderDayModel" "flyers" "[I" ∈ WALL := mW 871 (by decide +kernel) rfl
theorem mw_873 : Cond.laysFinal "GliderDayModel" "GliderDayModel" "seconds" "[I" ∈ WALL := mW 873 (by decide +kernel) rfl
theorem mw_875 : Cond.laysFinal "GliderDayModel" "GliderDayModel" "ships" "[I" ∈ WALL := mW 875 (by decide +kernel) rfl
theorem mw_877 : Cond.laysFinal "GliderDayModel" "GliderDayModel" "heights" "[I" ∈ WALL := mW 877 (by decide +kernel) rfl
theorem mw_879 : Cond.laysFinal "GliderDayModel" "GliderDayModel" "lengths" "[I" ∈ WALL := mW 879 (by decide +kernel) rfl
theorem mw_881 : Cond.laysFinal "GliderDayModel" "GliderDayModel" "asked" "[I" ∈ WALL := mW 881 (by decide +kernel) rfl
theorem mw_883 : Cond.laysFinal "GliderDayModel" "GliderDayModel" "begins" "[I" ∈ WALL := mW 883 (by decide +kernel) rfl
theorem mw_885 : Cond.laysFinal "GliderDayModel" "GliderDayModel" "landings" "[I" ∈ WALL := mW 885 (by decide +kernel) rfl
theorem mw_887 : Cond.laysFinal "GliderDayModel" "GliderDayModel" "states" "[I" ∈ WALL := mW 887 (by decide +kernel) rfl
theorem mw_889 : Cond.superclass "GliderDayModel" "java/lang/Object" ∈ WALL := mW 889 (by decide +kernel) rfl
theorem mw_890 : Cond.arrayClass ClassFile.FieldType.boolean ∈ WALL := mW 890 (by decide +kernel) rfl
theorem mw_891 : Cond.methodLink "GliderDayLaw" 87 yX4_thrown ∈ WALL := mW 891 (by decide +kernel) rfl
theorem mw_892 : Cond.instanceMethod yX4_thrown ∈ WALL := mW 892 (by decide +kernel) rfl
theorem mw_893 : Cond.selects "GliderDayModel" yX4_thrown yX4_thrown ∈ WALL := mW 893 (by decide +kernel) rfl
theorem mw_894 : Cond.code yX4_thrown prog_6_method_2_code 1 (Option.some ClassFile.FieldType.int) ∈ WALL := mW 894 (by decide +kernel) rfl
theorem mw_895 : Cond.methodLink "GliderDayLaw" 86 yX4_addMember ∈ WALL := mW 895 (by decide +kernel) rfl
theorem mw_896 : Cond.instanceMethod yX4_addMember ∈ WALL := mW 896 (by decide +kernel) rfl
theorem mw_897 : Cond.selects "GliderDayModel" yX4_addMember yX4_addMember ∈ WALL := mW 897 (by decide +kernel) rfl
theorem mw_898 : Cond.code yX4_addMember prog_6_method_8_code 2 (Option.some ClassFile.FieldType.int) ∈ WALL := mW 898 (by decide +kernel) rfl
theorem mw_899 : Cond.methodLink "GliderDayModel" 84 yX4_isIn ∈ WALL := mW 899 (by decide +kernel) rfl
theorem mw_900 : Cond.static yX4_isIn ∈ WALL := mW 900 (by decide +kernel) rfl
theorem mw_901 : Cond.code yX4_isIn prog_6_method_4_code 3 (Option.some ClassFile.FieldType.boolean) ∈ WALL := mW 901 (by decide +kernel) rfl
theorem mw_902 : Cond.methodLink "GliderDayModel" 94 yX4_no ∈ WALL := mW 902 (by decide +kernel) rfl
theorem mw_904 : Cond.instanceMethod yX4_no ∈ WALL := mW 904 (by decide +kernel) rfl
theorem mw_905 : Cond.code yX4_no prog_6_method_3_code 2 (Option.some ClassFile.FieldType.int) ∈ WALL := mW 905 (by decide +kernel) rfl
theorem mw_906 : Cond.methodLink "GliderDayLaw" 94 yX4_addGlider ∈ WALL := mW 906 (by decide +kernel) rfl
theorem mw_907 : Cond.instanceMethod yX4_addGlider ∈ WALL := mW 907 (by decide +kernel) rfl
theorem mw_908 : Cond.selects "GliderDayModel" yX4_addGlider yX4_addGlider ∈ WALL := mW 908 (by decide +kernel) rfl
theorem mw_909 : Cond.code yX4_addGlider prog_6_method_9_code 4 (Option.some ClassFile.FieldType.int) ∈ WALL := mW 909 (by decide +kernel) rfl
theorem mw_910 : Cond.methodLink "GliderDayLaw" 97 yX4_setWind ∈ WALL := mW 910 (by decide +kernel) rfl
theorem mw_911 : Cond.instanceMethod yX4_setWind ∈ WALL := mW 911 (by decide +kernel) rfl
theorem mw_912 : Cond.selects "GliderDayModel" yX4_setWind yX4_setWind ∈ WALL := mW 912 (by decide +kernel) rfl
theorem mw_913 : Cond.code yX4_setWind prog_6_method_10_code 3 (Option.some ClassFile.FieldType.int) ∈ WALL := mW 913 (by decide +kernel) rfl
theorem mw_914 : Cond.methodLink "GliderDayLaw" 100 yX4_setSunset ∈ WALL := mW 914 (by decide +kernel) rfl
theorem mw_915 : Cond.instanceMethod yX4_setSunset ∈ WALL := mW 915 (by decide +kernel) rfl
theorem mw_916 : Cond.selects "GliderDayModel" yX4_setSunset yX4_setSunset ∈ WALL := mW 916 (by decide +kernel) rfl
theorem mw_917 : Cond.code yX4_setSunset prog_6_method_11_code 3 (Option.some ClassFile.FieldType.int) ∈ WALL := mW 917 (by decide +kernel) rfl
theorem mw_918 : Cond.methodLink "GliderDayLaw" 103 yX4_setTugs ∈ WALL := mW 918 (by decide +kernel) rfl
theorem mw_919 : Cond.instanceMethod yX4_setTugs ∈ WALL := mW 919 (by decide +kernel) rfl
theorem mw_920 : Cond.selects "GliderDayModel" yX4_setTugs yX4_setTugs ∈ WALL := mW 920 (by decide +kernel) rfl
theorem mw_921 : Cond.code yX4_setTugs prog_6_method_13_code 2 (Option.some ClassFile.FieldType.int) ∈ WALL := mW 921 (by decide +kernel) rfl
theorem mw_922 : Cond.methodLink "GliderDayModel" 98 yX4_takenTugs ∈ WALL := mW 922 (by decide +kernel) rfl
theorem mw_924 : Cond.instanceMethod yX4_takenTugs ∈ WALL := mW 924 (by decide +kernel) rfl
theorem mw_925 : Cond.code yX4_takenTugs prog_6_method_12_code 1 (Option.some ClassFile.FieldType.int) ∈ WALL := mW 925 (by decide +kernel) rfl
theorem mw_926 : Cond.methodLink "GliderDayLaw" 107 yX4_bar ∈ WALL := mW 926 (by decide +kernel) rfl
theorem mw_927 : Cond.instanceMethod yX4_bar ∈ WALL := mW 927 (by decide +kernel) rfl
theorem mw_928 : Cond.selects "GliderDayModel" yX4_bar yX4_bar ∈ WALL := mW 928 (by decide +kernel) rfl
theorem mw_929 : Cond.code yX4_bar prog_6_method_16_code 4 (Option.some ClassFile.FieldType.boolean) ∈ WALL := mW 929 (by decide +kernel) rfl
theorem mw_930 : Cond.methodLink "GliderDayModel" 102 yX4_isGlider ∈ WALL := mW 930 (by decide +kernel) rfl
theorem mw_932 : Cond.instanceMethod yX4_isGlider ∈ WALL := mW 932 (by decide +kernel) rfl
theorem mw_933 : Cond.code yX4_isGlider prog_6_method_6_code 2 (Option.some ClassFile.FieldType.boolean) ∈ WALL := mW 933 (by decide +kernel) rfl
theorem mw_934 : Cond.methodLink "GliderDayModel" 106 yX4_flightOf ∈ WALL := mW 934 (by decide +kernel) rfl
theorem mw_936 : Cond.instanceMethod yX4_flightOf ∈ WALL := mW 936 (by decide +kernel) rfl
theorem mw_937 : Cond.code yX4_flightOf prog_6_method_14_code 3 (Option.some ClassFile.FieldType.int) ∈ WALL := mW 937 (by decide +kernel) rfl
theorem mw_938 : Cond.methodLink "GliderDayLaw" 110 yX4_promote ∈ WALL := mW 938 (by decide +kernel) rfl
theorem mw_939 : Cond.instanceMethod yX4_promote ∈ WALL := mW 939 (by decide +kernel) rfl
theorem mw_940 : Cond.selects "GliderDayModel" yX4_promote yX4_promote ∈ WALL := mW 940 (by decide +kernel) rfl
theorem mw_941 : Cond.code yX4_promote prog_6_method_19_code 3 (Option.some ClassFile.FieldType.int) ∈ WALL := mW 941 (by decide +kernel) rfl
theorem mw_942 : Cond.methodLink "GliderDayModel" 112 yX4_isMember ∈ WALL := mW 942 (by decide +kernel) rfl
theorem mw_944 : Cond.instanceMethod yX4_isMember ∈ WALL := mW 944 (by decide +kernel) rfl
theorem mw_945 : Cond.code yX4_isMember prog_6_method_5_code 2 (Option.some ClassFile.FieldType.boolean) ∈ WALL := mW 945 (by decide +kernel) rfl
theorem mw_946 : Cond.methodLink "GliderDayModel" 115 yX4_landed ∈ WALL := mW 946 (by decide +kernel) rfl
theorem mw_948 : Cond.instanceMethod yX4_landed ∈ WALL := mW 948 (by decide +kernel) rfl
theorem mw_949 : Cond.code yX4_landed prog_6_method_18_code 6 (Option.some ClassFile.FieldType.int) ∈ WALL := mW 949 (by decide +kernel) rfl
theorem mw_950 : Cond.methodLink "GliderDayModel" 109 yX4_withTeacher ∈ WALL := mW 950 (by decide +kernel) rfl
theorem mw_952 : Cond.instanceMethod yX4_withTeacher ∈ WALL := mW 952 (by decide +kernel) rfl
theorem mw_953 : Cond.code yX4_withTeacher prog_6_method_17_code 2 (Option.some ClassFile.FieldType.boolean) ∈ WALL := mW 953 (by decide +kernel) rfl
theorem mw_954 : Cond.methodLink "GliderDayModel" 119 yX4_flies ∈ WALL := mW 954 (by decide +kernel) rfl
theorem mw_956 : Cond.instanceMethod yX4_flies ∈ WALL := mW 956 (by decide +kernel) rfl
theorem mw_957 : Cond.code yX4_flies prog_6_method_15_code 4 (Option.some ClassFile.FieldType.boolean) ∈ WALL := mW 957 (by decide +kernel) rfl
theorem mw_958 : Cond.methodLink "GliderDayLaw" 114 yX4_member ∈ WALL := mW 958 (by decide +kernel) rfl
theorem mw_959 : Cond.instanceMethod yX4_member ∈ WALL := mW 959 (by decide +kernel) rfl
theorem mw_960 : Cond.selects "GliderDayModel" yX4_member yX4_member ∈ WALL := mW 960 (by decide +kernel) rfl
theorem mw_961 : Cond.code yX4_member prog_6_method_21_code 3 (Option.some ClassFile.FieldType.int) ∈ WALL := mW 961 (by decide +kernel) rfl
theorem mw_962 : Cond.methodLink "GliderDayModel" 122 yX4_toldOfMember ∈ WALL := mW 962 (by decide +kernel) rfl
theorem mw_964 : Cond.instanceMethod yX4_toldOfMember ∈ WALL := mW 964 (by decide +kernel) rfl
theorem mw_965 : Cond.code yX4_toldOfMember prog_6_method_20_code 3 (Option.some ClassFile.FieldType.int) ∈ WALL := mW 965 (by decide +kernel) rfl
theorem mw_966 : Cond.methodLink "GliderDayLaw" 117 yX4_glider ∈ WALL := mW 966 (by decide +kernel) rfl
theorem mw_967 : Cond.instanceMethod yX4_glider ∈ WALL := mW 967 (by decide +kernel) rfl
theorem mw_968 : Cond.selects "GliderDayModel" yX4_glider yX4_glider ∈ WALL := mW 968 (by decide +kernel) rfl
theorem mw_969 : Cond.code yX4_glider prog_6_method_23_code 3 (Option.some ClassFile.FieldType.int) ∈ WALL := mW 969 (by decide +kernel) rfl
theorem mw_970 : Cond.methodLink "GliderDayModel" 125 yX4_toldOfGlider ∈ WALL := mW 970 (by decide +kernel) rfl
theorem mw_972 : Cond.instanceMethod yX4_toldOfGlider ∈ WALL := mW 972 (by decide +kernel) rfl
theorem mw_973 : Cond.code yX4_toldOfGlider prog_6_method_22_code 5 (Option.some ClassFile.FieldType.int) ∈ WALL := mW 973 (by decide +kernel) rfl
theorem mw_974 : Cond.methodLink "GliderDayLaw" 121 yX4_ask ∈ WALL := mW 974 (by decide +kernel) rfl
theorem mw_975 : Cond.instanceMethod yX4_ask ∈ WALL := mW 975 (by decide +kernel) rfl
theorem mw_976 : Cond.selects "GliderDayModel" yX4_ask yX4_ask ∈ WALL := mW 976 (by decide +kernel) rfl
theorem mw_977 : Cond.code yX4_ask prog_6_method_25_code 6 (Option.some ClassFile.FieldType.int) ∈ WALL := mW 977 (by decide +kernel) rfl
theorem mw_978 : Cond.methodLink "GliderDayModel" 128 yX4_with ∈ WALL := mW 978 (by decide +kernel) rfl
theorem mw_980 : Cond.instanceMethod yX4_with ∈ WALL := mW 980 (by decide +kernel) rfl
theorem mw_981 : Cond.code yX4_with prog_6_method_24_code 4 (Option.some ClassFile.FieldType.int) ∈ WALL := mW 981 (by decide +kernel) rfl
theorem mw_982 : Cond.methodLink "GliderDayLaw" 124 yX4_drop ∈ WALL := mW 982 (by decide +kernel) rfl
theorem mw_983 : Cond.instanceMethod yX4_drop ∈ WALL := mW 983 (by decide +kernel) rfl
theorem mw_984 : Cond.selects "GliderDayModel" yX4_drop yX4_drop ∈ WALL := mW 984 (by decide +kernel) rfl
theorem mw_985 : Cond.code yX4_drop prog_6_method_27_code 2 (Option.some ClassFile.FieldType.int) ∈ WALL := mW 985 (by decide +kernel) rfl
theorem mw_986 : Cond.methodLink "GliderDayModel" 134 yX4_isFlight ∈ WALL := mW 986 (by decide +kernel) rfl
theorem mw_988 : Cond.instanceMethod yX4_isFlight ∈ WALL := mW 988 (by decide +kernel) rfl
theorem mw_989 : Cond.code yX4_isFlight prog_6_method_7_code 2 (Option.some ClassFile.FieldType.boolean) ∈ WALL := mW 989 (by decide +kernel) rfl
theorem mw_990 : Cond.methodLink "GliderDayModel" 137 yX4_place ∈ WALL := mW 990 (by decide +kernel) rfl
theorem mw_992 : Cond.instanceMethod yX4_place ∈ WALL := mW 992 (by decide +kernel) rfl
theorem mw_993 : Cond.code yX4_place prog_6_method_26_code 4 (Option.some ClassFile.FieldType.int) ∈ WALL := mW 993 (by decide +kernel) rfl
theorem mw_994 : Cond.methodLink "GliderDayLaw" 127 yX4_list ∈ WALL := mW 994 (by decide +kernel) rfl
theorem mw_995 : Cond.instanceMethod yX4_list ∈ WALL := mW 995 (by decide +kernel) rfl
theorem mw_996 : Cond.selects "GliderDayModel" yX4_list yX4_list ∈ WALL := mW 996 (by decide +kernel) rfl
theorem mw_997 : Cond.code yX4_list prog_6_method_28_code 3 (Option.some ClassFile.FieldType.int) ∈ WALL := mW 997 (by decide +kernel) rfl
theorem mw_998 : Cond.methodLink "GliderDayLaw" 130 yX4_reason ∈ WALL := mW 998 (by decide +kernel) rfl
theorem mw_999 : Cond.instanceMethod yX4_reason ∈ WALL := mW 999 (by decide +kernel) rfl
theorem mw_1000 : Cond.selects "GliderDayModel" yX4_reason yX4_reason ∈ WALL := mW 1000 (by decide +kernel) rfl
theorem mw_1001 : Cond.code yX4_reason prog_6_method_32_code 2 (Option.some ClassFile.FieldType.int) ∈ WALL := mW 1001 (by decide +kernel) rfl
theorem mw_1002 : Cond.methodLink "GliderDayModel" 150 yX4_reasonOf ∈ WALL := mW 1002 (by decide +kernel) rfl
theorem mw_1004 : Cond.instanceMethod yX4_reasonOf ∈ WALL := mW 1004 (by decide +kernel) rfl
theorem mw_1005 : Cond.code yX4_reasonOf prog_6_method_31_code 4 (Option.some ClassFile.FieldType.int) ∈ WALL := mW 1005 (by decide +kernel) rfl
theorem mw_1006 : Cond.methodLink "GliderDayModel" 143 yX4_windOf ∈ WALL := mW 1006 (by decide +kernel) rfl
theorem mw_1007 : Cond.static yX4_windOf ∈ WALL := mW 1007 (by decide +kernel) rfl
theorem mw_1008 : Cond.code yX4_windOf prog_6_method_30_code 1 (Option.some ClassFile.FieldType.int) ∈ WALL := mW 1008 (by decide +kernel) rfl
theorem mw_1009 : Cond.methodLink "GliderDayModel" 146 yX4_isBusyNow ∈ WALL := mW 1009 (by decide +kernel) rfl
theorem mw_1011 : Cond.instanceMethod yX4_isBusyNow ∈ WALL := mW 1011 (by decide +kernel) rfl
theorem mw_1012 : Cond.code yX4_isBusyNow prog_6_method_29_code 1 (Option.some ClassFile.FieldType.boolean) ∈ WALL := mW 1012 (by decide +kernel) rfl
theorem mw_1013 : Cond.methodLink "GliderDayLaw" 133 yX4_call ∈ WALL := mW 1013 (by decide +kernel) rfl
theorem mw_1014 : Cond.instanceMethod yX4_call ∈ WALL := mW 1014 (by decide +kernel) rfl
theorem mw_1015 : Cond.selects "GliderDayModel" yX4_call yX4_call ∈ WALL := mW 1015 (by decide +kernel) rfl
theorem mw_1016 : Cond.code yX4_call prog_6_method_33_code 3 (Option.some ClassFile.FieldType.int) ∈ WALL := mW 1016 (by decide +kernel) rfl
theorem mw_1017 : Cond.methodLink "GliderDayLaw" 136 yX4_tick ∈ WALL := mW 1017 (by decide +kernel) rfl
theorem mw_1018 : Cond.instanceMethod yX4_tick ∈ WALL := mW 1018 (by decide +kernel) rfl
theorem mw_1019 : Cond.selects "GliderDayModel" yX4_tick yX4_tick ∈ WALL := mW 1019 (by decide +kernel) rfl
theorem mw_1020 : Cond.code yX4_tick prog_6_method_37_code 4 (Option.some ClassFile.FieldType.int) ∈ WALL := mW 1020 (by decide +kernel) rfl
theorem mw_1021 : Cond.methodLink "GliderDayModel" 166 yX4_minute ∈ WALL := mW 1021 (by decide +kernel) rfl
theorem mw_1023 : Cond.instanceMethod yX4_minute ∈ WALL := mW 1023 (by decide +kernel) rfl
theorem mw_1024 : Cond.code yX4_minute prog_6_method_36_code 3 (Option.some ClassFile.FieldType.boolean) ∈ WALL := mW 1024 (by decide +kernel) rfl
theorem mw_1025 : Cond.methodLink "GliderDayModel" 159 yX4_land ∈ WALL := mW 1025 (by decide +kernel) rfl
theorem mw_1027 : Cond.instanceMethod yX4_land ∈ WALL := mW 1027 (by decide +kernel) rfl
theorem mw_1028 : Cond.code yX4_land prog_6_method_35_code 3 Option.none ∈ WALL := mW 1028 (by decide +kernel) rfl
theorem mw_1029 : Cond.methodLink "GliderDayModel" 163 yX4_begin ∈ WALL := mW 1029 (by decide +kernel) rfl
theorem mw_1031 : Cond.instanceMethod yX4_begin ∈ WALL := mW 1031 (by decide +kernel) rfl
theorem mw_1032 : Cond.code yX4_begin prog_6_method_34_code 3 Option.none ∈ WALL := mW 1032 (by decide +kernel) rfl
theorem mw_1033 : Cond.methodLink "GliderDayLaw" 140 yX4_now ∈ WALL := mW 1033 (by decide +kernel) rfl
theorem mw_1034 : Cond.instanceMethod yX4_now ∈ WALL := mW 1034 (by decide +kernel) rfl
theorem mw_1035 : Cond.selects "GliderDayModel" yX4_now yX4_now ∈ WALL := mW 1035 (by decide +kernel) rfl
theorem mw_1036 : Cond.code yX4_now prog_6_method_38_code 1 (Option.some ClassFile.FieldType.int) ∈ WALL := mW 1036 (by decide +kernel) rfl
theorem mw_1037 : Cond.methodLink "GliderDayLaw" 143 yX4_flight ∈ WALL := mW 1037 (by decide +kernel) rfl
theorem mw_1038 : Cond.instanceMethod yX4_flight ∈ WALL := mW 1038 (by decide +kernel) rfl
theorem mw_1039 : Cond.selects "GliderDayModel" yX4_flight yX4_flight ∈ WALL := mW 1039 (by decide +kernel) rfl
theorem mw_1040 : Cond.code yX4_flight prog_6_method_41_code 3 (Option.some ClassFile.FieldType.int) ∈ WALL := mW 1040 (by decide +kernel) rfl
theorem mw_1041 : Cond.methodLink "GliderDayModel" 177 yX4_toldOf ∈ WALL := mW 1041 (by decide +kernel) rfl
theorem mw_1043 : Cond.instanceMethod yX4_toldOf ∈ WALL := mW 1043 (by decide +kernel) rfl
theorem mw_1044 : Cond.code yX4_toldOf prog_6_method_40_code 4 (Option.some ClassFile.FieldType.int) ∈ WALL := mW 1044 (by decide +kernel) rfl
theorem mw_1045 : Cond.methodLink "GliderDayModel" 174 yX4_costOf ∈ WALL := mW 1045 (by decide +kernel) rfl
theorem mw_1047 : Cond.instanceMethod yX4_costOf ∈ WALL := mW 1047 (by decide +kernel) rfl
theorem mw_1048 : Cond.code yX4_costOf prog_6_method_39_code 2 (Option.some ClassFile.FieldType.int) ∈ WALL := mW 1048 (by decide +kernel) rfl
theorem mw_1049 : Cond.methodLink "GliderDayModel" 169 yJ9_min_7cf53 ∈ WALL := mW 1049 (by decide +kernel) rfl
theorem mw_1050 : Cond.methodLink "GliderDayLaw" 146 yX4_count ∈ WALL := mW 1050 (by decide +kernel) rfl
theorem mw_1051 : Cond.instanceMethod yX4_count ∈ WALL := mW 1051 (by decide +kernel) rfl
theorem mw_1052 : Cond.selects "GliderDayModel" yX4_count yX4_count ∈ WALL := mW 1052 (by decide +kernel) rfl
theorem mw_1053 : Cond.code yX4_count prog_6_method_43_code 2 (Option.some ClassFile.FieldType.int) ∈ WALL := mW 1053 (by decide +kernel) rfl
theorem mw_1054 : Cond.methodLink "GliderDayModel" 180 yX4_counted ∈ WALL := mW 1054 (by decide +kernel) rfl
theorem mw_1056 : Cond.instanceMethod yX4_counted ∈ WALL := mW 1056 (by decide +kernel) rfl
theorem mw_1057 : Cond.code yX4_counted prog_6_method_42_code 7 (Option.some ClassFile.FieldType.int) ∈ WALL := mW 1057 (by decide +kernel) rfl
theorem mw_1058 : Cond.methodLink "GliderDayLaw" 151 yX4_isBusy ∈ WALL := mW 1058 (by decide +kernel) rfl
theorem mw_1059 : Cond.instanceMethod yX4_isBusy ∈ WALL := mW 1059 (by decide +kernel) rfl
theorem mw_1060 : Cond.selects "GliderDayModel" yX4_isBusy yX4_isBusy ∈ WALL := mW 1060 (by decide +kernel) rfl
theorem mw_1061 : Cond.code yX4_isBusy prog_6_method_44_code 1 (Option.some ClassFile.FieldType.boolean) ∈ WALL := mW 1061 (by decide +kernel) rfl
theorem mw_1062 : Cond.methodLink "GliderDayLaw" 154 yX4_bill ∈ WALL := mW 1062 (by decide +kernel) rfl
theorem mw_1063 : Cond.instanceMethod yX4_bill ∈ WALL := mW 1063 (by decide +kernel) rfl
theorem mw_1064 : Cond.selects "GliderDayModel" yX4_bill yX4_bill ∈ WALL := mW 1064 (by decide +kernel) rfl
theorem mw_1065 : Cond.code yX4_bill prog_6_method_46_code 2 (Option.some ClassFile.FieldType.int) ∈ WALL := mW 1065 (by decide +kernel) rfl
theorem mw_1066 : Cond.methodLink "GliderDayModel" 183 yX4_billOf ∈ WALL := mW 1066 (by decide +kernel) rfl
theorem mw_1068 : Cond.instanceMethod yX4_billOf ∈ WALL := mW 1068 (by decide +kernel) rfl
theorem mw_1069 : Cond.code yX4_billOf prog_6_method_45_code 4 (Option.some ClassFile.FieldType.int) ∈ WALL := mW 1069 (by decide +kernel) rfl
theorem mw_1070 : Cond.methodLink "GliderDayLaw" 157 yX4_pay ∈ WALL := mW 1070 (by decide +kernel) rfl
theorem mw_1071 : Cond.instanceMethod yX4_pay ∈ WALL := mW 1071 (by decide +kernel) rfl
theorem mw_1072 : Cond.selects "GliderDayModel" yX4_pay yX4_pay ∈ WALL := mW 1072 (by decide +kernel) rfl
theorem mw_1073 : Cond.code yX4_pay prog_6_method_47_code 3 (Option.some ClassFile.FieldType.int) ∈ WALL := mW 1073 (by decide +kernel) rfl
theorem mw_1074 : Cond.constant "GliderDayModel" 186 100000 ∈ WALL := mW 1074 (by decide +kernel) rfl
theorem mw_1075 : Cond.methodLink "GliderDayLaw" 161 yX4_income ∈ WALL := mW 1075 (by decide +kernel) rfl
theorem mw_1076 : Cond.instanceMethod yX4_income ∈ WALL := mW 1076 (by decide +kernel) rfl
theorem mw_1077 : Cond.selects "GliderDayModel" yX4_income yX4_income ∈ WALL := mW 1077 (by decide +kernel) rfl
theorem mw_1078 : Cond.code yX4_income prog_6_method_48_code 3 (Option.some ClassFile.FieldType.int) ∈ WALL := mW 1078 (by decide +kernel) rfl
theorem mw_1079 : Cond.methodLink "GliderDayLaw" 165 yX4_longest ∈ WALL := mW 1079 (by decide +kernel) rfl
theorem mw_1080 : Cond.instanceMethod yX4_longest ∈ WALL := mW 1080 (by decide +kernel) rfl
theorem mw_1081 : Cond.selects "GliderDayModel" yX4_longest yX4_longest ∈ WALL := mW 1081 (by decide +kernel) rfl
theorem mw_1082 : Cond.code yX4_longest prog_6_method_49_code 3 (Option.some ClassFile.FieldType.int) ∈ WALL := mW 1082 (by decide +kernel) rfl
theorem mw_1083 : Cond.methodLink "GliderDayLaw" 170 yX4_waited ∈ WALL := mW 1083 (by decide +kernel) rfl
theorem mw_1084 : Cond.instanceMethod yX4_waited ∈ WALL := mW 1084 (by decide +kernel) rfl
theorem mw_1085 : Cond.selects "GliderDayModel" yX4_waited yX4_waited ∈ WALL := mW 1085 (by decide +kernel) rfl
theorem mw_1086 : Cond.code yX4_waited prog_6_method_50_code 4 (Option.some ClassFile.FieldType.double) ∈ WALL := mW 1086 (by decide +kernel) rfl
theorem mw_1087 : Cond.methodLink "GliderDayLaw" 175 yX4_digest ∈ WALL := mW 1087 (by decide +kernel) rfl
theorem mw_1088 : Cond.instanceMethod yX4_digest ∈ WALL := mW 1088 (by decide +kernel) rfl
theorem mw_1089 : Cond.selects "GliderDayModel" yX4_digest yX4_digest ∈ WALL := mW 1089 (by decide +kernel) rfl
theorem mw_1090 : Cond.code yX4_digest prog_6_method_51_code 5 (Option.some ClassFile.FieldType.long) ∈ WALL := mW 1090 (by decide +kernel) rfl
theorem mw_1091 : Cond.constantLong "GliderDayModel" 187 9827 ∈ WALL := mW 1091 (by decide +kernel) rfl
theorem mw_1092 : Cond.constantLong "GliderDayModel" 189 31 ∈ WALL := mW 1092 (by decide +kernel) rfl
theorem mw_1093 : Cond.arrayClass ClassFile.FieldType.long ∈ WALL := mW 1093 (by decide +kernel) rfl
theorem mw_1094 : Cond.sameMethod "java/lang/Throwable" "java/lang/Throwable" "fillInStackTrace" "(I)Ljava/lang/Throwable;" ∈ WALL := mW 1094 (by decide +kernel) rfl
theorem mw_1106 : Cond.sameMethod "[Ljava/lang/Object;" "java/lang/Object" "getClass" "()Ljava/lang/Class;" ∈ WALL := mW 1106 (by decide +kernel) rfl
theorem mw_1107 : Cond.selects "[Ljava/lang/Object;" (⟨"java/lang/Object", "getClass", "()Ljava/lang/Class;"⟩ : MethodName) (⟨"java/lang/Object", "getClass", "()Ljava/lang/Class;"⟩ : MethodName) ∈ WALL := mW 1107 (by decide +kernel) rfl
end
section
theorem dJ9_max_7cf53_0 : decode cJ9_max_7cf53 0 = .ok (.iload_n 0, 1) := by decide +kernel
theorem dJ9_max_7cf53_1 : decode cJ9_max_7cf53 1 = .ok (.iload_n 1, 1) := by decide +kernel
theorem dJ9_max_7cf53_2 : decode cJ9_max_7cf53 2 = .ok (.if_icmp .lt 7, 3) := by decide +kernel
theorem dJ9_max_7cf53_5 : decode cJ9_max_7cf53 5 = .ok (.iload_n 0, 1) := by decide +kernel
theorem dJ9_max_7cf53_6 : decode cJ9_max_7cf53 6 = .ok (.goto 4, 3) := by decide +kernel
theorem dJ9_max_7cf53_9 : decode cJ9_max_7cf53 9 = .ok (.iload_n 1, 1) := by decide +kernel
theorem dJ9_max_7cf53_10 : decode cJ9_max_7cf53 10 = .ok (.ireturn, 1) := by decide +kernel
theorem dJ9_min_7cf53_0 : decode cJ9_min_7cf53 0 = .ok (.iload_n 0, 1) := by decide +kernel
theorem dJ9_min_7cf53_1 : decode cJ9_min_7cf53 1 = .ok (.iload_n 1, 1) := by decide +kernel
theorem dJ9_min_7cf53_2 : decode cJ9_min_7cf53 2 = .ok (.if_icmp .gt 7, 3) := by decide +kernel
theorem dJ9_min_7cf53_5 : decode cJ9_min_7cf53 5 = .ok (.iload_n 0, 1) := by decide +kernel
theorem dJ9_min_7cf53_6 : decode cJ9_min_7cf53 6 = .ok (.goto 4, 3) := by decide +kernel
theorem dJ9_min_7cf53_9 : decode cJ9_min_7cf53 9 = .ok (.iload_n 1, 1) := by decide +kernel
theorem dJ9_min_7cf53_10 : decode cJ9_min_7cf53 10 = .ok (.ireturn, 1) := by decide +kernel
theorem dJxa1e45_init_da8c8_0 : decode cJxa1e45_init_da8c8 0 = .ok (.aload_n 0, 1) := by decide +kernel
theorem dJxa1e45_init_da8c8_1 : decode cJxa1e45_init_da8c8 1 = .ok (.invokespecial 1, 3) := by decide +kernel
theorem dJxa1e45_init_da8c8_4 : decode cJxa1e45_init_da8c8 4 = .ok (.return_, 1) := by decide +kernel
theorem dJxc12de_init_da8c8_0 : decode cJxc12de_init_da8c8 0 = .ok (.aload_n 0, 1) := by decide +kernel
theorem dJxc12de_init_da8c8_1 : decode cJxc12de_init_da8c8 1 = .ok (.invokespecial 1, 3) := by decide +kernel
theorem dJxc12de_init_da8c8_4 : decode cJxc12de_init_da8c8 4 = .ok (.aload_n 0, 1) := by decide +kernel
theorem dJxc12de_init_da8c8_5 : decode cJxc12de_init_da8c8 5 = .ok (.iconst 0, 1) := by decide +kernel
theorem dJxc12de_init_da8c8_6 : decode cJxc12de_init_da8c8 6 = .ok (.putfield 7, 3) := by decide +kernel
theorem dJxc12de_init_da8c8_9 : decode cJxc12de_init_da8c8 9 = .ok (.return_, 1) := by decide +kernel
theorem dJx4a65c_init_da8c8_0 : decode cJx4a65c_init_da8c8 0 = .ok (.aload_n 0, 1) := by decide +kernel
theorem dJx4a65c_init_da8c8_1 : decode cJx4a65c_init_da8c8 1 = .ok (.invokespecial 1, 3) := by decide +kernel
theorem dJx4a65c_init_da8c8_4 : decode cJx4a65c_init_da8c8 4 = .ok (.aload_n 0, 1) := by decide +kernel
theorem dJx4a65c_init_da8c8_5 : decode cJx4a65c_init_da8c8 5 = .ok (.getstatic 39, 3) := by decide +kernel
theorem dJx4a65c_init_da8c8_8 : decode cJx4a65c_init_da8c8 8 = .ok (.putfield 9, 3) := by decide +kernel
theorem dJx4a65c_init_da8c8_11 : decode cJx4a65c_init_da8c8 11 = .ok (.return_, 1) := by decide +kernel
theorem dJx4a65c_grow_92f84_0 : decode cJx4a65c_grow_92f84 0 = .ok (.aload_n 0, 1) := by decide +kernel
theorem dJx4a65c_grow_92f84_1 : decode cJx4a65c_grow_92f84 1 = .ok (.getfield 9, 3) := by decide +kernel
theorem dJx4a65c_grow_92f84_4 : decode cJx4a65c_grow_92f84 4 = .ok (.arraylength, 1) := by decide +kernel
theorem dJx4a65c_grow_92f84_5 : decode cJx4a65c_grow_92f84 5 = .ok (.istore_n 2, 1) := by decide +kernel
theorem dJx4a65c_grow_92f84_6 : decode cJx4a65c_grow_92f84 6 = .ok (.iload_n 2, 1) := by decide +kernel
theorem dJx4a65c_grow_92f84_7 : decode cJx4a65c_grow_92f84 7 = .ok (.ifCond .gt 13, 3) := by decide +kernel
theorem dJx4a65c_grow_92f84_10 : decode cJx4a65c_grow_92f84 10 = .ok (.aload_n 0, 1) := by decide +kernel
theorem dJx4a65c_grow_92f84_11 : decode cJx4a65c_grow_92f84 11 = .ok (.getfield 9, 3) := by decide +kernel
theorem dJx4a65c_grow_92f84_14 : decode cJx4a65c_grow_92f84 14 = .ok (.getstatic 39, 3) := by decide +kernel
theorem dJx4a65c_grow_92f84_17 : decode cJx4a65c_grow_92f84 17 = .ok (.if_acmp .eq 28, 3) := by decide +kernel
theorem dJx4a65c_grow_92f84_20 : decode cJx4a65c_grow_92f84 20 = .ok (.iload_n 2, 1) := by decide +kernel
theorem dJx4a65c_grow_92f84_21 : decode cJx4a65c_grow_92f84 21 = .ok (.iload_n 1, 1) := by decide +kernel
theorem dJx4a65c_grow_92f84_22 : decode cJx4a65c_grow_92f84 22 = .ok (.iload_n 2, 1) := by decide +kernel
theorem dJx4a65c_grow_92f84_23 : decode cJx4a65c_grow_92f84 23 = .ok (.isub, 1) := by decide +kernel
theorem dJx4a65c_grow_92f84_24 : decode cJx4a65c_grow_92f84 24 = .ok (.iload_n 2, 1) := by decide +kernel
theorem dJx4a65c_grow_92f84_25 : decode cJx4a65c_grow_92f84 25 = .ok (.iconst 1, 1) := by decide +kernel
theorem dJx4a65c_grow_92f84_26 : decode cJx4a65c_grow_92f84 26 = .ok (.ishr, 1) := by decide +kernel
theorem dJx4a65c_grow_92f84_27 : decode cJx4a65c_grow_92f84 27 = .ok (.invokestatic 73, 3) := by decide +kernel
theorem dJx4a65c_grow_92f84_30 : decode cJx4a65c_grow_92f84 30 = .ok (.istore_n 3, 1) := by decide +kernel
theorem dJx4a65c_grow_92f84_31 : decode cJx4a65c_grow_92f84 31 = .ok (.aload_n 0, 1) := by decide +kernel
theorem dJx4a65c_grow_92f84_32 : decode cJx4a65c_grow_92f84 32 = .ok (.aload_n 0, 1) := by decide +kernel
theorem dJx4a65c_grow_92f84_33 : decode cJx4a65c_grow_92f84 33 = .ok (.getfield 9, 3) := by decide +kernel
theorem dJx4a65c_grow_92f84_36 : decode cJx4a65c_grow_92f84 36 = .ok (.iload_n 3, 1) := by decide +kernel
theorem dJx4a65c_grow_92f84_37 : decode cJx4a65c_grow_92f84 37 = .ok (.invokestatic 66, 3) := by decide +kernel
theorem dJx4a65c_grow_92f84_40 : decode cJx4a65c_grow_92f84 40 = .ok (.dup_x1, 1) := by decide +kernel
theorem dJx4a65c_grow_92f84_41 : decode cJx4a65c_grow_92f84 41 = .ok (.putfield 9, 3) := by decide +kernel
theorem dJx4a65c_grow_92f84_44 : decode cJx4a65c_grow_92f84 44 = .ok (.areturn, 1) := by decide +kernel
theorem dJx4a65c_grow_92f84_45 : decode cJx4a65c_grow_92f84 45 = .ok (.aload_n 0, 1) := by decide +kernel
theorem dJx4a65c_grow_92f84_46 : decode cJx4a65c_grow_92f84 46 = .ok (.bipush 10, 2) := by decide +kernel
theorem dJx4a65c_grow_92f84_48 : decode cJx4a65c_grow_92f84 48 = .ok (.iload_n 1, 1) := by decide +kernel
theorem dJx4a65c_grow_92f84_49 : decode cJx4a65c_grow_92f84 49 = .ok (.invokestatic 79, 3) := by decide +kernel
theorem dJx4a65c_grow_92f84_52 : decode cJx4a65c_grow_92f84 52 = .ok (.anewarray 7, 3) := by decide +kernel
theorem dJx4a65c_grow_92f84_55 : decode cJx4a65c_grow_92f84 55 = .ok (.dup_x1, 1) := by decide +kernel
theorem dJx4a65c_grow_92f84_56 : decode cJx4a65c_grow_92f84 56 = .ok (.putfield 9, 3) := by decide +kernel
theorem dJx4a65c_grow_92f84_59 : decode cJx4a65c_grow_92f84 59 = .ok (.areturn, 1) := by decide +kernel
theorem dJx4a65c_grow_d5877_0 : decode cJx4a65c_grow_d5877 0 = .ok (.aload_n 0, 1) := by decide +kernel
theorem dJx4a65c_grow_d5877_1 : decode cJx4a65c_grow_d5877 1 = .ok (.aload_n 0, 1) := by decide +kernel
theorem dJx4a65c_grow_d5877_2 : decode cJx4a65c_grow_d5877 2 = .ok (.getfield 48, 3) := by decide +kernel
theorem dJx4a65c_grow_d5877_5 : decode cJx4a65c_grow_d5877 5 = .ok (.iconst 1, 1) := by decide +kernel
theorem dJx4a65c_grow_d5877_6 : decode cJx4a65c_grow_d5877 6 = .ok (.iadd, 1) := by decide +kernel
theorem dJx4a65c_grow_d5877_7 : decode cJx4a65c_grow_d5877 7 = .ok (.invokevirtual 69, 3) := by decide +kernel
theorem dJx4a65c_grow_d5877_10 : decode cJx4a65c_grow_d5877 10 = .ok (.areturn, 1) := by decide +kernel
theorem dJx4a65c_size_8abf5_0 : decode cJx4a65c_size_8abf5 0 = .ok (.aload_n 0, 1) := by decide +kernel
theorem dJx4a65c_size_8abf5_1 : decode cJx4a65c_size_8abf5 1 = .ok (.getfield 48, 3) := by decide +kernel
theorem dJx4a65c_size_8abf5_4 : decode cJx4a65c_size_8abf5 4 = .ok (.ireturn, 1) := by decide +kernel
theorem dJx4a65c_isEmpty_aae02_0 : decode cJx4a65c_isEmpty_aae02 0 = .ok (.aload_n 0, 1) := by decide +kernel
theorem dJx4a65c_isEmpty_aae02_1 : decode cJx4a65c_isEmpty_aae02 1 = .ok (.getfield 48, 3) := by decide +kernel
theorem dJx4a65c_isEmpty_aae02_4 : decode cJx4a65c_isEmpty_aae02 4 = .ok (.ifCond .ne 7, 3) := by decide +kernel
theorem dJx4a65c_isEmpty_aae02_7 : decode cJx4a65c_isEmpty_aae02 7 = .ok (.iconst 1, 1) := by decide +kernel
theorem dJx4a65c_isEmpty_aae02_8 : decode cJx4a65c_isEmpty_aae02 8 = .ok (.goto 4, 3) := by decide +kernel
theorem dJx4a65c_isEmpty_aae02_11 : decode cJx4a65c_isEmpty_aae02 11 = .ok (.iconst 0, 1) := by decide +kernel
theorem dJx4a65c_isEmpty_aae02_12 : decode cJx4a65c_isEmpty_aae02 12 = .ok (.ireturn, 1) := by decide +kernel
theorem dJx4a65c_elementData_915e3_0 : decode cJx4a65c_elementData_915e3 0 = .ok (.aload_n 0, 1) := by decide +kernel
theorem dJx4a65c_elementData_915e3_1 : decode cJx4a65c_elementData_915e3 1 = .ok (.getfield 9, 3) := by decide +kernel
theorem dJx4a65c_elementData_915e3_4 : decode cJx4a65c_elementData_915e3 4 = .ok (.iload_n 1, 1) := by decide +kernel
theorem dJx4a65c_elementData_915e3_5 : decode cJx4a65c_elementData_915e3 5 = .ok (.aaload, 1) := by decide +kernel
theorem dJx4a65c_elementData_915e3_6 : decode cJx4a65c_elementData_915e3 6 = .ok (.areturn, 1) := by decide +kernel
theorem dJx4a65c_get_915e3_0 : decode cJx4a65c_get_915e3 0 = .ok (.iload_n 1, 1) := by decide +kernel
theorem dJx4a65c_get_915e3_1 : decode cJx4a65c_get_915e3 1 = .ok (.aload_n 0, 1) := by decide +kernel
theorem dJx4a65c_get_915e3_2 : decode cJx4a65c_get_915e3 2 = .ok (.getfield 48, 3) := by decide +kernel
theorem dJx4a65c_get_915e3_5 : decode cJx4a65c_get_915e3 5 = .ok (.invokestatic 118, 3) := by decide +kernel
theorem dJx4a65c_get_915e3_8 : decode cJx4a65c_get_915e3 8 = .ok (.pop, 1) := by decide +kernel
theorem dJx4a65c_get_915e3_9 : decode cJx4a65c_get_915e3 9 = .ok (.aload_n 0, 1) := by decide +kernel
theorem dJx4a65c_get_915e3_10 : decode cJx4a65c_get_915e3 10 = .ok (.iload_n 1, 1) := by decide +kernel
theorem dJx4a65c_get_915e3_11 : decode cJx4a65c_get_915e3 11 = .ok (.invokevirtual 123, 3) := by decide +kernel
theorem dJx4a65c_get_915e3_14 : decode cJx4a65c_get_915e3 14 = .ok (.areturn, 1) := by decide +kernel
theorem dJx4a65c_add_72be8_0 : decode cJx4a65c_add_72be8 0 = .ok (.iload_n 3, 1) := by decide +kernel
theorem dJx4a65c_add_72be8_1 : decode cJx4a65c_add_72be8 1 = .ok (.aload_n 2, 1) := by decide +kernel
theorem dJx4a65c_add_72be8_2 : decode cJx4a65c_add_72be8 2 = .ok (.arraylength, 1) := by decide +kernel
theorem dJx4a65c_add_72be8_3 : decode cJx4a65c_add_72be8 3 = .ok (.if_icmp .ne 8, 3) := by decide +kernel
theorem dJx4a65c_add_72be8_6 : decode cJx4a65c_add_72be8 6 = .ok (.aload_n 0, 1) := by decide +kernel
theorem dJx4a65c_add_72be8_7 : decode cJx4a65c_add_72be8 7 = .ok (.invokevirtual 129, 3) := by decide +kernel
theorem dJx4a65c_add_72be8_10 : decode cJx4a65c_add_72be8 10 = .ok (.astore_n 2, 1) := by decide +kernel
theorem dJx4a65c_add_72be8_11 : decode cJx4a65c_add_72be8 11 = .ok (.aload_n 2, 1) := by decide +kernel
theorem dJx4a65c_add_72be8_12 : decode cJx4a65c_add_72be8 12 = .ok (.iload_n 3, 1) := by decide +kernel
theorem dJx4a65c_add_72be8_13 : decode cJx4a65c_add_72be8 13 = .ok (.aload_n 1, 1) := by decide +kernel
theorem dJx4a65c_add_72be8_14 : decode cJx4a65c_add_72be8 14 = .ok (.aastore, 1) := by decide +kernel
theorem dJx4a65c_add_72be8_15 : decode cJx4a65c_add_72be8 15 = .ok (.aload_n 0, 1) := by decide +kernel
theorem dJx4a65c_add_72be8_16 : decode cJx4a65c_add_72be8 16 = .ok (.iload_n 3, 1) := by decide +kernel
theorem dJx4a65c_add_72be8_17 : decode cJx4a65c_add_72be8 17 = .ok (.iconst 1, 1) := by decide +kernel
theorem dJx4a65c_add_72be8_18 : decode cJx4a65c_add_72be8 18 = .ok (.iadd, 1) := by decide +kernel
theorem dJx4a65c_add_72be8_19 : decode cJx4a65c_add_72be8 19 = .ok (.putfield 48, 3) := by decide +kernel
theorem dJx4a65c_add_72be8_22 : decode cJx4a65c_add_72be8 22 = .ok (.return_, 1) := by decide +kernel
theorem dJx4a65c_add_9ea2d_0 : decode cJx4a65c_add_9ea2d 0 = .ok (.aload_n 0, 1) := by decide +kernel
theorem dJx4a65c_add_9ea2d_1 : decode cJx4a65c_add_9ea2d 1 = .ok (.dup, 1) := by decide +kernel
theorem dJx4a65c_add_9ea2d_2 : decode cJx4a65c_add_9ea2d 2 = .ok (.getfield 63, 3) := by decide +kernel
theorem dJx4a65c_add_9ea2d_5 : decode cJx4a65c_add_9ea2d 5 = .ok (.iconst 1, 1) := by decide +kernel
theorem dJx4a65c_add_9ea2d_6 : decode cJx4a65c_add_9ea2d 6 = .ok (.iadd, 1) := by decide +kernel
theorem dJx4a65c_add_9ea2d_7 : decode cJx4a65c_add_9ea2d 7 = .ok (.putfield 63, 3) := by decide +kernel
theorem dJx4a65c_add_9ea2d_10 : decode cJx4a65c_add_9ea2d 10 = .ok (.aload_n 0, 1) := by decide +kernel
theorem dJx4a65c_add_9ea2d_11 : decode cJx4a65c_add_9ea2d 11 = .ok (.aload_n 1, 1) := by decide +kernel
theorem dJx4a65c_add_9ea2d_12 : decode cJx4a65c_add_9ea2d 12 = .ok (.aload_n 0, 1) := by decide +kernel
theorem dJx4a65c_add_9ea2d_13 : decode cJx4a65c_add_9ea2d 13 = .ok (.getfield 9, 3) := by decide +kernel
theorem dJx4a65c_add_9ea2d_16 : decode cJx4a65c_add_9ea2d 16 = .ok (.aload_n 0, 1) := by decide +kernel
theorem dJx4a65c_add_9ea2d_17 : decode cJx4a65c_add_9ea2d 17 = .ok (.getfield 48, 3) := by decide +kernel
theorem dJx4a65c_add_9ea2d_20 : decode cJx4a65c_add_9ea2d 20 = .ok (.invokevirtual 131, 3) := by decide +kernel
theorem dJx4a65c_add_9ea2d_23 : decode cJx4a65c_add_9ea2d 23 = .ok (.iconst 1, 1) := by decide +kernel
theorem dJx4a65c_add_9ea2d_24 : decode cJx4a65c_add_9ea2d 24 = .ok (.ireturn, 1) := by decide +kernel
theorem dJx4a65c_remove_915e3_0 : decode cJx4a65c_remove_915e3 0 = .ok (.iload_n 1, 1) := by decide +kernel
theorem dJx4a65c_remove_915e3_1 : decode cJx4a65c_remove_915e3 1 = .ok (.aload_n 0, 1) := by decide +kernel
theorem dJx4a65c_remove_915e3_2 : decode cJx4a65c_remove_915e3 2 = .ok (.getfield 48, 3) := by decide +kernel
theorem dJx4a65c_remove_915e3_5 : decode cJx4a65c_remove_915e3 5 = .ok (.invokestatic 118, 3) := by decide +kernel
theorem dJx4a65c_remove_915e3_8 : decode cJx4a65c_remove_915e3 8 = .ok (.pop, 1) := by decide +kernel
theorem dJx4a65c_remove_915e3_9 : decode cJx4a65c_remove_915e3 9 = .ok (.aload_n 0, 1) := by decide +kernel
theorem dJx4a65c_remove_915e3_10 : decode cJx4a65c_remove_915e3 10 = .ok (.getfield 9, 3) := by decide +kernel
theorem dJx4a65c_remove_915e3_13 : decode cJx4a65c_remove_915e3 13 = .ok (.astore_n 2, 1) := by decide +kernel
theorem dJx4a65c_remove_915e3_14 : decode cJx4a65c_remove_915e3 14 = .ok (.aload_n 2, 1) := by decide +kernel
theorem dJx4a65c_remove_915e3_15 : decode cJx4a65c_remove_915e3 15 = .ok (.iload_n 1, 1) := by decide +kernel
theorem dJx4a65c_remove_915e3_16 : decode cJx4a65c_remove_915e3 16 = .ok (.aaload, 1) := by decide +kernel
theorem dJx4a65c_remove_915e3_17 : decode cJx4a65c_remove_915e3 17 = .ok (.astore_n 3, 1) := by decide +kernel
theorem dJx4a65c_remove_915e3_18 : decode cJx4a65c_remove_915e3 18 = .ok (.aload_n 0, 1) := by decide +kernel
theorem dJx4a65c_remove_915e3_19 : decode cJx4a65c_remove_915e3 19 = .ok (.aload_n 2, 1) := by decide +kernel
theorem dJx4a65c_remove_915e3_20 : decode cJx4a65c_remove_915e3 20 = .ok (.iload_n 1, 1) := by decide +kernel
theorem dJx4a65c_remove_915e3_21 : decode cJx4a65c_remove_915e3 21 = .ok (.invokevirtual 144, 3) := by decide +kernel
theorem dJx4a65c_remove_915e3_24 : decode cJx4a65c_remove_915e3 24 = .ok (.aload_n 3, 1) := by decide +kernel
theorem dJx4a65c_remove_915e3_25 : decode cJx4a65c_remove_915e3 25 = .ok (.areturn, 1) := by decide +kernel
theorem dJx4a65c_fastRemove_b59b0_0 : decode cJx4a65c_fastRemove_b59b0 0 = .ok (.aload_n 0, 1) := by decide +kernel
theorem dJx4a65c_fastRemove_b59b0_1 : decode cJx4a65c_fastRemove_b59b0 1 = .ok (.dup, 1) := by decide +kernel
theorem dJx4a65c_fastRemove_b59b0_2 : decode cJx4a65c_fastRemove_b59b0 2 = .ok (.getfield 63, 3) := by decide +kernel
theorem dJx4a65c_fastRemove_b59b0_5 : decode cJx4a65c_fastRemove_b59b0 5 = .ok (.iconst 1, 1) := by decide +kernel
theorem dJx4a65c_fastRemove_b59b0_6 : decode cJx4a65c_fastRemove_b59b0 6 = .ok (.iadd, 1) := by decide +kernel
theorem dJx4a65c_fastRemove_b59b0_7 : decode cJx4a65c_fastRemove_b59b0 7 = .ok (.putfield 63, 3) := by decide +kernel
theorem dJx4a65c_fastRemove_b59b0_10 : decode cJx4a65c_fastRemove_b59b0 10 = .ok (.aload_n 0, 1) := by decide +kernel
theorem dJx4a65c_fastRemove_b59b0_11 : decode cJx4a65c_fastRemove_b59b0 11 = .ok (.getfield 48, 3) := by decide +kernel
theorem dJx4a65c_fastRemove_b59b0_14 : decode cJx4a65c_fastRemove_b59b0 14 = .ok (.iconst 1, 1) := by decide +kernel
theorem dJx4a65c_fastRemove_b59b0_15 : decode cJx4a65c_fastRemove_b59b0 15 = .ok (.isub, 1) := by decide +kernel
theorem dJx4a65c_fastRemove_b59b0_16 : decode cJx4a65c_fastRemove_b59b0 16 = .ok (.dup, 1) := by decide +kernel
theorem dJx4a65c_fastRemove_b59b0_17 : decode cJx4a65c_fastRemove_b59b0 17 = .ok (.istore_n 3, 1) := by decide +kernel
theorem dJx4a65c_fastRemove_b59b0_18 : decode cJx4a65c_fastRemove_b59b0 18 = .ok (.iload_n 2, 1) := by decide +kernel
theorem dJx4a65c_fastRemove_b59b0_19 : decode cJx4a65c_fastRemove_b59b0 19 = .ok (.if_icmp .le 15, 3) := by decide +kernel
theorem dJx4a65c_fastRemove_b59b0_22 : decode cJx4a65c_fastRemove_b59b0 22 = .ok (.aload_n 1, 1) := by decide +kernel
theorem dJx4a65c_fastRemove_b59b0_23 : decode cJx4a65c_fastRemove_b59b0 23 = .ok (.iload_n 2, 1) := by decide +kernel
theorem dJx4a65c_fastRemove_b59b0_24 : decode cJx4a65c_fastRemove_b59b0 24 = .ok (.iconst 1, 1) := by decide +kernel
theorem dJx4a65c_fastRemove_b59b0_25 : decode cJx4a65c_fastRemove_b59b0 25 = .ok (.iadd, 1) := by decide +kernel
theorem dJx4a65c_fastRemove_b59b0_26 : decode cJx4a65c_fastRemove_b59b0 26 = .ok (.aload_n 1, 1) := by decide +kernel
theorem dJx4a65c_fastRemove_b59b0_27 : decode cJx4a65c_fastRemove_b59b0 27 = .ok (.iload_n 2, 1) := by decide +kernel
theorem dJx4a65c_fastRemove_b59b0_28 : decode cJx4a65c_fastRemove_b59b0 28 = .ok (.iload_n 3, 1) := by decide +kernel
theorem dJx4a65c_fastRemove_b59b0_29 : decode cJx4a65c_fastRemove_b59b0 29 = .ok (.iload_n 2, 1) := by decide +kernel
theorem dJx4a65c_fastRemove_b59b0_30 : decode cJx4a65c_fastRemove_b59b0 30 = .ok (.isub, 1) := by decide +kernel
theorem dJx4a65c_fastRemove_b59b0_31 : decode cJx4a65c_fastRemove_b59b0 31 = .ok (.invokestatic 112, 3) := by decide +kernel
theorem dJx4a65c_fastRemove_b59b0_34 : decode cJx4a65c_fastRemove_b59b0 34 = .ok (.aload_n 1, 1) := by decide +kernel
theorem dJx4a65c_fastRemove_b59b0_35 : decode cJx4a65c_fastRemove_b59b0 35 = .ok (.aload_n 0, 1) := by decide +kernel
theorem dJx4a65c_fastRemove_b59b0_36 : decode cJx4a65c_fastRemove_b59b0 36 = .ok (.iload_n 3, 1) := by decide +kernel
theorem dJx4a65c_fastRemove_b59b0_37 : decode cJx4a65c_fastRemove_b59b0 37 = .ok (.dup_x1, 1) := by decide +kernel
theorem dJx4a65c_fastRemove_b59b0_38 : decode cJx4a65c_fastRemove_b59b0 38 = .ok (.putfield 48, 3) := by decide +kernel
theorem dJx4a65c_fastRemove_b59b0_41 : decode cJx4a65c_fastRemove_b59b0 41 = .ok (.aconst_null, 1) := by decide +kernel
theorem dJx4a65c_fastRemove_b59b0_42 : decode cJx4a65c_fastRemove_b59b0 42 = .ok (.aastore, 1) := by decide +kernel
theorem dJx4a65c_fastRemove_b59b0_43 : decode cJx4a65c_fastRemove_b59b0 43 = .ok (.return_, 1) := by decide +kernel
theorem dJ7_copyOf_1904c_0 : decode cJ7_copyOf_1904c 0 = .ok (.aload_n 0, 1) := by decide +kernel
theorem dJ7_copyOf_1904c_1 : decode cJ7_copyOf_1904c 1 = .ok (.iload_n 1, 1) := by decide +kernel
theorem dJ7_copyOf_1904c_2 : decode cJ7_copyOf_1904c 2 = .ok (.aload_n 0, 1) := by decide +kernel
theorem dJ7_copyOf_1904c_3 : decode cJ7_copyOf_1904c 3 = .ok (.invokevirtual 86, 3) := by decide +kernel
theorem dJ7_copyOf_1904c_6 : decode cJ7_copyOf_1904c 6 = .ok (.invokestatic 300, 3) := by decide +kernel
theorem dJ7_copyOf_1904c_9 : decode cJ7_copyOf_1904c 9 = .ok (.areturn, 1) := by decide +kernel
theorem dJ7_copyOf_6403c_0 : decode cJ7_copyOf_6403c 0 = .ok (.aload_n 2, 1) := by decide +kernel
theorem dJ7_copyOf_6403c_1 : decode cJ7_copyOf_6403c 1 = .ok (.ldc 110, 2) := by decide +kernel
theorem dJ7_copyOf_6403c_3 : decode cJ7_copyOf_6403c 3 = .ok (.if_acmp .ne 10, 3) := by decide +kernel
theorem dJ7_copyOf_6403c_6 : decode cJ7_copyOf_6403c 6 = .ok (.iload_n 1, 1) := by decide +kernel
theorem dJ7_copyOf_6403c_7 : decode cJ7_copyOf_6403c 7 = .ok (.anewarray 2, 3) := by decide +kernel
theorem dJ7_copyOf_6403c_10 : decode cJ7_copyOf_6403c 10 = .ok (.goto 14, 3) := by decide +kernel
theorem dJ7_copyOf_6403c_13 : decode cJ7_copyOf_6403c 13 = .ok (.aload_n 2, 1) := by decide +kernel
theorem dJ7_copyOf_6403c_14 : decode cJ7_copyOf_6403c 14 = .ok (.invokevirtual 90, 3) := by decide +kernel
theorem dJ7_copyOf_6403c_17 : decode cJ7_copyOf_6403c 17 = .ok (.iload_n 1, 1) := by decide +kernel
theorem dJ7_copyOf_6403c_18 : decode cJ7_copyOf_6403c 18 = .ok (.invokestatic 95, 3) := by decide +kernel
theorem dJ7_copyOf_6403c_21 : decode cJ7_copyOf_6403c 21 = .ok (.checkcast 110, 3) := by decide +kernel
theorem dJ7_copyOf_6403c_24 : decode cJ7_copyOf_6403c 24 = .ok (.astore_n 3, 1) := by decide +kernel
theorem dJ7_copyOf_6403c_25 : decode cJ7_copyOf_6403c 25 = .ok (.aload_n 0, 1) := by decide +kernel
theorem dJ7_copyOf_6403c_26 : decode cJ7_copyOf_6403c 26 = .ok (.iconst 0, 1) := by decide +kernel
theorem dJ7_copyOf_6403c_27 : decode cJ7_copyOf_6403c 27 = .ok (.aload_n 3, 1) := by decide +kernel
theorem dJ7_copyOf_6403c_28 : decode cJ7_copyOf_6403c 28 = .ok (.iconst 0, 1) := by decide +kernel
theorem dJ7_copyOf_6403c_29 : decode cJ7_copyOf_6403c 29 = .ok (.aload_n 0, 1) := by decide +kernel
theorem dJ7_copyOf_6403c_30 : decode cJ7_copyOf_6403c 30 = .ok (.arraylength, 1) := by decide +kernel
theorem dJ7_copyOf_6403c_31 : decode cJ7_copyOf_6403c 31 = .ok (.iload_n 1, 1) := by decide +kernel
theorem dJ7_copyOf_6403c_32 : decode cJ7_copyOf_6403c 32 = .ok (.invokestatic 304, 3) := by decide +kernel
theorem dJ7_copyOf_6403c_35 : decode cJ7_copyOf_6403c 35 = .ok (.invokestatic 150, 3) := by decide +kernel
theorem dJ7_copyOf_6403c_38 : decode cJ7_copyOf_6403c 38 = .ok (.aload_n 3, 1) := by decide +kernel
theorem dJ7_copyOf_6403c_39 : decode cJ7_copyOf_6403c 39 = .ok (.areturn, 1) := by decide +kernel
theorem dJ15_checkIndex_7cf53_0 : decode cJ15_checkIndex_7cf53 0 = .ok (.iload_n 0, 1) := by decide +kernel
theorem dJ15_checkIndex_7cf53_1 : decode cJ15_checkIndex_7cf53 1 = .ok (.iload_n 1, 1) := by decide +kernel
theorem dJ15_checkIndex_7cf53_2 : decode cJ15_checkIndex_7cf53 2 = .ok (.aconst_null, 1) := by decide +kernel
theorem dJ15_checkIndex_7cf53_3 : decode cJ15_checkIndex_7cf53 3 = .ok (.invokestatic 105, 3) := by decide +kernel
theorem dJ15_checkIndex_7cf53_6 : decode cJ15_checkIndex_7cf53 6 = .ok (.ireturn, 1) := by decide +kernel
theorem dJ8_newLength_cabcc_0 : decode cJ8_newLength_cabcc 0 = .ok (.iload_n 0, 1) := by decide +kernel
theorem dJ8_newLength_cabcc_1 : decode cJ8_newLength_cabcc 1 = .ok (.iload_n 1, 1) := by decide +kernel
theorem dJ8_newLength_cabcc_2 : decode cJ8_newLength_cabcc 2 = .ok (.iload_n 2, 1) := by decide +kernel
theorem dJ8_newLength_cabcc_3 : decode cJ8_newLength_cabcc 3 = .ok (.invokestatic 194, 3) := by decide +kernel
theorem dJ8_newLength_cabcc_6 : decode cJ8_newLength_cabcc 6 = .ok (.iadd, 1) := by decide +kernel
theorem dJ8_newLength_cabcc_7 : decode cJ8_newLength_cabcc 7 = .ok (.istore_n 3, 1) := by decide +kernel
theorem dJ8_newLength_cabcc_8 : decode cJ8_newLength_cabcc 8 = .ok (.iconst 0, 1) := by decide +kernel
theorem dJ8_newLength_cabcc_9 : decode cJ8_newLength_cabcc 9 = .ok (.iload_n 3, 1) := by decide +kernel
theorem dJ8_newLength_cabcc_10 : decode cJ8_newLength_cabcc 10 = .ok (.if_icmp .ge 11, 3) := by decide +kernel
theorem dJ8_newLength_cabcc_13 : decode cJ8_newLength_cabcc 13 = .ok (.iload_n 3, 1) := by decide +kernel
theorem dJ8_newLength_cabcc_14 : decode cJ8_newLength_cabcc 14 = .ok (.ldc 200, 2) := by decide +kernel
theorem dJ8_newLength_cabcc_16 : decode cJ8_newLength_cabcc 16 = .ok (.if_icmp .gt 5, 3) := by decide +kernel
theorem dJ8_newLength_cabcc_19 : decode cJ8_newLength_cabcc 19 = .ok (.iload_n 3, 1) := by decide +kernel
theorem dJ8_newLength_cabcc_20 : decode cJ8_newLength_cabcc 20 = .ok (.ireturn, 1) := by decide +kernel
theorem dJ8_newLength_cabcc_21 : decode cJ8_newLength_cabcc 21 = .ok (.iload_n 0, 1) := by decide +kernel
theorem dJ8_newLength_cabcc_22 : decode cJ8_newLength_cabcc 22 = .ok (.iload_n 1, 1) := by decide +kernel
theorem dJ8_newLength_cabcc_23 : decode cJ8_newLength_cabcc 23 = .ok (.invokestatic 201, 3) := by decide +kernel
theorem dJ8_newLength_cabcc_26 : decode cJ8_newLength_cabcc 26 = .ok (.ireturn, 1) := by decide +kernel
theorem dJ8_hugeLength_7cf53_0 : decode cJ8_hugeLength_7cf53 0 = .ok (.iload_n 0, 1) := by decide +kernel
theorem dJ8_hugeLength_7cf53_1 : decode cJ8_hugeLength_7cf53 1 = .ok (.iload_n 1, 1) := by decide +kernel
theorem dJ8_hugeLength_7cf53_2 : decode cJ8_hugeLength_7cf53 2 = .ok (.iadd, 1) := by decide +kernel
theorem dJ8_hugeLength_7cf53_3 : decode cJ8_hugeLength_7cf53 3 = .ok (.istore_n 2, 1) := by decide +kernel
theorem dJ8_hugeLength_7cf53_4 : decode cJ8_hugeLength_7cf53 4 = .ok (.iload_n 2, 1) := by decide +kernel
theorem dJ8_hugeLength_7cf53_5 : decode cJ8_hugeLength_7cf53 5 = .ok (.ifCond .ge 44, 3) := by decide +kernel
theorem dJ8_hugeLength_7cf53_8 : decode cJ8_hugeLength_7cf53 8 = .ok (.new 204, 3) := by decide +kernel
theorem dJ8_hugeLength_7cf53_11 : decode cJ8_hugeLength_7cf53 11 = .ok (.dup, 1) := by decide +kernel
theorem dJ8_hugeLength_7cf53_12 : decode cJ8_hugeLength_7cf53 12 = .ok (.new 89, 3) := by decide +kernel
theorem dJ8_hugeLength_7cf53_15 : decode cJ8_hugeLength_7cf53 15 = .ok (.dup, 1) := by decide +kernel
theorem dJ8_hugeLength_7cf53_16 : decode cJ8_hugeLength_7cf53 16 = .ok (.invokespecial 91, 3) := by decide +kernel
theorem dJ8_hugeLength_7cf53_19 : decode cJ8_hugeLength_7cf53 19 = .ok (.ldc 206, 2) := by decide +kernel
theorem dJ8_hugeLength_7cf53_21 : decode cJ8_hugeLength_7cf53 21 = .ok (.invokevirtual 94, 3) := by decide +kernel
theorem dJ8_hugeLength_7cf53_24 : decode cJ8_hugeLength_7cf53 24 = .ok (.iload_n 0, 1) := by decide +kernel
theorem dJ8_hugeLength_7cf53_25 : decode cJ8_hugeLength_7cf53 25 = .ok (.invokevirtual 98, 3) := by decide +kernel
theorem dJ8_hugeLength_7cf53_28 : decode cJ8_hugeLength_7cf53 28 = .ok (.ldc 208, 2) := by decide +kernel
theorem dJ8_hugeLength_7cf53_30 : decode cJ8_hugeLength_7cf53 30 = .ok (.invokevirtual 94, 3) := by decide +kernel
theorem dJ8_hugeLength_7cf53_33 : decode cJ8_hugeLength_7cf53 33 = .ok (.iload_n 1, 1) := by decide +kernel
theorem dJ8_hugeLength_7cf53_34 : decode cJ8_hugeLength_7cf53 34 = .ok (.invokevirtual 98, 3) := by decide +kernel
theorem dJ8_hugeLength_7cf53_37 : decode cJ8_hugeLength_7cf53 37 = .ok (.ldc 210, 2) := by decide +kernel
theorem dJ8_hugeLength_7cf53_39 : decode cJ8_hugeLength_7cf53 39 = .ok (.invokevirtual 94, 3) := by decide +kernel
theorem dJ8_hugeLength_7cf53_42 : decode cJ8_hugeLength_7cf53 42 = .ok (.invokevirtual 101, 3) := by decide +kernel
theorem dJ8_hugeLength_7cf53_45 : decode cJ8_hugeLength_7cf53 45 = .ok (.invokespecial 212, 3) := by decide +kernel
theorem dJ8_hugeLength_7cf53_48 : decode cJ8_hugeLength_7cf53 48 = .ok (.athrow, 1) := by decide +kernel
theorem dJ8_hugeLength_7cf53_49 : decode cJ8_hugeLength_7cf53 49 = .ok (.iload_n 2, 1) := by decide +kernel
theorem dJ8_hugeLength_7cf53_50 : decode cJ8_hugeLength_7cf53 50 = .ok (.ldc 200, 2) := by decide +kernel
theorem dJ8_hugeLength_7cf53_52 : decode cJ8_hugeLength_7cf53 52 = .ok (.if_icmp .gt 6, 3) := by decide +kernel
theorem dJ8_hugeLength_7cf53_55 : decode cJ8_hugeLength_7cf53 55 = .ok (.ldc 200, 2) := by decide +kernel
theorem dJ8_hugeLength_7cf53_57 : decode cJ8_hugeLength_7cf53 57 = .ok (.ireturn, 1) := by decide +kernel
theorem dJ8_hugeLength_7cf53_58 : decode cJ8_hugeLength_7cf53 58 = .ok (.iload_n 2, 1) := by decide +kernel
theorem dJ8_hugeLength_7cf53_59 : decode cJ8_hugeLength_7cf53 59 = .ok (.ireturn, 1) := by decide +kernel
theorem dJ3_checkIndex_8e157_0 : decode cJ3_checkIndex_8e157 0 = .ok (.iload_n 0, 1) := by decide +kernel
theorem dJ3_checkIndex_8e157_1 : decode cJ3_checkIndex_8e157 1 = .ok (.ifCond .lt 8, 3) := by decide +kernel
theorem dJ3_checkIndex_8e157_4 : decode cJ3_checkIndex_8e157 4 = .ok (.iload_n 0, 1) := by decide +kernel
theorem dJ3_checkIndex_8e157_5 : decode cJ3_checkIndex_8e157 5 = .ok (.iload_n 1, 1) := by decide +kernel
theorem dJ3_checkIndex_8e157_6 : decode cJ3_checkIndex_8e157 6 = .ok (.if_icmp .lt 10, 3) := by decide +kernel
theorem dJ3_checkIndex_8e157_9 : decode cJ3_checkIndex_8e157 9 = .ok (.aload_n 2, 1) := by decide +kernel
theorem dJ3_checkIndex_8e157_10 : decode cJ3_checkIndex_8e157 10 = .ok (.iload_n 0, 1) := by decide +kernel
theorem dJ3_checkIndex_8e157_11 : decode cJ3_checkIndex_8e157 11 = .ok (.iload_n 1, 1) := by decide +kernel
theorem dJ3_checkIndex_8e157_12 : decode cJ3_checkIndex_8e157 12 = .ok (.invokestatic 95, 3) := by decide +kernel
theorem dJ3_checkIndex_8e157_15 : decode cJ3_checkIndex_8e157 15 = .ok (.athrow, 1) := by decide +kernel
theorem dJ3_checkIndex_8e157_16 : decode cJ3_checkIndex_8e157 16 = .ok (.iload_n 0, 1) := by decide +kernel
theorem dJ3_checkIndex_8e157_17 : decode cJ3_checkIndex_8e157 17 = .ok (.ireturn, 1) := by decide +kernel
theorem dX0_init_0 : decode cX0_init 0 = .ok (.aload_n 0, 1) := by decide +kernel
theorem dX0_init_1 : decode cX0_init 1 = .ok (.invokespecial 3, 3) := by decide +kernel
theorem dX0_init_4 : decode cX0_init 4 = .ok (.aload_n 0, 1) := by decide +kernel
theorem dX0_init_5 : decode cX0_init 5 = .ok (.iload_n 1, 1) := by decide +kernel
theorem dX0_init_6 : decode cX0_init 6 = .ok (.putfield 9, 3) := by decide +kernel
theorem dX0_init_9 : decode cX0_init 9 = .ok (.aload_n 0, 1) := by decide +kernel
theorem dX0_init_10 : decode cX0_init 10 = .ok (.aload_n 2, 1) := by decide +kernel
theorem dX0_init_11 : decode cX0_init 11 = .ok (.putfield 15, 3) := by decide +kernel
theorem dX0_init_14 : decode cX0_init 14 = .ok (.aload_n 0, 1) := by decide +kernel
theorem dX0_init_15 : decode cX0_init 15 = .ok (.aload_n 3, 1) := by decide +kernel
theorem dX0_init_16 : decode cX0_init 16 = .ok (.putfield 19, 3) := by decide +kernel
theorem dX0_init_19 : decode cX0_init 19 = .ok (.aload_n 0, 1) := by decide +kernel
theorem dX0_init_20 : decode cX0_init 20 = .ok (.aload 4, 2) := by decide +kernel
theorem dX0_init_22 : decode cX0_init 22 = .ok (.putfield 22, 3) := by decide +kernel
theorem dX0_init_25 : decode cX0_init 25 = .ok (.aload_n 0, 1) := by decide +kernel
theorem dX0_init_26 : decode cX0_init 26 = .ok (.iconst 0, 1) := by decide +kernel
theorem dX0_init_27 : decode cX0_init 27 = .ok (.putfield 26, 3) := by decide +kernel
theorem dX0_init_30 : decode cX0_init 30 = .ok (.aload_n 0, 1) := by decide +kernel
theorem dX0_init_31 : decode cX0_init 31 = .ok (.iconst (-1), 1) := by decide +kernel
theorem dX0_init_32 : decode cX0_init 32 = .ok (.putfield 29, 3) := by decide +kernel
theorem dX0_init_35 : decode cX0_init 35 = .ok (.aload_n 0, 1) := by decide +kernel
theorem dX0_init_36 : decode cX0_init 36 = .ok (.iconst (-1), 1) := by decide +kernel
theorem dX0_init_37 : decode cX0_init 37 = .ok (.putfield 32, 3) := by decide +kernel
theorem dX0_init_40 : decode cX0_init 40 = .ok (.return_, 1) := by decide +kernel
theorem dX1_init_0 : decode cX1_init 0 = .ok (.aload_n 0, 1) := by decide +kernel
theorem dX1_init_1 : decode cX1_init 1 = .ok (.invokespecial 3, 3) := by decide +kernel
theorem dX1_init_4 : decode cX1_init 4 = .ok (.aload_n 0, 1) := by decide +kernel
theorem dX1_init_5 : decode cX1_init 5 = .ok (.iload_n 1, 1) := by decide +kernel
theorem dX1_init_6 : decode cX1_init 6 = .ok (.putfield 9, 3) := by decide +kernel
theorem dX1_init_9 : decode cX1_init 9 = .ok (.aload_n 0, 1) := by decide +kernel
theorem dX1_init_10 : decode cX1_init 10 = .ok (.iload_n 2, 1) := by decide +kernel
theorem dX1_init_11 : decode cX1_init 11 = .ok (.putfield 15, 3) := by decide +kernel
theorem dX1_init_14 : decode cX1_init 14 = .ok (.aload_n 0, 1) := by decide +kernel
theorem dX1_init_15 : decode cX1_init 15 = .ok (.iload_n 3, 1) := by decide +kernel
theorem dX1_init_16 : decode cX1_init 16 = .ok (.putfield 18, 3) := by decide +kernel
theorem dX1_init_19 : decode cX1_init 19 = .ok (.aload_n 0, 1) := by decide +kernel
theorem dX1_init_20 : decode cX1_init 20 = .ok (.iload 4, 2) := by decide +kernel
theorem dX1_init_22 : decode cX1_init 22 = .ok (.putfield 21, 3) := by decide +kernel
theorem dX1_init_25 : decode cX1_init 25 = .ok (.aload_n 0, 1) := by decide +kernel
theorem dX1_init_26 : decode cX1_init 26 = .ok (.iconst 0, 1) := by decide +kernel
theorem dX1_init_27 : decode cX1_init 27 = .ok (.putfield 24, 3) := by decide +kernel
theorem dX1_init_30 : decode cX1_init 30 = .ok (.return_, 1) := by decide +kernel
theorem dX2_init_0 : decode cX2_init 0 = .ok (.aload_n 0, 1) := by decide +kernel
theorem dX2_init_1 : decode cX2_init 1 = .ok (.invokespecial 1, 3) := by decide +kernel
theorem dX2_init_4 : decode cX2_init 4 = .ok (.aload_n 0, 1) := by decide +kernel
theorem dX2_init_5 : decode cX2_init 5 = .ok (.iload_n 1, 1) := by decide +kernel
theorem dX2_init_6 : decode cX2_init 6 = .ok (.putfield 7, 3) := by decide +kernel
theorem dX2_init_9 : decode cX2_init 9 = .ok (.aload_n 0, 1) := by decide +kernel
theorem dX2_init_10 : decode cX2_init 10 = .ok (.iload_n 2, 1) := by decide +kernel
theorem dX2_init_11 : decode cX2_init 11 = .ok (.putfield 13, 3) := by decide +kernel
theorem dX2_init_14 : decode cX2_init 14 = .ok (.return_, 1) := by decide +kernel
theorem dX3_init_0 : decode cX3_init 0 = .ok (.aload_n 0, 1) := by decide +kernel
theorem dX3_init_1 : decode cX3_init 1 = .ok (.invokespecial 1, 3) := by decide +kernel
theorem dX3_init_4 : decode cX3_init 4 = .ok (.aload_n 0, 1) := by decide +kernel
theorem dX3_init_5 : decode cX3_init 5 = .ok (.new 7, 3) := by decide +kernel
theorem dX3_init_8 : decode cX3_init 8 = .ok (.dup, 1) := by decide +kernel
theorem dX3_init_9 : decode cX3_init 9 = .ok (.invokespecial 9, 3) := by decide +kernel
theorem dX3_init_12 : decode cX3_init 12 = .ok (.putfield 10, 3) := by decide +kernel
theorem dX3_init_15 : decode cX3_init 15 = .ok (.aload_n 0, 1) := by decide +kernel
theorem dX3_init_16 : decode cX3_init 16 = .ok (.new 7, 3) := by decide +kernel
theorem dX3_init_19 : decode cX3_init 19 = .ok (.dup, 1) := by decide +kernel
theorem dX3_init_20 : decode cX3_init 20 = .ok (.invokespecial 9, 3) := by decide +kernel
theorem dX3_init_23 : decode cX3_init 23 = .ok (.putfield 16, 3) := by decide +kernel
theorem dX3_init_26 : decode cX3_init 26 = .ok (.aload_n 0, 1) := by decide +kernel
theorem dX3_init_27 : decode cX3_init 27 = .ok (.new 7, 3) := by decide +kernel
theorem dX3_init_30 : decode cX3_init 30 = .ok (.dup, 1) := by decide +kernel
theorem dX3_init_31 : decode cX3_init 31 = .ok (.invokespecial 9, 3) := by decide +kernel
theorem dX3_init_34 : decode cX3_init 34 = .ok (.putfield 19, 3) := by decide +kernel
theorem dX3_init_37 : decode cX3_init 37 = .ok (.aload_n 0, 1) := by decide +kernel
theorem dX3_init_38 : decode cX3_init 38 = .ok (.new 7, 3) := by decide +kernel
theorem dX3_init_41 : decode cX3_init 41 = .ok (.dup, 1) := by decide +kernel
theorem dX3_init_42 : decode cX3_init 42 = .ok (.invokespecial 9, 3) := by decide +kernel
theorem dX3_init_45 : decode cX3_init 45 = .ok (.putfield 22, 3) := by decide +kernel
theorem dX3_init_48 : decode cX3_init 48 = .ok (.aload_n 0, 1) := by decide +kernel
theorem dX3_init_49 : decode cX3_init 49 = .ok (.new 7, 3) := by decide +kernel
theorem dX3_init_52 : decode cX3_init 52 = .ok (.dup, 1) := by decide +kernel
theorem dX3_init_53 : decode cX3_init 53 = .ok (.invokespecial 9, 3) := by decide +kernel
theorem dX3_init_56 : decode cX3_init 56 = .ok (.putfield 25, 3) := by decide +kernel
theorem dX3_init_59 : decode cX3_init 59 = .ok (.aload_n 0, 1) := by decide +kernel
theorem dX3_init_60 : decode cX3_init 60 = .ok (.iconst 2, 1) := by decide +kernel
theorem dX3_init_61 : decode cX3_init 61 = .ok (.newarray .int, 2) := by decide +kernel
theorem dX3_init_63 : decode cX3_init 63 = .ok (.putfield 28, 3) := by decide +kernel
theorem dX3_init_66 : decode cX3_init 66 = .ok (.aload_n 0, 1) := by decide +kernel
theorem dX3_init_67 : decode cX3_init 67 = .ok (.iconst 1, 1) := by decide +kernel
theorem dX3_init_68 : decode cX3_init 68 = .ok (.putfield 32, 3) := by decide +kernel
theorem dX3_init_71 : decode cX3_init 71 = .ok (.aload_n 0, 1) := by decide +kernel
theorem dX3_init_72 : decode cX3_init 72 = .ok (.iconst 0, 1) := by decide +kernel
theorem dX3_init_73 : decode cX3_init 73 = .ok (.putfield 36, 3) := by decide +kernel
theorem dX3_init_76 : decode cX3_init 76 = .ok (.aload_n 0, 1) := by decide +kernel
theorem dX3_init_77 : decode cX3_init 77 = .ok (.iconst 0, 1) := by decide +kernel
theorem dX3_init_78 : decode cX3_init 78 = .ok (.putfield 39, 3) := by decide +kernel
theorem dX3_init_81 : decode cX3_init 81 = .ok (.aload_n 0, 1) := by decide +kernel
theorem dX3_init_82 : decode cX3_init 82 = .ok (.iconst 0, 1) := by decide +kernel
theorem dX3_init_83 : decode cX3_init 83 = .ok (.putfield 42, 3) := by decide +kernel
theorem dX3_init_86 : decode cX3_init 86 = .ok (.aload_n 0, 1) := by decide +kernel
theorem dX3_init_87 : decode cX3_init 87 = .ok (.bipush 10, 2) := by decide +kernel
theorem dX3_init_89 : decode cX3_init 89 = .ok (.putfield 45, 3) := by decide +kernel
theorem dX3_init_92 : decode cX3_init 92 = .ok (.aload_n 0, 1) := by decide +kernel
theorem dX3_init_93 : decode cX3_init 93 = .ok (.sipush 600, 3) := by decide +kernel
theorem dX3_init_96 : decode cX3_init 96 = .ok (.putfield 48, 3) := by decide +kernel
theorem dX3_init_99 : decode cX3_init 99 = .ok (.aload_n 0, 1) := by decide +kernel
theorem dX3_init_100 : decode cX3_init 100 = .ok (.iconst 0, 1) := by decide +kernel
theorem dX3_init_101 : decode cX3_init 101 = .ok (.putfield 51, 3) := by decide +kernel
theorem dX3_init_104 : decode cX3_init 104 = .ok (.return_, 1) := by decide +kernel
theorem dX3_addMember_0 : decode cX3_addMember 0 = .ok (.iload_n 1, 1) := by decide +kernel
theorem dX3_addMember_1 : decode cX3_addMember 1 = .ok (.iconst 0, 1) := by decide +kernel
theorem dX3_addMember_2 : decode cX3_addMember 2 = .ok (.iconst 3, 1) := by decide +kernel
theorem dX3_addMember_3 : decode cX3_addMember 3 = .ok (.invokestatic 54, 3) := by decide +kernel
theorem dX3_addMember_6 : decode cX3_addMember 6 = .ok (.ifCond .ne 13, 3) := by decide +kernel
theorem dX3_addMember_9 : decode cX3_addMember 9 = .ok (.new 58, 3) := by decide +kernel
theorem dX3_addMember_12 : decode cX3_addMember 12 = .ok (.dup, 1) := by decide +kernel
theorem dX3_addMember_13 : decode cX3_addMember 13 = .ok (.ldc 60, 2) := by decide +kernel
theorem dX3_addMember_15 : decode cX3_addMember 15 = .ok (.invokespecial 62, 3) := by decide +kernel
theorem dX3_addMember_18 : decode cX3_addMember 18 = .ok (.athrow, 1) := by decide +kernel
theorem dX3_addMember_19 : decode cX3_addMember 19 = .ok (.aload_n 0, 1) := by decide +kernel
theorem dX3_addMember_20 : decode cX3_addMember 20 = .ok (.getfield 10, 3) := by decide +kernel
theorem dX3_addMember_23 : decode cX3_addMember 23 = .ok (.invokevirtual 65, 3) := by decide +kernel
theorem dX3_addMember_26 : decode cX3_addMember 26 = .ok (.bipush 16, 2) := by decide +kernel
theorem dX3_addMember_28 : decode cX3_addMember 28 = .ok (.if_icmp .lt 13, 3) := by decide +kernel
theorem dX3_addMember_31 : decode cX3_addMember 31 = .ok (.new 69, 3) := by decide +kernel
theorem dX3_addMember_34 : decode cX3_addMember 34 = .ok (.dup, 1) := by decide +kernel
theorem dX3_addMember_35 : decode cX3_addMember 35 = .ok (.ldc 71, 2) := by decide +kernel
theorem dX3_addMember_37 : decode cX3_addMember 37 = .ok (.invokespecial 73, 3) := by decide +kernel
theorem dX3_addMember_40 : decode cX3_addMember 40 = .ok (.athrow, 1) := by decide +kernel
theorem dX3_addMember_41 : decode cX3_addMember 41 = .ok (.aload_n 0, 1) := by decide +kernel
theorem dX3_addMember_42 : decode cX3_addMember 42 = .ok (.getfield 10, 3) := by decide +kernel
theorem dX3_addMember_45 : decode cX3_addMember 45 = .ok (.invokevirtual 65, 3) := by decide +kernel
theorem dX3_addMember_48 : decode cX3_addMember 48 = .ok (.istore_n 2, 1) := by decide +kernel
theorem dX3_addMember_49 : decode cX3_addMember 49 = .ok (.aload_n 0, 1) := by decide +kernel
theorem dX3_addMember_50 : decode cX3_addMember 50 = .ok (.getfield 10, 3) := by decide +kernel
theorem dX3_addMember_53 : decode cX3_addMember 53 = .ok (.new 74, 3) := by decide +kernel
theorem dX3_addMember_56 : decode cX3_addMember 56 = .ok (.dup, 1) := by decide +kernel
theorem dX3_addMember_57 : decode cX3_addMember 57 = .ok (.iload_n 2, 1) := by decide +kernel
theorem dX3_addMember_58 : decode cX3_addMember 58 = .ok (.iload_n 1, 1) := by decide +kernel
theorem dX3_addMember_59 : decode cX3_addMember 59 = .ok (.invokespecial 76, 3) := by decide +kernel
theorem dX3_addMember_62 : decode cX3_addMember 62 = .ok (.invokevirtual 79, 3) := by decide +kernel
theorem dX3_addMember_65 : decode cX3_addMember 65 = .ok (.pop, 1) := by decide +kernel
theorem dX3_addMember_66 : decode cX3_addMember 66 = .ok (.iload_n 2, 1) := by decide +kernel
theorem dX3_addMember_67 : decode cX3_addMember 67 = .ok (.ireturn, 1) := by decide +kernel
theorem dX3_addGlider_0 : decode cX3_addGlider 0 = .ok (.iload_n 1, 1) := by decide +kernel
theorem dX3_addGlider_1 : decode cX3_addGlider 1 = .ok (.iconst 1, 1) := by decide +kernel
theorem dX3_addGlider_2 : decode cX3_addGlider 2 = .ok (.iconst 2, 1) := by decide +kernel
theorem dX3_addGlider_3 : decode cX3_addGlider 3 = .ok (.invokestatic 54, 3) := by decide +kernel
theorem dX3_addGlider_6 : decode cX3_addGlider 6 = .ok (.ifCond .eq 23, 3) := by decide +kernel
theorem dX3_addGlider_9 : decode cX3_addGlider 9 = .ok (.iload_n 2, 1) := by decide +kernel
theorem dX3_addGlider_10 : decode cX3_addGlider 10 = .ok (.iconst 1, 1) := by decide +kernel
theorem dX3_addGlider_11 : decode cX3_addGlider 11 = .ok (.bipush 50, 2) := by decide +kernel
theorem dX3_addGlider_13 : decode cX3_addGlider 13 = .ok (.invokestatic 54, 3) := by decide +kernel
theorem dX3_addGlider_16 : decode cX3_addGlider 16 = .ok (.ifCond .eq 13, 3) := by decide +kernel
theorem dX3_addGlider_19 : decode cX3_addGlider 19 = .ok (.iload_n 3, 1) := by decide +kernel
theorem dX3_addGlider_20 : decode cX3_addGlider 20 = .ok (.iconst 5, 1) := by decide +kernel
theorem dX3_addGlider_21 : decode cX3_addGlider 21 = .ok (.bipush 40, 2) := by decide +kernel
theorem dX3_addGlider_23 : decode cX3_addGlider 23 = .ok (.invokestatic 54, 3) := by decide +kernel
theorem dX3_addGlider_26 : decode cX3_addGlider 26 = .ok (.ifCond .ne 13, 3) := by decide +kernel
theorem dX3_addGlider_29 : decode cX3_addGlider 29 = .ok (.new 58, 3) := by decide +kernel
theorem dX3_addGlider_32 : decode cX3_addGlider 32 = .ok (.dup, 1) := by decide +kernel
theorem dX3_addGlider_33 : decode cX3_addGlider 33 = .ok (.ldc 83, 2) := by decide +kernel
theorem dX3_addGlider_35 : decode cX3_addGlider 35 = .ok (.invokespecial 62, 3) := by decide +kernel
theorem dX3_addGlider_38 : decode cX3_addGlider 38 = .ok (.athrow, 1) := by decide +kernel
theorem dX3_addGlider_39 : decode cX3_addGlider 39 = .ok (.aload_n 0, 1) := by decide +kernel
theorem dX3_addGlider_40 : decode cX3_addGlider 40 = .ok (.getfield 16, 3) := by decide +kernel
theorem dX3_addGlider_43 : decode cX3_addGlider 43 = .ok (.invokevirtual 65, 3) := by decide +kernel
theorem dX3_addGlider_46 : decode cX3_addGlider 46 = .ok (.bipush 8, 2) := by decide +kernel
theorem dX3_addGlider_48 : decode cX3_addGlider 48 = .ok (.if_icmp .lt 13, 3) := by decide +kernel
theorem dX3_addGlider_51 : decode cX3_addGlider 51 = .ok (.new 69, 3) := by decide +kernel
theorem dX3_addGlider_54 : decode cX3_addGlider 54 = .ok (.dup, 1) := by decide +kernel
theorem dX3_addGlider_55 : decode cX3_addGlider 55 = .ok (.ldc 85, 2) := by decide +kernel
theorem dX3_addGlider_57 : decode cX3_addGlider 57 = .ok (.invokespecial 73, 3) := by decide +kernel
theorem dX3_addGlider_60 : decode cX3_addGlider 60 = .ok (.athrow, 1) := by decide +kernel
theorem dX3_addGlider_61 : decode cX3_addGlider 61 = .ok (.aload_n 0, 1) := by decide +kernel
theorem dX3_addGlider_62 : decode cX3_addGlider 62 = .ok (.getfield 16, 3) := by decide +kernel
theorem dX3_addGlider_65 : decode cX3_addGlider 65 = .ok (.invokevirtual 65, 3) := by decide +kernel
theorem dX3_addGlider_68 : decode cX3_addGlider 68 = .ok (.istore 4, 2) := by decide +kernel
theorem dX3_addGlider_70 : decode cX3_addGlider 70 = .ok (.aload_n 0, 1) := by decide +kernel
theorem dX3_addGlider_71 : decode cX3_addGlider 71 = .ok (.getfield 16, 3) := by decide +kernel
theorem dX3_addGlider_74 : decode cX3_addGlider 74 = .ok (.new 87, 3) := by decide +kernel
theorem dX3_addGlider_77 : decode cX3_addGlider 77 = .ok (.dup, 1) := by decide +kernel
theorem dX3_addGlider_78 : decode cX3_addGlider 78 = .ok (.iload 4, 2) := by decide +kernel
theorem dX3_addGlider_80 : decode cX3_addGlider 80 = .ok (.iload_n 1, 1) := by decide +kernel
theorem dX3_addGlider_81 : decode cX3_addGlider 81 = .ok (.iload_n 2, 1) := by decide +kernel
theorem dX3_addGlider_82 : decode cX3_addGlider 82 = .ok (.iload_n 3, 1) := by decide +kernel
theorem dX3_addGlider_83 : decode cX3_addGlider 83 = .ok (.invokespecial 89, 3) := by decide +kernel
theorem dX3_addGlider_86 : decode cX3_addGlider 86 = .ok (.invokevirtual 79, 3) := by decide +kernel
theorem dX3_addGlider_89 : decode cX3_addGlider 89 = .ok (.pop, 1) := by decide +kernel
theorem dX3_addGlider_90 : decode cX3_addGlider 90 = .ok (.iload 4, 2) := by decide +kernel
theorem dX3_addGlider_92 : decode cX3_addGlider 92 = .ok (.ireturn, 1) := by decide +kernel
theorem dX3_setWind_0 : decode cX3_setWind 0 = .ok (.iload_n 1, 1) := by decide +kernel
theorem dX3_setWind_1 : decode cX3_setWind 1 = .ok (.iconst 0, 1) := by decide +kernel
theorem dX3_setWind_2 : decode cX3_setWind 2 = .ok (.bipush 40, 2) := by decide +kernel
theorem dX3_setWind_4 : decode cX3_setWind 4 = .ok (.invokestatic 54, 3) := by decide +kernel
theorem dX3_setWind_7 : decode cX3_setWind 7 = .ok (.ifCond .ne 13, 3) := by decide +kernel
theorem dX3_setWind_10 : decode cX3_setWind 10 = .ok (.new 58, 3) := by decide +kernel
theorem dX3_setWind_13 : decode cX3_setWind 13 = .ok (.dup, 1) := by decide +kernel
theorem dX3_setWind_14 : decode cX3_setWind 14 = .ok (.ldc 92, 2) := by decide +kernel
theorem dX3_setWind_16 : decode cX3_setWind 16 = .ok (.invokespecial 62, 3) := by decide +kernel
theorem dX3_setWind_19 : decode cX3_setWind 19 = .ok (.athrow, 1) := by decide +kernel
theorem dX3_setWind_20 : decode cX3_setWind 20 = .ok (.aload_n 0, 1) := by decide +kernel
theorem dX3_setWind_21 : decode cX3_setWind 21 = .ok (.getfield 45, 3) := by decide +kernel
theorem dX3_setWind_24 : decode cX3_setWind 24 = .ok (.istore_n 2, 1) := by decide +kernel
theorem dX3_setWind_25 : decode cX3_setWind 25 = .ok (.aload_n 0, 1) := by decide +kernel
theorem dX3_setWind_26 : decode cX3_setWind 26 = .ok (.iload_n 1, 1) := by decide +kernel
theorem dX3_setWind_27 : decode cX3_setWind 27 = .ok (.putfield 45, 3) := by decide +kernel
theorem dX3_setWind_30 : decode cX3_setWind 30 = .ok (.iload_n 2, 1) := by decide +kernel
theorem dX3_setWind_31 : decode cX3_setWind 31 = .ok (.ireturn, 1) := by decide +kernel
theorem dX3_setSunset_0 : decode cX3_setSunset 0 = .ok (.iload_n 1, 1) := by decide +kernel
theorem dX3_setSunset_1 : decode cX3_setSunset 1 = .ok (.iconst 0, 1) := by decide +kernel
theorem dX3_setSunset_2 : decode cX3_setSunset 2 = .ok (.sipush 1500, 3) := by decide +kernel
theorem dX3_setSunset_5 : decode cX3_setSunset 5 = .ok (.invokestatic 54, 3) := by decide +kernel
theorem dX3_setSunset_8 : decode cX3_setSunset 8 = .ok (.ifCond .ne 13, 3) := by decide +kernel
theorem dX3_setSunset_11 : decode cX3_setSunset 11 = .ok (.new 58, 3) := by decide +kernel
theorem dX3_setSunset_14 : decode cX3_setSunset 14 = .ok (.dup, 1) := by decide +kernel
theorem dX3_setSunset_15 : decode cX3_setSunset 15 = .ok (.ldc 94, 2) := by decide +kernel
theorem dX3_setSunset_17 : decode cX3_setSunset 17 = .ok (.invokespecial 62, 3) := by decide +kernel
theorem dX3_setSunset_20 : decode cX3_setSunset 20 = .ok (.athrow, 1) := by decide +kernel
theorem dX3_setSunset_21 : decode cX3_setSunset 21 = .ok (.aload_n 0, 1) := by decide +kernel
theorem dX3_setSunset_22 : decode cX3_setSunset 22 = .ok (.getfield 48, 3) := by decide +kernel
theorem dX3_setSunset_25 : decode cX3_setSunset 25 = .ok (.istore_n 2, 1) := by decide +kernel
theorem dX3_setSunset_26 : decode cX3_setSunset 26 = .ok (.aload_n 0, 1) := by decide +kernel
theorem dX3_setSunset_27 : decode cX3_setSunset 27 = .ok (.iload_n 1, 1) := by decide +kernel
theorem dX3_setSunset_28 : decode cX3_setSunset 28 = .ok (.putfield 48, 3) := by decide +kernel
theorem dX3_setSunset_31 : decode cX3_setSunset 31 = .ok (.iload_n 2, 1) := by decide +kernel
theorem dX3_setSunset_32 : decode cX3_setSunset 32 = .ok (.ireturn, 1) := by decide +kernel
theorem dX3_setTugs_0 : decode cX3_setTugs 0 = .ok (.iload_n 1, 1) := by decide +kernel
theorem dX3_setTugs_1 : decode cX3_setTugs 1 = .ok (.iconst 0, 1) := by decide +kernel
theorem dX3_setTugs_2 : decode cX3_setTugs 2 = .ok (.iconst 2, 1) := by decide +kernel
theorem dX3_setTugs_3 : decode cX3_setTugs 3 = .ok (.invokestatic 54, 3) := by decide +kernel
theorem dX3_setTugs_6 : decode cX3_setTugs 6 = .ok (.ifCond .ne 13, 3) := by decide +kernel
theorem dX3_setTugs_9 : decode cX3_setTugs 9 = .ok (.new 58, 3) := by decide +kernel
theorem dX3_setTugs_12 : decode cX3_setTugs 12 = .ok (.dup, 1) := by decide +kernel
theorem dX3_setTugs_13 : decode cX3_setTugs 13 = .ok (.ldc 96, 2) := by decide +kernel
theorem dX3_setTugs_15 : decode cX3_setTugs 15 = .ok (.invokespecial 62, 3) := by decide +kernel
theorem dX3_setTugs_18 : decode cX3_setTugs 18 = .ok (.athrow, 1) := by decide +kernel
theorem dX3_setTugs_19 : decode cX3_setTugs 19 = .ok (.aload_n 0, 1) := by decide +kernel
theorem dX3_setTugs_20 : decode cX3_setTugs 20 = .ok (.invokevirtual 98, 3) := by decide +kernel
theorem dX3_setTugs_23 : decode cX3_setTugs 23 = .ok (.iload_n 1, 1) := by decide +kernel
theorem dX3_setTugs_24 : decode cX3_setTugs 24 = .ok (.if_icmp .le 13, 3) := by decide +kernel
theorem dX3_setTugs_27 : decode cX3_setTugs 27 = .ok (.new 69, 3) := by decide +kernel
theorem dX3_setTugs_30 : decode cX3_setTugs 30 = .ok (.dup, 1) := by decide +kernel
theorem dX3_setTugs_31 : decode cX3_setTugs 31 = .ok (.ldc 101, 2) := by decide +kernel
theorem dX3_setTugs_33 : decode cX3_setTugs 33 = .ok (.invokespecial 73, 3) := by decide +kernel
theorem dX3_setTugs_36 : decode cX3_setTugs 36 = .ok (.athrow, 1) := by decide +kernel
theorem dX3_setTugs_37 : decode cX3_setTugs 37 = .ok (.aload_n 0, 1) := by decide +kernel
theorem dX3_setTugs_38 : decode cX3_setTugs 38 = .ok (.iload_n 1, 1) := by decide +kernel
theorem dX3_setTugs_39 : decode cX3_setTugs 39 = .ok (.putfield 32, 3) := by decide +kernel
theorem dX3_setTugs_42 : decode cX3_setTugs 42 = .ok (.aload_n 0, 1) := by decide +kernel
theorem dX3_setTugs_43 : decode cX3_setTugs 43 = .ok (.invokevirtual 103, 3) := by decide +kernel
theorem dX3_setTugs_46 : decode cX3_setTugs 46 = .ok (.ireturn, 1) := by decide +kernel
theorem dX3_bar_0 : decode cX3_bar 0 = .ok (.aload_n 0, 1) := by decide +kernel
theorem dX3_bar_1 : decode cX3_bar 1 = .ok (.iload_n 1, 1) := by decide +kernel
theorem dX3_bar_2 : decode cX3_bar 2 = .ok (.invokevirtual 106, 3) := by decide +kernel
theorem dX3_bar_5 : decode cX3_bar 5 = .ok (.astore_n 3, 1) := by decide +kernel
theorem dX3_bar_6 : decode cX3_bar 6 = .ok (.aload_n 3, 1) := by decide +kernel
theorem dX3_bar_7 : decode cX3_bar 7 = .ok (.getfield 110, 3) := by decide +kernel
theorem dX3_bar_10 : decode cX3_bar 10 = .ok (.ifCond .eq 13, 3) := by decide +kernel
theorem dX3_bar_13 : decode cX3_bar 13 = .ok (.new 69, 3) := by decide +kernel
theorem dX3_bar_16 : decode cX3_bar 16 = .ok (.dup, 1) := by decide +kernel
theorem dX3_bar_17 : decode cX3_bar 17 = .ok (.ldc 113, 2) := by decide +kernel
theorem dX3_bar_19 : decode cX3_bar 19 = .ok (.invokespecial 73, 3) := by decide +kernel
theorem dX3_bar_22 : decode cX3_bar 22 = .ok (.athrow, 1) := by decide +kernel
theorem dX3_bar_23 : decode cX3_bar 23 = .ok (.aload_n 3, 1) := by decide +kernel
theorem dX3_bar_24 : decode cX3_bar 24 = .ok (.getfield 115, 3) := by decide +kernel
theorem dX3_bar_27 : decode cX3_bar 27 = .ok (.istore 4, 2) := by decide +kernel
theorem dX3_bar_29 : decode cX3_bar 29 = .ok (.aload_n 3, 1) := by decide +kernel
theorem dX3_bar_30 : decode cX3_bar 30 = .ok (.iload_n 2, 1) := by decide +kernel
theorem dX3_bar_31 : decode cX3_bar 31 = .ok (.putfield 115, 3) := by decide +kernel
theorem dX3_bar_34 : decode cX3_bar 34 = .ok (.iload 4, 2) := by decide +kernel
theorem dX3_bar_36 : decode cX3_bar 36 = .ok (.ireturn, 1) := by decide +kernel
theorem dX3_promote_0 : decode cX3_promote 0 = .ok (.aload_n 0, 1) := by decide +kernel
theorem dX3_promote_1 : decode cX3_promote 1 = .ok (.iload_n 1, 1) := by decide +kernel
theorem dX3_promote_2 : decode cX3_promote 2 = .ok (.invokevirtual 119, 3) := by decide +kernel
theorem dX3_promote_5 : decode cX3_promote 5 = .ok (.astore_n 2, 1) := by decide +kernel
theorem dX3_promote_6 : decode cX3_promote 6 = .ok (.aload_n 2, 1) := by decide +kernel
theorem dX3_promote_7 : decode cX3_promote 7 = .ok (.getfield 123, 3) := by decide +kernel
theorem dX3_promote_10 : decode cX3_promote 10 = .ok (.ifCond .ne 10, 3) := by decide +kernel
theorem dX3_promote_13 : decode cX3_promote 13 = .ok (.aload_n 2, 1) := by decide +kernel
theorem dX3_promote_14 : decode cX3_promote 14 = .ok (.invokestatic 126, 3) := by decide +kernel
theorem dX3_promote_17 : decode cX3_promote 17 = .ok (.ifCond .ne 13, 3) := by decide +kernel
theorem dX3_promote_20 : decode cX3_promote 20 = .ok (.new 69, 3) := by decide +kernel
theorem dX3_promote_23 : decode cX3_promote 23 = .ok (.dup, 1) := by decide +kernel
theorem dX3_promote_24 : decode cX3_promote 24 = .ok (.ldc 130, 2) := by decide +kernel
theorem dX3_promote_26 : decode cX3_promote 26 = .ok (.invokespecial 73, 3) := by decide +kernel
theorem dX3_promote_29 : decode cX3_promote 29 = .ok (.athrow, 1) := by decide +kernel
theorem dX3_promote_30 : decode cX3_promote 30 = .ok (.aload_n 2, 1) := by decide +kernel
theorem dX3_promote_31 : decode cX3_promote 31 = .ok (.dup, 1) := by decide +kernel
theorem dX3_promote_32 : decode cX3_promote 32 = .ok (.getfield 132, 3) := by decide +kernel
theorem dX3_promote_35 : decode cX3_promote 35 = .ok (.iconst 1, 1) := by decide +kernel
theorem dX3_promote_36 : decode cX3_promote 36 = .ok (.iadd, 1) := by decide +kernel
theorem dX3_promote_37 : decode cX3_promote 37 = .ok (.putfield 132, 3) := by decide +kernel
theorem dX3_promote_40 : decode cX3_promote 40 = .ok (.aload_n 2, 1) := by decide +kernel
theorem dX3_promote_41 : decode cX3_promote 41 = .ok (.getfield 132, 3) := by decide +kernel
theorem dX3_promote_44 : decode cX3_promote 44 = .ok (.ireturn, 1) := by decide +kernel
theorem dX3_member_0 : decode cX3_member 0 = .ok (.aload_n 0, 1) := by decide +kernel
theorem dX3_member_1 : decode cX3_member 1 = .ok (.iload_n 1, 1) := by decide +kernel
theorem dX3_member_2 : decode cX3_member 2 = .ok (.invokevirtual 119, 3) := by decide +kernel
theorem dX3_member_5 : decode cX3_member 5 = .ok (.astore_n 3, 1) := by decide +kernel
theorem dX3_member_6 : decode cX3_member 6 = .ok (.iload_n 2, 1) := by decide +kernel
theorem dX3_member_7 : decode cX3_member 7 = .ok (.iconst 0, 1) := by decide +kernel
theorem dX3_member_8 : decode cX3_member 8 = .ok (.iconst 5, 1) := by decide +kernel
theorem dX3_member_9 : decode cX3_member 9 = .ok (.invokestatic 54, 3) := by decide +kernel
theorem dX3_member_12 : decode cX3_member 12 = .ok (.ifCond .ne 13, 3) := by decide +kernel
theorem dX3_member_15 : decode cX3_member 15 = .ok (.new 135, 3) := by decide +kernel
theorem dX3_member_18 : decode cX3_member 18 = .ok (.dup, 1) := by decide +kernel
theorem dX3_member_19 : decode cX3_member 19 = .ok (.ldc 137, 2) := by decide +kernel
theorem dX3_member_21 : decode cX3_member 21 = .ok (.invokespecial 139, 3) := by decide +kernel
theorem dX3_member_24 : decode cX3_member 24 = .ok (.athrow, 1) := by decide +kernel
theorem dX3_member_25 : decode cX3_member 25 = .ok (.aload_n 3, 1) := by decide +kernel
theorem dX3_member_26 : decode cX3_member 26 = .ok (.iload_n 2, 1) := by decide +kernel
theorem dX3_member_27 : decode cX3_member 27 = .ok (.invokestatic 140, 3) := by decide +kernel
theorem dX3_member_30 : decode cX3_member 30 = .ok (.ireturn, 1) := by decide +kernel
theorem dX3_glider_0 : decode cX3_glider 0 = .ok (.aload_n 0, 1) := by decide +kernel
theorem dX3_glider_1 : decode cX3_glider 1 = .ok (.iload_n 1, 1) := by decide +kernel
theorem dX3_glider_2 : decode cX3_glider 2 = .ok (.invokevirtual 106, 3) := by decide +kernel
theorem dX3_glider_5 : decode cX3_glider 5 = .ok (.astore_n 3, 1) := by decide +kernel
theorem dX3_glider_6 : decode cX3_glider 6 = .ok (.iload_n 2, 1) := by decide +kernel
theorem dX3_glider_7 : decode cX3_glider 7 = .ok (.iconst 0, 1) := by decide +kernel
theorem dX3_glider_8 : decode cX3_glider 8 = .ok (.iconst 4, 1) := by decide +kernel
theorem dX3_glider_9 : decode cX3_glider 9 = .ok (.invokestatic 54, 3) := by decide +kernel
theorem dX3_glider_12 : decode cX3_glider 12 = .ok (.ifCond .ne 13, 3) := by decide +kernel
theorem dX3_glider_15 : decode cX3_glider 15 = .ok (.new 135, 3) := by decide +kernel
theorem dX3_glider_18 : decode cX3_glider 18 = .ok (.dup, 1) := by decide +kernel
theorem dX3_glider_19 : decode cX3_glider 19 = .ok (.ldc 137, 2) := by decide +kernel
theorem dX3_glider_21 : decode cX3_glider 21 = .ok (.invokespecial 139, 3) := by decide +kernel
theorem dX3_glider_24 : decode cX3_glider 24 = .ok (.athrow, 1) := by decide +kernel
theorem dX3_glider_25 : decode cX3_glider 25 = .ok (.aload_n 3, 1) := by decide +kernel
theorem dX3_glider_26 : decode cX3_glider 26 = .ok (.iload_n 2, 1) := by decide +kernel
theorem dX3_glider_27 : decode cX3_glider 27 = .ok (.invokestatic 144, 3) := by decide +kernel
theorem dX3_glider_30 : decode cX3_glider 30 = .ok (.ireturn, 1) := by decide +kernel
theorem dX3_ask_0 : decode cX3_ask 0 = .ok (.aload_n 0, 1) := by decide +kernel
theorem dX3_ask_1 : decode cX3_ask 1 = .ok (.iload_n 1, 1) := by decide +kernel
theorem dX3_ask_2 : decode cX3_ask 2 = .ok (.invokevirtual 119, 3) := by decide +kernel
theorem dX3_ask_5 : decode cX3_ask 5 = .ok (.astore 6, 2) := by decide +kernel
theorem dX3_ask_7 : decode cX3_ask 7 = .ok (.iload_n 2, 1) := by decide +kernel
theorem dX3_ask_8 : decode cX3_ask 8 = .ok (.iconst (-1), 1) := by decide +kernel
theorem dX3_ask_9 : decode cX3_ask 9 = .ok (.if_icmp .ne 7, 3) := by decide +kernel
theorem dX3_ask_12 : decode cX3_ask 12 = .ok (.aconst_null, 1) := by decide +kernel
theorem dX3_ask_13 : decode cX3_ask 13 = .ok (.goto 8, 3) := by decide +kernel
theorem dX3_ask_16 : decode cX3_ask 16 = .ok (.aload_n 0, 1) := by decide +kernel
theorem dX3_ask_17 : decode cX3_ask 17 = .ok (.iload_n 2, 1) := by decide +kernel
theorem dX3_ask_18 : decode cX3_ask 18 = .ok (.invokevirtual 119, 3) := by decide +kernel
theorem dX3_ask_21 : decode cX3_ask 21 = .ok (.astore 7, 2) := by decide +kernel
theorem dX3_ask_23 : decode cX3_ask 23 = .ok (.aload_n 0, 1) := by decide +kernel
theorem dX3_ask_24 : decode cX3_ask 24 = .ok (.iload_n 3, 1) := by decide +kernel
theorem dX3_ask_25 : decode cX3_ask 25 = .ok (.invokevirtual 106, 3) := by decide +kernel
theorem dX3_ask_28 : decode cX3_ask 28 = .ok (.astore 8, 2) := by decide +kernel
theorem dX3_ask_30 : decode cX3_ask 30 = .ok (.iload_n 1, 1) := by decide +kernel
theorem dX3_ask_31 : decode cX3_ask 31 = .ok (.iload_n 2, 1) := by decide +kernel
theorem dX3_ask_32 : decode cX3_ask 32 = .ok (.if_icmp .eq 23, 3) := by decide +kernel
theorem dX3_ask_35 : decode cX3_ask 35 = .ok (.iload 4, 2) := by decide +kernel
theorem dX3_ask_37 : decode cX3_ask 37 = .ok (.invokestatic 148, 3) := by decide +kernel
theorem dX3_ask_40 : decode cX3_ask 40 = .ok (.ifCond .eq 15, 3) := by decide +kernel
theorem dX3_ask_43 : decode cX3_ask 43 = .ok (.iload 5, 2) := by decide +kernel
theorem dX3_ask_45 : decode cX3_ask 45 = .ok (.iconst 2, 1) := by decide +kernel
theorem dX3_ask_46 : decode cX3_ask 46 = .ok (.sipush 300, 3) := by decide +kernel
theorem dX3_ask_49 : decode cX3_ask 49 = .ok (.invokestatic 54, 3) := by decide +kernel
theorem dX3_ask_52 : decode cX3_ask 52 = .ok (.ifCond .ne 13, 3) := by decide +kernel
theorem dX3_ask_55 : decode cX3_ask 55 = .ok (.new 58, 3) := by decide +kernel
theorem dX3_ask_58 : decode cX3_ask 58 = .ok (.dup, 1) := by decide +kernel
theorem dX3_ask_59 : decode cX3_ask 59 = .ok (.ldc 152, 2) := by decide +kernel
theorem dX3_ask_61 : decode cX3_ask 61 = .ok (.invokespecial 62, 3) := by decide +kernel
theorem dX3_ask_64 : decode cX3_ask 64 = .ok (.athrow, 1) := by decide +kernel
theorem dX3_ask_65 : decode cX3_ask 65 = .ok (.aload_n 0, 1) := by decide +kernel
theorem dX3_ask_66 : decode cX3_ask 66 = .ok (.getfield 22, 3) := by decide +kernel
theorem dX3_ask_69 : decode cX3_ask 69 = .ok (.invokevirtual 65, 3) := by decide +kernel
theorem dX3_ask_72 : decode cX3_ask 72 = .ok (.bipush 30, 2) := by decide +kernel
theorem dX3_ask_74 : decode cX3_ask 74 = .ok (.if_icmp .ge 15, 3) := by decide +kernel
theorem dX3_ask_77 : decode cX3_ask 77 = .ok (.aload_n 0, 1) := by decide +kernel
theorem dX3_ask_78 : decode cX3_ask 78 = .ok (.getfield 19, 3) := by decide +kernel
theorem dX3_ask_81 : decode cX3_ask 81 = .ok (.invokevirtual 65, 3) := by decide +kernel
theorem dX3_ask_84 : decode cX3_ask 84 = .ok (.bipush 100, 2) := by decide +kernel
theorem dX3_ask_86 : decode cX3_ask 86 = .ok (.if_icmp .lt 13, 3) := by decide +kernel
theorem dX3_ask_89 : decode cX3_ask 89 = .ok (.new 69, 3) := by decide +kernel
theorem dX3_ask_92 : decode cX3_ask 92 = .ok (.dup, 1) := by decide +kernel
theorem dX3_ask_93 : decode cX3_ask 93 = .ok (.ldc 154, 2) := by decide +kernel
theorem dX3_ask_95 : decode cX3_ask 95 = .ok (.invokespecial 73, 3) := by decide +kernel
theorem dX3_ask_98 : decode cX3_ask 98 = .ok (.athrow, 1) := by decide +kernel
theorem dX3_ask_99 : decode cX3_ask 99 = .ok (.new 156, 3) := by decide +kernel
theorem dX3_ask_102 : decode cX3_ask 102 = .ok (.dup, 1) := by decide +kernel
theorem dX3_ask_103 : decode cX3_ask 103 = .ok (.aload_n 0, 1) := by decide +kernel
theorem dX3_ask_104 : decode cX3_ask 104 = .ok (.getfield 19, 3) := by decide +kernel
theorem dX3_ask_107 : decode cX3_ask 107 = .ok (.invokevirtual 65, 3) := by decide +kernel
theorem dX3_ask_110 : decode cX3_ask 110 = .ok (.aload 6, 2) := by decide +kernel
theorem dX3_ask_112 : decode cX3_ask 112 = .ok (.aload 7, 2) := by decide +kernel
theorem dX3_ask_114 : decode cX3_ask 114 = .ok (.aload 8, 2) := by decide +kernel
theorem dX3_ask_116 : decode cX3_ask 116 = .ok (.invokespecial 158, 3) := by decide +kernel
theorem dX3_ask_119 : decode cX3_ask 119 = .ok (.astore 9, 2) := by decide +kernel
theorem dX3_ask_121 : decode cX3_ask 121 = .ok (.aload 9, 2) := by decide +kernel
theorem dX3_ask_123 : decode cX3_ask 123 = .ok (.iload 4, 2) := by decide +kernel
theorem dX3_ask_125 : decode cX3_ask 125 = .ok (.putfield 161, 3) := by decide +kernel
theorem dX3_ask_128 : decode cX3_ask 128 = .ok (.aload 9, 2) := by decide +kernel
theorem dX3_ask_130 : decode cX3_ask 130 = .ok (.iload 5, 2) := by decide +kernel
theorem dX3_ask_132 : decode cX3_ask 132 = .ok (.putfield 164, 3) := by decide +kernel
theorem dX3_ask_135 : decode cX3_ask 135 = .ok (.aload 9, 2) := by decide +kernel
theorem dX3_ask_137 : decode cX3_ask 137 = .ok (.aload_n 0, 1) := by decide +kernel
theorem dX3_ask_138 : decode cX3_ask 138 = .ok (.getfield 42, 3) := by decide +kernel
theorem dX3_ask_141 : decode cX3_ask 141 = .ok (.putfield 167, 3) := by decide +kernel
theorem dX3_ask_144 : decode cX3_ask 144 = .ok (.aload_n 0, 1) := by decide +kernel
theorem dX3_ask_145 : decode cX3_ask 145 = .ok (.getfield 19, 3) := by decide +kernel
theorem dX3_ask_148 : decode cX3_ask 148 = .ok (.aload 9, 2) := by decide +kernel
theorem dX3_ask_150 : decode cX3_ask 150 = .ok (.invokevirtual 79, 3) := by decide +kernel
theorem dX3_ask_153 : decode cX3_ask 153 = .ok (.pop, 1) := by decide +kernel
theorem dX3_ask_154 : decode cX3_ask 154 = .ok (.aload_n 0, 1) := by decide +kernel
theorem dX3_ask_155 : decode cX3_ask 155 = .ok (.getfield 22, 3) := by decide +kernel
theorem dX3_ask_158 : decode cX3_ask 158 = .ok (.aload 9, 2) := by decide +kernel
theorem dX3_ask_160 : decode cX3_ask 160 = .ok (.invokevirtual 79, 3) := by decide +kernel
theorem dX3_ask_163 : decode cX3_ask 163 = .ok (.pop, 1) := by decide +kernel
theorem dX3_ask_164 : decode cX3_ask 164 = .ok (.aload 9, 2) := by decide +kernel
theorem dX3_ask_166 : decode cX3_ask 166 = .ok (.getfield 170, 3) := by decide +kernel
theorem dX3_ask_169 : decode cX3_ask 169 = .ok (.ireturn, 1) := by decide +kernel
theorem dX3_drop_0 : decode cX3_drop 0 = .ok (.aload_n 0, 1) := by decide +kernel
theorem dX3_drop_1 : decode cX3_drop 1 = .ok (.iload_n 1, 1) := by decide +kernel
theorem dX3_drop_2 : decode cX3_drop 2 = .ok (.invokevirtual 173, 3) := by decide +kernel
theorem dX3_drop_5 : decode cX3_drop 5 = .ok (.astore_n 2, 1) := by decide +kernel
theorem dX3_drop_6 : decode cX3_drop 6 = .ok (.aload_n 0, 1) := by decide +kernel
theorem dX3_drop_7 : decode cX3_drop 7 = .ok (.aload_n 2, 1) := by decide +kernel
theorem dX3_drop_8 : decode cX3_drop 8 = .ok (.invokevirtual 177, 3) := by decide +kernel
theorem dX3_drop_11 : decode cX3_drop 11 = .ok (.istore_n 3, 1) := by decide +kernel
theorem dX3_drop_12 : decode cX3_drop 12 = .ok (.aload_n 0, 1) := by decide +kernel
theorem dX3_drop_13 : decode cX3_drop 13 = .ok (.iload_n 3, 1) := by decide +kernel
theorem dX3_drop_14 : decode cX3_drop 14 = .ok (.invokevirtual 181, 3) := by decide +kernel
theorem dX3_drop_17 : decode cX3_drop 17 = .ok (.aload_n 2, 1) := by decide +kernel
theorem dX3_drop_18 : decode cX3_drop 18 = .ok (.iconst 3, 1) := by decide +kernel
theorem dX3_drop_19 : decode cX3_drop 19 = .ok (.putfield 185, 3) := by decide +kernel
theorem dX3_drop_22 : decode cX3_drop 22 = .ok (.iload_n 3, 1) := by decide +kernel
theorem dX3_drop_23 : decode cX3_drop 23 = .ok (.ireturn, 1) := by decide +kernel
theorem dX3_list_0 : decode cX3_list 0 = .ok (.iload_n 1, 1) := by decide +kernel
theorem dX3_list_1 : decode cX3_list 1 = .ok (.ifCond .ge 13, 3) := by decide +kernel
theorem dX3_list_4 : decode cX3_list 4 = .ok (.new 135, 3) := by decide +kernel
theorem dX3_list_7 : decode cX3_list 7 = .ok (.dup, 1) := by decide +kernel
theorem dX3_list_8 : decode cX3_list 8 = .ok (.ldc 186, 2) := by decide +kernel
theorem dX3_list_10 : decode cX3_list 10 = .ok (.invokespecial 139, 3) := by decide +kernel
theorem dX3_list_13 : decode cX3_list 13 = .ok (.athrow, 1) := by decide +kernel
theorem dX3_list_14 : decode cX3_list 14 = .ok (.iload_n 1, 1) := by decide +kernel
theorem dX3_list_15 : decode cX3_list 15 = .ok (.aload_n 0, 1) := by decide +kernel
theorem dX3_list_16 : decode cX3_list 16 = .ok (.getfield 22, 3) := by decide +kernel
theorem dX3_list_19 : decode cX3_list 19 = .ok (.invokevirtual 65, 3) := by decide +kernel
theorem dX3_list_22 : decode cX3_list 22 = .ok (.if_icmp .lt 5, 3) := by decide +kernel
theorem dX3_list_25 : decode cX3_list 25 = .ok (.iconst (-1), 1) := by decide +kernel
theorem dX3_list_26 : decode cX3_list 26 = .ok (.ireturn, 1) := by decide +kernel
theorem dX3_list_27 : decode cX3_list 27 = .ok (.aload_n 0, 1) := by decide +kernel
theorem dX3_list_28 : decode cX3_list 28 = .ok (.getfield 22, 3) := by decide +kernel
theorem dX3_list_31 : decode cX3_list 31 = .ok (.iload_n 1, 1) := by decide +kernel
theorem dX3_list_32 : decode cX3_list 32 = .ok (.invokevirtual 188, 3) := by decide +kernel
theorem dX3_list_35 : decode cX3_list 35 = .ok (.checkcast 156, 3) := by decide +kernel
theorem dX3_list_38 : decode cX3_list 38 = .ok (.getfield 170, 3) := by decide +kernel
theorem dX3_list_41 : decode cX3_list 41 = .ok (.ireturn, 1) := by decide +kernel
theorem dX3_reason_0 : decode cX3_reason 0 = .ok (.aload_n 0, 1) := by decide +kernel
theorem dX3_reason_1 : decode cX3_reason 1 = .ok (.aload_n 0, 1) := by decide +kernel
theorem dX3_reason_2 : decode cX3_reason 2 = .ok (.iload_n 1, 1) := by decide +kernel
theorem dX3_reason_3 : decode cX3_reason 3 = .ok (.invokevirtual 173, 3) := by decide +kernel
theorem dX3_reason_6 : decode cX3_reason 6 = .ok (.invokevirtual 192, 3) := by decide +kernel
theorem dX3_reason_9 : decode cX3_reason 9 = .ok (.ireturn, 1) := by decide +kernel
theorem dX3_call_0 : decode cX3_call 0 = .ok (.aload_n 0, 1) := by decide +kernel
theorem dX3_call_1 : decode cX3_call 1 = .ok (.iload_n 1, 1) := by decide +kernel
theorem dX3_call_2 : decode cX3_call 2 = .ok (.invokevirtual 106, 3) := by decide +kernel
theorem dX3_call_5 : decode cX3_call 5 = .ok (.astore_n 2, 1) := by decide +kernel
theorem dX3_call_6 : decode cX3_call 6 = .ok (.aload_n 2, 1) := by decide +kernel
theorem dX3_call_7 : decode cX3_call 7 = .ok (.getfield 195, 3) := by decide +kernel
theorem dX3_call_10 : decode cX3_call 10 = .ok (.astore_n 3, 1) := by decide +kernel
theorem dX3_call_11 : decode cX3_call 11 = .ok (.aload_n 3, 1) := by decide +kernel
theorem dX3_call_12 : decode cX3_call 12 = .ok (.ifnonnull 13, 3) := by decide +kernel
theorem dX3_call_15 : decode cX3_call 15 = .ok (.new 69, 3) := by decide +kernel
theorem dX3_call_18 : decode cX3_call 18 = .ok (.dup, 1) := by decide +kernel
theorem dX3_call_19 : decode cX3_call 19 = .ok (.ldc 199, 2) := by decide +kernel
theorem dX3_call_21 : decode cX3_call 21 = .ok (.invokespecial 73, 3) := by decide +kernel
theorem dX3_call_24 : decode cX3_call 24 = .ok (.athrow, 1) := by decide +kernel
theorem dX3_call_25 : decode cX3_call 25 = .ok (.aload_n 2, 1) := by decide +kernel
theorem dX3_call_26 : decode cX3_call 26 = .ok (.iconst 1, 1) := by decide +kernel
theorem dX3_call_27 : decode cX3_call 27 = .ok (.putfield 201, 3) := by decide +kernel
theorem dX3_call_30 : decode cX3_call 30 = .ok (.aload_n 0, 1) := by decide +kernel
theorem dX3_call_31 : decode cX3_call 31 = .ok (.getfield 42, 3) := by decide +kernel
theorem dX3_call_34 : decode cX3_call 34 = .ok (.aload_n 3, 1) := by decide +kernel
theorem dX3_call_35 : decode cX3_call 35 = .ok (.getfield 204, 3) := by decide +kernel
theorem dX3_call_38 : decode cX3_call 38 = .ok (.isub, 1) := by decide +kernel
theorem dX3_call_39 : decode cX3_call 39 = .ok (.ireturn, 1) := by decide +kernel
theorem dX3_tick_0 : decode cX3_tick 0 = .ok (.iload_n 1, 1) := by decide +kernel
theorem dX3_tick_1 : decode cX3_tick 1 = .ok (.iconst 1, 1) := by decide +kernel
theorem dX3_tick_2 : decode cX3_tick 2 = .ok (.sipush 300, 3) := by decide +kernel
theorem dX3_tick_5 : decode cX3_tick 5 = .ok (.invokestatic 54, 3) := by decide +kernel
theorem dX3_tick_8 : decode cX3_tick 8 = .ok (.ifCond .eq 15, 3) := by decide +kernel
theorem dX3_tick_11 : decode cX3_tick 11 = .ok (.aload_n 0, 1) := by decide +kernel
theorem dX3_tick_12 : decode cX3_tick 12 = .ok (.getfield 42, 3) := by decide +kernel
theorem dX3_tick_15 : decode cX3_tick 15 = .ok (.iload_n 1, 1) := by decide +kernel
theorem dX3_tick_16 : decode cX3_tick 16 = .ok (.iadd, 1) := by decide +kernel
theorem dX3_tick_17 : decode cX3_tick 17 = .ok (.sipush 1500, 3) := by decide +kernel
theorem dX3_tick_20 : decode cX3_tick 20 = .ok (.if_icmp .le 13, 3) := by decide +kernel
theorem dX3_tick_23 : decode cX3_tick 23 = .ok (.new 58, 3) := by decide +kernel
theorem dX3_tick_26 : decode cX3_tick 26 = .ok (.dup, 1) := by decide +kernel
theorem dX3_tick_27 : decode cX3_tick 27 = .ok (.ldc 207, 2) := by decide +kernel
theorem dX3_tick_29 : decode cX3_tick 29 = .ok (.invokespecial 62, 3) := by decide +kernel
theorem dX3_tick_32 : decode cX3_tick 32 = .ok (.athrow, 1) := by decide +kernel
theorem dX3_tick_33 : decode cX3_tick 33 = .ok (.iconst 0, 1) := by decide +kernel
theorem dX3_tick_34 : decode cX3_tick 34 = .ok (.istore_n 2, 1) := by decide +kernel
theorem dX3_tick_35 : decode cX3_tick 35 = .ok (.iconst 0, 1) := by decide +kernel
theorem dX3_tick_36 : decode cX3_tick 36 = .ok (.istore_n 3, 1) := by decide +kernel
theorem dX3_tick_37 : decode cX3_tick 37 = .ok (.iload_n 3, 1) := by decide +kernel
theorem dX3_tick_38 : decode cX3_tick 38 = .ok (.iload_n 1, 1) := by decide +kernel
theorem dX3_tick_39 : decode cX3_tick 39 = .ok (.if_icmp .ge 19, 3) := by decide +kernel
theorem dX3_tick_42 : decode cX3_tick 42 = .ok (.aload_n 0, 1) := by decide +kernel
theorem dX3_tick_43 : decode cX3_tick 43 = .ok (.invokevirtual 209, 3) := by decide +kernel
theorem dX3_tick_46 : decode cX3_tick 46 = .ok (.ifCond .eq 6, 3) := by decide +kernel
theorem dX3_tick_49 : decode cX3_tick 49 = .ok (.iinc 2 1, 3) := by decide +kernel
theorem dX3_tick_52 : decode cX3_tick 52 = .ok (.iinc 3 1, 3) := by decide +kernel
theorem dX3_tick_55 : decode cX3_tick 55 = .ok (.goto (-18), 3) := by decide +kernel
theorem dX3_tick_58 : decode cX3_tick 58 = .ok (.iload_n 2, 1) := by decide +kernel
theorem dX3_tick_59 : decode cX3_tick 59 = .ok (.ireturn, 1) := by decide +kernel
theorem dX3_now_0 : decode cX3_now 0 = .ok (.aload_n 0, 1) := by decide +kernel
theorem dX3_now_1 : decode cX3_now 1 = .ok (.getfield 42, 3) := by decide +kernel
theorem dX3_now_4 : decode cX3_now 4 = .ok (.ireturn, 1) := by decide +kernel
theorem dX3_flight_0 : decode cX3_flight 0 = .ok (.aload_n 0, 1) := by decide +kernel
theorem dX3_flight_1 : decode cX3_flight 1 = .ok (.iload_n 1, 1) := by decide +kernel
theorem dX3_flight_2 : decode cX3_flight 2 = .ok (.invokevirtual 213, 3) := by decide +kernel
theorem dX3_flight_5 : decode cX3_flight 5 = .ok (.astore_n 3, 1) := by decide +kernel
theorem dX3_flight_6 : decode cX3_flight 6 = .ok (.iload_n 2, 1) := by decide +kernel
theorem dX3_flight_7 : decode cX3_flight 7 = .ok (.iconst 0, 1) := by decide +kernel
theorem dX3_flight_8 : decode cX3_flight 8 = .ok (.bipush 7, 2) := by decide +kernel
theorem dX3_flight_10 : decode cX3_flight 10 = .ok (.invokestatic 54, 3) := by decide +kernel
theorem dX3_flight_13 : decode cX3_flight 13 = .ok (.ifCond .ne 13, 3) := by decide +kernel
theorem dX3_flight_16 : decode cX3_flight 16 = .ok (.new 135, 3) := by decide +kernel
theorem dX3_flight_19 : decode cX3_flight 19 = .ok (.dup, 1) := by decide +kernel
theorem dX3_flight_20 : decode cX3_flight 20 = .ok (.ldc 137, 2) := by decide +kernel
theorem dX3_flight_22 : decode cX3_flight 22 = .ok (.invokespecial 139, 3) := by decide +kernel
theorem dX3_flight_25 : decode cX3_flight 25 = .ok (.athrow, 1) := by decide +kernel
theorem dX3_flight_26 : decode cX3_flight 26 = .ok (.aload_n 3, 1) := by decide +kernel
theorem dX3_flight_27 : decode cX3_flight 27 = .ok (.iload_n 2, 1) := by decide +kernel
theorem dX3_flight_28 : decode cX3_flight 28 = .ok (.invokestatic 216, 3) := by decide +kernel
theorem dX3_flight_31 : decode cX3_flight 31 = .ok (.ireturn, 1) := by decide +kernel
theorem dX3_count_0 : decode cX3_count 0 = .ok (.iload_n 1, 1) := by decide +kernel
theorem dX3_count_1 : decode cX3_count 1 = .ok (.iconst 0, 1) := by decide +kernel
theorem dX3_count_2 : decode cX3_count 2 = .ok (.bipush 7, 2) := by decide +kernel
theorem dX3_count_4 : decode cX3_count 4 = .ok (.invokestatic 54, 3) := by decide +kernel
theorem dX3_count_7 : decode cX3_count 7 = .ok (.ifCond .ne 13, 3) := by decide +kernel
theorem dX3_count_10 : decode cX3_count 10 = .ok (.new 135, 3) := by decide +kernel
theorem dX3_count_13 : decode cX3_count 13 = .ok (.dup, 1) := by decide +kernel
theorem dX3_count_14 : decode cX3_count 14 = .ok (.ldc 220, 2) := by decide +kernel
theorem dX3_count_16 : decode cX3_count 16 = .ok (.invokespecial 139, 3) := by decide +kernel
theorem dX3_count_19 : decode cX3_count 19 = .ok (.athrow, 1) := by decide +kernel
theorem dX3_count_20 : decode cX3_count 20 = .ok (.aload_n 0, 1) := by decide +kernel
theorem dX3_count_21 : decode cX3_count 21 = .ok (.iload_n 1, 1) := by decide +kernel
theorem dX3_count_22 : decode cX3_count 22 = .ok (.invokevirtual 222, 3) := by decide +kernel
theorem dX3_count_25 : decode cX3_count 25 = .ok (.ireturn, 1) := by decide +kernel
theorem dX3_isBusy_0 : decode cX3_isBusy 0 = .ok (.aload_n 0, 1) := by decide +kernel
theorem dX3_isBusy_1 : decode cX3_isBusy 1 = .ok (.getfield 42, 3) := by decide +kernel
theorem dX3_isBusy_4 : decode cX3_isBusy 4 = .ok (.aload_n 0, 1) := by decide +kernel
theorem dX3_isBusy_5 : decode cX3_isBusy 5 = .ok (.getfield 51, 3) := by decide +kernel
theorem dX3_isBusy_8 : decode cX3_isBusy 8 = .ok (.if_icmp .ge 7, 3) := by decide +kernel
theorem dX3_isBusy_11 : decode cX3_isBusy 11 = .ok (.iconst 1, 1) := by decide +kernel
theorem dX3_isBusy_12 : decode cX3_isBusy 12 = .ok (.goto 4, 3) := by decide +kernel
theorem dX3_isBusy_15 : decode cX3_isBusy 15 = .ok (.iconst 0, 1) := by decide +kernel
theorem dX3_isBusy_16 : decode cX3_isBusy 16 = .ok (.ireturn, 1) := by decide +kernel
theorem dX3_bill_0 : decode cX3_bill 0 = .ok (.aload_n 0, 1) := by decide +kernel
theorem dX3_bill_1 : decode cX3_bill 1 = .ok (.iload_n 1, 1) := by decide +kernel
theorem dX3_bill_2 : decode cX3_bill 2 = .ok (.invokevirtual 119, 3) := by decide +kernel
theorem dX3_bill_5 : decode cX3_bill 5 = .ok (.getfield 226, 3) := by decide +kernel
theorem dX3_bill_8 : decode cX3_bill 8 = .ok (.ireturn, 1) := by decide +kernel
theorem dX3_pay_0 : decode cX3_pay 0 = .ok (.aload_n 0, 1) := by decide +kernel
theorem dX3_pay_1 : decode cX3_pay 1 = .ok (.iload_n 1, 1) := by decide +kernel
theorem dX3_pay_2 : decode cX3_pay 2 = .ok (.invokevirtual 119, 3) := by decide +kernel
theorem dX3_pay_5 : decode cX3_pay 5 = .ok (.astore_n 3, 1) := by decide +kernel
theorem dX3_pay_6 : decode cX3_pay 6 = .ok (.iload_n 2, 1) := by decide +kernel
theorem dX3_pay_7 : decode cX3_pay 7 = .ok (.iconst 1, 1) := by decide +kernel
theorem dX3_pay_8 : decode cX3_pay 8 = .ok (.ldc 229, 2) := by decide +kernel
theorem dX3_pay_10 : decode cX3_pay 10 = .ok (.invokestatic 54, 3) := by decide +kernel
theorem dX3_pay_13 : decode cX3_pay 13 = .ok (.ifCond .ne 13, 3) := by decide +kernel
theorem dX3_pay_16 : decode cX3_pay 16 = .ok (.new 58, 3) := by decide +kernel
theorem dX3_pay_19 : decode cX3_pay 19 = .ok (.dup, 1) := by decide +kernel
theorem dX3_pay_20 : decode cX3_pay 20 = .ok (.ldc 230, 2) := by decide +kernel
theorem dX3_pay_22 : decode cX3_pay 22 = .ok (.invokespecial 62, 3) := by decide +kernel
theorem dX3_pay_25 : decode cX3_pay 25 = .ok (.athrow, 1) := by decide +kernel
theorem dX3_pay_26 : decode cX3_pay 26 = .ok (.aload_n 3, 1) := by decide +kernel
theorem dX3_pay_27 : decode cX3_pay 27 = .ok (.dup, 1) := by decide +kernel
theorem dX3_pay_28 : decode cX3_pay 28 = .ok (.getfield 226, 3) := by decide +kernel
theorem dX3_pay_31 : decode cX3_pay 31 = .ok (.iload_n 2, 1) := by decide +kernel
theorem dX3_pay_32 : decode cX3_pay 32 = .ok (.isub, 1) := by decide +kernel
theorem dX3_pay_33 : decode cX3_pay 33 = .ok (.putfield 226, 3) := by decide +kernel
theorem dX3_pay_36 : decode cX3_pay 36 = .ok (.aload_n 3, 1) := by decide +kernel
theorem dX3_pay_37 : decode cX3_pay 37 = .ok (.getfield 226, 3) := by decide +kernel
theorem dX3_pay_40 : decode cX3_pay 40 = .ok (.ireturn, 1) := by decide +kernel
theorem dX3_income_0 : decode cX3_income 0 = .ok (.iconst 0, 1) := by decide +kernel
theorem dX3_income_1 : decode cX3_income 1 = .ok (.istore_n 1, 1) := by decide +kernel
theorem dX3_income_2 : decode cX3_income 2 = .ok (.iconst 0, 1) := by decide +kernel
theorem dX3_income_3 : decode cX3_income 3 = .ok (.istore_n 2, 1) := by decide +kernel
theorem dX3_income_4 : decode cX3_income 4 = .ok (.iload_n 2, 1) := by decide +kernel
theorem dX3_income_5 : decode cX3_income 5 = .ok (.aload_n 0, 1) := by decide +kernel
theorem dX3_income_6 : decode cX3_income 6 = .ok (.getfield 19, 3) := by decide +kernel
theorem dX3_income_9 : decode cX3_income 9 = .ok (.invokevirtual 65, 3) := by decide +kernel
theorem dX3_income_12 : decode cX3_income 12 = .ok (.if_icmp .ge 26, 3) := by decide +kernel
theorem dX3_income_15 : decode cX3_income 15 = .ok (.iload_n 1, 1) := by decide +kernel
theorem dX3_income_16 : decode cX3_income 16 = .ok (.aload_n 0, 1) := by decide +kernel
theorem dX3_income_17 : decode cX3_income 17 = .ok (.getfield 19, 3) := by decide +kernel
theorem dX3_income_20 : decode cX3_income 20 = .ok (.iload_n 2, 1) := by decide +kernel
theorem dX3_income_21 : decode cX3_income 21 = .ok (.invokevirtual 188, 3) := by decide +kernel
theorem dX3_income_24 : decode cX3_income 24 = .ok (.checkcast 156, 3) := by decide +kernel
theorem dX3_income_27 : decode cX3_income 27 = .ok (.getfield 232, 3) := by decide +kernel
theorem dX3_income_30 : decode cX3_income 30 = .ok (.iadd, 1) := by decide +kernel
theorem dX3_income_31 : decode cX3_income 31 = .ok (.istore_n 1, 1) := by decide +kernel
theorem dX3_income_32 : decode cX3_income 32 = .ok (.iinc 2 1, 3) := by decide +kernel
theorem dX3_income_35 : decode cX3_income 35 = .ok (.goto (-31), 3) := by decide +kernel
theorem dX3_income_38 : decode cX3_income 38 = .ok (.iload_n 1, 1) := by decide +kernel
theorem dX3_income_39 : decode cX3_income 39 = .ok (.ireturn, 1) := by decide +kernel
theorem dX3_longest_0 : decode cX3_longest 0 = .ok (.iconst (-1), 1) := by decide +kernel
theorem dX3_longest_1 : decode cX3_longest 1 = .ok (.istore_n 1, 1) := by decide +kernel
theorem dX3_longest_2 : decode cX3_longest 2 = .ok (.iconst 0, 1) := by decide +kernel
theorem dX3_longest_3 : decode cX3_longest 3 = .ok (.istore_n 2, 1) := by decide +kernel
theorem dX3_longest_4 : decode cX3_longest 4 = .ok (.iconst 0, 1) := by decide +kernel
theorem dX3_longest_5 : decode cX3_longest 5 = .ok (.istore_n 3, 1) := by decide +kernel
theorem dX3_longest_6 : decode cX3_longest 6 = .ok (.iload_n 3, 1) := by decide +kernel
theorem dX3_longest_7 : decode cX3_longest 7 = .ok (.aload_n 0, 1) := by decide +kernel
theorem dX3_longest_8 : decode cX3_longest 8 = .ok (.getfield 19, 3) := by decide +kernel
theorem dX3_longest_11 : decode cX3_longest 11 = .ok (.invokevirtual 65, 3) := by decide +kernel
theorem dX3_longest_14 : decode cX3_longest 14 = .ok (.if_icmp .ge 69, 3) := by decide +kernel
theorem dX3_longest_17 : decode cX3_longest 17 = .ok (.aload_n 0, 1) := by decide +kernel
theorem dX3_longest_18 : decode cX3_longest 18 = .ok (.getfield 19, 3) := by decide +kernel
theorem dX3_longest_21 : decode cX3_longest 21 = .ok (.iload_n 3, 1) := by decide +kernel
theorem dX3_longest_22 : decode cX3_longest 22 = .ok (.invokevirtual 188, 3) := by decide +kernel
theorem dX3_longest_25 : decode cX3_longest 25 = .ok (.checkcast 156, 3) := by decide +kernel
theorem dX3_longest_28 : decode cX3_longest 28 = .ok (.astore 4, 2) := by decide +kernel
theorem dX3_longest_30 : decode cX3_longest 30 = .ok (.aload 4, 2) := by decide +kernel
theorem dX3_longest_32 : decode cX3_longest 32 = .ok (.getfield 185, 3) := by decide +kernel
theorem dX3_longest_35 : decode cX3_longest 35 = .ok (.iconst 2, 1) := by decide +kernel
theorem dX3_longest_36 : decode cX3_longest 36 = .ok (.if_icmp .ne 41, 3) := by decide +kernel
theorem dX3_longest_39 : decode cX3_longest 39 = .ok (.iload_n 1, 1) := by decide +kernel
theorem dX3_longest_40 : decode cX3_longest 40 = .ok (.iconst (-1), 1) := by decide +kernel
theorem dX3_longest_41 : decode cX3_longest 41 = .ok (.if_icmp .eq 18, 3) := by decide +kernel
theorem dX3_longest_44 : decode cX3_longest 44 = .ok (.aload 4, 2) := by decide +kernel
theorem dX3_longest_46 : decode cX3_longest 46 = .ok (.getfield 235, 3) := by decide +kernel
theorem dX3_longest_49 : decode cX3_longest 49 = .ok (.aload 4, 2) := by decide +kernel
theorem dX3_longest_51 : decode cX3_longest 51 = .ok (.getfield 204, 3) := by decide +kernel
theorem dX3_longest_54 : decode cX3_longest 54 = .ok (.isub, 1) := by decide +kernel
theorem dX3_longest_55 : decode cX3_longest 55 = .ok (.iload_n 2, 1) := by decide +kernel
theorem dX3_longest_56 : decode cX3_longest 56 = .ok (.if_icmp .le 21, 3) := by decide +kernel
theorem dX3_longest_59 : decode cX3_longest 59 = .ok (.aload 4, 2) := by decide +kernel
theorem dX3_longest_61 : decode cX3_longest 61 = .ok (.getfield 170, 3) := by decide +kernel
theorem dX3_longest_64 : decode cX3_longest 64 = .ok (.istore_n 1, 1) := by decide +kernel
theorem dX3_longest_65 : decode cX3_longest 65 = .ok (.aload 4, 2) := by decide +kernel
theorem dX3_longest_67 : decode cX3_longest 67 = .ok (.getfield 235, 3) := by decide +kernel
theorem dX3_longest_70 : decode cX3_longest 70 = .ok (.aload 4, 2) := by decide +kernel
theorem dX3_longest_72 : decode cX3_longest 72 = .ok (.getfield 204, 3) := by decide +kernel
theorem dX3_longest_75 : decode cX3_longest 75 = .ok (.isub, 1) := by decide +kernel
theorem dX3_longest_76 : decode cX3_longest 76 = .ok (.istore_n 2, 1) := by decide +kernel
theorem dX3_longest_77 : decode cX3_longest 77 = .ok (.iinc 3 1, 3) := by decide +kernel
theorem dX3_longest_80 : decode cX3_longest 80 = .ok (.goto (-74), 3) := by decide +kernel
theorem dX3_longest_83 : decode cX3_longest 83 = .ok (.iload_n 1, 1) := by decide +kernel
theorem dX3_longest_84 : decode cX3_longest 84 = .ok (.ireturn, 1) := by decide +kernel
theorem dX3_waited_0 : decode cX3_waited 0 = .ok (.iconst 0, 1) := by decide +kernel
theorem dX3_waited_1 : decode cX3_waited 1 = .ok (.istore_n 1, 1) := by decide +kernel
theorem dX3_waited_2 : decode cX3_waited 2 = .ok (.iconst 0, 1) := by decide +kernel
theorem dX3_waited_3 : decode cX3_waited 3 = .ok (.istore_n 2, 1) := by decide +kernel
theorem dX3_waited_4 : decode cX3_waited 4 = .ok (.iconst 0, 1) := by decide +kernel
theorem dX3_waited_5 : decode cX3_waited 5 = .ok (.istore_n 3, 1) := by decide +kernel
theorem dX3_waited_6 : decode cX3_waited 6 = .ok (.iload_n 3, 1) := by decide +kernel
theorem dX3_waited_7 : decode cX3_waited 7 = .ok (.aload_n 0, 1) := by decide +kernel
theorem dX3_waited_8 : decode cX3_waited 8 = .ok (.getfield 19, 3) := by decide +kernel
theorem dX3_waited_11 : decode cX3_waited 11 = .ok (.invokevirtual 65, 3) := by decide +kernel
theorem dX3_waited_14 : decode cX3_waited 14 = .ok (.if_icmp .ge 48, 3) := by decide +kernel
theorem dX3_waited_17 : decode cX3_waited 17 = .ok (.aload_n 0, 1) := by decide +kernel
theorem dX3_waited_18 : decode cX3_waited 18 = .ok (.getfield 19, 3) := by decide +kernel
theorem dX3_waited_21 : decode cX3_waited 21 = .ok (.iload_n 3, 1) := by decide +kernel
theorem dX3_waited_22 : decode cX3_waited 22 = .ok (.invokevirtual 188, 3) := by decide +kernel
theorem dX3_waited_25 : decode cX3_waited 25 = .ok (.checkcast 156, 3) := by decide +kernel
theorem dX3_waited_28 : decode cX3_waited 28 = .ok (.astore 4, 2) := by decide +kernel
theorem dX3_waited_30 : decode cX3_waited 30 = .ok (.aload 4, 2) := by decide +kernel
theorem dX3_waited_32 : decode cX3_waited 32 = .ok (.getfield 204, 3) := by decide +kernel
theorem dX3_waited_35 : decode cX3_waited 35 = .ok (.iconst (-1), 1) := by decide +kernel
theorem dX3_waited_36 : decode cX3_waited 36 = .ok (.if_icmp .eq 20, 3) := by decide +kernel
theorem dX3_waited_39 : decode cX3_waited 39 = .ok (.iinc 1 1, 3) := by decide +kernel
theorem dX3_waited_42 : decode cX3_waited 42 = .ok (.iload_n 2, 1) := by decide +kernel
theorem dX3_waited_43 : decode cX3_waited 43 = .ok (.aload 4, 2) := by decide +kernel
theorem dX3_waited_45 : decode cX3_waited 45 = .ok (.getfield 204, 3) := by decide +kernel
theorem dX3_waited_48 : decode cX3_waited 48 = .ok (.aload 4, 2) := by decide +kernel
theorem dX3_waited_50 : decode cX3_waited 50 = .ok (.getfield 167, 3) := by decide +kernel
theorem dX3_waited_53 : decode cX3_waited 53 = .ok (.isub, 1) := by decide +kernel
theorem dX3_waited_54 : decode cX3_waited 54 = .ok (.iadd, 1) := by decide +kernel
theorem dX3_waited_55 : decode cX3_waited 55 = .ok (.istore_n 2, 1) := by decide +kernel
theorem dX3_waited_56 : decode cX3_waited 56 = .ok (.iinc 3 1, 3) := by decide +kernel
theorem dX3_waited_59 : decode cX3_waited 59 = .ok (.goto (-53), 3) := by decide +kernel
theorem dX3_waited_62 : decode cX3_waited 62 = .ok (.iload_n 1, 1) := by decide +kernel
theorem dX3_waited_63 : decode cX3_waited 63 = .ok (.ifCond .ne 7, 3) := by decide +kernel
theorem dX3_waited_66 : decode cX3_waited 66 = .ok (.dconst 0, 1) := by decide +kernel
theorem dX3_waited_67 : decode cX3_waited 67 = .ok (.goto 8, 3) := by decide +kernel
theorem dX3_waited_70 : decode cX3_waited 70 = .ok (.iload_n 2, 1) := by decide +kernel
theorem dX3_waited_71 : decode cX3_waited 71 = .ok (.i2d, 1) := by decide +kernel
theorem dX3_waited_72 : decode cX3_waited 72 = .ok (.iload_n 1, 1) := by decide +kernel
theorem dX3_waited_73 : decode cX3_waited 73 = .ok (.i2d, 1) := by decide +kernel
theorem dX3_waited_74 : decode cX3_waited 74 = .ok (.ddiv, 1) := by decide +kernel
theorem dX3_waited_75 : decode cX3_waited 75 = .ok (.dreturn, 1) := by decide +kernel
theorem dX3_digest_0 : decode cX3_digest 0 = .ok (.ldc2_w 238, 3) := by decide +kernel
theorem dX3_digest_3 : decode cX3_digest 3 = .ok (.aload_n 0, 1) := by decide +kernel
theorem dX3_digest_4 : decode cX3_digest 4 = .ok (.getfield 42, 3) := by decide +kernel
theorem dX3_digest_7 : decode cX3_digest 7 = .ok (.invokestatic 240, 3) := by decide +kernel
theorem dX3_digest_10 : decode cX3_digest 10 = .ok (.lstore_n 1, 1) := by decide +kernel
theorem dX3_digest_11 : decode cX3_digest 11 = .ok (.iconst 0, 1) := by decide +kernel
theorem dX3_digest_12 : decode cX3_digest 12 = .ok (.istore_n 3, 1) := by decide +kernel
theorem dX3_digest_13 : decode cX3_digest 13 = .ok (.iload_n 3, 1) := by decide +kernel
theorem dX3_digest_14 : decode cX3_digest 14 = .ok (.bipush 8, 2) := by decide +kernel
theorem dX3_digest_16 : decode cX3_digest 16 = .ok (.if_icmp .ge 19, 3) := by decide +kernel
theorem dX3_digest_19 : decode cX3_digest 19 = .ok (.lload_n 1, 1) := by decide +kernel
theorem dX3_digest_20 : decode cX3_digest 20 = .ok (.aload_n 0, 1) := by decide +kernel
theorem dX3_digest_21 : decode cX3_digest 21 = .ok (.iload_n 3, 1) := by decide +kernel
theorem dX3_digest_22 : decode cX3_digest 22 = .ok (.invokevirtual 222, 3) := by decide +kernel
theorem dX3_digest_25 : decode cX3_digest 25 = .ok (.invokestatic 240, 3) := by decide +kernel
theorem dX3_digest_28 : decode cX3_digest 28 = .ok (.lstore_n 1, 1) := by decide +kernel
theorem dX3_digest_29 : decode cX3_digest 29 = .ok (.iinc 3 1, 3) := by decide +kernel
theorem dX3_digest_32 : decode cX3_digest 32 = .ok (.goto (-19), 3) := by decide +kernel
theorem dX3_digest_35 : decode cX3_digest 35 = .ok (.aload_n 0, 1) := by decide +kernel
theorem dX3_digest_36 : decode cX3_digest 36 = .ok (.lload_n 1, 1) := by decide +kernel
theorem dX3_digest_37 : decode cX3_digest 37 = .ok (.invokevirtual 244, 3) := by decide +kernel
theorem dX3_digest_40 : decode cX3_digest 40 = .ok (.lstore_n 1, 1) := by decide +kernel
theorem dX3_digest_41 : decode cX3_digest 41 = .ok (.aload_n 0, 1) := by decide +kernel
theorem dX3_digest_42 : decode cX3_digest 42 = .ok (.lload_n 1, 1) := by decide +kernel
theorem dX3_digest_43 : decode cX3_digest 43 = .ok (.invokevirtual 248, 3) := by decide +kernel
theorem dX3_digest_46 : decode cX3_digest 46 = .ok (.lstore_n 1, 1) := by decide +kernel
theorem dX3_digest_47 : decode cX3_digest 47 = .ok (.aload_n 0, 1) := by decide +kernel
theorem dX3_digest_48 : decode cX3_digest 48 = .ok (.lload_n 1, 1) := by decide +kernel
theorem dX3_digest_49 : decode cX3_digest 49 = .ok (.invokevirtual 251, 3) := by decide +kernel
theorem dX3_digest_52 : decode cX3_digest 52 = .ok (.lstore_n 1, 1) := by decide +kernel
theorem dX3_digest_53 : decode cX3_digest 53 = .ok (.iconst 0, 1) := by decide +kernel
theorem dX3_digest_54 : decode cX3_digest 54 = .ok (.istore_n 3, 1) := by decide +kernel
theorem dX3_digest_55 : decode cX3_digest 55 = .ok (.iload_n 3, 1) := by decide +kernel
theorem dX3_digest_56 : decode cX3_digest 56 = .ok (.aload_n 0, 1) := by decide +kernel
theorem dX3_digest_57 : decode cX3_digest 57 = .ok (.getfield 22, 3) := by decide +kernel
theorem dX3_digest_60 : decode cX3_digest 60 = .ok (.invokevirtual 65, 3) := by decide +kernel
theorem dX3_digest_63 : decode cX3_digest 63 = .ok (.if_icmp .ge 28, 3) := by decide +kernel
theorem dX3_digest_66 : decode cX3_digest 66 = .ok (.lload_n 1, 1) := by decide +kernel
theorem dX3_digest_67 : decode cX3_digest 67 = .ok (.aload_n 0, 1) := by decide +kernel
theorem dX3_digest_68 : decode cX3_digest 68 = .ok (.getfield 22, 3) := by decide +kernel
theorem dX3_digest_71 : decode cX3_digest 71 = .ok (.iload_n 3, 1) := by decide +kernel
theorem dX3_digest_72 : decode cX3_digest 72 = .ok (.invokevirtual 188, 3) := by decide +kernel
theorem dX3_digest_75 : decode cX3_digest 75 = .ok (.checkcast 156, 3) := by decide +kernel
theorem dX3_digest_78 : decode cX3_digest 78 = .ok (.getfield 170, 3) := by decide +kernel
theorem dX3_digest_81 : decode cX3_digest 81 = .ok (.invokestatic 240, 3) := by decide +kernel
theorem dX3_digest_84 : decode cX3_digest 84 = .ok (.lstore_n 1, 1) := by decide +kernel
theorem dX3_digest_85 : decode cX3_digest 85 = .ok (.iinc 3 1, 3) := by decide +kernel
theorem dX3_digest_88 : decode cX3_digest 88 = .ok (.goto (-33), 3) := by decide +kernel
theorem dX3_digest_91 : decode cX3_digest 91 = .ok (.lload_n 1, 1) := by decide +kernel
theorem dX3_digest_92 : decode cX3_digest 92 = .ok (.lreturn, 1) := by decide +kernel
theorem dX3_mixed_0 : decode cX3_mixed 0 = .ok (.lload_n 0, 1) := by decide +kernel
theorem dX3_mixed_1 : decode cX3_mixed 1 = .ok (.ldc2_w 254, 3) := by decide +kernel
theorem dX3_mixed_4 : decode cX3_mixed 4 = .ok (.lmul, 1) := by decide +kernel
theorem dX3_mixed_5 : decode cX3_mixed 5 = .ok (.iload_n 2, 1) := by decide +kernel
theorem dX3_mixed_6 : decode cX3_mixed 6 = .ok (.i2l, 1) := by decide +kernel
theorem dX3_mixed_7 : decode cX3_mixed 7 = .ok (.ladd, 1) := by decide +kernel
theorem dX3_mixed_8 : decode cX3_mixed 8 = .ok (.lreturn, 1) := by decide +kernel
theorem dX3_mixedMembers_0 : decode cX3_mixedMembers 0 = .ok (.lload_n 1, 1) := by decide +kernel
theorem dX3_mixedMembers_1 : decode cX3_mixedMembers 1 = .ok (.lstore_n 3, 1) := by decide +kernel
theorem dX3_mixedMembers_2 : decode cX3_mixedMembers 2 = .ok (.iconst 0, 1) := by decide +kernel
theorem dX3_mixedMembers_3 : decode cX3_mixedMembers 3 = .ok (.istore 5, 2) := by decide +kernel
theorem dX3_mixedMembers_5 : decode cX3_mixedMembers 5 = .ok (.iload 5, 2) := by decide +kernel
theorem dX3_mixedMembers_7 : decode cX3_mixedMembers 7 = .ok (.aload_n 0, 1) := by decide +kernel
theorem dX3_mixedMembers_8 : decode cX3_mixedMembers 8 = .ok (.getfield 10, 3) := by decide +kernel
theorem dX3_mixedMembers_11 : decode cX3_mixedMembers 11 = .ok (.invokevirtual 65, 3) := by decide +kernel
theorem dX3_mixedMembers_14 : decode cX3_mixedMembers 14 = .ok (.if_icmp .ge 61, 3) := by decide +kernel
theorem dX3_mixedMembers_17 : decode cX3_mixedMembers 17 = .ok (.aload_n 0, 1) := by decide +kernel
theorem dX3_mixedMembers_18 : decode cX3_mixedMembers 18 = .ok (.getfield 10, 3) := by decide +kernel
theorem dX3_mixedMembers_21 : decode cX3_mixedMembers 21 = .ok (.iload 5, 2) := by decide +kernel
theorem dX3_mixedMembers_23 : decode cX3_mixedMembers 23 = .ok (.invokevirtual 188, 3) := by decide +kernel
theorem dX3_mixedMembers_26 : decode cX3_mixedMembers 26 = .ok (.checkcast 74, 3) := by decide +kernel
theorem dX3_mixedMembers_29 : decode cX3_mixedMembers 29 = .ok (.astore 6, 2) := by decide +kernel
theorem dX3_mixedMembers_31 : decode cX3_mixedMembers 31 = .ok (.iconst 0, 1) := by decide +kernel
theorem dX3_mixedMembers_32 : decode cX3_mixedMembers 32 = .ok (.istore 7, 2) := by decide +kernel
theorem dX3_mixedMembers_34 : decode cX3_mixedMembers 34 = .ok (.iload 7, 2) := by decide +kernel
theorem dX3_mixedMembers_36 : decode cX3_mixedMembers 36 = .ok (.bipush 6, 2) := by decide +kernel
theorem dX3_mixedMembers_38 : decode cX3_mixedMembers 38 = .ok (.if_icmp .ge 21, 3) := by decide +kernel
theorem dX3_mixedMembers_41 : decode cX3_mixedMembers 41 = .ok (.lload_n 3, 1) := by decide +kernel
theorem dX3_mixedMembers_42 : decode cX3_mixedMembers 42 = .ok (.aload 6, 2) := by decide +kernel
theorem dX3_mixedMembers_44 : decode cX3_mixedMembers 44 = .ok (.iload 7, 2) := by decide +kernel
theorem dX3_mixedMembers_46 : decode cX3_mixedMembers 46 = .ok (.invokestatic 140, 3) := by decide +kernel
theorem dX3_mixedMembers_49 : decode cX3_mixedMembers 49 = .ok (.invokestatic 240, 3) := by decide +kernel
theorem dX3_mixedMembers_52 : decode cX3_mixedMembers 52 = .ok (.lstore_n 3, 1) := by decide +kernel
theorem dX3_mixedMembers_53 : decode cX3_mixedMembers 53 = .ok (.iinc 7 1, 3) := by decide +kernel
theorem dX3_mixedMembers_56 : decode cX3_mixedMembers 56 = .ok (.goto (-22), 3) := by decide +kernel
theorem dX3_mixedMembers_59 : decode cX3_mixedMembers 59 = .ok (.lload_n 3, 1) := by decide +kernel
theorem dX3_mixedMembers_60 : decode cX3_mixedMembers 60 = .ok (.aload 6, 2) := by decide +kernel
theorem dX3_mixedMembers_62 : decode cX3_mixedMembers 62 = .ok (.getfield 226, 3) := by decide +kernel
theorem dX3_mixedMembers_65 : decode cX3_mixedMembers 65 = .ok (.invokestatic 240, 3) := by decide +kernel
theorem dX3_mixedMembers_68 : decode cX3_mixedMembers 68 = .ok (.lstore_n 3, 1) := by decide +kernel
theorem dX3_mixedMembers_69 : decode cX3_mixedMembers 69 = .ok (.iinc 5 1, 3) := by decide +kernel
theorem dX3_mixedMembers_72 : decode cX3_mixedMembers 72 = .ok (.goto (-67), 3) := by decide +kernel
theorem dX3_mixedMembers_75 : decode cX3_mixedMembers 75 = .ok (.lload_n 3, 1) := by decide +kernel
theorem dX3_mixedMembers_76 : decode cX3_mixedMembers 76 = .ok (.lreturn, 1) := by decide +kernel
theorem dX3_mixedGliders_0 : decode cX3_mixedGliders 0 = .ok (.lload_n 1, 1) := by decide +kernel
theorem dX3_mixedGliders_1 : decode cX3_mixedGliders 1 = .ok (.lstore_n 3, 1) := by decide +kernel
theorem dX3_mixedGliders_2 : decode cX3_mixedGliders 2 = .ok (.iconst 0, 1) := by decide +kernel
theorem dX3_mixedGliders_3 : decode cX3_mixedGliders 3 = .ok (.istore 5, 2) := by decide +kernel
theorem dX3_mixedGliders_5 : decode cX3_mixedGliders 5 = .ok (.iload 5, 2) := by decide +kernel
theorem dX3_mixedGliders_7 : decode cX3_mixedGliders 7 = .ok (.aload_n 0, 1) := by decide +kernel
theorem dX3_mixedGliders_8 : decode cX3_mixedGliders 8 = .ok (.getfield 16, 3) := by decide +kernel
theorem dX3_mixedGliders_11 : decode cX3_mixedGliders 11 = .ok (.invokevirtual 65, 3) := by decide +kernel
theorem dX3_mixedGliders_14 : decode cX3_mixedGliders 14 = .ok (.if_icmp .ge 46, 3) := by decide +kernel
theorem dX3_mixedGliders_17 : decode cX3_mixedGliders 17 = .ok (.iconst 0, 1) := by decide +kernel
theorem dX3_mixedGliders_18 : decode cX3_mixedGliders 18 = .ok (.istore 6, 2) := by decide +kernel
theorem dX3_mixedGliders_20 : decode cX3_mixedGliders 20 = .ok (.iload 6, 2) := by decide +kernel
theorem dX3_mixedGliders_22 : decode cX3_mixedGliders 22 = .ok (.iconst 5, 1) := by decide +kernel
theorem dX3_mixedGliders_23 : decode cX3_mixedGliders 23 = .ok (.if_icmp .ge 31, 3) := by decide +kernel
theorem dX3_mixedGliders_26 : decode cX3_mixedGliders 26 = .ok (.lload_n 3, 1) := by decide +kernel
theorem dX3_mixedGliders_27 : decode cX3_mixedGliders 27 = .ok (.aload_n 0, 1) := by decide +kernel
theorem dX3_mixedGliders_28 : decode cX3_mixedGliders 28 = .ok (.getfield 16, 3) := by decide +kernel
theorem dX3_mixedGliders_31 : decode cX3_mixedGliders 31 = .ok (.iload 5, 2) := by decide +kernel
theorem dX3_mixedGliders_33 : decode cX3_mixedGliders 33 = .ok (.invokevirtual 188, 3) := by decide +kernel
theorem dX3_mixedGliders_36 : decode cX3_mixedGliders 36 = .ok (.checkcast 87, 3) := by decide +kernel
theorem dX3_mixedGliders_39 : decode cX3_mixedGliders 39 = .ok (.iload 6, 2) := by decide +kernel
theorem dX3_mixedGliders_41 : decode cX3_mixedGliders 41 = .ok (.invokestatic 144, 3) := by decide +kernel
theorem dX3_mixedGliders_44 : decode cX3_mixedGliders 44 = .ok (.invokestatic 240, 3) := by decide +kernel
theorem dX3_mixedGliders_47 : decode cX3_mixedGliders 47 = .ok (.lstore_n 3, 1) := by decide +kernel
theorem dX3_mixedGliders_48 : decode cX3_mixedGliders 48 = .ok (.iinc 6 1, 3) := by decide +kernel
theorem dX3_mixedGliders_51 : decode cX3_mixedGliders 51 = .ok (.goto (-31), 3) := by decide +kernel
theorem dX3_mixedGliders_54 : decode cX3_mixedGliders 54 = .ok (.iinc 5 1, 3) := by decide +kernel
theorem dX3_mixedGliders_57 : decode cX3_mixedGliders 57 = .ok (.goto (-52), 3) := by decide +kernel
theorem dX3_mixedGliders_60 : decode cX3_mixedGliders 60 = .ok (.lload_n 3, 1) := by decide +kernel
theorem dX3_mixedGliders_61 : decode cX3_mixedGliders 61 = .ok (.lreturn, 1) := by decide +kernel
theorem dX3_mixedFlights_0 : decode cX3_mixedFlights 0 = .ok (.lload_n 1, 1) := by decide +kernel
theorem dX3_mixedFlights_1 : decode cX3_mixedFlights 1 = .ok (.lstore_n 3, 1) := by decide +kernel
theorem dX3_mixedFlights_2 : decode cX3_mixedFlights 2 = .ok (.iconst 0, 1) := by decide +kernel
theorem dX3_mixedFlights_3 : decode cX3_mixedFlights 3 = .ok (.istore 5, 2) := by decide +kernel
theorem dX3_mixedFlights_5 : decode cX3_mixedFlights 5 = .ok (.iload 5, 2) := by decide +kernel
theorem dX3_mixedFlights_7 : decode cX3_mixedFlights 7 = .ok (.aload_n 0, 1) := by decide +kernel
theorem dX3_mixedFlights_8 : decode cX3_mixedFlights 8 = .ok (.getfield 19, 3) := by decide +kernel
theorem dX3_mixedFlights_11 : decode cX3_mixedFlights 11 = .ok (.invokevirtual 65, 3) := by decide +kernel
theorem dX3_mixedFlights_14 : decode cX3_mixedFlights 14 = .ok (.if_icmp .ge 47, 3) := by decide +kernel
theorem dX3_mixedFlights_17 : decode cX3_mixedFlights 17 = .ok (.iconst 0, 1) := by decide +kernel
theorem dX3_mixedFlights_18 : decode cX3_mixedFlights 18 = .ok (.istore 6, 2) := by decide +kernel
theorem dX3_mixedFlights_20 : decode cX3_mixedFlights 20 = .ok (.iload 6, 2) := by decide +kernel
theorem dX3_mixedFlights_22 : decode cX3_mixedFlights 22 = .ok (.bipush 8, 2) := by decide +kernel
theorem dX3_mixedFlights_24 : decode cX3_mixedFlights 24 = .ok (.if_icmp .ge 31, 3) := by decide +kernel
theorem dX3_mixedFlights_27 : decode cX3_mixedFlights 27 = .ok (.lload_n 3, 1) := by decide +kernel
theorem dX3_mixedFlights_28 : decode cX3_mixedFlights 28 = .ok (.aload_n 0, 1) := by decide +kernel
theorem dX3_mixedFlights_29 : decode cX3_mixedFlights 29 = .ok (.getfield 19, 3) := by decide +kernel
theorem dX3_mixedFlights_32 : decode cX3_mixedFlights 32 = .ok (.iload 5, 2) := by decide +kernel
theorem dX3_mixedFlights_34 : decode cX3_mixedFlights 34 = .ok (.invokevirtual 188, 3) := by decide +kernel
theorem dX3_mixedFlights_37 : decode cX3_mixedFlights 37 = .ok (.checkcast 156, 3) := by decide +kernel
theorem dX3_mixedFlights_40 : decode cX3_mixedFlights 40 = .ok (.iload 6, 2) := by decide +kernel
theorem dX3_mixedFlights_42 : decode cX3_mixedFlights 42 = .ok (.invokestatic 216, 3) := by decide +kernel
theorem dX3_mixedFlights_45 : decode cX3_mixedFlights 45 = .ok (.invokestatic 240, 3) := by decide +kernel
theorem dX3_mixedFlights_48 : decode cX3_mixedFlights 48 = .ok (.lstore_n 3, 1) := by decide +kernel
theorem dX3_mixedFlights_49 : decode cX3_mixedFlights 49 = .ok (.iinc 6 1, 3) := by decide +kernel
theorem dX3_mixedFlights_52 : decode cX3_mixedFlights 52 = .ok (.goto (-32), 3) := by decide +kernel
theorem dX3_mixedFlights_55 : decode cX3_mixedFlights 55 = .ok (.iinc 5 1, 3) := by decide +kernel
theorem dX3_mixedFlights_58 : decode cX3_mixedFlights 58 = .ok (.goto (-53), 3) := by decide +kernel
theorem dX3_mixedFlights_61 : decode cX3_mixedFlights 61 = .ok (.lload_n 3, 1) := by decide +kernel
theorem dX3_mixedFlights_62 : decode cX3_mixedFlights 62 = .ok (.lreturn, 1) := by decide +kernel
theorem dX3_isWithin_0 : decode cX3_isWithin 0 = .ok (.iload_n 0, 1) := by decide +kernel
theorem dX3_isWithin_1 : decode cX3_isWithin 1 = .ok (.iload_n 1, 1) := by decide +kernel
theorem dX3_isWithin_2 : decode cX3_isWithin 2 = .ok (.if_icmp .lt 12, 3) := by decide +kernel
theorem dX3_isWithin_5 : decode cX3_isWithin 5 = .ok (.iload_n 0, 1) := by decide +kernel
theorem dX3_isWithin_6 : decode cX3_isWithin 6 = .ok (.iload_n 2, 1) := by decide +kernel
theorem dX3_isWithin_7 : decode cX3_isWithin 7 = .ok (.if_icmp .gt 7, 3) := by decide +kernel
theorem dX3_isWithin_10 : decode cX3_isWithin 10 = .ok (.iconst 1, 1) := by decide +kernel
theorem dX3_isWithin_11 : decode cX3_isWithin 11 = .ok (.goto 4, 3) := by decide +kernel
theorem dX3_isWithin_14 : decode cX3_isWithin 14 = .ok (.iconst 0, 1) := by decide +kernel
theorem dX3_isWithin_15 : decode cX3_isWithin 15 = .ok (.ireturn, 1) := by decide +kernel
theorem dX3_isHeight_0 : decode cX3_isHeight 0 = .ok (.iload_n 0, 1) := by decide +kernel
theorem dX3_isHeight_1 : decode cX3_isHeight 1 = .ok (.ifCond .eq 16, 3) := by decide +kernel
theorem dX3_isHeight_4 : decode cX3_isHeight 4 = .ok (.iload_n 0, 1) := by decide +kernel
theorem dX3_isHeight_5 : decode cX3_isHeight 5 = .ok (.sipush 200, 3) := by decide +kernel
theorem dX3_isHeight_8 : decode cX3_isHeight 8 = .ok (.sipush 1500, 3) := by decide +kernel
theorem dX3_isHeight_11 : decode cX3_isHeight 11 = .ok (.invokestatic 54, 3) := by decide +kernel
theorem dX3_isHeight_14 : decode cX3_isHeight 14 = .ok (.ifCond .eq 7, 3) := by decide +kernel
theorem dX3_isHeight_17 : decode cX3_isHeight 17 = .ok (.iconst 1, 1) := by decide +kernel
theorem dX3_isHeight_18 : decode cX3_isHeight 18 = .ok (.goto 4, 3) := by decide +kernel
theorem dX3_isHeight_21 : decode cX3_isHeight 21 = .ok (.iconst 0, 1) := by decide +kernel
theorem dX3_isHeight_22 : decode cX3_isHeight 22 = .ok (.ireturn, 1) := by decide +kernel
theorem dX3_memberAt_0 : decode cX3_memberAt 0 = .ok (.iload_n 1, 1) := by decide +kernel
theorem dX3_memberAt_1 : decode cX3_memberAt 1 = .ok (.ifCond .lt 14, 3) := by decide +kernel
theorem dX3_memberAt_4 : decode cX3_memberAt 4 = .ok (.iload_n 1, 1) := by decide +kernel
theorem dX3_memberAt_5 : decode cX3_memberAt 5 = .ok (.aload_n 0, 1) := by decide +kernel
theorem dX3_memberAt_6 : decode cX3_memberAt 6 = .ok (.getfield 10, 3) := by decide +kernel
theorem dX3_memberAt_9 : decode cX3_memberAt 9 = .ok (.invokevirtual 65, 3) := by decide +kernel
theorem dX3_memberAt_12 : decode cX3_memberAt 12 = .ok (.if_icmp .lt 14, 3) := by decide +kernel
theorem dX3_memberAt_15 : decode cX3_memberAt 15 = .ok (.new 135, 3) := by decide +kernel
theorem dX3_memberAt_18 : decode cX3_memberAt 18 = .ok (.dup, 1) := by decide +kernel
theorem dX3_memberAt_19 : decode cX3_memberAt 19 = .ok (.ldc_w 256, 3) := by decide +kernel
theorem dX3_memberAt_22 : decode cX3_memberAt 22 = .ok (.invokespecial 139, 3) := by decide +kernel
theorem dX3_memberAt_25 : decode cX3_memberAt 25 = .ok (.athrow, 1) := by decide +kernel
theorem dX3_memberAt_26 : decode cX3_memberAt 26 = .ok (.aload_n 0, 1) := by decide +kernel
theorem dX3_memberAt_27 : decode cX3_memberAt 27 = .ok (.getfield 10, 3) := by decide +kernel
theorem dX3_memberAt_30 : decode cX3_memberAt 30 = .ok (.iload_n 1, 1) := by decide +kernel
theorem dX3_memberAt_31 : decode cX3_memberAt 31 = .ok (.invokevirtual 188, 3) := by decide +kernel
theorem dX3_memberAt_34 : decode cX3_memberAt 34 = .ok (.checkcast 74, 3) := by decide +kernel
theorem dX3_memberAt_37 : decode cX3_memberAt 37 = .ok (.areturn, 1) := by decide +kernel
theorem dX3_gliderAt_0 : decode cX3_gliderAt 0 = .ok (.iload_n 1, 1) := by decide +kernel
theorem dX3_gliderAt_1 : decode cX3_gliderAt 1 = .ok (.ifCond .lt 14, 3) := by decide +kernel
theorem dX3_gliderAt_4 : decode cX3_gliderAt 4 = .ok (.iload_n 1, 1) := by decide +kernel
theorem dX3_gliderAt_5 : decode cX3_gliderAt 5 = .ok (.aload_n 0, 1) := by decide +kernel
theorem dX3_gliderAt_6 : decode cX3_gliderAt 6 = .ok (.getfield 16, 3) := by decide +kernel
theorem dX3_gliderAt_9 : decode cX3_gliderAt 9 = .ok (.invokevirtual 65, 3) := by decide +kernel
theorem dX3_gliderAt_12 : decode cX3_gliderAt 12 = .ok (.if_icmp .lt 14, 3) := by decide +kernel
theorem dX3_gliderAt_15 : decode cX3_gliderAt 15 = .ok (.new 135, 3) := by decide +kernel
theorem dX3_gliderAt_18 : decode cX3_gliderAt 18 = .ok (.dup, 1) := by decide +kernel
theorem dX3_gliderAt_19 : decode cX3_gliderAt 19 = .ok (.ldc_w 258, 3) := by decide +kernel
theorem dX3_gliderAt_22 : decode cX3_gliderAt 22 = .ok (.invokespecial 139, 3) := by decide +kernel
theorem dX3_gliderAt_25 : decode cX3_gliderAt 25 = .ok (.athrow, 1) := by decide +kernel
theorem dX3_gliderAt_26 : decode cX3_gliderAt 26 = .ok (.aload_n 0, 1) := by decide +kernel
theorem dX3_gliderAt_27 : decode cX3_gliderAt 27 = .ok (.getfield 16, 3) := by decide +kernel
theorem dX3_gliderAt_30 : decode cX3_gliderAt 30 = .ok (.iload_n 1, 1) := by decide +kernel
theorem dX3_gliderAt_31 : decode cX3_gliderAt 31 = .ok (.invokevirtual 188, 3) := by decide +kernel
theorem dX3_gliderAt_34 : decode cX3_gliderAt 34 = .ok (.checkcast 87, 3) := by decide +kernel
theorem dX3_gliderAt_37 : decode cX3_gliderAt 37 = .ok (.areturn, 1) := by decide +kernel
theorem dX3_flightAt_0 : decode cX3_flightAt 0 = .ok (.iload_n 1, 1) := by decide +kernel
theorem dX3_flightAt_1 : decode cX3_flightAt 1 = .ok (.ifCond .lt 14, 3) := by decide +kernel
theorem dX3_flightAt_4 : decode cX3_flightAt 4 = .ok (.iload_n 1, 1) := by decide +kernel
theorem dX3_flightAt_5 : decode cX3_flightAt 5 = .ok (.aload_n 0, 1) := by decide +kernel
theorem dX3_flightAt_6 : decode cX3_flightAt 6 = .ok (.getfield 19, 3) := by decide +kernel
theorem dX3_flightAt_9 : decode cX3_flightAt 9 = .ok (.invokevirtual 65, 3) := by decide +kernel
theorem dX3_flightAt_12 : decode cX3_flightAt 12 = .ok (.if_icmp .lt 14, 3) := by decide +kernel
theorem dX3_flightAt_15 : decode cX3_flightAt 15 = .ok (.new 135, 3) := by decide +kernel
theorem dX3_flightAt_18 : decode cX3_flightAt 18 = .ok (.dup, 1) := by decide +kernel
theorem dX3_flightAt_19 : decode cX3_flightAt 19 = .ok (.ldc_w 260, 3) := by decide +kernel
theorem dX3_flightAt_22 : decode cX3_flightAt 22 = .ok (.invokespecial 139, 3) := by decide +kernel
theorem dX3_flightAt_25 : decode cX3_flightAt 25 = .ok (.athrow, 1) := by decide +kernel
theorem dX3_flightAt_26 : decode cX3_flightAt 26 = .ok (.aload_n 0, 1) := by decide +kernel
theorem dX3_flightAt_27 : decode cX3_flightAt 27 = .ok (.getfield 19, 3) := by decide +kernel
theorem dX3_flightAt_30 : decode cX3_flightAt 30 = .ok (.iload_n 1, 1) := by decide +kernel
theorem dX3_flightAt_31 : decode cX3_flightAt 31 = .ok (.invokevirtual 188, 3) := by decide +kernel
theorem dX3_flightAt_34 : decode cX3_flightAt 34 = .ok (.checkcast 156, 3) := by decide +kernel
theorem dX3_flightAt_37 : decode cX3_flightAt 37 = .ok (.areturn, 1) := by decide +kernel
theorem dX3_listedFlightAt_0 : decode cX3_listedFlightAt 0 = .ok (.aload_n 0, 1) := by decide +kernel
theorem dX3_listedFlightAt_1 : decode cX3_listedFlightAt 1 = .ok (.iload_n 1, 1) := by decide +kernel
theorem dX3_listedFlightAt_2 : decode cX3_listedFlightAt 2 = .ok (.invokevirtual 213, 3) := by decide +kernel
theorem dX3_listedFlightAt_5 : decode cX3_listedFlightAt 5 = .ok (.astore_n 2, 1) := by decide +kernel
theorem dX3_listedFlightAt_6 : decode cX3_listedFlightAt 6 = .ok (.aload_n 2, 1) := by decide +kernel
theorem dX3_listedFlightAt_7 : decode cX3_listedFlightAt 7 = .ok (.getfield 185, 3) := by decide +kernel
theorem dX3_listedFlightAt_10 : decode cX3_listedFlightAt 10 = .ok (.ifCond .eq 14, 3) := by decide +kernel
theorem dX3_listedFlightAt_13 : decode cX3_listedFlightAt 13 = .ok (.new 69, 3) := by decide +kernel
theorem dX3_listedFlightAt_16 : decode cX3_listedFlightAt 16 = .ok (.dup, 1) := by decide +kernel
theorem dX3_listedFlightAt_17 : decode cX3_listedFlightAt 17 = .ok (.ldc_w 262, 3) := by decide +kernel
theorem dX3_listedFlightAt_20 : decode cX3_listedFlightAt 20 = .ok (.invokespecial 73, 3) := by decide +kernel
theorem dX3_listedFlightAt_23 : decode cX3_listedFlightAt 23 = .ok (.athrow, 1) := by decide +kernel
theorem dX3_listedFlightAt_24 : decode cX3_listedFlightAt 24 = .ok (.aload_n 2, 1) := by decide +kernel
theorem dX3_listedFlightAt_25 : decode cX3_listedFlightAt 25 = .ok (.areturn, 1) := by decide +kernel
theorem dX3_placeOf_0 : decode cX3_placeOf 0 = .ok (.iconst 0, 1) := by decide +kernel
theorem dX3_placeOf_1 : decode cX3_placeOf 1 = .ok (.istore_n 2, 1) := by decide +kernel
theorem dX3_placeOf_2 : decode cX3_placeOf 2 = .ok (.iload_n 2, 1) := by decide +kernel
theorem dX3_placeOf_3 : decode cX3_placeOf 3 = .ok (.aload_n 0, 1) := by decide +kernel
theorem dX3_placeOf_4 : decode cX3_placeOf 4 = .ok (.getfield 22, 3) := by decide +kernel
theorem dX3_placeOf_7 : decode cX3_placeOf 7 = .ok (.invokevirtual 65, 3) := by decide +kernel
theorem dX3_placeOf_10 : decode cX3_placeOf 10 = .ok (.if_icmp .ge 23, 3) := by decide +kernel
theorem dX3_placeOf_13 : decode cX3_placeOf 13 = .ok (.aload_n 0, 1) := by decide +kernel
theorem dX3_placeOf_14 : decode cX3_placeOf 14 = .ok (.getfield 22, 3) := by decide +kernel
theorem dX3_placeOf_17 : decode cX3_placeOf 17 = .ok (.iload_n 2, 1) := by decide +kernel
theorem dX3_placeOf_18 : decode cX3_placeOf 18 = .ok (.invokevirtual 188, 3) := by decide +kernel
theorem dX3_placeOf_21 : decode cX3_placeOf 21 = .ok (.aload_n 1, 1) := by decide +kernel
theorem dX3_placeOf_22 : decode cX3_placeOf 22 = .ok (.if_acmp .ne 5, 3) := by decide +kernel
theorem dX3_placeOf_25 : decode cX3_placeOf 25 = .ok (.iload_n 2, 1) := by decide +kernel
theorem dX3_placeOf_26 : decode cX3_placeOf 26 = .ok (.ireturn, 1) := by decide +kernel
theorem dX3_placeOf_27 : decode cX3_placeOf 27 = .ok (.iinc 2 1, 3) := by decide +kernel
theorem dX3_placeOf_30 : decode cX3_placeOf 30 = .ok (.goto (-28), 3) := by decide +kernel
theorem dX3_placeOf_33 : decode cX3_placeOf 33 = .ok (.iconst (-1), 1) := by decide +kernel
theorem dX3_placeOf_34 : decode cX3_placeOf 34 = .ok (.ireturn, 1) := by decide +kernel
theorem dX3_takeOffList_0 : decode cX3_takeOffList 0 = .ok (.iload_n 1, 1) := by decide +kernel
theorem dX3_takeOffList_1 : decode cX3_takeOffList 1 = .ok (.ifCond .lt 23, 3) := by decide +kernel
theorem dX3_takeOffList_4 : decode cX3_takeOffList 4 = .ok (.iload_n 1, 1) := by decide +kernel
theorem dX3_takeOffList_5 : decode cX3_takeOffList 5 = .ok (.aload_n 0, 1) := by decide +kernel
theorem dX3_takeOffList_6 : decode cX3_takeOffList 6 = .ok (.getfield 22, 3) := by decide +kernel
theorem dX3_takeOffList_9 : decode cX3_takeOffList 9 = .ok (.invokevirtual 65, 3) := by decide +kernel
theorem dX3_takeOffList_12 : decode cX3_takeOffList 12 = .ok (.if_icmp .ge 12, 3) := by decide +kernel
theorem dX3_takeOffList_15 : decode cX3_takeOffList 15 = .ok (.aload_n 0, 1) := by decide +kernel
theorem dX3_takeOffList_16 : decode cX3_takeOffList 16 = .ok (.getfield 22, 3) := by decide +kernel
theorem dX3_takeOffList_19 : decode cX3_takeOffList 19 = .ok (.iload_n 1, 1) := by decide +kernel
theorem dX3_takeOffList_20 : decode cX3_takeOffList 20 = .ok (.invokevirtual 264, 3) := by decide +kernel
theorem dX3_takeOffList_23 : decode cX3_takeOffList 23 = .ok (.pop, 1) := by decide +kernel
theorem dX3_takeOffList_24 : decode cX3_takeOffList 24 = .ok (.return_, 1) := by decide +kernel
theorem dX3_memberFact_0 : decode cX3_memberFact 0 = .ok (.iload_n 1, 1) := by decide +kernel
theorem dX3_memberFact_1 : decode cX3_memberFact 1 = .ok (.tableswitch 68 0 4 #[35, 40, 53, 58, 63], 35) := by decide +kernel
theorem dX3_memberFact_36 : decode cX3_memberFact 36 = .ok (.aload_n 0, 1) := by decide +kernel
theorem dX3_memberFact_37 : decode cX3_memberFact 37 = .ok (.getfield 132, 3) := by decide +kernel
theorem dX3_memberFact_40 : decode cX3_memberFact 40 = .ok (.ireturn, 1) := by decide +kernel
theorem dX3_memberFact_41 : decode cX3_memberFact 41 = .ok (.aload_n 0, 1) := by decide +kernel
theorem dX3_memberFact_42 : decode cX3_memberFact 42 = .ok (.getfield 123, 3) := by decide +kernel
theorem dX3_memberFact_45 : decode cX3_memberFact 45 = .ok (.ifCond .eq 7, 3) := by decide +kernel
theorem dX3_memberFact_48 : decode cX3_memberFact 48 = .ok (.iconst 1, 1) := by decide +kernel
theorem dX3_memberFact_49 : decode cX3_memberFact 49 = .ok (.goto 4, 3) := by decide +kernel
theorem dX3_memberFact_52 : decode cX3_memberFact 52 = .ok (.iconst 0, 1) := by decide +kernel
theorem dX3_memberFact_53 : decode cX3_memberFact 53 = .ok (.ireturn, 1) := by decide +kernel
theorem dX3_memberFact_54 : decode cX3_memberFact 54 = .ok (.aload_n 0, 1) := by decide +kernel
theorem dX3_memberFact_55 : decode cX3_memberFact 55 = .ok (.getfield 267, 3) := by decide +kernel
theorem dX3_memberFact_58 : decode cX3_memberFact 58 = .ok (.ireturn, 1) := by decide +kernel
theorem dX3_memberFact_59 : decode cX3_memberFact 59 = .ok (.aload_n 0, 1) := by decide +kernel
theorem dX3_memberFact_60 : decode cX3_memberFact 60 = .ok (.getfield 270, 3) := by decide +kernel
theorem dX3_memberFact_63 : decode cX3_memberFact 63 = .ok (.ireturn, 1) := by decide +kernel
theorem dX3_memberFact_64 : decode cX3_memberFact 64 = .ok (.aload_n 0, 1) := by decide +kernel
theorem dX3_memberFact_65 : decode cX3_memberFact 65 = .ok (.getfield 271, 3) := by decide +kernel
theorem dX3_memberFact_68 : decode cX3_memberFact 68 = .ok (.ireturn, 1) := by decide +kernel
theorem dX3_memberFact_69 : decode cX3_memberFact 69 = .ok (.aload_n 0, 1) := by decide +kernel
theorem dX3_memberFact_70 : decode cX3_memberFact 70 = .ok (.getfield 274, 3) := by decide +kernel
theorem dX3_memberFact_73 : decode cX3_memberFact 73 = .ok (.ireturn, 1) := by decide +kernel
theorem dX3_gliderFact_0 : decode cX3_gliderFact 0 = .ok (.iload_n 1, 1) := by decide +kernel
theorem dX3_gliderFact_1 : decode cX3_gliderFact 1 = .ok (.tableswitch 59 0 3 #[31, 36, 49, 54], 31) := by decide +kernel
theorem dX3_gliderFact_32 : decode cX3_gliderFact 32 = .ok (.aload_n 0, 1) := by decide +kernel
theorem dX3_gliderFact_33 : decode cX3_gliderFact 33 = .ok (.getfield 110, 3) := by decide +kernel
theorem dX3_gliderFact_36 : decode cX3_gliderFact 36 = .ok (.ireturn, 1) := by decide +kernel
theorem dX3_gliderFact_37 : decode cX3_gliderFact 37 = .ok (.aload_n 0, 1) := by decide +kernel
theorem dX3_gliderFact_38 : decode cX3_gliderFact 38 = .ok (.getfield 115, 3) := by decide +kernel
theorem dX3_gliderFact_41 : decode cX3_gliderFact 41 = .ok (.ifCond .eq 7, 3) := by decide +kernel
theorem dX3_gliderFact_44 : decode cX3_gliderFact 44 = .ok (.iconst 1, 1) := by decide +kernel
theorem dX3_gliderFact_45 : decode cX3_gliderFact 45 = .ok (.goto 4, 3) := by decide +kernel
theorem dX3_gliderFact_48 : decode cX3_gliderFact 48 = .ok (.iconst 0, 1) := by decide +kernel
theorem dX3_gliderFact_49 : decode cX3_gliderFact 49 = .ok (.ireturn, 1) := by decide +kernel
theorem dX3_gliderFact_50 : decode cX3_gliderFact 50 = .ok (.aload_n 0, 1) := by decide +kernel
theorem dX3_gliderFact_51 : decode cX3_gliderFact 51 = .ok (.getfield 277, 3) := by decide +kernel
theorem dX3_gliderFact_54 : decode cX3_gliderFact 54 = .ok (.ireturn, 1) := by decide +kernel
theorem dX3_gliderFact_55 : decode cX3_gliderFact 55 = .ok (.aload_n 0, 1) := by decide +kernel
theorem dX3_gliderFact_56 : decode cX3_gliderFact 56 = .ok (.getfield 278, 3) := by decide +kernel
theorem dX3_gliderFact_59 : decode cX3_gliderFact 59 = .ok (.ireturn, 1) := by decide +kernel
theorem dX3_gliderFact_60 : decode cX3_gliderFact 60 = .ok (.aload_n 0, 1) := by decide +kernel
theorem dX3_gliderFact_61 : decode cX3_gliderFact 61 = .ok (.getfield 195, 3) := by decide +kernel
theorem dX3_gliderFact_64 : decode cX3_gliderFact 64 = .ok (.ifnonnull 7, 3) := by decide +kernel
theorem dX3_gliderFact_67 : decode cX3_gliderFact 67 = .ok (.iconst (-1), 1) := by decide +kernel
theorem dX3_gliderFact_68 : decode cX3_gliderFact 68 = .ok (.goto 10, 3) := by decide +kernel
theorem dX3_gliderFact_71 : decode cX3_gliderFact 71 = .ok (.aload_n 0, 1) := by decide +kernel
theorem dX3_gliderFact_72 : decode cX3_gliderFact 72 = .ok (.getfield 195, 3) := by decide +kernel
theorem dX3_gliderFact_75 : decode cX3_gliderFact 75 = .ok (.getfield 170, 3) := by decide +kernel
theorem dX3_gliderFact_78 : decode cX3_gliderFact 78 = .ok (.ireturn, 1) := by decide +kernel
theorem dX3_flightFact_0 : decode cX3_flightFact 0 = .ok (.iload_n 1, 1) := by decide +kernel
theorem dX3_flightFact_1 : decode cX3_flightFact 1 = .ok (.tableswitch 98 0 6 #[43, 48, 56, 75, 83, 88, 93], 43) := by decide +kernel
theorem dX3_flightFact_44 : decode cX3_flightFact 44 = .ok (.aload_n 0, 1) := by decide +kernel
theorem dX3_flightFact_45 : decode cX3_flightFact 45 = .ok (.getfield 185, 3) := by decide +kernel
theorem dX3_flightFact_48 : decode cX3_flightFact 48 = .ok (.ireturn, 1) := by decide +kernel
theorem dX3_flightFact_49 : decode cX3_flightFact 49 = .ok (.aload_n 0, 1) := by decide +kernel
theorem dX3_flightFact_50 : decode cX3_flightFact 50 = .ok (.getfield 279, 3) := by decide +kernel
theorem dX3_flightFact_53 : decode cX3_flightFact 53 = .ok (.getfield 283, 3) := by decide +kernel
theorem dX3_flightFact_56 : decode cX3_flightFact 56 = .ok (.ireturn, 1) := by decide +kernel
theorem dX3_flightFact_57 : decode cX3_flightFact 57 = .ok (.aload_n 0, 1) := by decide +kernel
theorem dX3_flightFact_58 : decode cX3_flightFact 58 = .ok (.getfield 284, 3) := by decide +kernel
theorem dX3_flightFact_61 : decode cX3_flightFact 61 = .ok (.ifnonnull 7, 3) := by decide +kernel
theorem dX3_flightFact_64 : decode cX3_flightFact 64 = .ok (.iconst (-1), 1) := by decide +kernel
theorem dX3_flightFact_65 : decode cX3_flightFact 65 = .ok (.goto 10, 3) := by decide +kernel
theorem dX3_flightFact_68 : decode cX3_flightFact 68 = .ok (.aload_n 0, 1) := by decide +kernel
theorem dX3_flightFact_69 : decode cX3_flightFact 69 = .ok (.getfield 284, 3) := by decide +kernel
theorem dX3_flightFact_72 : decode cX3_flightFact 72 = .ok (.getfield 283, 3) := by decide +kernel
theorem dX3_flightFact_75 : decode cX3_flightFact 75 = .ok (.ireturn, 1) := by decide +kernel
theorem dX3_flightFact_76 : decode cX3_flightFact 76 = .ok (.aload_n 0, 1) := by decide +kernel
theorem dX3_flightFact_77 : decode cX3_flightFact 77 = .ok (.getfield 287, 3) := by decide +kernel
theorem dX3_flightFact_80 : decode cX3_flightFact 80 = .ok (.getfield 291, 3) := by decide +kernel
theorem dX3_flightFact_83 : decode cX3_flightFact 83 = .ok (.ireturn, 1) := by decide +kernel
theorem dX3_flightFact_84 : decode cX3_flightFact 84 = .ok (.aload_n 0, 1) := by decide +kernel
theorem dX3_flightFact_85 : decode cX3_flightFact 85 = .ok (.getfield 161, 3) := by decide +kernel
theorem dX3_flightFact_88 : decode cX3_flightFact 88 = .ok (.ireturn, 1) := by decide +kernel
theorem dX3_flightFact_89 : decode cX3_flightFact 89 = .ok (.aload_n 0, 1) := by decide +kernel
theorem dX3_flightFact_90 : decode cX3_flightFact 90 = .ok (.getfield 204, 3) := by decide +kernel
theorem dX3_flightFact_93 : decode cX3_flightFact 93 = .ok (.ireturn, 1) := by decide +kernel
theorem dX3_flightFact_94 : decode cX3_flightFact 94 = .ok (.aload_n 0, 1) := by decide +kernel
theorem dX3_flightFact_95 : decode cX3_flightFact 95 = .ok (.getfield 235, 3) := by decide +kernel
theorem dX3_flightFact_98 : decode cX3_flightFact 98 = .ok (.ireturn, 1) := by decide +kernel
theorem dX3_flightFact_99 : decode cX3_flightFact 99 = .ok (.aload_n 0, 1) := by decide +kernel
theorem dX3_flightFact_100 : decode cX3_flightFact 100 = .ok (.getfield 232, 3) := by decide +kernel
theorem dX3_flightFact_103 : decode cX3_flightFact 103 = .ok (.ireturn, 1) := by decide +kernel
theorem dX3_countOf_0 : decode cX3_countOf 0 = .ok (.iload_n 1, 1) := by decide +kernel
theorem dX3_countOf_1 : decode cX3_countOf 1 = .ok (.tableswitch 95 0 6 #[43, 51, 59, 67, 75, 80, 88], 43) := by decide +kernel
theorem dX3_countOf_44 : decode cX3_countOf 44 = .ok (.aload_n 0, 1) := by decide +kernel
theorem dX3_countOf_45 : decode cX3_countOf 45 = .ok (.getfield 10, 3) := by decide +kernel
theorem dX3_countOf_48 : decode cX3_countOf 48 = .ok (.invokevirtual 65, 3) := by decide +kernel
theorem dX3_countOf_51 : decode cX3_countOf 51 = .ok (.ireturn, 1) := by decide +kernel
theorem dX3_countOf_52 : decode cX3_countOf 52 = .ok (.aload_n 0, 1) := by decide +kernel
theorem dX3_countOf_53 : decode cX3_countOf 53 = .ok (.getfield 16, 3) := by decide +kernel
theorem dX3_countOf_56 : decode cX3_countOf 56 = .ok (.invokevirtual 65, 3) := by decide +kernel
theorem dX3_countOf_59 : decode cX3_countOf 59 = .ok (.ireturn, 1) := by decide +kernel
theorem dX3_countOf_60 : decode cX3_countOf 60 = .ok (.aload_n 0, 1) := by decide +kernel
theorem dX3_countOf_61 : decode cX3_countOf 61 = .ok (.getfield 19, 3) := by decide +kernel
theorem dX3_countOf_64 : decode cX3_countOf 64 = .ok (.invokevirtual 65, 3) := by decide +kernel
theorem dX3_countOf_67 : decode cX3_countOf 67 = .ok (.ireturn, 1) := by decide +kernel
theorem dX3_countOf_68 : decode cX3_countOf 68 = .ok (.aload_n 0, 1) := by decide +kernel
theorem dX3_countOf_69 : decode cX3_countOf 69 = .ok (.getfield 22, 3) := by decide +kernel
theorem dX3_countOf_72 : decode cX3_countOf 72 = .ok (.invokevirtual 65, 3) := by decide +kernel
theorem dX3_countOf_75 : decode cX3_countOf 75 = .ok (.ireturn, 1) := by decide +kernel
theorem dX3_countOf_76 : decode cX3_countOf 76 = .ok (.aload_n 0, 1) := by decide +kernel
theorem dX3_countOf_77 : decode cX3_countOf 77 = .ok (.invokevirtual 292, 3) := by decide +kernel
theorem dX3_countOf_80 : decode cX3_countOf 80 = .ok (.ireturn, 1) := by decide +kernel
theorem dX3_countOf_81 : decode cX3_countOf 81 = .ok (.aload_n 0, 1) := by decide +kernel
theorem dX3_countOf_82 : decode cX3_countOf 82 = .ok (.getfield 25, 3) := by decide +kernel
theorem dX3_countOf_85 : decode cX3_countOf 85 = .ok (.invokevirtual 65, 3) := by decide +kernel
theorem dX3_countOf_88 : decode cX3_countOf 88 = .ok (.ireturn, 1) := by decide +kernel
theorem dX3_countOf_89 : decode cX3_countOf 89 = .ok (.iconst 2, 1) := by decide +kernel
theorem dX3_countOf_90 : decode cX3_countOf 90 = .ok (.aload_n 0, 1) := by decide +kernel
theorem dX3_countOf_91 : decode cX3_countOf 91 = .ok (.getfield 36, 3) := by decide +kernel
theorem dX3_countOf_94 : decode cX3_countOf 94 = .ok (.isub, 1) := by decide +kernel
theorem dX3_countOf_95 : decode cX3_countOf 95 = .ok (.ireturn, 1) := by decide +kernel
theorem dX3_countOf_96 : decode cX3_countOf 96 = .ok (.aload_n 0, 1) := by decide +kernel
theorem dX3_countOf_97 : decode cX3_countOf 97 = .ok (.invokevirtual 103, 3) := by decide +kernel
theorem dX3_countOf_100 : decode cX3_countOf 100 = .ok (.ireturn, 1) := by decide +kernel
theorem dX3_glidersInTheAir_0 : decode cX3_glidersInTheAir 0 = .ok (.iconst 0, 1) := by decide +kernel
theorem dX3_glidersInTheAir_1 : decode cX3_glidersInTheAir 1 = .ok (.istore_n 1, 1) := by decide +kernel
theorem dX3_glidersInTheAir_2 : decode cX3_glidersInTheAir 2 = .ok (.iconst 0, 1) := by decide +kernel
theorem dX3_glidersInTheAir_3 : decode cX3_glidersInTheAir 3 = .ok (.istore_n 2, 1) := by decide +kernel
theorem dX3_glidersInTheAir_4 : decode cX3_glidersInTheAir 4 = .ok (.iload_n 2, 1) := by decide +kernel
theorem dX3_glidersInTheAir_5 : decode cX3_glidersInTheAir 5 = .ok (.aload_n 0, 1) := by decide +kernel
theorem dX3_glidersInTheAir_6 : decode cX3_glidersInTheAir 6 = .ok (.getfield 16, 3) := by decide +kernel
theorem dX3_glidersInTheAir_9 : decode cX3_glidersInTheAir 9 = .ok (.invokevirtual 65, 3) := by decide +kernel
theorem dX3_glidersInTheAir_12 : decode cX3_glidersInTheAir 12 = .ok (.if_icmp .ge 29, 3) := by decide +kernel
theorem dX3_glidersInTheAir_15 : decode cX3_glidersInTheAir 15 = .ok (.aload_n 0, 1) := by decide +kernel
theorem dX3_glidersInTheAir_16 : decode cX3_glidersInTheAir 16 = .ok (.getfield 16, 3) := by decide +kernel
theorem dX3_glidersInTheAir_19 : decode cX3_glidersInTheAir 19 = .ok (.iload_n 2, 1) := by decide +kernel
theorem dX3_glidersInTheAir_20 : decode cX3_glidersInTheAir 20 = .ok (.invokevirtual 188, 3) := by decide +kernel
theorem dX3_glidersInTheAir_23 : decode cX3_glidersInTheAir 23 = .ok (.checkcast 87, 3) := by decide +kernel
theorem dX3_glidersInTheAir_26 : decode cX3_glidersInTheAir 26 = .ok (.getfield 110, 3) := by decide +kernel
theorem dX3_glidersInTheAir_29 : decode cX3_glidersInTheAir 29 = .ok (.ifCond .eq 6, 3) := by decide +kernel
theorem dX3_glidersInTheAir_32 : decode cX3_glidersInTheAir 32 = .ok (.iinc 1 1, 3) := by decide +kernel
theorem dX3_glidersInTheAir_35 : decode cX3_glidersInTheAir 35 = .ok (.iinc 2 1, 3) := by decide +kernel
theorem dX3_glidersInTheAir_38 : decode cX3_glidersInTheAir 38 = .ok (.goto (-34), 3) := by decide +kernel
theorem dX3_glidersInTheAir_41 : decode cX3_glidersInTheAir 41 = .ok (.iload_n 1, 1) := by decide +kernel
theorem dX3_glidersInTheAir_42 : decode cX3_glidersInTheAir 42 = .ok (.ireturn, 1) := by decide +kernel
theorem dX3_tugsTaken_0 : decode cX3_tugsTaken 0 = .ok (.iconst 0, 1) := by decide +kernel
theorem dX3_tugsTaken_1 : decode cX3_tugsTaken 1 = .ok (.istore_n 1, 1) := by decide +kernel
theorem dX3_tugsTaken_2 : decode cX3_tugsTaken 2 = .ok (.iconst 0, 1) := by decide +kernel
theorem dX3_tugsTaken_3 : decode cX3_tugsTaken 3 = .ok (.istore_n 2, 1) := by decide +kernel
theorem dX3_tugsTaken_4 : decode cX3_tugsTaken 4 = .ok (.iload_n 2, 1) := by decide +kernel
theorem dX3_tugsTaken_5 : decode cX3_tugsTaken 5 = .ok (.aload_n 0, 1) := by decide +kernel
theorem dX3_tugsTaken_6 : decode cX3_tugsTaken 6 = .ok (.getfield 28, 3) := by decide +kernel
theorem dX3_tugsTaken_9 : decode cX3_tugsTaken 9 = .ok (.arraylength, 1) := by decide +kernel
theorem dX3_tugsTaken_10 : decode cX3_tugsTaken 10 = .ok (.if_icmp .ge 21, 3) := by decide +kernel
theorem dX3_tugsTaken_13 : decode cX3_tugsTaken 13 = .ok (.aload_n 0, 1) := by decide +kernel
theorem dX3_tugsTaken_14 : decode cX3_tugsTaken 14 = .ok (.getfield 28, 3) := by decide +kernel
theorem dX3_tugsTaken_17 : decode cX3_tugsTaken 17 = .ok (.iload_n 2, 1) := by decide +kernel
theorem dX3_tugsTaken_18 : decode cX3_tugsTaken 18 = .ok (.iaload, 1) := by decide +kernel
theorem dX3_tugsTaken_19 : decode cX3_tugsTaken 19 = .ok (.ifCond .eq 6, 3) := by decide +kernel
theorem dX3_tugsTaken_22 : decode cX3_tugsTaken 22 = .ok (.iinc 1 1, 3) := by decide +kernel
theorem dX3_tugsTaken_25 : decode cX3_tugsTaken 25 = .ok (.iinc 2 1, 3) := by decide +kernel
theorem dX3_tugsTaken_28 : decode cX3_tugsTaken 28 = .ok (.goto (-24), 3) := by decide +kernel
theorem dX3_tugsTaken_31 : decode cX3_tugsTaken 31 = .ok (.iload_n 1, 1) := by decide +kernel
theorem dX3_tugsTaken_32 : decode cX3_tugsTaken 32 = .ok (.ireturn, 1) := by decide +kernel
theorem dX3_freeTugs_0 : decode cX3_freeTugs 0 = .ok (.aload_n 0, 1) := by decide +kernel
theorem dX3_freeTugs_1 : decode cX3_freeTugs 1 = .ok (.getfield 32, 3) := by decide +kernel
theorem dX3_freeTugs_4 : decode cX3_freeTugs 4 = .ok (.aload_n 0, 1) := by decide +kernel
theorem dX3_freeTugs_5 : decode cX3_freeTugs 5 = .ok (.invokevirtual 98, 3) := by decide +kernel
theorem dX3_freeTugs_8 : decode cX3_freeTugs 8 = .ok (.isub, 1) := by decide +kernel
theorem dX3_freeTugs_9 : decode cX3_freeTugs 9 = .ok (.ireturn, 1) := by decide +kernel
theorem dX3_hasEarnedNextLevel_0 : decode cX3_hasEarnedNextLevel 0 = .ok (.aload_n 0, 1) := by decide +kernel
theorem dX3_hasEarnedNextLevel_1 : decode cX3_hasEarnedNextLevel 1 = .ok (.getfield 132, 3) := by decide +kernel
theorem dX3_hasEarnedNextLevel_4 : decode cX3_hasEarnedNextLevel 4 = .ok (.ifCond .ne 11, 3) := by decide +kernel
theorem dX3_hasEarnedNextLevel_7 : decode cX3_hasEarnedNextLevel 7 = .ok (.aload_n 0, 1) := by decide +kernel
theorem dX3_hasEarnedNextLevel_8 : decode cX3_hasEarnedNextLevel 8 = .ok (.getfield 271, 3) := by decide +kernel
theorem dX3_hasEarnedNextLevel_11 : decode cX3_hasEarnedNextLevel 11 = .ok (.iconst 3, 1) := by decide +kernel
theorem dX3_hasEarnedNextLevel_12 : decode cX3_hasEarnedNextLevel 12 = .ok (.if_icmp .ge 19, 3) := by decide +kernel
theorem dX3_hasEarnedNextLevel_15 : decode cX3_hasEarnedNextLevel 15 = .ok (.aload_n 0, 1) := by decide +kernel
theorem dX3_hasEarnedNextLevel_16 : decode cX3_hasEarnedNextLevel 16 = .ok (.getfield 132, 3) := by decide +kernel
theorem dX3_hasEarnedNextLevel_19 : decode cX3_hasEarnedNextLevel 19 = .ok (.iconst 1, 1) := by decide +kernel
theorem dX3_hasEarnedNextLevel_20 : decode cX3_hasEarnedNextLevel 20 = .ok (.if_icmp .ne 15, 3) := by decide +kernel
theorem dX3_hasEarnedNextLevel_23 : decode cX3_hasEarnedNextLevel 23 = .ok (.aload_n 0, 1) := by decide +kernel
theorem dX3_hasEarnedNextLevel_24 : decode cX3_hasEarnedNextLevel 24 = .ok (.getfield 274, 3) := by decide +kernel
theorem dX3_hasEarnedNextLevel_27 : decode cX3_hasEarnedNextLevel 27 = .ok (.iconst 5, 1) := by decide +kernel
theorem dX3_hasEarnedNextLevel_28 : decode cX3_hasEarnedNextLevel 28 = .ok (.if_icmp .lt 7, 3) := by decide +kernel
theorem dX3_hasEarnedNextLevel_31 : decode cX3_hasEarnedNextLevel 31 = .ok (.iconst 1, 1) := by decide +kernel
theorem dX3_hasEarnedNextLevel_32 : decode cX3_hasEarnedNextLevel 32 = .ok (.goto 4, 3) := by decide +kernel
theorem dX3_hasEarnedNextLevel_35 : decode cX3_hasEarnedNextLevel 35 = .ok (.iconst 0, 1) := by decide +kernel
theorem dX3_hasEarnedNextLevel_36 : decode cX3_hasEarnedNextLevel 36 = .ok (.ireturn, 1) := by decide +kernel
theorem dX3_hasTeacher_0 : decode cX3_hasTeacher 0 = .ok (.aload_n 0, 1) := by decide +kernel
theorem dX3_hasTeacher_1 : decode cX3_hasTeacher 1 = .ok (.getfield 284, 3) := by decide +kernel
theorem dX3_hasTeacher_4 : decode cX3_hasTeacher 4 = .ok (.ifnull 18, 3) := by decide +kernel
theorem dX3_hasTeacher_7 : decode cX3_hasTeacher 7 = .ok (.aload_n 0, 1) := by decide +kernel
theorem dX3_hasTeacher_8 : decode cX3_hasTeacher 8 = .ok (.getfield 284, 3) := by decide +kernel
theorem dX3_hasTeacher_11 : decode cX3_hasTeacher 11 = .ok (.getfield 132, 3) := by decide +kernel
theorem dX3_hasTeacher_14 : decode cX3_hasTeacher 14 = .ok (.iconst 3, 1) := by decide +kernel
theorem dX3_hasTeacher_15 : decode cX3_hasTeacher 15 = .ok (.if_icmp .ne 7, 3) := by decide +kernel
theorem dX3_hasTeacher_18 : decode cX3_hasTeacher 18 = .ok (.iconst 1, 1) := by decide +kernel
theorem dX3_hasTeacher_19 : decode cX3_hasTeacher 19 = .ok (.goto 4, 3) := by decide +kernel
theorem dX3_hasTeacher_22 : decode cX3_hasTeacher 22 = .ok (.iconst 0, 1) := by decide +kernel
theorem dX3_hasTeacher_23 : decode cX3_hasTeacher 23 = .ok (.ireturn, 1) := by decide +kernel
theorem dX3_needsTeacher_0 : decode cX3_needsTeacher 0 = .ok (.aload_n 0, 1) := by decide +kernel
theorem dX3_needsTeacher_1 : decode cX3_needsTeacher 1 = .ok (.getfield 132, 3) := by decide +kernel
theorem dX3_needsTeacher_4 : decode cX3_needsTeacher 4 = .ok (.ifCond .eq 18, 3) := by decide +kernel
theorem dX3_needsTeacher_7 : decode cX3_needsTeacher 7 = .ok (.aload_n 0, 1) := by decide +kernel
theorem dX3_needsTeacher_8 : decode cX3_needsTeacher 8 = .ok (.getfield 132, 3) := by decide +kernel
theorem dX3_needsTeacher_11 : decode cX3_needsTeacher 11 = .ok (.iconst 1, 1) := by decide +kernel
theorem dX3_needsTeacher_12 : decode cX3_needsTeacher 12 = .ok (.if_icmp .ne 14, 3) := by decide +kernel
theorem dX3_needsTeacher_15 : decode cX3_needsTeacher 15 = .ok (.aload_n 0, 1) := by decide +kernel
theorem dX3_needsTeacher_16 : decode cX3_needsTeacher 16 = .ok (.getfield 271, 3) := by decide +kernel
theorem dX3_needsTeacher_19 : decode cX3_needsTeacher 19 = .ok (.ifCond .ne 7, 3) := by decide +kernel
theorem dX3_needsTeacher_22 : decode cX3_needsTeacher 22 = .ok (.iconst 1, 1) := by decide +kernel
theorem dX3_needsTeacher_23 : decode cX3_needsTeacher 23 = .ok (.goto 4, 3) := by decide +kernel
theorem dX3_needsTeacher_26 : decode cX3_needsTeacher 26 = .ok (.iconst 0, 1) := by decide +kernel
theorem dX3_needsTeacher_27 : decode cX3_needsTeacher 27 = .ok (.ireturn, 1) := by decide +kernel
theorem dX3_windLimitOf_0 : decode cX3_windLimitOf 0 = .ok (.iload_n 0, 1) := by decide +kernel
theorem dX3_windLimitOf_1 : decode cX3_windLimitOf 1 = .ok (.tableswitch 35 0 2 #[27, 29, 32], 27) := by decide +kernel
theorem dX3_windLimitOf_28 : decode cX3_windLimitOf 28 = .ok (.iconst 0, 1) := by decide +kernel
theorem dX3_windLimitOf_29 : decode cX3_windLimitOf 29 = .ok (.ireturn, 1) := by decide +kernel
theorem dX3_windLimitOf_30 : decode cX3_windLimitOf 30 = .ok (.bipush 12, 2) := by decide +kernel
theorem dX3_windLimitOf_32 : decode cX3_windLimitOf 32 = .ok (.ireturn, 1) := by decide +kernel
theorem dX3_windLimitOf_33 : decode cX3_windLimitOf 33 = .ok (.bipush 25, 2) := by decide +kernel
theorem dX3_windLimitOf_35 : decode cX3_windLimitOf 35 = .ok (.ireturn, 1) := by decide +kernel
theorem dX3_windLimitOf_36 : decode cX3_windLimitOf 36 = .ok (.bipush 30, 2) := by decide +kernel
theorem dX3_windLimitOf_38 : decode cX3_windLimitOf 38 = .ok (.ireturn, 1) := by decide +kernel
theorem dX3_hasFlyingMember_0 : decode cX3_hasFlyingMember 0 = .ok (.aload_n 0, 1) := by decide +kernel
theorem dX3_hasFlyingMember_1 : decode cX3_hasFlyingMember 1 = .ok (.getfield 279, 3) := by decide +kernel
theorem dX3_hasFlyingMember_4 : decode cX3_hasFlyingMember 4 = .ok (.getfield 123, 3) := by decide +kernel
theorem dX3_hasFlyingMember_7 : decode cX3_hasFlyingMember 7 = .ok (.ifCond .ne 20, 3) := by decide +kernel
theorem dX3_hasFlyingMember_10 : decode cX3_hasFlyingMember 10 = .ok (.aload_n 0, 1) := by decide +kernel
theorem dX3_hasFlyingMember_11 : decode cX3_hasFlyingMember 11 = .ok (.getfield 284, 3) := by decide +kernel
theorem dX3_hasFlyingMember_14 : decode cX3_hasFlyingMember 14 = .ok (.ifnull 17, 3) := by decide +kernel
theorem dX3_hasFlyingMember_17 : decode cX3_hasFlyingMember 17 = .ok (.aload_n 0, 1) := by decide +kernel
theorem dX3_hasFlyingMember_18 : decode cX3_hasFlyingMember 18 = .ok (.getfield 284, 3) := by decide +kernel
theorem dX3_hasFlyingMember_21 : decode cX3_hasFlyingMember 21 = .ok (.getfield 123, 3) := by decide +kernel
theorem dX3_hasFlyingMember_24 : decode cX3_hasFlyingMember 24 = .ok (.ifCond .eq 7, 3) := by decide +kernel
theorem dX3_hasFlyingMember_27 : decode cX3_hasFlyingMember 27 = .ok (.iconst 1, 1) := by decide +kernel
theorem dX3_hasFlyingMember_28 : decode cX3_hasFlyingMember 28 = .ok (.goto 4, 3) := by decide +kernel
theorem dX3_hasFlyingMember_31 : decode cX3_hasFlyingMember 31 = .ok (.iconst 0, 1) := by decide +kernel
theorem dX3_hasFlyingMember_32 : decode cX3_hasFlyingMember 32 = .ok (.ireturn, 1) := by decide +kernel
theorem dX3_isTooWindyFor_0 : decode cX3_isTooWindyFor 0 = .ok (.aload_n 1, 1) := by decide +kernel
theorem dX3_isTooWindyFor_1 : decode cX3_isTooWindyFor 1 = .ok (.invokestatic 295, 3) := by decide +kernel
theorem dX3_isTooWindyFor_4 : decode cX3_isTooWindyFor 4 = .ok (.ifCond .eq 7, 3) := by decide +kernel
theorem dX3_isTooWindyFor_7 : decode cX3_isTooWindyFor 7 = .ok (.iconst 3, 1) := by decide +kernel
theorem dX3_isTooWindyFor_8 : decode cX3_isTooWindyFor 8 = .ok (.goto 10, 3) := by decide +kernel
theorem dX3_isTooWindyFor_11 : decode cX3_isTooWindyFor 11 = .ok (.aload_n 1, 1) := by decide +kernel
theorem dX3_isTooWindyFor_12 : decode cX3_isTooWindyFor 12 = .ok (.getfield 279, 3) := by decide +kernel
theorem dX3_isTooWindyFor_15 : decode cX3_isTooWindyFor 15 = .ok (.getfield 132, 3) := by decide +kernel
theorem dX3_isTooWindyFor_18 : decode cX3_isTooWindyFor 18 = .ok (.istore_n 2, 1) := by decide +kernel
theorem dX3_isTooWindyFor_19 : decode cX3_isTooWindyFor 19 = .ok (.aload_n 0, 1) := by decide +kernel
theorem dX3_isTooWindyFor_20 : decode cX3_isTooWindyFor 20 = .ok (.getfield 45, 3) := by decide +kernel
theorem dX3_isTooWindyFor_23 : decode cX3_isTooWindyFor 23 = .ok (.aload_n 1, 1) := by decide +kernel
theorem dX3_isTooWindyFor_24 : decode cX3_isTooWindyFor 24 = .ok (.getfield 287, 3) := by decide +kernel
theorem dX3_isTooWindyFor_27 : decode cX3_isTooWindyFor 27 = .ok (.getfield 299, 3) := by decide +kernel
theorem dX3_isTooWindyFor_30 : decode cX3_isTooWindyFor 30 = .ok (.if_icmp .gt 14, 3) := by decide +kernel
theorem dX3_isTooWindyFor_33 : decode cX3_isTooWindyFor 33 = .ok (.aload_n 0, 1) := by decide +kernel
theorem dX3_isTooWindyFor_34 : decode cX3_isTooWindyFor 34 = .ok (.getfield 45, 3) := by decide +kernel
theorem dX3_isTooWindyFor_37 : decode cX3_isTooWindyFor 37 = .ok (.iload_n 2, 1) := by decide +kernel
theorem dX3_isTooWindyFor_38 : decode cX3_isTooWindyFor 38 = .ok (.invokestatic 302, 3) := by decide +kernel
theorem dX3_isTooWindyFor_41 : decode cX3_isTooWindyFor 41 = .ok (.if_icmp .le 7, 3) := by decide +kernel
theorem dX3_isTooWindyFor_44 : decode cX3_isTooWindyFor 44 = .ok (.iconst 1, 1) := by decide +kernel
theorem dX3_isTooWindyFor_45 : decode cX3_isTooWindyFor 45 = .ok (.goto 4, 3) := by decide +kernel
theorem dX3_isTooWindyFor_48 : decode cX3_isTooWindyFor 48 = .ok (.iconst 0, 1) := by decide +kernel
theorem dX3_isTooWindyFor_49 : decode cX3_isTooWindyFor 49 = .ok (.ireturn, 1) := by decide +kernel
theorem dX3_hasNothingToLaunch_0 : decode cX3_hasNothingToLaunch 0 = .ok (.aload_n 1, 1) := by decide +kernel
theorem dX3_hasNothingToLaunch_1 : decode cX3_hasNothingToLaunch 1 = .ok (.getfield 161, 3) := by decide +kernel
theorem dX3_hasNothingToLaunch_4 : decode cX3_hasNothingToLaunch 4 = .ok (.ifCond .ne 19, 3) := by decide +kernel
theorem dX3_hasNothingToLaunch_7 : decode cX3_hasNothingToLaunch 7 = .ok (.aload_n 0, 1) := by decide +kernel
theorem dX3_hasNothingToLaunch_8 : decode cX3_hasNothingToLaunch 8 = .ok (.getfield 36, 3) := by decide +kernel
theorem dX3_hasNothingToLaunch_11 : decode cX3_hasNothingToLaunch 11 = .ok (.iconst 2, 1) := by decide +kernel
theorem dX3_hasNothingToLaunch_12 : decode cX3_hasNothingToLaunch 12 = .ok (.if_icmp .lt 7, 3) := by decide +kernel
theorem dX3_hasNothingToLaunch_15 : decode cX3_hasNothingToLaunch 15 = .ok (.iconst 1, 1) := by decide +kernel
theorem dX3_hasNothingToLaunch_16 : decode cX3_hasNothingToLaunch 16 = .ok (.goto 19, 3) := by decide +kernel
theorem dX3_hasNothingToLaunch_19 : decode cX3_hasNothingToLaunch 19 = .ok (.iconst 0, 1) := by decide +kernel
theorem dX3_hasNothingToLaunch_20 : decode cX3_hasNothingToLaunch 20 = .ok (.goto 15, 3) := by decide +kernel
theorem dX3_hasNothingToLaunch_23 : decode cX3_hasNothingToLaunch 23 = .ok (.aload_n 0, 1) := by decide +kernel
theorem dX3_hasNothingToLaunch_24 : decode cX3_hasNothingToLaunch 24 = .ok (.invokevirtual 103, 3) := by decide +kernel
theorem dX3_hasNothingToLaunch_27 : decode cX3_hasNothingToLaunch 27 = .ok (.ifCond .gt 7, 3) := by decide +kernel
theorem dX3_hasNothingToLaunch_30 : decode cX3_hasNothingToLaunch 30 = .ok (.iconst 1, 1) := by decide +kernel
theorem dX3_hasNothingToLaunch_31 : decode cX3_hasNothingToLaunch 31 = .ok (.goto 4, 3) := by decide +kernel
theorem dX3_hasNothingToLaunch_34 : decode cX3_hasNothingToLaunch 34 = .ok (.iconst 0, 1) := by decide +kernel
theorem dX3_hasNothingToLaunch_35 : decode cX3_hasNothingToLaunch 35 = .ok (.ireturn, 1) := by decide +kernel
theorem dX3_reasonAgainst_0 : decode cX3_reasonAgainst 0 = .ok (.aload_n 1, 1) := by decide +kernel
theorem dX3_reasonAgainst_1 : decode cX3_reasonAgainst 1 = .ok (.getfield 287, 3) := by decide +kernel
theorem dX3_reasonAgainst_4 : decode cX3_reasonAgainst 4 = .ok (.astore_n 2, 1) := by decide +kernel
theorem dX3_reasonAgainst_5 : decode cX3_reasonAgainst 5 = .ok (.aload_n 1, 1) := by decide +kernel
theorem dX3_reasonAgainst_6 : decode cX3_reasonAgainst 6 = .ok (.invokestatic 305, 3) := by decide +kernel
theorem dX3_reasonAgainst_9 : decode cX3_reasonAgainst 9 = .ok (.ifCond .eq 5, 3) := by decide +kernel
theorem dX3_reasonAgainst_12 : decode cX3_reasonAgainst 12 = .ok (.iconst 1, 1) := by decide +kernel
theorem dX3_reasonAgainst_13 : decode cX3_reasonAgainst 13 = .ok (.ireturn, 1) := by decide +kernel
theorem dX3_reasonAgainst_14 : decode cX3_reasonAgainst 14 = .ok (.aload_n 2, 1) := by decide +kernel
theorem dX3_reasonAgainst_15 : decode cX3_reasonAgainst 15 = .ok (.getfield 110, 3) := by decide +kernel
theorem dX3_reasonAgainst_18 : decode cX3_reasonAgainst 18 = .ok (.ifCond .ne 10, 3) := by decide +kernel
theorem dX3_reasonAgainst_21 : decode cX3_reasonAgainst 21 = .ok (.aload_n 2, 1) := by decide +kernel
theorem dX3_reasonAgainst_22 : decode cX3_reasonAgainst 22 = .ok (.getfield 115, 3) := by decide +kernel
theorem dX3_reasonAgainst_25 : decode cX3_reasonAgainst 25 = .ok (.ifCond .eq 5, 3) := by decide +kernel
theorem dX3_reasonAgainst_28 : decode cX3_reasonAgainst 28 = .ok (.iconst 2, 1) := by decide +kernel
theorem dX3_reasonAgainst_29 : decode cX3_reasonAgainst 29 = .ok (.ireturn, 1) := by decide +kernel
theorem dX3_reasonAgainst_30 : decode cX3_reasonAgainst 30 = .ok (.aload_n 1, 1) := by decide +kernel
theorem dX3_reasonAgainst_31 : decode cX3_reasonAgainst 31 = .ok (.getfield 284, 3) := by decide +kernel
theorem dX3_reasonAgainst_34 : decode cX3_reasonAgainst 34 = .ok (.ifnull 13, 3) := by decide +kernel
theorem dX3_reasonAgainst_37 : decode cX3_reasonAgainst 37 = .ok (.aload_n 2, 1) := by decide +kernel
theorem dX3_reasonAgainst_38 : decode cX3_reasonAgainst 38 = .ok (.getfield 308, 3) := by decide +kernel
theorem dX3_reasonAgainst_41 : decode cX3_reasonAgainst 41 = .ok (.iconst 1, 1) := by decide +kernel
theorem dX3_reasonAgainst_42 : decode cX3_reasonAgainst 42 = .ok (.if_icmp .ne 5, 3) := by decide +kernel
theorem dX3_reasonAgainst_45 : decode cX3_reasonAgainst 45 = .ok (.iconst 3, 1) := by decide +kernel
theorem dX3_reasonAgainst_46 : decode cX3_reasonAgainst 46 = .ok (.ireturn, 1) := by decide +kernel
theorem dX3_reasonAgainst_47 : decode cX3_reasonAgainst 47 = .ok (.aload_n 1, 1) := by decide +kernel
theorem dX3_reasonAgainst_48 : decode cX3_reasonAgainst 48 = .ok (.getfield 279, 3) := by decide +kernel
theorem dX3_reasonAgainst_51 : decode cX3_reasonAgainst 51 = .ok (.invokestatic 311, 3) := by decide +kernel
theorem dX3_reasonAgainst_54 : decode cX3_reasonAgainst 54 = .ok (.ifCond .eq 12, 3) := by decide +kernel
theorem dX3_reasonAgainst_57 : decode cX3_reasonAgainst 57 = .ok (.aload_n 1, 1) := by decide +kernel
theorem dX3_reasonAgainst_58 : decode cX3_reasonAgainst 58 = .ok (.invokestatic 295, 3) := by decide +kernel
theorem dX3_reasonAgainst_61 : decode cX3_reasonAgainst 61 = .ok (.ifCond .ne 5, 3) := by decide +kernel
theorem dX3_reasonAgainst_64 : decode cX3_reasonAgainst 64 = .ok (.iconst 4, 1) := by decide +kernel
theorem dX3_reasonAgainst_65 : decode cX3_reasonAgainst 65 = .ok (.ireturn, 1) := by decide +kernel
theorem dX3_reasonAgainst_66 : decode cX3_reasonAgainst 66 = .ok (.aload_n 0, 1) := by decide +kernel
theorem dX3_reasonAgainst_67 : decode cX3_reasonAgainst 67 = .ok (.aload_n 1, 1) := by decide +kernel
theorem dX3_reasonAgainst_68 : decode cX3_reasonAgainst 68 = .ok (.invokevirtual 314, 3) := by decide +kernel
theorem dX3_reasonAgainst_71 : decode cX3_reasonAgainst 71 = .ok (.ifCond .eq 5, 3) := by decide +kernel
theorem dX3_reasonAgainst_74 : decode cX3_reasonAgainst 74 = .ok (.iconst 5, 1) := by decide +kernel
theorem dX3_reasonAgainst_75 : decode cX3_reasonAgainst 75 = .ok (.ireturn, 1) := by decide +kernel
theorem dX3_reasonAgainst_76 : decode cX3_reasonAgainst 76 = .ok (.aload_n 0, 1) := by decide +kernel
theorem dX3_reasonAgainst_77 : decode cX3_reasonAgainst 77 = .ok (.getfield 48, 3) := by decide +kernel
theorem dX3_reasonAgainst_80 : decode cX3_reasonAgainst 80 = .ok (.aload_n 0, 1) := by decide +kernel
theorem dX3_reasonAgainst_81 : decode cX3_reasonAgainst 81 = .ok (.getfield 42, 3) := by decide +kernel
theorem dX3_reasonAgainst_84 : decode cX3_reasonAgainst 84 = .ok (.isub, 1) := by decide +kernel
theorem dX3_reasonAgainst_85 : decode cX3_reasonAgainst 85 = .ok (.bipush 10, 2) := by decide +kernel
theorem dX3_reasonAgainst_87 : decode cX3_reasonAgainst 87 = .ok (.if_icmp .ge 6, 3) := by decide +kernel
theorem dX3_reasonAgainst_90 : decode cX3_reasonAgainst 90 = .ok (.bipush 6, 2) := by decide +kernel
theorem dX3_reasonAgainst_92 : decode cX3_reasonAgainst 92 = .ok (.ireturn, 1) := by decide +kernel
theorem dX3_reasonAgainst_93 : decode cX3_reasonAgainst 93 = .ok (.aload_n 0, 1) := by decide +kernel
theorem dX3_reasonAgainst_94 : decode cX3_reasonAgainst 94 = .ok (.aload_n 1, 1) := by decide +kernel
theorem dX3_reasonAgainst_95 : decode cX3_reasonAgainst 95 = .ok (.invokevirtual 317, 3) := by decide +kernel
theorem dX3_reasonAgainst_98 : decode cX3_reasonAgainst 98 = .ok (.ifCond .eq 6, 3) := by decide +kernel
theorem dX3_reasonAgainst_101 : decode cX3_reasonAgainst 101 = .ok (.bipush 7, 2) := by decide +kernel
theorem dX3_reasonAgainst_103 : decode cX3_reasonAgainst 103 = .ok (.ireturn, 1) := by decide +kernel
theorem dX3_reasonAgainst_104 : decode cX3_reasonAgainst 104 = .ok (.aload_n 0, 1) := by decide +kernel
theorem dX3_reasonAgainst_105 : decode cX3_reasonAgainst 105 = .ok (.invokevirtual 320, 3) := by decide +kernel
theorem dX3_reasonAgainst_108 : decode cX3_reasonAgainst 108 = .ok (.ifCond .eq 8, 3) := by decide +kernel
theorem dX3_reasonAgainst_111 : decode cX3_reasonAgainst 111 = .ok (.bipush 8, 2) := by decide +kernel
theorem dX3_reasonAgainst_113 : decode cX3_reasonAgainst 113 = .ok (.goto 4, 3) := by decide +kernel
theorem dX3_reasonAgainst_116 : decode cX3_reasonAgainst 116 = .ok (.iconst 0, 1) := by decide +kernel
theorem dX3_reasonAgainst_117 : decode cX3_reasonAgainst 117 = .ok (.ireturn, 1) := by decide +kernel
theorem dX3_passMinute_0 : decode cX3_passMinute 0 = .ok (.aload_n 0, 1) := by decide +kernel
theorem dX3_passMinute_1 : decode cX3_passMinute 1 = .ok (.dup, 1) := by decide +kernel
theorem dX3_passMinute_2 : decode cX3_passMinute 2 = .ok (.getfield 42, 3) := by decide +kernel
theorem dX3_passMinute_5 : decode cX3_passMinute 5 = .ok (.iconst 1, 1) := by decide +kernel
theorem dX3_passMinute_6 : decode cX3_passMinute 6 = .ok (.iadd, 1) := by decide +kernel
theorem dX3_passMinute_7 : decode cX3_passMinute 7 = .ok (.putfield 42, 3) := by decide +kernel
theorem dX3_passMinute_10 : decode cX3_passMinute 10 = .ok (.aload_n 0, 1) := by decide +kernel
theorem dX3_passMinute_11 : decode cX3_passMinute 11 = .ok (.invokevirtual 323, 3) := by decide +kernel
theorem dX3_passMinute_14 : decode cX3_passMinute 14 = .ok (.aload_n 0, 1) := by decide +kernel
theorem dX3_passMinute_15 : decode cX3_passMinute 15 = .ok (.invokevirtual 326, 3) := by decide +kernel
theorem dX3_passMinute_18 : decode cX3_passMinute 18 = .ok (.aload_n 0, 1) := by decide +kernel
theorem dX3_passMinute_19 : decode cX3_passMinute 19 = .ok (.invokevirtual 329, 3) := by decide +kernel
theorem dX3_passMinute_22 : decode cX3_passMinute 22 = .ok (.aload_n 0, 1) := by decide +kernel
theorem dX3_passMinute_23 : decode cX3_passMinute 23 = .ok (.invokevirtual 320, 3) := by decide +kernel
theorem dX3_passMinute_26 : decode cX3_passMinute 26 = .ok (.ifCond .ne 7, 3) := by decide +kernel
theorem dX3_passMinute_29 : decode cX3_passMinute 29 = .ok (.aload_n 0, 1) := by decide +kernel
theorem dX3_passMinute_30 : decode cX3_passMinute 30 = .ok (.invokevirtual 332, 3) := by decide +kernel
theorem dX3_passMinute_33 : decode cX3_passMinute 33 = .ok (.aload_n 0, 1) := by decide +kernel
theorem dX3_passMinute_34 : decode cX3_passMinute 34 = .ok (.invokevirtual 320, 3) := by decide +kernel
theorem dX3_passMinute_37 : decode cX3_passMinute 37 = .ok (.ifCond .ne 14, 3) := by decide +kernel
theorem dX3_passMinute_40 : decode cX3_passMinute 40 = .ok (.aload_n 0, 1) := by decide +kernel
theorem dX3_passMinute_41 : decode cX3_passMinute 41 = .ok (.invokevirtual 335, 3) := by decide +kernel
theorem dX3_passMinute_44 : decode cX3_passMinute 44 = .ok (.ifCond .eq 7, 3) := by decide +kernel
theorem dX3_passMinute_47 : decode cX3_passMinute 47 = .ok (.iconst 1, 1) := by decide +kernel
theorem dX3_passMinute_48 : decode cX3_passMinute 48 = .ok (.goto 4, 3) := by decide +kernel
theorem dX3_passMinute_51 : decode cX3_passMinute 51 = .ok (.iconst 0, 1) := by decide +kernel
theorem dX3_passMinute_52 : decode cX3_passMinute 52 = .ok (.ireturn, 1) := by decide +kernel
theorem dX3_freeCables_0 : decode cX3_freeCables 0 = .ok (.aload_n 0, 1) := by decide +kernel
theorem dX3_freeCables_1 : decode cX3_freeCables 1 = .ok (.getfield 36, 3) := by decide +kernel
theorem dX3_freeCables_4 : decode cX3_freeCables 4 = .ok (.iconst 2, 1) := by decide +kernel
theorem dX3_freeCables_5 : decode cX3_freeCables 5 = .ok (.if_icmp .lt 19, 3) := by decide +kernel
theorem dX3_freeCables_8 : decode cX3_freeCables 8 = .ok (.aload_n 0, 1) := by decide +kernel
theorem dX3_freeCables_9 : decode cX3_freeCables 9 = .ok (.getfield 42, 3) := by decide +kernel
theorem dX3_freeCables_12 : decode cX3_freeCables 12 = .ok (.aload_n 0, 1) := by decide +kernel
theorem dX3_freeCables_13 : decode cX3_freeCables 13 = .ok (.getfield 39, 3) := by decide +kernel
theorem dX3_freeCables_16 : decode cX3_freeCables 16 = .ok (.if_icmp .lt 8, 3) := by decide +kernel
theorem dX3_freeCables_19 : decode cX3_freeCables 19 = .ok (.aload_n 0, 1) := by decide +kernel
theorem dX3_freeCables_20 : decode cX3_freeCables 20 = .ok (.iconst 0, 1) := by decide +kernel
theorem dX3_freeCables_21 : decode cX3_freeCables 21 = .ok (.putfield 36, 3) := by decide +kernel
theorem dX3_freeCables_24 : decode cX3_freeCables 24 = .ok (.return_, 1) := by decide +kernel
theorem dX3_freeDueTugs_0 : decode cX3_freeDueTugs 0 = .ok (.iconst 0, 1) := by decide +kernel
theorem dX3_freeDueTugs_1 : decode cX3_freeDueTugs 1 = .ok (.istore_n 1, 1) := by decide +kernel
theorem dX3_freeDueTugs_2 : decode cX3_freeDueTugs 2 = .ok (.iload_n 1, 1) := by decide +kernel
theorem dX3_freeDueTugs_3 : decode cX3_freeDueTugs 3 = .ok (.aload_n 0, 1) := by decide +kernel
theorem dX3_freeDueTugs_4 : decode cX3_freeDueTugs 4 = .ok (.getfield 28, 3) := by decide +kernel
theorem dX3_freeDueTugs_7 : decode cX3_freeDueTugs 7 = .ok (.arraylength, 1) := by decide +kernel
theorem dX3_freeDueTugs_8 : decode cX3_freeDueTugs 8 = .ok (.if_icmp .ge 29, 3) := by decide +kernel
theorem dX3_freeDueTugs_11 : decode cX3_freeDueTugs 11 = .ok (.aload_n 0, 1) := by decide +kernel
theorem dX3_freeDueTugs_12 : decode cX3_freeDueTugs 12 = .ok (.getfield 42, 3) := by decide +kernel
theorem dX3_freeDueTugs_15 : decode cX3_freeDueTugs 15 = .ok (.aload_n 0, 1) := by decide +kernel
theorem dX3_freeDueTugs_16 : decode cX3_freeDueTugs 16 = .ok (.getfield 28, 3) := by decide +kernel
theorem dX3_freeDueTugs_19 : decode cX3_freeDueTugs 19 = .ok (.iload_n 1, 1) := by decide +kernel
theorem dX3_freeDueTugs_20 : decode cX3_freeDueTugs 20 = .ok (.iaload, 1) := by decide +kernel
theorem dX3_freeDueTugs_21 : decode cX3_freeDueTugs 21 = .ok (.if_icmp .lt 10, 3) := by decide +kernel
theorem dX3_freeDueTugs_24 : decode cX3_freeDueTugs 24 = .ok (.aload_n 0, 1) := by decide +kernel
theorem dX3_freeDueTugs_25 : decode cX3_freeDueTugs 25 = .ok (.getfield 28, 3) := by decide +kernel
theorem dX3_freeDueTugs_28 : decode cX3_freeDueTugs 28 = .ok (.iload_n 1, 1) := by decide +kernel
theorem dX3_freeDueTugs_29 : decode cX3_freeDueTugs 29 = .ok (.iconst 0, 1) := by decide +kernel
theorem dX3_freeDueTugs_30 : decode cX3_freeDueTugs 30 = .ok (.iastore, 1) := by decide +kernel
theorem dX3_freeDueTugs_31 : decode cX3_freeDueTugs 31 = .ok (.iinc 1 1, 3) := by decide +kernel
theorem dX3_freeDueTugs_34 : decode cX3_freeDueTugs 34 = .ok (.goto (-32), 3) := by decide +kernel
theorem dX3_freeDueTugs_37 : decode cX3_freeDueTugs 37 = .ok (.return_, 1) := by decide +kernel
theorem dX3_beginToWait_0 : decode cX3_beginToWait 0 = .ok (.iconst 0, 1) := by decide +kernel
theorem dX3_beginToWait_1 : decode cX3_beginToWait 1 = .ok (.istore_n 1, 1) := by decide +kernel
theorem dX3_beginToWait_2 : decode cX3_beginToWait 2 = .ok (.iload_n 1, 1) := by decide +kernel
theorem dX3_beginToWait_3 : decode cX3_beginToWait 3 = .ok (.aload_n 0, 1) := by decide +kernel
theorem dX3_beginToWait_4 : decode cX3_beginToWait 4 = .ok (.getfield 16, 3) := by decide +kernel
theorem dX3_beginToWait_7 : decode cX3_beginToWait 7 = .ok (.invokevirtual 65, 3) := by decide +kernel
theorem dX3_beginToWait_10 : decode cX3_beginToWait 10 = .ok (.if_icmp .ge 51, 3) := by decide +kernel
theorem dX3_beginToWait_13 : decode cX3_beginToWait 13 = .ok (.aload_n 0, 1) := by decide +kernel
theorem dX3_beginToWait_14 : decode cX3_beginToWait 14 = .ok (.getfield 16, 3) := by decide +kernel
theorem dX3_beginToWait_17 : decode cX3_beginToWait 17 = .ok (.iload_n 1, 1) := by decide +kernel
theorem dX3_beginToWait_18 : decode cX3_beginToWait 18 = .ok (.invokevirtual 188, 3) := by decide +kernel
theorem dX3_beginToWait_21 : decode cX3_beginToWait 21 = .ok (.checkcast 87, 3) := by decide +kernel
theorem dX3_beginToWait_24 : decode cX3_beginToWait 24 = .ok (.astore_n 2, 1) := by decide +kernel
theorem dX3_beginToWait_25 : decode cX3_beginToWait 25 = .ok (.aload_n 2, 1) := by decide +kernel
theorem dX3_beginToWait_26 : decode cX3_beginToWait 26 = .ok (.getfield 110, 3) := by decide +kernel
theorem dX3_beginToWait_29 : decode cX3_beginToWait 29 = .ok (.iconst 1, 1) := by decide +kernel
theorem dX3_beginToWait_30 : decode cX3_beginToWait 30 = .ok (.if_icmp .ne 25, 3) := by decide +kernel
theorem dX3_beginToWait_33 : decode cX3_beginToWait 33 = .ok (.aload_n 0, 1) := by decide +kernel
theorem dX3_beginToWait_34 : decode cX3_beginToWait 34 = .ok (.aload_n 2, 1) := by decide +kernel
theorem dX3_beginToWait_35 : decode cX3_beginToWait 35 = .ok (.invokevirtual 338, 3) := by decide +kernel
theorem dX3_beginToWait_38 : decode cX3_beginToWait 38 = .ok (.ifCond .eq 17, 3) := by decide +kernel
theorem dX3_beginToWait_41 : decode cX3_beginToWait 41 = .ok (.aload_n 2, 1) := by decide +kernel
theorem dX3_beginToWait_42 : decode cX3_beginToWait 42 = .ok (.iconst 2, 1) := by decide +kernel
theorem dX3_beginToWait_43 : decode cX3_beginToWait 43 = .ok (.putfield 110, 3) := by decide +kernel
theorem dX3_beginToWait_46 : decode cX3_beginToWait 46 = .ok (.aload_n 0, 1) := by decide +kernel
theorem dX3_beginToWait_47 : decode cX3_beginToWait 47 = .ok (.getfield 25, 3) := by decide +kernel
theorem dX3_beginToWait_50 : decode cX3_beginToWait 50 = .ok (.aload_n 2, 1) := by decide +kernel
theorem dX3_beginToWait_51 : decode cX3_beginToWait 51 = .ok (.invokevirtual 79, 3) := by decide +kernel
theorem dX3_beginToWait_54 : decode cX3_beginToWait 54 = .ok (.pop, 1) := by decide +kernel
theorem dX3_beginToWait_55 : decode cX3_beginToWait 55 = .ok (.iinc 1 1, 3) := by decide +kernel
theorem dX3_beginToWait_58 : decode cX3_beginToWait 58 = .ok (.goto (-56), 3) := by decide +kernel
theorem dX3_beginToWait_61 : decode cX3_beginToWait 61 = .ok (.return_, 1) := by decide +kernel
theorem dX3_mustLand_0 : decode cX3_mustLand 0 = .ok (.aload_n 1, 1) := by decide +kernel
theorem dX3_mustLand_1 : decode cX3_mustLand 1 = .ok (.getfield 195, 3) := by decide +kernel
theorem dX3_mustLand_4 : decode cX3_mustLand 4 = .ok (.astore_n 2, 1) := by decide +kernel
theorem dX3_mustLand_5 : decode cX3_mustLand 5 = .ok (.aload_n 2, 1) := by decide +kernel
theorem dX3_mustLand_6 : decode cX3_mustLand 6 = .ok (.ifnull 41, 3) := by decide +kernel
theorem dX3_mustLand_9 : decode cX3_mustLand 9 = .ok (.aload_n 1, 1) := by decide +kernel
theorem dX3_mustLand_10 : decode cX3_mustLand 10 = .ok (.getfield 201, 3) := by decide +kernel
theorem dX3_mustLand_13 : decode cX3_mustLand 13 = .ok (.ifCond .ne 30, 3) := by decide +kernel
theorem dX3_mustLand_16 : decode cX3_mustLand 16 = .ok (.aload_n 0, 1) := by decide +kernel
theorem dX3_mustLand_17 : decode cX3_mustLand 17 = .ok (.getfield 42, 3) := by decide +kernel
theorem dX3_mustLand_20 : decode cX3_mustLand 20 = .ok (.aload_n 0, 1) := by decide +kernel
theorem dX3_mustLand_21 : decode cX3_mustLand 21 = .ok (.getfield 48, 3) := by decide +kernel
theorem dX3_mustLand_24 : decode cX3_mustLand 24 = .ok (.if_icmp .ge 19, 3) := by decide +kernel
theorem dX3_mustLand_27 : decode cX3_mustLand 27 = .ok (.aload_n 0, 1) := by decide +kernel
theorem dX3_mustLand_28 : decode cX3_mustLand 28 = .ok (.getfield 42, 3) := by decide +kernel
theorem dX3_mustLand_31 : decode cX3_mustLand 31 = .ok (.aload_n 2, 1) := by decide +kernel
theorem dX3_mustLand_32 : decode cX3_mustLand 32 = .ok (.getfield 204, 3) := by decide +kernel
theorem dX3_mustLand_35 : decode cX3_mustLand 35 = .ok (.isub, 1) := by decide +kernel
theorem dX3_mustLand_36 : decode cX3_mustLand 36 = .ok (.aload_n 2, 1) := by decide +kernel
theorem dX3_mustLand_37 : decode cX3_mustLand 37 = .ok (.getfield 164, 3) := by decide +kernel
theorem dX3_mustLand_40 : decode cX3_mustLand 40 = .ok (.if_icmp .lt 7, 3) := by decide +kernel
theorem dX3_mustLand_43 : decode cX3_mustLand 43 = .ok (.iconst 1, 1) := by decide +kernel
theorem dX3_mustLand_44 : decode cX3_mustLand 44 = .ok (.goto 4, 3) := by decide +kernel
theorem dX3_mustLand_47 : decode cX3_mustLand 47 = .ok (.iconst 0, 1) := by decide +kernel
theorem dX3_mustLand_48 : decode cX3_mustLand 48 = .ok (.ireturn, 1) := by decide +kernel
theorem dX3_landFirstWaiting_0 : decode cX3_landFirstWaiting 0 = .ok (.aload_n 0, 1) := by decide +kernel
theorem dX3_landFirstWaiting_1 : decode cX3_landFirstWaiting 1 = .ok (.getfield 25, 3) := by decide +kernel
theorem dX3_landFirstWaiting_4 : decode cX3_landFirstWaiting 4 = .ok (.invokevirtual 342, 3) := by decide +kernel
theorem dX3_landFirstWaiting_7 : decode cX3_landFirstWaiting 7 = .ok (.ifCond .ne 30, 3) := by decide +kernel
theorem dX3_landFirstWaiting_10 : decode cX3_landFirstWaiting 10 = .ok (.aload_n 0, 1) := by decide +kernel
theorem dX3_landFirstWaiting_11 : decode cX3_landFirstWaiting 11 = .ok (.getfield 25, 3) := by decide +kernel
theorem dX3_landFirstWaiting_14 : decode cX3_landFirstWaiting 14 = .ok (.iconst 0, 1) := by decide +kernel
theorem dX3_landFirstWaiting_15 : decode cX3_landFirstWaiting 15 = .ok (.invokevirtual 264, 3) := by decide +kernel
theorem dX3_landFirstWaiting_18 : decode cX3_landFirstWaiting 18 = .ok (.checkcast 87, 3) := by decide +kernel
theorem dX3_landFirstWaiting_21 : decode cX3_landFirstWaiting 21 = .ok (.astore_n 1, 1) := by decide +kernel
theorem dX3_landFirstWaiting_22 : decode cX3_landFirstWaiting 22 = .ok (.aload_n 1, 1) := by decide +kernel
theorem dX3_landFirstWaiting_23 : decode cX3_landFirstWaiting 23 = .ok (.getfield 195, 3) := by decide +kernel
theorem dX3_landFirstWaiting_26 : decode cX3_landFirstWaiting 26 = .ok (.astore_n 2, 1) := by decide +kernel
theorem dX3_landFirstWaiting_27 : decode cX3_landFirstWaiting 27 = .ok (.aload_n 2, 1) := by decide +kernel
theorem dX3_landFirstWaiting_28 : decode cX3_landFirstWaiting 28 = .ok (.ifnull 9, 3) := by decide +kernel
theorem dX3_landFirstWaiting_31 : decode cX3_landFirstWaiting 31 = .ok (.aload_n 0, 1) := by decide +kernel
theorem dX3_landFirstWaiting_32 : decode cX3_landFirstWaiting 32 = .ok (.aload_n 1, 1) := by decide +kernel
theorem dX3_landFirstWaiting_33 : decode cX3_landFirstWaiting 33 = .ok (.aload_n 2, 1) := by decide +kernel
theorem dX3_landFirstWaiting_34 : decode cX3_landFirstWaiting 34 = .ok (.invokevirtual 345, 3) := by decide +kernel
theorem dX3_landFirstWaiting_37 : decode cX3_landFirstWaiting 37 = .ok (.return_, 1) := by decide +kernel
theorem dX3_land_0 : decode cX3_land 0 = .ok (.aload_n 0, 1) := by decide +kernel
theorem dX3_land_1 : decode cX3_land 1 = .ok (.getfield 42, 3) := by decide +kernel
theorem dX3_land_4 : decode cX3_land 4 = .ok (.aload_n 2, 1) := by decide +kernel
theorem dX3_land_5 : decode cX3_land 5 = .ok (.getfield 204, 3) := by decide +kernel
theorem dX3_land_8 : decode cX3_land 8 = .ok (.isub, 1) := by decide +kernel
theorem dX3_land_9 : decode cX3_land 9 = .ok (.istore_n 3, 1) := by decide +kernel
theorem dX3_land_10 : decode cX3_land 10 = .ok (.aload_n 2, 1) := by decide +kernel
theorem dX3_land_11 : decode cX3_land 11 = .ok (.iconst 2, 1) := by decide +kernel
theorem dX3_land_12 : decode cX3_land 12 = .ok (.putfield 185, 3) := by decide +kernel
theorem dX3_land_15 : decode cX3_land 15 = .ok (.aload_n 2, 1) := by decide +kernel
theorem dX3_land_16 : decode cX3_land 16 = .ok (.aload_n 0, 1) := by decide +kernel
theorem dX3_land_17 : decode cX3_land 17 = .ok (.getfield 42, 3) := by decide +kernel
theorem dX3_land_20 : decode cX3_land 20 = .ok (.putfield 235, 3) := by decide +kernel
theorem dX3_land_23 : decode cX3_land 23 = .ok (.aload_n 2, 1) := by decide +kernel
theorem dX3_land_24 : decode cX3_land 24 = .ok (.aload_n 2, 1) := by decide +kernel
theorem dX3_land_25 : decode cX3_land 25 = .ok (.getfield 161, 3) := by decide +kernel
theorem dX3_land_28 : decode cX3_land 28 = .ok (.invokestatic 349, 3) := by decide +kernel
theorem dX3_land_31 : decode cX3_land 31 = .ok (.aload_n 1, 1) := by decide +kernel
theorem dX3_land_32 : decode cX3_land 32 = .ok (.getfield 352, 3) := by decide +kernel
theorem dX3_land_35 : decode cX3_land 35 = .ok (.iload_n 3, 1) := by decide +kernel
theorem dX3_land_36 : decode cX3_land 36 = .ok (.sipush 180, 3) := by decide +kernel
theorem dX3_land_39 : decode cX3_land 39 = .ok (.invokestatic 355, 3) := by decide +kernel
theorem dX3_land_42 : decode cX3_land 42 = .ok (.imul, 1) := by decide +kernel
theorem dX3_land_43 : decode cX3_land 43 = .ok (.iadd, 1) := by decide +kernel
theorem dX3_land_44 : decode cX3_land 44 = .ok (.putfield 232, 3) := by decide +kernel
theorem dX3_land_47 : decode cX3_land 47 = .ok (.aload_n 1, 1) := by decide +kernel
theorem dX3_land_48 : decode cX3_land 48 = .ok (.iconst 0, 1) := by decide +kernel
theorem dX3_land_49 : decode cX3_land 49 = .ok (.putfield 110, 3) := by decide +kernel
theorem dX3_land_52 : decode cX3_land 52 = .ok (.aload_n 1, 1) := by decide +kernel
theorem dX3_land_53 : decode cX3_land 53 = .ok (.aconst_null, 1) := by decide +kernel
theorem dX3_land_54 : decode cX3_land 54 = .ok (.putfield 195, 3) := by decide +kernel
theorem dX3_land_57 : decode cX3_land 57 = .ok (.aload_n 1, 1) := by decide +kernel
theorem dX3_land_58 : decode cX3_land 58 = .ok (.iconst 0, 1) := by decide +kernel
theorem dX3_land_59 : decode cX3_land 59 = .ok (.putfield 201, 3) := by decide +kernel
theorem dX3_land_62 : decode cX3_land 62 = .ok (.aload_n 1, 1) := by decide +kernel
theorem dX3_land_63 : decode cX3_land 63 = .ok (.dup, 1) := by decide +kernel
theorem dX3_land_64 : decode cX3_land 64 = .ok (.getfield 277, 3) := by decide +kernel
theorem dX3_land_67 : decode cX3_land 67 = .ok (.iconst 1, 1) := by decide +kernel
theorem dX3_land_68 : decode cX3_land 68 = .ok (.iadd, 1) := by decide +kernel
theorem dX3_land_69 : decode cX3_land 69 = .ok (.putfield 277, 3) := by decide +kernel
theorem dX3_land_72 : decode cX3_land 72 = .ok (.aload_n 1, 1) := by decide +kernel
theorem dX3_land_73 : decode cX3_land 73 = .ok (.dup, 1) := by decide +kernel
theorem dX3_land_74 : decode cX3_land 74 = .ok (.getfield 278, 3) := by decide +kernel
theorem dX3_land_77 : decode cX3_land 77 = .ok (.iload_n 3, 1) := by decide +kernel
theorem dX3_land_78 : decode cX3_land 78 = .ok (.iadd, 1) := by decide +kernel
theorem dX3_land_79 : decode cX3_land 79 = .ok (.putfield 278, 3) := by decide +kernel
theorem dX3_land_82 : decode cX3_land 82 = .ok (.aload_n 2, 1) := by decide +kernel
theorem dX3_land_83 : decode cX3_land 83 = .ok (.iload_n 3, 1) := by decide +kernel
theorem dX3_land_84 : decode cX3_land 84 = .ok (.invokestatic 361, 3) := by decide +kernel
theorem dX3_land_87 : decode cX3_land 87 = .ok (.aload_n 0, 1) := by decide +kernel
theorem dX3_land_88 : decode cX3_land 88 = .ok (.aload_n 0, 1) := by decide +kernel
theorem dX3_land_89 : decode cX3_land 89 = .ok (.getfield 42, 3) := by decide +kernel
theorem dX3_land_92 : decode cX3_land 92 = .ok (.iconst 2, 1) := by decide +kernel
theorem dX3_land_93 : decode cX3_land 93 = .ok (.iadd, 1) := by decide +kernel
theorem dX3_land_94 : decode cX3_land 94 = .ok (.putfield 51, 3) := by decide +kernel
theorem dX3_land_97 : decode cX3_land 97 = .ok (.return_, 1) := by decide +kernel
theorem dX3_launchPrice_0 : decode cX3_launchPrice 0 = .ok (.iload_n 0, 1) := by decide +kernel
theorem dX3_launchPrice_1 : decode cX3_launchPrice 1 = .ok (.ifCond .ne 8, 3) := by decide +kernel
theorem dX3_launchPrice_4 : decode cX3_launchPrice 4 = .ok (.bipush 8, 2) := by decide +kernel
theorem dX3_launchPrice_6 : decode cX3_launchPrice 6 = .ok (.goto 7, 3) := by decide +kernel
theorem dX3_launchPrice_9 : decode cX3_launchPrice 9 = .ok (.iload_n 0, 1) := by decide +kernel
theorem dX3_launchPrice_10 : decode cX3_launchPrice 10 = .ok (.bipush 20, 2) := by decide +kernel
theorem dX3_launchPrice_12 : decode cX3_launchPrice 12 = .ok (.idiv, 1) := by decide +kernel
theorem dX3_launchPrice_13 : decode cX3_launchPrice 13 = .ok (.ireturn, 1) := by decide +kernel
theorem dX3_writeDown_0 : decode cX3_writeDown 0 = .ok (.aload_n 0, 1) := by decide +kernel
theorem dX3_writeDown_1 : decode cX3_writeDown 1 = .ok (.getfield 279, 3) := by decide +kernel
theorem dX3_writeDown_4 : decode cX3_writeDown 4 = .ok (.astore_n 2, 1) := by decide +kernel
theorem dX3_writeDown_5 : decode cX3_writeDown 5 = .ok (.aload_n 0, 1) := by decide +kernel
theorem dX3_writeDown_6 : decode cX3_writeDown 6 = .ok (.getfield 284, 3) := by decide +kernel
theorem dX3_writeDown_9 : decode cX3_writeDown 9 = .ok (.astore_n 3, 1) := by decide +kernel
theorem dX3_writeDown_10 : decode cX3_writeDown 10 = .ok (.aload_n 2, 1) := by decide +kernel
theorem dX3_writeDown_11 : decode cX3_writeDown 11 = .ok (.dup, 1) := by decide +kernel
theorem dX3_writeDown_12 : decode cX3_writeDown 12 = .ok (.getfield 226, 3) := by decide +kernel
theorem dX3_writeDown_15 : decode cX3_writeDown 15 = .ok (.aload_n 0, 1) := by decide +kernel
theorem dX3_writeDown_16 : decode cX3_writeDown 16 = .ok (.getfield 232, 3) := by decide +kernel
theorem dX3_writeDown_19 : decode cX3_writeDown 19 = .ok (.iadd, 1) := by decide +kernel
theorem dX3_writeDown_20 : decode cX3_writeDown 20 = .ok (.putfield 226, 3) := by decide +kernel
theorem dX3_writeDown_23 : decode cX3_writeDown 23 = .ok (.aload_n 2, 1) := by decide +kernel
theorem dX3_writeDown_24 : decode cX3_writeDown 24 = .ok (.iload_n 1, 1) := by decide +kernel
theorem dX3_writeDown_25 : decode cX3_writeDown 25 = .ok (.invokestatic 365, 3) := by decide +kernel
theorem dX3_writeDown_28 : decode cX3_writeDown 28 = .ok (.aload_n 3, 1) := by decide +kernel
theorem dX3_writeDown_29 : decode cX3_writeDown 29 = .ok (.ifnonnull 16, 3) := by decide +kernel
theorem dX3_writeDown_32 : decode cX3_writeDown 32 = .ok (.aload_n 2, 1) := by decide +kernel
theorem dX3_writeDown_33 : decode cX3_writeDown 33 = .ok (.dup, 1) := by decide +kernel
theorem dX3_writeDown_34 : decode cX3_writeDown 34 = .ok (.getfield 274, 3) := by decide +kernel
theorem dX3_writeDown_37 : decode cX3_writeDown 37 = .ok (.iconst 1, 1) := by decide +kernel
theorem dX3_writeDown_38 : decode cX3_writeDown 38 = .ok (.iadd, 1) := by decide +kernel
theorem dX3_writeDown_39 : decode cX3_writeDown 39 = .ok (.putfield 274, 3) := by decide +kernel
theorem dX3_writeDown_42 : decode cX3_writeDown 42 = .ok (.goto 26, 3) := by decide +kernel
theorem dX3_writeDown_45 : decode cX3_writeDown 45 = .ok (.aload_n 3, 1) := by decide +kernel
theorem dX3_writeDown_46 : decode cX3_writeDown 46 = .ok (.iload_n 1, 1) := by decide +kernel
theorem dX3_writeDown_47 : decode cX3_writeDown 47 = .ok (.invokestatic 365, 3) := by decide +kernel
theorem dX3_writeDown_50 : decode cX3_writeDown 50 = .ok (.aload_n 3, 1) := by decide +kernel
theorem dX3_writeDown_51 : decode cX3_writeDown 51 = .ok (.getfield 132, 3) := by decide +kernel
theorem dX3_writeDown_54 : decode cX3_writeDown 54 = .ok (.iconst 3, 1) := by decide +kernel
theorem dX3_writeDown_55 : decode cX3_writeDown 55 = .ok (.if_icmp .ne 13, 3) := by decide +kernel
theorem dX3_writeDown_58 : decode cX3_writeDown 58 = .ok (.aload_n 2, 1) := by decide +kernel
theorem dX3_writeDown_59 : decode cX3_writeDown 59 = .ok (.dup, 1) := by decide +kernel
theorem dX3_writeDown_60 : decode cX3_writeDown 60 = .ok (.getfield 271, 3) := by decide +kernel
theorem dX3_writeDown_63 : decode cX3_writeDown 63 = .ok (.iconst 1, 1) := by decide +kernel
theorem dX3_writeDown_64 : decode cX3_writeDown 64 = .ok (.iadd, 1) := by decide +kernel
theorem dX3_writeDown_65 : decode cX3_writeDown 65 = .ok (.putfield 271, 3) := by decide +kernel
theorem dX3_writeDown_68 : decode cX3_writeDown 68 = .ok (.return_, 1) := by decide +kernel
theorem dX3_bringDown_0 : decode cX3_bringDown 0 = .ok (.aload_n 0, 1) := by decide +kernel
theorem dX3_bringDown_1 : decode cX3_bringDown 1 = .ok (.iconst 0, 1) := by decide +kernel
theorem dX3_bringDown_2 : decode cX3_bringDown 2 = .ok (.putfield 123, 3) := by decide +kernel
theorem dX3_bringDown_5 : decode cX3_bringDown 5 = .ok (.aload_n 0, 1) := by decide +kernel
theorem dX3_bringDown_6 : decode cX3_bringDown 6 = .ok (.dup, 1) := by decide +kernel
theorem dX3_bringDown_7 : decode cX3_bringDown 7 = .ok (.getfield 267, 3) := by decide +kernel
theorem dX3_bringDown_10 : decode cX3_bringDown 10 = .ok (.iconst 1, 1) := by decide +kernel
theorem dX3_bringDown_11 : decode cX3_bringDown 11 = .ok (.iadd, 1) := by decide +kernel
theorem dX3_bringDown_12 : decode cX3_bringDown 12 = .ok (.putfield 267, 3) := by decide +kernel
theorem dX3_bringDown_15 : decode cX3_bringDown 15 = .ok (.aload_n 0, 1) := by decide +kernel
theorem dX3_bringDown_16 : decode cX3_bringDown 16 = .ok (.dup, 1) := by decide +kernel
theorem dX3_bringDown_17 : decode cX3_bringDown 17 = .ok (.getfield 270, 3) := by decide +kernel
theorem dX3_bringDown_20 : decode cX3_bringDown 20 = .ok (.iload_n 1, 1) := by decide +kernel
theorem dX3_bringDown_21 : decode cX3_bringDown 21 = .ok (.iadd, 1) := by decide +kernel
theorem dX3_bringDown_22 : decode cX3_bringDown 22 = .ok (.putfield 270, 3) := by decide +kernel
theorem dX3_bringDown_25 : decode cX3_bringDown 25 = .ok (.return_, 1) := by decide +kernel
theorem dX3_startFirstThatCan_0 : decode cX3_startFirstThatCan 0 = .ok (.iconst 0, 1) := by decide +kernel
theorem dX3_startFirstThatCan_1 : decode cX3_startFirstThatCan 1 = .ok (.istore_n 1, 1) := by decide +kernel
theorem dX3_startFirstThatCan_2 : decode cX3_startFirstThatCan 2 = .ok (.iload_n 1, 1) := by decide +kernel
theorem dX3_startFirstThatCan_3 : decode cX3_startFirstThatCan 3 = .ok (.aload_n 0, 1) := by decide +kernel
theorem dX3_startFirstThatCan_4 : decode cX3_startFirstThatCan 4 = .ok (.getfield 22, 3) := by decide +kernel
theorem dX3_startFirstThatCan_7 : decode cX3_startFirstThatCan 7 = .ok (.invokevirtual 65, 3) := by decide +kernel
theorem dX3_startFirstThatCan_10 : decode cX3_startFirstThatCan 10 = .ok (.if_icmp .ge 41, 3) := by decide +kernel
theorem dX3_startFirstThatCan_13 : decode cX3_startFirstThatCan 13 = .ok (.aload_n 0, 1) := by decide +kernel
theorem dX3_startFirstThatCan_14 : decode cX3_startFirstThatCan 14 = .ok (.getfield 22, 3) := by decide +kernel
theorem dX3_startFirstThatCan_17 : decode cX3_startFirstThatCan 17 = .ok (.iload_n 1, 1) := by decide +kernel
theorem dX3_startFirstThatCan_18 : decode cX3_startFirstThatCan 18 = .ok (.invokevirtual 188, 3) := by decide +kernel
theorem dX3_startFirstThatCan_21 : decode cX3_startFirstThatCan 21 = .ok (.checkcast 156, 3) := by decide +kernel
theorem dX3_startFirstThatCan_24 : decode cX3_startFirstThatCan 24 = .ok (.astore_n 2, 1) := by decide +kernel
theorem dX3_startFirstThatCan_25 : decode cX3_startFirstThatCan 25 = .ok (.aload_n 0, 1) := by decide +kernel
theorem dX3_startFirstThatCan_26 : decode cX3_startFirstThatCan 26 = .ok (.aload_n 2, 1) := by decide +kernel
theorem dX3_startFirstThatCan_27 : decode cX3_startFirstThatCan 27 = .ok (.invokevirtual 192, 3) := by decide +kernel
theorem dX3_startFirstThatCan_30 : decode cX3_startFirstThatCan 30 = .ok (.ifCond .ne 15, 3) := by decide +kernel
theorem dX3_startFirstThatCan_33 : decode cX3_startFirstThatCan 33 = .ok (.aload_n 0, 1) := by decide +kernel
theorem dX3_startFirstThatCan_34 : decode cX3_startFirstThatCan 34 = .ok (.iload_n 1, 1) := by decide +kernel
theorem dX3_startFirstThatCan_35 : decode cX3_startFirstThatCan 35 = .ok (.invokevirtual 181, 3) := by decide +kernel
theorem dX3_startFirstThatCan_38 : decode cX3_startFirstThatCan 38 = .ok (.aload_n 0, 1) := by decide +kernel
theorem dX3_startFirstThatCan_39 : decode cX3_startFirstThatCan 39 = .ok (.aload_n 2, 1) := by decide +kernel
theorem dX3_startFirstThatCan_40 : decode cX3_startFirstThatCan 40 = .ok (.invokevirtual 369, 3) := by decide +kernel
theorem dX3_startFirstThatCan_43 : decode cX3_startFirstThatCan 43 = .ok (.iconst 1, 1) := by decide +kernel
theorem dX3_startFirstThatCan_44 : decode cX3_startFirstThatCan 44 = .ok (.ireturn, 1) := by decide +kernel
theorem dX3_startFirstThatCan_45 : decode cX3_startFirstThatCan 45 = .ok (.iinc 1 1, 3) := by decide +kernel
theorem dX3_startFirstThatCan_48 : decode cX3_startFirstThatCan 48 = .ok (.goto (-46), 3) := by decide +kernel
theorem dX3_startFirstThatCan_51 : decode cX3_startFirstThatCan 51 = .ok (.iconst 0, 1) := by decide +kernel
theorem dX3_startFirstThatCan_52 : decode cX3_startFirstThatCan 52 = .ok (.ireturn, 1) := by decide +kernel
theorem dX3_start_0 : decode cX3_start 0 = .ok (.aload_n 1, 1) := by decide +kernel
theorem dX3_start_1 : decode cX3_start 1 = .ok (.iconst 1, 1) := by decide +kernel
theorem dX3_start_2 : decode cX3_start 2 = .ok (.putfield 185, 3) := by decide +kernel
theorem dX3_start_5 : decode cX3_start 5 = .ok (.aload_n 1, 1) := by decide +kernel
theorem dX3_start_6 : decode cX3_start 6 = .ok (.aload_n 0, 1) := by decide +kernel
theorem dX3_start_7 : decode cX3_start 7 = .ok (.getfield 42, 3) := by decide +kernel
theorem dX3_start_10 : decode cX3_start 10 = .ok (.putfield 204, 3) := by decide +kernel
theorem dX3_start_13 : decode cX3_start 13 = .ok (.aload_n 1, 1) := by decide +kernel
theorem dX3_start_14 : decode cX3_start 14 = .ok (.getfield 279, 3) := by decide +kernel
theorem dX3_start_17 : decode cX3_start 17 = .ok (.iconst 1, 1) := by decide +kernel
theorem dX3_start_18 : decode cX3_start 18 = .ok (.putfield 123, 3) := by decide +kernel
theorem dX3_start_21 : decode cX3_start 21 = .ok (.aload_n 1, 1) := by decide +kernel
theorem dX3_start_22 : decode cX3_start 22 = .ok (.getfield 284, 3) := by decide +kernel
theorem dX3_start_25 : decode cX3_start 25 = .ok (.ifnull 11, 3) := by decide +kernel
theorem dX3_start_28 : decode cX3_start 28 = .ok (.aload_n 1, 1) := by decide +kernel
theorem dX3_start_29 : decode cX3_start 29 = .ok (.getfield 284, 3) := by decide +kernel
theorem dX3_start_32 : decode cX3_start 32 = .ok (.iconst 1, 1) := by decide +kernel
theorem dX3_start_33 : decode cX3_start 33 = .ok (.putfield 123, 3) := by decide +kernel
theorem dX3_start_36 : decode cX3_start 36 = .ok (.aload_n 1, 1) := by decide +kernel
theorem dX3_start_37 : decode cX3_start 37 = .ok (.getfield 287, 3) := by decide +kernel
theorem dX3_start_40 : decode cX3_start 40 = .ok (.iconst 1, 1) := by decide +kernel
theorem dX3_start_41 : decode cX3_start 41 = .ok (.putfield 110, 3) := by decide +kernel
theorem dX3_start_44 : decode cX3_start 44 = .ok (.aload_n 1, 1) := by decide +kernel
theorem dX3_start_45 : decode cX3_start 45 = .ok (.getfield 287, 3) := by decide +kernel
theorem dX3_start_48 : decode cX3_start 48 = .ok (.aload_n 1, 1) := by decide +kernel
theorem dX3_start_49 : decode cX3_start 49 = .ok (.putfield 195, 3) := by decide +kernel
theorem dX3_start_52 : decode cX3_start 52 = .ok (.aload_n 1, 1) := by decide +kernel
theorem dX3_start_53 : decode cX3_start 53 = .ok (.getfield 161, 3) := by decide +kernel
theorem dX3_start_56 : decode cX3_start 56 = .ok (.ifCond .ne 20, 3) := by decide +kernel
theorem dX3_start_59 : decode cX3_start 59 = .ok (.aload_n 0, 1) := by decide +kernel
theorem dX3_start_60 : decode cX3_start 60 = .ok (.invokevirtual 373, 3) := by decide +kernel
theorem dX3_start_63 : decode cX3_start 63 = .ok (.aload_n 0, 1) := by decide +kernel
theorem dX3_start_64 : decode cX3_start 64 = .ok (.aload_n 0, 1) := by decide +kernel
theorem dX3_start_65 : decode cX3_start 65 = .ok (.getfield 42, 3) := by decide +kernel
theorem dX3_start_68 : decode cX3_start 68 = .ok (.iconst 2, 1) := by decide +kernel
theorem dX3_start_69 : decode cX3_start 69 = .ok (.iadd, 1) := by decide +kernel
theorem dX3_start_70 : decode cX3_start 70 = .ok (.putfield 51, 3) := by decide +kernel
theorem dX3_start_73 : decode cX3_start 73 = .ok (.goto 21, 3) := by decide +kernel
theorem dX3_start_76 : decode cX3_start 76 = .ok (.aload_n 0, 1) := by decide +kernel
theorem dX3_start_77 : decode cX3_start 77 = .ok (.aload_n 1, 1) := by decide +kernel
theorem dX3_start_78 : decode cX3_start 78 = .ok (.getfield 161, 3) := by decide +kernel
theorem dX3_start_81 : decode cX3_start 81 = .ok (.invokevirtual 376, 3) := by decide +kernel
theorem dX3_start_84 : decode cX3_start 84 = .ok (.aload_n 0, 1) := by decide +kernel
theorem dX3_start_85 : decode cX3_start 85 = .ok (.aload_n 0, 1) := by decide +kernel
theorem dX3_start_86 : decode cX3_start 86 = .ok (.getfield 42, 3) := by decide +kernel
theorem dX3_start_89 : decode cX3_start 89 = .ok (.iconst 3, 1) := by decide +kernel
theorem dX3_start_90 : decode cX3_start 90 = .ok (.iadd, 1) := by decide +kernel
theorem dX3_start_91 : decode cX3_start 91 = .ok (.putfield 51, 3) := by decide +kernel
theorem dX3_start_94 : decode cX3_start 94 = .ok (.return_, 1) := by decide +kernel
theorem dX3_takeCable_0 : decode cX3_takeCable 0 = .ok (.aload_n 0, 1) := by decide +kernel
theorem dX3_takeCable_1 : decode cX3_takeCable 1 = .ok (.dup, 1) := by decide +kernel
theorem dX3_takeCable_2 : decode cX3_takeCable 2 = .ok (.getfield 36, 3) := by decide +kernel
theorem dX3_takeCable_5 : decode cX3_takeCable 5 = .ok (.iconst 1, 1) := by decide +kernel
theorem dX3_takeCable_6 : decode cX3_takeCable 6 = .ok (.iadd, 1) := by decide +kernel
theorem dX3_takeCable_7 : decode cX3_takeCable 7 = .ok (.putfield 36, 3) := by decide +kernel
theorem dX3_takeCable_10 : decode cX3_takeCable 10 = .ok (.aload_n 0, 1) := by decide +kernel
theorem dX3_takeCable_11 : decode cX3_takeCable 11 = .ok (.getfield 36, 3) := by decide +kernel
theorem dX3_takeCable_14 : decode cX3_takeCable 14 = .ok (.iconst 2, 1) := by decide +kernel
theorem dX3_takeCable_15 : decode cX3_takeCable 15 = .ok (.if_icmp .lt 14, 3) := by decide +kernel
theorem dX3_takeCable_18 : decode cX3_takeCable 18 = .ok (.aload_n 0, 1) := by decide +kernel
theorem dX3_takeCable_19 : decode cX3_takeCable 19 = .ok (.aload_n 0, 1) := by decide +kernel
theorem dX3_takeCable_20 : decode cX3_takeCable 20 = .ok (.getfield 42, 3) := by decide +kernel
theorem dX3_takeCable_23 : decode cX3_takeCable 23 = .ok (.bipush 10, 2) := by decide +kernel
theorem dX3_takeCable_25 : decode cX3_takeCable 25 = .ok (.iadd, 1) := by decide +kernel
theorem dX3_takeCable_26 : decode cX3_takeCable 26 = .ok (.putfield 39, 3) := by decide +kernel
theorem dX3_takeCable_29 : decode cX3_takeCable 29 = .ok (.return_, 1) := by decide +kernel
theorem dX3_takeTug_0 : decode cX3_takeTug 0 = .ok (.iconst 0, 1) := by decide +kernel
theorem dX3_takeTug_1 : decode cX3_takeTug 1 = .ok (.istore_n 2, 1) := by decide +kernel
theorem dX3_takeTug_2 : decode cX3_takeTug 2 = .ok (.iload_n 2, 1) := by decide +kernel
theorem dX3_takeTug_3 : decode cX3_takeTug 3 = .ok (.aload_n 0, 1) := by decide +kernel
theorem dX3_takeTug_4 : decode cX3_takeTug 4 = .ok (.getfield 28, 3) := by decide +kernel
theorem dX3_takeTug_7 : decode cX3_takeTug 7 = .ok (.arraylength, 1) := by decide +kernel
theorem dX3_takeTug_8 : decode cX3_takeTug 8 = .ok (.if_icmp .ge 36, 3) := by decide +kernel
theorem dX3_takeTug_11 : decode cX3_takeTug 11 = .ok (.aload_n 0, 1) := by decide +kernel
theorem dX3_takeTug_12 : decode cX3_takeTug 12 = .ok (.getfield 28, 3) := by decide +kernel
theorem dX3_takeTug_15 : decode cX3_takeTug 15 = .ok (.iload_n 2, 1) := by decide +kernel
theorem dX3_takeTug_16 : decode cX3_takeTug 16 = .ok (.iaload, 1) := by decide +kernel
theorem dX3_takeTug_17 : decode cX3_takeTug 17 = .ok (.ifCond .ne 21, 3) := by decide +kernel
theorem dX3_takeTug_20 : decode cX3_takeTug 20 = .ok (.aload_n 0, 1) := by decide +kernel
theorem dX3_takeTug_21 : decode cX3_takeTug 21 = .ok (.getfield 28, 3) := by decide +kernel
theorem dX3_takeTug_24 : decode cX3_takeTug 24 = .ok (.iload_n 2, 1) := by decide +kernel
theorem dX3_takeTug_25 : decode cX3_takeTug 25 = .ok (.aload_n 0, 1) := by decide +kernel
theorem dX3_takeTug_26 : decode cX3_takeTug 26 = .ok (.getfield 42, 3) := by decide +kernel
theorem dX3_takeTug_29 : decode cX3_takeTug 29 = .ok (.iconst 4, 1) := by decide +kernel
theorem dX3_takeTug_30 : decode cX3_takeTug 30 = .ok (.iadd, 1) := by decide +kernel
theorem dX3_takeTug_31 : decode cX3_takeTug 31 = .ok (.iload_n 1, 1) := by decide +kernel
theorem dX3_takeTug_32 : decode cX3_takeTug 32 = .ok (.bipush 100, 2) := by decide +kernel
theorem dX3_takeTug_34 : decode cX3_takeTug 34 = .ok (.idiv, 1) := by decide +kernel
theorem dX3_takeTug_35 : decode cX3_takeTug 35 = .ok (.iadd, 1) := by decide +kernel
theorem dX3_takeTug_36 : decode cX3_takeTug 36 = .ok (.iastore, 1) := by decide +kernel
theorem dX3_takeTug_37 : decode cX3_takeTug 37 = .ok (.return_, 1) := by decide +kernel
theorem dX3_takeTug_38 : decode cX3_takeTug 38 = .ok (.iinc 2 1, 3) := by decide +kernel
theorem dX3_takeTug_41 : decode cX3_takeTug 41 = .ok (.goto (-39), 3) := by decide +kernel
theorem dX3_takeTug_44 : decode cX3_takeTug 44 = .ok (.return_, 1) := by decide +kernel
end
section
theorem dX4_init_0 : decode cX4_init 0 = .ok (.aload_n 0, 1) := by decide +kernel
theorem dX4_init_1 : decode cX4_init 1 = .ok (.invokespecial 1, 3) := by decide +kernel
theorem dX4_init_4 : decode cX4_init 4 = .ok (.aload_n 0, 1) := by decide +kernel
theorem dX4_init_5 : decode cX4_init 5 = .ok (.bipush 10, 2) := by decide +kernel
theorem dX4_init_7 : decode cX4_init 7 = .ok (.putfield 7, 3) := by decide +kernel
theorem dX4_init_10 : decode cX4_init 10 = .ok (.aload_n 0, 1) := by decide +kernel
theorem dX4_init_11 : decode cX4_init 11 = .ok (.sipush 600, 3) := by decide +kernel
theorem dX4_init_14 : decode cX4_init 14 = .ok (.putfield 13, 3) := by decide +kernel
theorem dX4_init_17 : decode cX4_init 17 = .ok (.aload_n 0, 1) := by decide +kernel
theorem dX4_init_18 : decode cX4_init 18 = .ok (.iconst 2, 1) := by decide +kernel
theorem dX4_init_19 : decode cX4_init 19 = .ok (.putfield 16, 3) := by decide +kernel
theorem dX4_init_22 : decode cX4_init 22 = .ok (.aload_n 0, 1) := by decide +kernel
theorem dX4_init_23 : decode cX4_init 23 = .ok (.iconst 1, 1) := by decide +kernel
theorem dX4_init_24 : decode cX4_init 24 = .ok (.putfield 19, 3) := by decide +kernel
theorem dX4_init_27 : decode cX4_init 27 = .ok (.aload_n 0, 1) := by decide +kernel
theorem dX4_init_28 : decode cX4_init 28 = .ok (.iconst 2, 1) := by decide +kernel
theorem dX4_init_29 : decode cX4_init 29 = .ok (.newarray .int, 2) := by decide +kernel
theorem dX4_init_31 : decode cX4_init 31 = .ok (.dup, 1) := by decide +kernel
theorem dX4_init_32 : decode cX4_init 32 = .ok (.iconst 0, 1) := by decide +kernel
theorem dX4_init_33 : decode cX4_init 33 = .ok (.iconst 0, 1) := by decide +kernel
theorem dX4_init_34 : decode cX4_init 34 = .ok (.iastore, 1) := by decide +kernel
theorem dX4_init_35 : decode cX4_init 35 = .ok (.dup, 1) := by decide +kernel
theorem dX4_init_36 : decode cX4_init 36 = .ok (.iconst 1, 1) := by decide +kernel
theorem dX4_init_37 : decode cX4_init 37 = .ok (.iconst 0, 1) := by decide +kernel
theorem dX4_init_38 : decode cX4_init 38 = .ok (.iastore, 1) := by decide +kernel
theorem dX4_init_39 : decode cX4_init 39 = .ok (.putfield 22, 3) := by decide +kernel
theorem dX4_init_42 : decode cX4_init 42 = .ok (.aload_n 0, 1) := by decide +kernel
theorem dX4_init_43 : decode cX4_init 43 = .ok (.bipush 16, 2) := by decide +kernel
theorem dX4_init_45 : decode cX4_init 45 = .ok (.newarray .int, 2) := by decide +kernel
theorem dX4_init_47 : decode cX4_init 47 = .ok (.putfield 26, 3) := by decide +kernel
theorem dX4_init_50 : decode cX4_init 50 = .ok (.aload_n 0, 1) := by decide +kernel
theorem dX4_init_51 : decode cX4_init 51 = .ok (.bipush 16, 2) := by decide +kernel
theorem dX4_init_53 : decode cX4_init 53 = .ok (.newarray .int, 2) := by decide +kernel
theorem dX4_init_55 : decode cX4_init 55 = .ok (.putfield 29, 3) := by decide +kernel
theorem dX4_init_58 : decode cX4_init 58 = .ok (.aload_n 0, 1) := by decide +kernel
theorem dX4_init_59 : decode cX4_init 59 = .ok (.bipush 8, 2) := by decide +kernel
theorem dX4_init_61 : decode cX4_init 61 = .ok (.newarray .int, 2) := by decide +kernel
theorem dX4_init_63 : decode cX4_init 63 = .ok (.putfield 32, 3) := by decide +kernel
theorem dX4_init_66 : decode cX4_init 66 = .ok (.aload_n 0, 1) := by decide +kernel
theorem dX4_init_67 : decode cX4_init 67 = .ok (.bipush 8, 2) := by decide +kernel
theorem dX4_init_69 : decode cX4_init 69 = .ok (.newarray .int, 2) := by decide +kernel
theorem dX4_init_71 : decode cX4_init 71 = .ok (.putfield 35, 3) := by decide +kernel
theorem dX4_init_74 : decode cX4_init 74 = .ok (.aload_n 0, 1) := by decide +kernel
theorem dX4_init_75 : decode cX4_init 75 = .ok (.bipush 8, 2) := by decide +kernel
theorem dX4_init_77 : decode cX4_init 77 = .ok (.newarray .int, 2) := by decide +kernel
theorem dX4_init_79 : decode cX4_init 79 = .ok (.putfield 38, 3) := by decide +kernel
theorem dX4_init_82 : decode cX4_init 82 = .ok (.aload_n 0, 1) := by decide +kernel
theorem dX4_init_83 : decode cX4_init 83 = .ok (.bipush 8, 2) := by decide +kernel
theorem dX4_init_85 : decode cX4_init 85 = .ok (.newarray .boolean, 2) := by decide +kernel
theorem dX4_init_87 : decode cX4_init 87 = .ok (.putfield 41, 3) := by decide +kernel
theorem dX4_init_90 : decode cX4_init 90 = .ok (.aload_n 0, 1) := by decide +kernel
theorem dX4_init_91 : decode cX4_init 91 = .ok (.bipush 8, 2) := by decide +kernel
theorem dX4_init_93 : decode cX4_init 93 = .ok (.newarray .boolean, 2) := by decide +kernel
theorem dX4_init_95 : decode cX4_init 95 = .ok (.putfield 45, 3) := by decide +kernel
theorem dX4_init_98 : decode cX4_init 98 = .ok (.aload_n 0, 1) := by decide +kernel
theorem dX4_init_99 : decode cX4_init 99 = .ok (.bipush 8, 2) := by decide +kernel
theorem dX4_init_101 : decode cX4_init 101 = .ok (.newarray .int, 2) := by decide +kernel
theorem dX4_init_103 : decode cX4_init 103 = .ok (.putfield 48, 3) := by decide +kernel
theorem dX4_init_106 : decode cX4_init 106 = .ok (.aload_n 0, 1) := by decide +kernel
theorem dX4_init_107 : decode cX4_init 107 = .ok (.bipush 100, 2) := by decide +kernel
theorem dX4_init_109 : decode cX4_init 109 = .ok (.newarray .int, 2) := by decide +kernel
theorem dX4_init_111 : decode cX4_init 111 = .ok (.putfield 51, 3) := by decide +kernel
theorem dX4_init_114 : decode cX4_init 114 = .ok (.aload_n 0, 1) := by decide +kernel
theorem dX4_init_115 : decode cX4_init 115 = .ok (.bipush 100, 2) := by decide +kernel
theorem dX4_init_117 : decode cX4_init 117 = .ok (.newarray .int, 2) := by decide +kernel
theorem dX4_init_119 : decode cX4_init 119 = .ok (.putfield 54, 3) := by decide +kernel
theorem dX4_init_122 : decode cX4_init 122 = .ok (.aload_n 0, 1) := by decide +kernel
theorem dX4_init_123 : decode cX4_init 123 = .ok (.bipush 100, 2) := by decide +kernel
theorem dX4_init_125 : decode cX4_init 125 = .ok (.newarray .int, 2) := by decide +kernel
theorem dX4_init_127 : decode cX4_init 127 = .ok (.putfield 57, 3) := by decide +kernel
theorem dX4_init_130 : decode cX4_init 130 = .ok (.aload_n 0, 1) := by decide +kernel
theorem dX4_init_131 : decode cX4_init 131 = .ok (.bipush 100, 2) := by decide +kernel
theorem dX4_init_133 : decode cX4_init 133 = .ok (.newarray .int, 2) := by decide +kernel
theorem dX4_init_135 : decode cX4_init 135 = .ok (.putfield 60, 3) := by decide +kernel
theorem dX4_init_138 : decode cX4_init 138 = .ok (.aload_n 0, 1) := by decide +kernel
theorem dX4_init_139 : decode cX4_init 139 = .ok (.bipush 100, 2) := by decide +kernel
theorem dX4_init_141 : decode cX4_init 141 = .ok (.newarray .int, 2) := by decide +kernel
theorem dX4_init_143 : decode cX4_init 143 = .ok (.putfield 63, 3) := by decide +kernel
theorem dX4_init_146 : decode cX4_init 146 = .ok (.aload_n 0, 1) := by decide +kernel
theorem dX4_init_147 : decode cX4_init 147 = .ok (.bipush 100, 2) := by decide +kernel
theorem dX4_init_149 : decode cX4_init 149 = .ok (.newarray .int, 2) := by decide +kernel
theorem dX4_init_151 : decode cX4_init 151 = .ok (.putfield 66, 3) := by decide +kernel
theorem dX4_init_154 : decode cX4_init 154 = .ok (.aload_n 0, 1) := by decide +kernel
theorem dX4_init_155 : decode cX4_init 155 = .ok (.bipush 100, 2) := by decide +kernel
theorem dX4_init_157 : decode cX4_init 157 = .ok (.newarray .int, 2) := by decide +kernel
theorem dX4_init_159 : decode cX4_init 159 = .ok (.putfield 69, 3) := by decide +kernel
theorem dX4_init_162 : decode cX4_init 162 = .ok (.aload_n 0, 1) := by decide +kernel
theorem dX4_init_163 : decode cX4_init 163 = .ok (.bipush 100, 2) := by decide +kernel
theorem dX4_init_165 : decode cX4_init 165 = .ok (.newarray .int, 2) := by decide +kernel
theorem dX4_init_167 : decode cX4_init 167 = .ok (.putfield 72, 3) := by decide +kernel
theorem dX4_init_170 : decode cX4_init 170 = .ok (.aload_n 0, 1) := by decide +kernel
theorem dX4_init_171 : decode cX4_init 171 = .ok (.bipush 100, 2) := by decide +kernel
theorem dX4_init_173 : decode cX4_init 173 = .ok (.newarray .int, 2) := by decide +kernel
theorem dX4_init_175 : decode cX4_init 175 = .ok (.putfield 75, 3) := by decide +kernel
theorem dX4_init_178 : decode cX4_init 178 = .ok (.return_, 1) := by decide +kernel
theorem dX4_thrown_0 : decode cX4_thrown 0 = .ok (.aload_n 0, 1) := by decide +kernel
theorem dX4_thrown_1 : decode cX4_thrown 1 = .ok (.getfield 78, 3) := by decide +kernel
theorem dX4_thrown_4 : decode cX4_thrown 4 = .ok (.ireturn, 1) := by decide +kernel
theorem dX4_no_0 : decode cX4_no 0 = .ok (.aload_n 0, 1) := by decide +kernel
theorem dX4_no_1 : decode cX4_no 1 = .ok (.iload_n 1, 1) := by decide +kernel
theorem dX4_no_2 : decode cX4_no 2 = .ok (.putfield 78, 3) := by decide +kernel
theorem dX4_no_5 : decode cX4_no 5 = .ok (.iconst 0, 1) := by decide +kernel
theorem dX4_no_6 : decode cX4_no 6 = .ok (.ireturn, 1) := by decide +kernel
theorem dX4_isIn_0 : decode cX4_isIn 0 = .ok (.iload_n 0, 1) := by decide +kernel
theorem dX4_isIn_1 : decode cX4_isIn 1 = .ok (.iload_n 1, 1) := by decide +kernel
theorem dX4_isIn_2 : decode cX4_isIn 2 = .ok (.if_icmp .lt 12, 3) := by decide +kernel
theorem dX4_isIn_5 : decode cX4_isIn 5 = .ok (.iload_n 0, 1) := by decide +kernel
theorem dX4_isIn_6 : decode cX4_isIn 6 = .ok (.iload_n 2, 1) := by decide +kernel
theorem dX4_isIn_7 : decode cX4_isIn 7 = .ok (.if_icmp .gt 7, 3) := by decide +kernel
theorem dX4_isIn_10 : decode cX4_isIn 10 = .ok (.iconst 1, 1) := by decide +kernel
theorem dX4_isIn_11 : decode cX4_isIn 11 = .ok (.goto 4, 3) := by decide +kernel
theorem dX4_isIn_14 : decode cX4_isIn 14 = .ok (.iconst 0, 1) := by decide +kernel
theorem dX4_isIn_15 : decode cX4_isIn 15 = .ok (.ireturn, 1) := by decide +kernel
theorem dX4_isMember_0 : decode cX4_isMember 0 = .ok (.iload_n 1, 1) := by decide +kernel
theorem dX4_isMember_1 : decode cX4_isMember 1 = .ok (.iconst 0, 1) := by decide +kernel
theorem dX4_isMember_2 : decode cX4_isMember 2 = .ok (.aload_n 0, 1) := by decide +kernel
theorem dX4_isMember_3 : decode cX4_isMember 3 = .ok (.getfield 81, 3) := by decide +kernel
theorem dX4_isMember_6 : decode cX4_isMember 6 = .ok (.iconst 1, 1) := by decide +kernel
theorem dX4_isMember_7 : decode cX4_isMember 7 = .ok (.isub, 1) := by decide +kernel
theorem dX4_isMember_8 : decode cX4_isMember 8 = .ok (.invokestatic 84, 3) := by decide +kernel
theorem dX4_isMember_11 : decode cX4_isMember 11 = .ok (.ireturn, 1) := by decide +kernel
theorem dX4_isGlider_0 : decode cX4_isGlider 0 = .ok (.iload_n 1, 1) := by decide +kernel
theorem dX4_isGlider_1 : decode cX4_isGlider 1 = .ok (.iconst 0, 1) := by decide +kernel
theorem dX4_isGlider_2 : decode cX4_isGlider 2 = .ok (.aload_n 0, 1) := by decide +kernel
theorem dX4_isGlider_3 : decode cX4_isGlider 3 = .ok (.getfield 88, 3) := by decide +kernel
theorem dX4_isGlider_6 : decode cX4_isGlider 6 = .ok (.iconst 1, 1) := by decide +kernel
theorem dX4_isGlider_7 : decode cX4_isGlider 7 = .ok (.isub, 1) := by decide +kernel
theorem dX4_isGlider_8 : decode cX4_isGlider 8 = .ok (.invokestatic 84, 3) := by decide +kernel
theorem dX4_isGlider_11 : decode cX4_isGlider 11 = .ok (.ireturn, 1) := by decide +kernel
theorem dX4_isFlight_0 : decode cX4_isFlight 0 = .ok (.iload_n 1, 1) := by decide +kernel
theorem dX4_isFlight_1 : decode cX4_isFlight 1 = .ok (.iconst 0, 1) := by decide +kernel
theorem dX4_isFlight_2 : decode cX4_isFlight 2 = .ok (.aload_n 0, 1) := by decide +kernel
theorem dX4_isFlight_3 : decode cX4_isFlight 3 = .ok (.getfield 91, 3) := by decide +kernel
theorem dX4_isFlight_6 : decode cX4_isFlight 6 = .ok (.iconst 1, 1) := by decide +kernel
theorem dX4_isFlight_7 : decode cX4_isFlight 7 = .ok (.isub, 1) := by decide +kernel
theorem dX4_isFlight_8 : decode cX4_isFlight 8 = .ok (.invokestatic 84, 3) := by decide +kernel
theorem dX4_isFlight_11 : decode cX4_isFlight 11 = .ok (.ireturn, 1) := by decide +kernel
theorem dX4_addMember_0 : decode cX4_addMember 0 = .ok (.aload_n 0, 1) := by decide +kernel
theorem dX4_addMember_1 : decode cX4_addMember 1 = .ok (.iconst 0, 1) := by decide +kernel
theorem dX4_addMember_2 : decode cX4_addMember 2 = .ok (.putfield 78, 3) := by decide +kernel
theorem dX4_addMember_5 : decode cX4_addMember 5 = .ok (.iload_n 1, 1) := by decide +kernel
theorem dX4_addMember_6 : decode cX4_addMember 6 = .ok (.iconst 0, 1) := by decide +kernel
theorem dX4_addMember_7 : decode cX4_addMember 7 = .ok (.iconst 3, 1) := by decide +kernel
theorem dX4_addMember_8 : decode cX4_addMember 8 = .ok (.invokestatic 84, 3) := by decide +kernel
theorem dX4_addMember_11 : decode cX4_addMember 11 = .ok (.ifCond .ne 9, 3) := by decide +kernel
theorem dX4_addMember_14 : decode cX4_addMember 14 = .ok (.aload_n 0, 1) := by decide +kernel
theorem dX4_addMember_15 : decode cX4_addMember 15 = .ok (.iconst 1, 1) := by decide +kernel
theorem dX4_addMember_16 : decode cX4_addMember 16 = .ok (.invokevirtual 94, 3) := by decide +kernel
theorem dX4_addMember_19 : decode cX4_addMember 19 = .ok (.ireturn, 1) := by decide +kernel
theorem dX4_addMember_20 : decode cX4_addMember 20 = .ok (.aload_n 0, 1) := by decide +kernel
theorem dX4_addMember_21 : decode cX4_addMember 21 = .ok (.getfield 81, 3) := by decide +kernel
theorem dX4_addMember_24 : decode cX4_addMember 24 = .ok (.bipush 16, 2) := by decide +kernel
theorem dX4_addMember_26 : decode cX4_addMember 26 = .ok (.if_icmp .ne 9, 3) := by decide +kernel
theorem dX4_addMember_29 : decode cX4_addMember 29 = .ok (.aload_n 0, 1) := by decide +kernel
theorem dX4_addMember_30 : decode cX4_addMember 30 = .ok (.iconst 2, 1) := by decide +kernel
theorem dX4_addMember_31 : decode cX4_addMember 31 = .ok (.invokevirtual 94, 3) := by decide +kernel
theorem dX4_addMember_34 : decode cX4_addMember 34 = .ok (.ireturn, 1) := by decide +kernel
theorem dX4_addMember_35 : decode cX4_addMember 35 = .ok (.aload_n 0, 1) := by decide +kernel
theorem dX4_addMember_36 : decode cX4_addMember 36 = .ok (.getfield 26, 3) := by decide +kernel
theorem dX4_addMember_39 : decode cX4_addMember 39 = .ok (.aload_n 0, 1) := by decide +kernel
theorem dX4_addMember_40 : decode cX4_addMember 40 = .ok (.getfield 81, 3) := by decide +kernel
theorem dX4_addMember_43 : decode cX4_addMember 43 = .ok (.iload_n 1, 1) := by decide +kernel
theorem dX4_addMember_44 : decode cX4_addMember 44 = .ok (.iastore, 1) := by decide +kernel
theorem dX4_addMember_45 : decode cX4_addMember 45 = .ok (.aload_n 0, 1) := by decide +kernel
theorem dX4_addMember_46 : decode cX4_addMember 46 = .ok (.dup, 1) := by decide +kernel
theorem dX4_addMember_47 : decode cX4_addMember 47 = .ok (.getfield 81, 3) := by decide +kernel
theorem dX4_addMember_50 : decode cX4_addMember 50 = .ok (.iconst 1, 1) := by decide +kernel
theorem dX4_addMember_51 : decode cX4_addMember 51 = .ok (.iadd, 1) := by decide +kernel
theorem dX4_addMember_52 : decode cX4_addMember 52 = .ok (.putfield 81, 3) := by decide +kernel
theorem dX4_addMember_55 : decode cX4_addMember 55 = .ok (.aload_n 0, 1) := by decide +kernel
theorem dX4_addMember_56 : decode cX4_addMember 56 = .ok (.getfield 81, 3) := by decide +kernel
theorem dX4_addMember_59 : decode cX4_addMember 59 = .ok (.iconst 1, 1) := by decide +kernel
theorem dX4_addMember_60 : decode cX4_addMember 60 = .ok (.isub, 1) := by decide +kernel
theorem dX4_addMember_61 : decode cX4_addMember 61 = .ok (.ireturn, 1) := by decide +kernel
theorem dX4_addGlider_0 : decode cX4_addGlider 0 = .ok (.aload_n 0, 1) := by decide +kernel
theorem dX4_addGlider_1 : decode cX4_addGlider 1 = .ok (.iconst 0, 1) := by decide +kernel
theorem dX4_addGlider_2 : decode cX4_addGlider 2 = .ok (.putfield 78, 3) := by decide +kernel
theorem dX4_addGlider_5 : decode cX4_addGlider 5 = .ok (.iload_n 1, 1) := by decide +kernel
theorem dX4_addGlider_6 : decode cX4_addGlider 6 = .ok (.iconst 1, 1) := by decide +kernel
theorem dX4_addGlider_7 : decode cX4_addGlider 7 = .ok (.iconst 2, 1) := by decide +kernel
theorem dX4_addGlider_8 : decode cX4_addGlider 8 = .ok (.invokestatic 84, 3) := by decide +kernel
theorem dX4_addGlider_11 : decode cX4_addGlider 11 = .ok (.ifCond .eq 23, 3) := by decide +kernel
theorem dX4_addGlider_14 : decode cX4_addGlider 14 = .ok (.iload_n 2, 1) := by decide +kernel
theorem dX4_addGlider_15 : decode cX4_addGlider 15 = .ok (.iconst 1, 1) := by decide +kernel
theorem dX4_addGlider_16 : decode cX4_addGlider 16 = .ok (.bipush 50, 2) := by decide +kernel
theorem dX4_addGlider_18 : decode cX4_addGlider 18 = .ok (.invokestatic 84, 3) := by decide +kernel
theorem dX4_addGlider_21 : decode cX4_addGlider 21 = .ok (.ifCond .eq 13, 3) := by decide +kernel
theorem dX4_addGlider_24 : decode cX4_addGlider 24 = .ok (.iload_n 3, 1) := by decide +kernel
theorem dX4_addGlider_25 : decode cX4_addGlider 25 = .ok (.iconst 5, 1) := by decide +kernel
theorem dX4_addGlider_26 : decode cX4_addGlider 26 = .ok (.bipush 40, 2) := by decide +kernel
theorem dX4_addGlider_28 : decode cX4_addGlider 28 = .ok (.invokestatic 84, 3) := by decide +kernel
theorem dX4_addGlider_31 : decode cX4_addGlider 31 = .ok (.ifCond .ne 9, 3) := by decide +kernel
theorem dX4_addGlider_34 : decode cX4_addGlider 34 = .ok (.aload_n 0, 1) := by decide +kernel
theorem dX4_addGlider_35 : decode cX4_addGlider 35 = .ok (.iconst 1, 1) := by decide +kernel
theorem dX4_addGlider_36 : decode cX4_addGlider 36 = .ok (.invokevirtual 94, 3) := by decide +kernel
theorem dX4_addGlider_39 : decode cX4_addGlider 39 = .ok (.ireturn, 1) := by decide +kernel
theorem dX4_addGlider_40 : decode cX4_addGlider 40 = .ok (.aload_n 0, 1) := by decide +kernel
theorem dX4_addGlider_41 : decode cX4_addGlider 41 = .ok (.getfield 88, 3) := by decide +kernel
theorem dX4_addGlider_44 : decode cX4_addGlider 44 = .ok (.bipush 8, 2) := by decide +kernel
theorem dX4_addGlider_46 : decode cX4_addGlider 46 = .ok (.if_icmp .ne 9, 3) := by decide +kernel
theorem dX4_addGlider_49 : decode cX4_addGlider 49 = .ok (.aload_n 0, 1) := by decide +kernel
theorem dX4_addGlider_50 : decode cX4_addGlider 50 = .ok (.iconst 2, 1) := by decide +kernel
theorem dX4_addGlider_51 : decode cX4_addGlider 51 = .ok (.invokevirtual 94, 3) := by decide +kernel
theorem dX4_addGlider_54 : decode cX4_addGlider 54 = .ok (.ireturn, 1) := by decide +kernel
theorem dX4_addGlider_55 : decode cX4_addGlider 55 = .ok (.aload_n 0, 1) := by decide +kernel
theorem dX4_addGlider_56 : decode cX4_addGlider 56 = .ok (.getfield 32, 3) := by decide +kernel
theorem dX4_addGlider_59 : decode cX4_addGlider 59 = .ok (.aload_n 0, 1) := by decide +kernel
theorem dX4_addGlider_60 : decode cX4_addGlider 60 = .ok (.getfield 88, 3) := by decide +kernel
theorem dX4_addGlider_63 : decode cX4_addGlider 63 = .ok (.iload_n 1, 1) := by decide +kernel
theorem dX4_addGlider_64 : decode cX4_addGlider 64 = .ok (.iastore, 1) := by decide +kernel
theorem dX4_addGlider_65 : decode cX4_addGlider 65 = .ok (.aload_n 0, 1) := by decide +kernel
theorem dX4_addGlider_66 : decode cX4_addGlider 66 = .ok (.getfield 35, 3) := by decide +kernel
theorem dX4_addGlider_69 : decode cX4_addGlider 69 = .ok (.aload_n 0, 1) := by decide +kernel
theorem dX4_addGlider_70 : decode cX4_addGlider 70 = .ok (.getfield 88, 3) := by decide +kernel
theorem dX4_addGlider_73 : decode cX4_addGlider 73 = .ok (.iload_n 2, 1) := by decide +kernel
theorem dX4_addGlider_74 : decode cX4_addGlider 74 = .ok (.iastore, 1) := by decide +kernel
theorem dX4_addGlider_75 : decode cX4_addGlider 75 = .ok (.aload_n 0, 1) := by decide +kernel
theorem dX4_addGlider_76 : decode cX4_addGlider 76 = .ok (.getfield 38, 3) := by decide +kernel
theorem dX4_addGlider_79 : decode cX4_addGlider 79 = .ok (.aload_n 0, 1) := by decide +kernel
theorem dX4_addGlider_80 : decode cX4_addGlider 80 = .ok (.getfield 88, 3) := by decide +kernel
theorem dX4_addGlider_83 : decode cX4_addGlider 83 = .ok (.iload_n 3, 1) := by decide +kernel
theorem dX4_addGlider_84 : decode cX4_addGlider 84 = .ok (.iastore, 1) := by decide +kernel
theorem dX4_addGlider_85 : decode cX4_addGlider 85 = .ok (.aload_n 0, 1) := by decide +kernel
theorem dX4_addGlider_86 : decode cX4_addGlider 86 = .ok (.dup, 1) := by decide +kernel
theorem dX4_addGlider_87 : decode cX4_addGlider 87 = .ok (.getfield 88, 3) := by decide +kernel
theorem dX4_addGlider_90 : decode cX4_addGlider 90 = .ok (.iconst 1, 1) := by decide +kernel
theorem dX4_addGlider_91 : decode cX4_addGlider 91 = .ok (.iadd, 1) := by decide +kernel
theorem dX4_addGlider_92 : decode cX4_addGlider 92 = .ok (.putfield 88, 3) := by decide +kernel
theorem dX4_addGlider_95 : decode cX4_addGlider 95 = .ok (.aload_n 0, 1) := by decide +kernel
theorem dX4_addGlider_96 : decode cX4_addGlider 96 = .ok (.getfield 88, 3) := by decide +kernel
theorem dX4_addGlider_99 : decode cX4_addGlider 99 = .ok (.iconst 1, 1) := by decide +kernel
theorem dX4_addGlider_100 : decode cX4_addGlider 100 = .ok (.isub, 1) := by decide +kernel
theorem dX4_addGlider_101 : decode cX4_addGlider 101 = .ok (.ireturn, 1) := by decide +kernel
theorem dX4_setWind_0 : decode cX4_setWind 0 = .ok (.aload_n 0, 1) := by decide +kernel
theorem dX4_setWind_1 : decode cX4_setWind 1 = .ok (.iconst 0, 1) := by decide +kernel
theorem dX4_setWind_2 : decode cX4_setWind 2 = .ok (.putfield 78, 3) := by decide +kernel
theorem dX4_setWind_5 : decode cX4_setWind 5 = .ok (.iload_n 1, 1) := by decide +kernel
theorem dX4_setWind_6 : decode cX4_setWind 6 = .ok (.iconst 0, 1) := by decide +kernel
theorem dX4_setWind_7 : decode cX4_setWind 7 = .ok (.bipush 40, 2) := by decide +kernel
theorem dX4_setWind_9 : decode cX4_setWind 9 = .ok (.invokestatic 84, 3) := by decide +kernel
theorem dX4_setWind_12 : decode cX4_setWind 12 = .ok (.ifCond .ne 9, 3) := by decide +kernel
theorem dX4_setWind_15 : decode cX4_setWind 15 = .ok (.aload_n 0, 1) := by decide +kernel
theorem dX4_setWind_16 : decode cX4_setWind 16 = .ok (.iconst 1, 1) := by decide +kernel
theorem dX4_setWind_17 : decode cX4_setWind 17 = .ok (.invokevirtual 94, 3) := by decide +kernel
theorem dX4_setWind_20 : decode cX4_setWind 20 = .ok (.ireturn, 1) := by decide +kernel
theorem dX4_setWind_21 : decode cX4_setWind 21 = .ok (.aload_n 0, 1) := by decide +kernel
theorem dX4_setWind_22 : decode cX4_setWind 22 = .ok (.getfield 7, 3) := by decide +kernel
theorem dX4_setWind_25 : decode cX4_setWind 25 = .ok (.istore_n 2, 1) := by decide +kernel
theorem dX4_setWind_26 : decode cX4_setWind 26 = .ok (.aload_n 0, 1) := by decide +kernel
theorem dX4_setWind_27 : decode cX4_setWind 27 = .ok (.iload_n 1, 1) := by decide +kernel
theorem dX4_setWind_28 : decode cX4_setWind 28 = .ok (.putfield 7, 3) := by decide +kernel
theorem dX4_setWind_31 : decode cX4_setWind 31 = .ok (.iload_n 2, 1) := by decide +kernel
theorem dX4_setWind_32 : decode cX4_setWind 32 = .ok (.ireturn, 1) := by decide +kernel
theorem dX4_setSunset_0 : decode cX4_setSunset 0 = .ok (.aload_n 0, 1) := by decide +kernel
theorem dX4_setSunset_1 : decode cX4_setSunset 1 = .ok (.iconst 0, 1) := by decide +kernel
theorem dX4_setSunset_2 : decode cX4_setSunset 2 = .ok (.putfield 78, 3) := by decide +kernel
theorem dX4_setSunset_5 : decode cX4_setSunset 5 = .ok (.iload_n 1, 1) := by decide +kernel
theorem dX4_setSunset_6 : decode cX4_setSunset 6 = .ok (.iconst 0, 1) := by decide +kernel
theorem dX4_setSunset_7 : decode cX4_setSunset 7 = .ok (.sipush 1500, 3) := by decide +kernel
theorem dX4_setSunset_10 : decode cX4_setSunset 10 = .ok (.invokestatic 84, 3) := by decide +kernel
theorem dX4_setSunset_13 : decode cX4_setSunset 13 = .ok (.ifCond .ne 9, 3) := by decide +kernel
theorem dX4_setSunset_16 : decode cX4_setSunset 16 = .ok (.aload_n 0, 1) := by decide +kernel
theorem dX4_setSunset_17 : decode cX4_setSunset 17 = .ok (.iconst 1, 1) := by decide +kernel
theorem dX4_setSunset_18 : decode cX4_setSunset 18 = .ok (.invokevirtual 94, 3) := by decide +kernel
theorem dX4_setSunset_21 : decode cX4_setSunset 21 = .ok (.ireturn, 1) := by decide +kernel
theorem dX4_setSunset_22 : decode cX4_setSunset 22 = .ok (.aload_n 0, 1) := by decide +kernel
theorem dX4_setSunset_23 : decode cX4_setSunset 23 = .ok (.getfield 13, 3) := by decide +kernel
theorem dX4_setSunset_26 : decode cX4_setSunset 26 = .ok (.istore_n 2, 1) := by decide +kernel
theorem dX4_setSunset_27 : decode cX4_setSunset 27 = .ok (.aload_n 0, 1) := by decide +kernel
theorem dX4_setSunset_28 : decode cX4_setSunset 28 = .ok (.iload_n 1, 1) := by decide +kernel
theorem dX4_setSunset_29 : decode cX4_setSunset 29 = .ok (.putfield 13, 3) := by decide +kernel
theorem dX4_setSunset_32 : decode cX4_setSunset 32 = .ok (.iload_n 2, 1) := by decide +kernel
theorem dX4_setSunset_33 : decode cX4_setSunset 33 = .ok (.ireturn, 1) := by decide +kernel
theorem dX4_takenTugs_0 : decode cX4_takenTugs 0 = .ok (.aload_n 0, 1) := by decide +kernel
theorem dX4_takenTugs_1 : decode cX4_takenTugs 1 = .ok (.getfield 22, 3) := by decide +kernel
theorem dX4_takenTugs_4 : decode cX4_takenTugs 4 = .ok (.iconst 0, 1) := by decide +kernel
theorem dX4_takenTugs_5 : decode cX4_takenTugs 5 = .ok (.iaload, 1) := by decide +kernel
theorem dX4_takenTugs_6 : decode cX4_takenTugs 6 = .ok (.ifCond .le 7, 3) := by decide +kernel
theorem dX4_takenTugs_9 : decode cX4_takenTugs 9 = .ok (.iconst 1, 1) := by decide +kernel
theorem dX4_takenTugs_10 : decode cX4_takenTugs 10 = .ok (.goto 4, 3) := by decide +kernel
theorem dX4_takenTugs_13 : decode cX4_takenTugs 13 = .ok (.iconst 0, 1) := by decide +kernel
theorem dX4_takenTugs_14 : decode cX4_takenTugs 14 = .ok (.aload_n 0, 1) := by decide +kernel
theorem dX4_takenTugs_15 : decode cX4_takenTugs 15 = .ok (.getfield 22, 3) := by decide +kernel
theorem dX4_takenTugs_18 : decode cX4_takenTugs 18 = .ok (.iconst 1, 1) := by decide +kernel
theorem dX4_takenTugs_19 : decode cX4_takenTugs 19 = .ok (.iaload, 1) := by decide +kernel
theorem dX4_takenTugs_20 : decode cX4_takenTugs 20 = .ok (.ifCond .le 7, 3) := by decide +kernel
theorem dX4_takenTugs_23 : decode cX4_takenTugs 23 = .ok (.iconst 1, 1) := by decide +kernel
theorem dX4_takenTugs_24 : decode cX4_takenTugs 24 = .ok (.goto 4, 3) := by decide +kernel
theorem dX4_takenTugs_27 : decode cX4_takenTugs 27 = .ok (.iconst 0, 1) := by decide +kernel
theorem dX4_takenTugs_28 : decode cX4_takenTugs 28 = .ok (.iadd, 1) := by decide +kernel
theorem dX4_takenTugs_29 : decode cX4_takenTugs 29 = .ok (.ireturn, 1) := by decide +kernel
theorem dX4_setTugs_0 : decode cX4_setTugs 0 = .ok (.aload_n 0, 1) := by decide +kernel
theorem dX4_setTugs_1 : decode cX4_setTugs 1 = .ok (.iconst 0, 1) := by decide +kernel
theorem dX4_setTugs_2 : decode cX4_setTugs 2 = .ok (.putfield 78, 3) := by decide +kernel
theorem dX4_setTugs_5 : decode cX4_setTugs 5 = .ok (.iload_n 1, 1) := by decide +kernel
theorem dX4_setTugs_6 : decode cX4_setTugs 6 = .ok (.iconst 0, 1) := by decide +kernel
theorem dX4_setTugs_7 : decode cX4_setTugs 7 = .ok (.iconst 2, 1) := by decide +kernel
theorem dX4_setTugs_8 : decode cX4_setTugs 8 = .ok (.invokestatic 84, 3) := by decide +kernel
theorem dX4_setTugs_11 : decode cX4_setTugs 11 = .ok (.ifCond .ne 9, 3) := by decide +kernel
theorem dX4_setTugs_14 : decode cX4_setTugs 14 = .ok (.aload_n 0, 1) := by decide +kernel
theorem dX4_setTugs_15 : decode cX4_setTugs 15 = .ok (.iconst 1, 1) := by decide +kernel
theorem dX4_setTugs_16 : decode cX4_setTugs 16 = .ok (.invokevirtual 94, 3) := by decide +kernel
theorem dX4_setTugs_19 : decode cX4_setTugs 19 = .ok (.ireturn, 1) := by decide +kernel
theorem dX4_setTugs_20 : decode cX4_setTugs 20 = .ok (.aload_n 0, 1) := by decide +kernel
theorem dX4_setTugs_21 : decode cX4_setTugs 21 = .ok (.invokevirtual 98, 3) := by decide +kernel
theorem dX4_setTugs_24 : decode cX4_setTugs 24 = .ok (.iload_n 1, 1) := by decide +kernel
theorem dX4_setTugs_25 : decode cX4_setTugs 25 = .ok (.if_icmp .le 9, 3) := by decide +kernel
theorem dX4_setTugs_28 : decode cX4_setTugs 28 = .ok (.aload_n 0, 1) := by decide +kernel
theorem dX4_setTugs_29 : decode cX4_setTugs 29 = .ok (.iconst 2, 1) := by decide +kernel
theorem dX4_setTugs_30 : decode cX4_setTugs 30 = .ok (.invokevirtual 94, 3) := by decide +kernel
theorem dX4_setTugs_33 : decode cX4_setTugs 33 = .ok (.ireturn, 1) := by decide +kernel
theorem dX4_setTugs_34 : decode cX4_setTugs 34 = .ok (.aload_n 0, 1) := by decide +kernel
theorem dX4_setTugs_35 : decode cX4_setTugs 35 = .ok (.iload_n 1, 1) := by decide +kernel
theorem dX4_setTugs_36 : decode cX4_setTugs 36 = .ok (.putfield 19, 3) := by decide +kernel
theorem dX4_setTugs_39 : decode cX4_setTugs 39 = .ok (.iload_n 1, 1) := by decide +kernel
theorem dX4_setTugs_40 : decode cX4_setTugs 40 = .ok (.aload_n 0, 1) := by decide +kernel
theorem dX4_setTugs_41 : decode cX4_setTugs 41 = .ok (.invokevirtual 98, 3) := by decide +kernel
theorem dX4_setTugs_44 : decode cX4_setTugs 44 = .ok (.isub, 1) := by decide +kernel
theorem dX4_setTugs_45 : decode cX4_setTugs 45 = .ok (.ireturn, 1) := by decide +kernel
theorem dX4_flightOf_0 : decode cX4_flightOf 0 = .ok (.iconst 0, 1) := by decide +kernel
theorem dX4_flightOf_1 : decode cX4_flightOf 1 = .ok (.istore_n 2, 1) := by decide +kernel
theorem dX4_flightOf_2 : decode cX4_flightOf 2 = .ok (.iload_n 2, 1) := by decide +kernel
theorem dX4_flightOf_3 : decode cX4_flightOf 3 = .ok (.aload_n 0, 1) := by decide +kernel
theorem dX4_flightOf_4 : decode cX4_flightOf 4 = .ok (.getfield 91, 3) := by decide +kernel
theorem dX4_flightOf_7 : decode cX4_flightOf 7 = .ok (.if_icmp .ge 31, 3) := by decide +kernel
theorem dX4_flightOf_10 : decode cX4_flightOf 10 = .ok (.aload_n 0, 1) := by decide +kernel
theorem dX4_flightOf_11 : decode cX4_flightOf 11 = .ok (.getfield 75, 3) := by decide +kernel
theorem dX4_flightOf_14 : decode cX4_flightOf 14 = .ok (.iload_n 2, 1) := by decide +kernel
theorem dX4_flightOf_15 : decode cX4_flightOf 15 = .ok (.iaload, 1) := by decide +kernel
theorem dX4_flightOf_16 : decode cX4_flightOf 16 = .ok (.iconst 1, 1) := by decide +kernel
theorem dX4_flightOf_17 : decode cX4_flightOf 17 = .ok (.if_icmp .ne 15, 3) := by decide +kernel
theorem dX4_flightOf_20 : decode cX4_flightOf 20 = .ok (.aload_n 0, 1) := by decide +kernel
theorem dX4_flightOf_21 : decode cX4_flightOf 21 = .ok (.getfield 57, 3) := by decide +kernel
theorem dX4_flightOf_24 : decode cX4_flightOf 24 = .ok (.iload_n 2, 1) := by decide +kernel
theorem dX4_flightOf_25 : decode cX4_flightOf 25 = .ok (.iaload, 1) := by decide +kernel
theorem dX4_flightOf_26 : decode cX4_flightOf 26 = .ok (.iload_n 1, 1) := by decide +kernel
theorem dX4_flightOf_27 : decode cX4_flightOf 27 = .ok (.if_icmp .ne 5, 3) := by decide +kernel
theorem dX4_flightOf_30 : decode cX4_flightOf 30 = .ok (.iload_n 2, 1) := by decide +kernel
theorem dX4_flightOf_31 : decode cX4_flightOf 31 = .ok (.ireturn, 1) := by decide +kernel
theorem dX4_flightOf_32 : decode cX4_flightOf 32 = .ok (.iinc 2 1, 3) := by decide +kernel
theorem dX4_flightOf_35 : decode cX4_flightOf 35 = .ok (.goto (-33), 3) := by decide +kernel
theorem dX4_flightOf_38 : decode cX4_flightOf 38 = .ok (.iconst (-1), 1) := by decide +kernel
theorem dX4_flightOf_39 : decode cX4_flightOf 39 = .ok (.ireturn, 1) := by decide +kernel
theorem dX4_flies_0 : decode cX4_flies 0 = .ok (.iconst 0, 1) := by decide +kernel
theorem dX4_flies_1 : decode cX4_flies 1 = .ok (.istore_n 2, 1) := by decide +kernel
theorem dX4_flies_2 : decode cX4_flies 2 = .ok (.iconst 0, 1) := by decide +kernel
theorem dX4_flies_3 : decode cX4_flies 3 = .ok (.istore_n 3, 1) := by decide +kernel
theorem dX4_flies_4 : decode cX4_flies 4 = .ok (.iload_n 3, 1) := by decide +kernel
theorem dX4_flies_5 : decode cX4_flies 5 = .ok (.aload_n 0, 1) := by decide +kernel
theorem dX4_flies_6 : decode cX4_flies 6 = .ok (.getfield 91, 3) := by decide +kernel
theorem dX4_flies_9 : decode cX4_flies 9 = .ok (.if_icmp .ge 49, 3) := by decide +kernel
theorem dX4_flies_12 : decode cX4_flies 12 = .ok (.iload_n 2, 1) := by decide +kernel
theorem dX4_flies_13 : decode cX4_flies 13 = .ok (.ifCond .ne 33, 3) := by decide +kernel
theorem dX4_flies_16 : decode cX4_flies 16 = .ok (.aload_n 0, 1) := by decide +kernel
theorem dX4_flies_17 : decode cX4_flies 17 = .ok (.getfield 75, 3) := by decide +kernel
theorem dX4_flies_20 : decode cX4_flies 20 = .ok (.iload_n 3, 1) := by decide +kernel
theorem dX4_flies_21 : decode cX4_flies 21 = .ok (.iaload, 1) := by decide +kernel
theorem dX4_flies_22 : decode cX4_flies 22 = .ok (.iconst 1, 1) := by decide +kernel
theorem dX4_flies_23 : decode cX4_flies 23 = .ok (.if_icmp .ne 27, 3) := by decide +kernel
theorem dX4_flies_26 : decode cX4_flies 26 = .ok (.aload_n 0, 1) := by decide +kernel
theorem dX4_flies_27 : decode cX4_flies 27 = .ok (.getfield 51, 3) := by decide +kernel
theorem dX4_flies_30 : decode cX4_flies 30 = .ok (.iload_n 3, 1) := by decide +kernel
theorem dX4_flies_31 : decode cX4_flies 31 = .ok (.iaload, 1) := by decide +kernel
theorem dX4_flies_32 : decode cX4_flies 32 = .ok (.iload_n 1, 1) := by decide +kernel
theorem dX4_flies_33 : decode cX4_flies 33 = .ok (.if_icmp .eq 13, 3) := by decide +kernel
theorem dX4_flies_36 : decode cX4_flies 36 = .ok (.aload_n 0, 1) := by decide +kernel
theorem dX4_flies_37 : decode cX4_flies 37 = .ok (.getfield 54, 3) := by decide +kernel
theorem dX4_flies_40 : decode cX4_flies 40 = .ok (.iload_n 3, 1) := by decide +kernel
theorem dX4_flies_41 : decode cX4_flies 41 = .ok (.iaload, 1) := by decide +kernel
theorem dX4_flies_42 : decode cX4_flies 42 = .ok (.iload_n 1, 1) := by decide +kernel
theorem dX4_flies_43 : decode cX4_flies 43 = .ok (.if_icmp .ne 7, 3) := by decide +kernel
theorem dX4_flies_46 : decode cX4_flies 46 = .ok (.iconst 1, 1) := by decide +kernel
theorem dX4_flies_47 : decode cX4_flies 47 = .ok (.goto 4, 3) := by decide +kernel
theorem dX4_flies_50 : decode cX4_flies 50 = .ok (.iconst 0, 1) := by decide +kernel
theorem dX4_flies_51 : decode cX4_flies 51 = .ok (.istore_n 2, 1) := by decide +kernel
theorem dX4_flies_52 : decode cX4_flies 52 = .ok (.iinc 3 1, 3) := by decide +kernel
theorem dX4_flies_55 : decode cX4_flies 55 = .ok (.goto (-51), 3) := by decide +kernel
theorem dX4_flies_58 : decode cX4_flies 58 = .ok (.iload_n 2, 1) := by decide +kernel
theorem dX4_flies_59 : decode cX4_flies 59 = .ok (.ireturn, 1) := by decide +kernel
theorem dX4_bar_0 : decode cX4_bar 0 = .ok (.aload_n 0, 1) := by decide +kernel
theorem dX4_bar_1 : decode cX4_bar 1 = .ok (.aload_n 0, 1) := by decide +kernel
theorem dX4_bar_2 : decode cX4_bar 2 = .ok (.iload_n 1, 1) := by decide +kernel
theorem dX4_bar_3 : decode cX4_bar 3 = .ok (.invokevirtual 102, 3) := by decide +kernel
theorem dX4_bar_6 : decode cX4_bar 6 = .ok (.ifCond .ne 7, 3) := by decide +kernel
theorem dX4_bar_9 : decode cX4_bar 9 = .ok (.iconst 1, 1) := by decide +kernel
theorem dX4_bar_10 : decode cX4_bar 10 = .ok (.goto 17, 3) := by decide +kernel
theorem dX4_bar_13 : decode cX4_bar 13 = .ok (.aload_n 0, 1) := by decide +kernel
theorem dX4_bar_14 : decode cX4_bar 14 = .ok (.iload_n 1, 1) := by decide +kernel
theorem dX4_bar_15 : decode cX4_bar 15 = .ok (.invokevirtual 106, 3) := by decide +kernel
theorem dX4_bar_18 : decode cX4_bar 18 = .ok (.iconst (-1), 1) := by decide +kernel
theorem dX4_bar_19 : decode cX4_bar 19 = .ok (.if_icmp .eq 7, 3) := by decide +kernel
theorem dX4_bar_22 : decode cX4_bar 22 = .ok (.iconst 2, 1) := by decide +kernel
theorem dX4_bar_23 : decode cX4_bar 23 = .ok (.goto 4, 3) := by decide +kernel
theorem dX4_bar_26 : decode cX4_bar 26 = .ok (.iconst 0, 1) := by decide +kernel
theorem dX4_bar_27 : decode cX4_bar 27 = .ok (.putfield 78, 3) := by decide +kernel
theorem dX4_bar_30 : decode cX4_bar 30 = .ok (.aload_n 0, 1) := by decide +kernel
theorem dX4_bar_31 : decode cX4_bar 31 = .ok (.getfield 78, 3) := by decide +kernel
theorem dX4_bar_34 : decode cX4_bar 34 = .ok (.ifCond .eq 5, 3) := by decide +kernel
theorem dX4_bar_37 : decode cX4_bar 37 = .ok (.iconst 0, 1) := by decide +kernel
theorem dX4_bar_38 : decode cX4_bar 38 = .ok (.ireturn, 1) := by decide +kernel
theorem dX4_bar_39 : decode cX4_bar 39 = .ok (.aload_n 0, 1) := by decide +kernel
theorem dX4_bar_40 : decode cX4_bar 40 = .ok (.getfield 41, 3) := by decide +kernel
theorem dX4_bar_43 : decode cX4_bar 43 = .ok (.iload_n 1, 1) := by decide +kernel
theorem dX4_bar_44 : decode cX4_bar 44 = .ok (.baload, 1) := by decide +kernel
theorem dX4_bar_45 : decode cX4_bar 45 = .ok (.istore_n 3, 1) := by decide +kernel
theorem dX4_bar_46 : decode cX4_bar 46 = .ok (.aload_n 0, 1) := by decide +kernel
theorem dX4_bar_47 : decode cX4_bar 47 = .ok (.getfield 41, 3) := by decide +kernel
theorem dX4_bar_50 : decode cX4_bar 50 = .ok (.iload_n 1, 1) := by decide +kernel
theorem dX4_bar_51 : decode cX4_bar 51 = .ok (.iload_n 2, 1) := by decide +kernel
theorem dX4_bar_52 : decode cX4_bar 52 = .ok (.bastore, 1) := by decide +kernel
theorem dX4_bar_53 : decode cX4_bar 53 = .ok (.iload_n 3, 1) := by decide +kernel
theorem dX4_bar_54 : decode cX4_bar 54 = .ok (.ireturn, 1) := by decide +kernel
theorem dX4_withTeacher_0 : decode cX4_withTeacher 0 = .ok (.aload_n 0, 1) := by decide +kernel
theorem dX4_withTeacher_1 : decode cX4_withTeacher 1 = .ok (.getfield 54, 3) := by decide +kernel
theorem dX4_withTeacher_4 : decode cX4_withTeacher 4 = .ok (.iload_n 1, 1) := by decide +kernel
theorem dX4_withTeacher_5 : decode cX4_withTeacher 5 = .ok (.iaload, 1) := by decide +kernel
theorem dX4_withTeacher_6 : decode cX4_withTeacher 6 = .ok (.iconst (-1), 1) := by decide +kernel
theorem dX4_withTeacher_7 : decode cX4_withTeacher 7 = .ok (.if_icmp .eq 22, 3) := by decide +kernel
theorem dX4_withTeacher_10 : decode cX4_withTeacher 10 = .ok (.aload_n 0, 1) := by decide +kernel
theorem dX4_withTeacher_11 : decode cX4_withTeacher 11 = .ok (.getfield 26, 3) := by decide +kernel
theorem dX4_withTeacher_14 : decode cX4_withTeacher 14 = .ok (.aload_n 0, 1) := by decide +kernel
theorem dX4_withTeacher_15 : decode cX4_withTeacher 15 = .ok (.getfield 54, 3) := by decide +kernel
theorem dX4_withTeacher_18 : decode cX4_withTeacher 18 = .ok (.iload_n 1, 1) := by decide +kernel
theorem dX4_withTeacher_19 : decode cX4_withTeacher 19 = .ok (.iaload, 1) := by decide +kernel
theorem dX4_withTeacher_20 : decode cX4_withTeacher 20 = .ok (.iaload, 1) := by decide +kernel
theorem dX4_withTeacher_21 : decode cX4_withTeacher 21 = .ok (.iconst 3, 1) := by decide +kernel
theorem dX4_withTeacher_22 : decode cX4_withTeacher 22 = .ok (.if_icmp .ne 7, 3) := by decide +kernel
theorem dX4_withTeacher_25 : decode cX4_withTeacher 25 = .ok (.iconst 1, 1) := by decide +kernel
theorem dX4_withTeacher_26 : decode cX4_withTeacher 26 = .ok (.goto 4, 3) := by decide +kernel
theorem dX4_withTeacher_29 : decode cX4_withTeacher 29 = .ok (.iconst 0, 1) := by decide +kernel
theorem dX4_withTeacher_30 : decode cX4_withTeacher 30 = .ok (.ireturn, 1) := by decide +kernel
theorem dX4_landed_0 : decode cX4_landed 0 = .ok (.iconst 0, 1) := by decide +kernel
theorem dX4_landed_1 : decode cX4_landed 1 = .ok (.istore_n 3, 1) := by decide +kernel
theorem dX4_landed_2 : decode cX4_landed 2 = .ok (.iconst 0, 1) := by decide +kernel
theorem dX4_landed_3 : decode cX4_landed 3 = .ok (.istore 4, 2) := by decide +kernel
theorem dX4_landed_5 : decode cX4_landed 5 = .ok (.iload 4, 2) := by decide +kernel
theorem dX4_landed_7 : decode cX4_landed 7 = .ok (.aload_n 0, 1) := by decide +kernel
theorem dX4_landed_8 : decode cX4_landed 8 = .ok (.getfield 91, 3) := by decide +kernel
theorem dX4_landed_11 : decode cX4_landed 11 = .ok (.if_icmp .ge 154, 3) := by decide +kernel
theorem dX4_landed_14 : decode cX4_landed 14 = .ok (.aload_n 0, 1) := by decide +kernel
theorem dX4_landed_15 : decode cX4_landed 15 = .ok (.getfield 75, 3) := by decide +kernel
theorem dX4_landed_18 : decode cX4_landed 18 = .ok (.iload 4, 2) := by decide +kernel
theorem dX4_landed_20 : decode cX4_landed 20 = .ok (.iaload, 1) := by decide +kernel
theorem dX4_landed_21 : decode cX4_landed 21 = .ok (.iconst 2, 1) := by decide +kernel
theorem dX4_landed_22 : decode cX4_landed 22 = .ok (.if_icmp .ne 137, 3) := by decide +kernel
theorem dX4_landed_25 : decode cX4_landed 25 = .ok (.aload_n 0, 1) := by decide +kernel
theorem dX4_landed_26 : decode cX4_landed 26 = .ok (.getfield 51, 3) := by decide +kernel
theorem dX4_landed_29 : decode cX4_landed 29 = .ok (.iload 4, 2) := by decide +kernel
theorem dX4_landed_31 : decode cX4_landed 31 = .ok (.iaload, 1) := by decide +kernel
theorem dX4_landed_32 : decode cX4_landed 32 = .ok (.iload_n 1, 1) := by decide +kernel
theorem dX4_landed_33 : decode cX4_landed 33 = .ok (.if_icmp .eq 17, 3) := by decide +kernel
theorem dX4_landed_36 : decode cX4_landed 36 = .ok (.aload_n 0, 1) := by decide +kernel
theorem dX4_landed_37 : decode cX4_landed 37 = .ok (.getfield 54, 3) := by decide +kernel
theorem dX4_landed_40 : decode cX4_landed 40 = .ok (.iload 4, 2) := by decide +kernel
theorem dX4_landed_42 : decode cX4_landed 42 = .ok (.iaload, 1) := by decide +kernel
theorem dX4_landed_43 : decode cX4_landed 43 = .ok (.iload_n 1, 1) := by decide +kernel
theorem dX4_landed_44 : decode cX4_landed 44 = .ok (.if_icmp .eq 6, 3) := by decide +kernel
theorem dX4_landed_47 : decode cX4_landed 47 = .ok (.goto 112, 3) := by decide +kernel
theorem dX4_landed_50 : decode cX4_landed 50 = .ok (.aload_n 0, 1) := by decide +kernel
theorem dX4_landed_51 : decode cX4_landed 51 = .ok (.getfield 51, 3) := by decide +kernel
theorem dX4_landed_54 : decode cX4_landed 54 = .ok (.iload 4, 2) := by decide +kernel
theorem dX4_landed_56 : decode cX4_landed 56 = .ok (.iaload, 1) := by decide +kernel
theorem dX4_landed_57 : decode cX4_landed 57 = .ok (.iload_n 1, 1) := by decide +kernel
theorem dX4_landed_58 : decode cX4_landed 58 = .ok (.if_icmp .ne 7, 3) := by decide +kernel
theorem dX4_landed_61 : decode cX4_landed 61 = .ok (.iconst 1, 1) := by decide +kernel
theorem dX4_landed_62 : decode cX4_landed 62 = .ok (.goto 4, 3) := by decide +kernel
theorem dX4_landed_65 : decode cX4_landed 65 = .ok (.iconst 0, 1) := by decide +kernel
theorem dX4_landed_66 : decode cX4_landed 66 = .ok (.istore 5, 2) := by decide +kernel
theorem dX4_landed_68 : decode cX4_landed 68 = .ok (.iload_n 2, 1) := by decide +kernel
theorem dX4_landed_69 : decode cX4_landed 69 = .ok (.iconst 2, 1) := by decide +kernel
theorem dX4_landed_70 : decode cX4_landed 70 = .ok (.if_icmp .ne 9, 3) := by decide +kernel
theorem dX4_landed_73 : decode cX4_landed 73 = .ok (.iinc 3 1, 3) := by decide +kernel
theorem dX4_landed_76 : decode cX4_landed 76 = .ok (.goto 83, 3) := by decide +kernel
theorem dX4_landed_79 : decode cX4_landed 79 = .ok (.iload_n 2, 1) := by decide +kernel
theorem dX4_landed_80 : decode cX4_landed 80 = .ok (.iconst 3, 1) := by decide +kernel
theorem dX4_landed_81 : decode cX4_landed 81 = .ok (.if_icmp .ne 24, 3) := by decide +kernel
theorem dX4_landed_84 : decode cX4_landed 84 = .ok (.iload_n 3, 1) := by decide +kernel
theorem dX4_landed_85 : decode cX4_landed 85 = .ok (.aload_n 0, 1) := by decide +kernel
theorem dX4_landed_86 : decode cX4_landed 86 = .ok (.getfield 72, 3) := by decide +kernel
theorem dX4_landed_89 : decode cX4_landed 89 = .ok (.iload 4, 2) := by decide +kernel
theorem dX4_landed_91 : decode cX4_landed 91 = .ok (.iaload, 1) := by decide +kernel
theorem dX4_landed_92 : decode cX4_landed 92 = .ok (.aload_n 0, 1) := by decide +kernel
theorem dX4_landed_93 : decode cX4_landed 93 = .ok (.getfield 69, 3) := by decide +kernel
theorem dX4_landed_96 : decode cX4_landed 96 = .ok (.iload 4, 2) := by decide +kernel
theorem dX4_landed_98 : decode cX4_landed 98 = .ok (.iaload, 1) := by decide +kernel
theorem dX4_landed_99 : decode cX4_landed 99 = .ok (.isub, 1) := by decide +kernel
theorem dX4_landed_100 : decode cX4_landed 100 = .ok (.iadd, 1) := by decide +kernel
theorem dX4_landed_101 : decode cX4_landed 101 = .ok (.istore_n 3, 1) := by decide +kernel
theorem dX4_landed_102 : decode cX4_landed 102 = .ok (.goto 57, 3) := by decide +kernel
theorem dX4_landed_105 : decode cX4_landed 105 = .ok (.iload_n 2, 1) := by decide +kernel
theorem dX4_landed_106 : decode cX4_landed 106 = .ok (.iconst 4, 1) := by decide +kernel
theorem dX4_landed_107 : decode cX4_landed 107 = .ok (.if_icmp .ne 28, 3) := by decide +kernel
theorem dX4_landed_110 : decode cX4_landed 110 = .ok (.iload_n 3, 1) := by decide +kernel
theorem dX4_landed_111 : decode cX4_landed 111 = .ok (.iload 5, 2) := by decide +kernel
theorem dX4_landed_113 : decode cX4_landed 113 = .ok (.ifCond .eq 16, 3) := by decide +kernel
theorem dX4_landed_116 : decode cX4_landed 116 = .ok (.aload_n 0, 1) := by decide +kernel
theorem dX4_landed_117 : decode cX4_landed 117 = .ok (.iload 4, 2) := by decide +kernel
theorem dX4_landed_119 : decode cX4_landed 119 = .ok (.invokevirtual 109, 3) := by decide +kernel
theorem dX4_landed_122 : decode cX4_landed 122 = .ok (.ifCond .eq 7, 3) := by decide +kernel
theorem dX4_landed_125 : decode cX4_landed 125 = .ok (.iconst 1, 1) := by decide +kernel
theorem dX4_landed_126 : decode cX4_landed 126 = .ok (.goto 4, 3) := by decide +kernel
theorem dX4_landed_129 : decode cX4_landed 129 = .ok (.iconst 0, 1) := by decide +kernel
theorem dX4_landed_130 : decode cX4_landed 130 = .ok (.iadd, 1) := by decide +kernel
theorem dX4_landed_131 : decode cX4_landed 131 = .ok (.istore_n 3, 1) := by decide +kernel
theorem dX4_landed_132 : decode cX4_landed 132 = .ok (.goto 27, 3) := by decide +kernel
theorem dX4_landed_135 : decode cX4_landed 135 = .ok (.iload_n 3, 1) := by decide +kernel
theorem dX4_landed_136 : decode cX4_landed 136 = .ok (.iload 5, 2) := by decide +kernel
theorem dX4_landed_138 : decode cX4_landed 138 = .ok (.ifCond .eq 18, 3) := by decide +kernel
theorem dX4_landed_141 : decode cX4_landed 141 = .ok (.aload_n 0, 1) := by decide +kernel
theorem dX4_landed_142 : decode cX4_landed 142 = .ok (.getfield 54, 3) := by decide +kernel
theorem dX4_landed_145 : decode cX4_landed 145 = .ok (.iload 4, 2) := by decide +kernel
theorem dX4_landed_147 : decode cX4_landed 147 = .ok (.iaload, 1) := by decide +kernel
theorem dX4_landed_148 : decode cX4_landed 148 = .ok (.iconst (-1), 1) := by decide +kernel
theorem dX4_landed_149 : decode cX4_landed 149 = .ok (.if_icmp .ne 7, 3) := by decide +kernel
theorem dX4_landed_152 : decode cX4_landed 152 = .ok (.iconst 1, 1) := by decide +kernel
theorem dX4_landed_153 : decode cX4_landed 153 = .ok (.goto 4, 3) := by decide +kernel
theorem dX4_landed_156 : decode cX4_landed 156 = .ok (.iconst 0, 1) := by decide +kernel
theorem dX4_landed_157 : decode cX4_landed 157 = .ok (.iadd, 1) := by decide +kernel
theorem dX4_landed_158 : decode cX4_landed 158 = .ok (.istore_n 3, 1) := by decide +kernel
theorem dX4_landed_159 : decode cX4_landed 159 = .ok (.iinc 4 1, 3) := by decide +kernel
theorem dX4_landed_162 : decode cX4_landed 162 = .ok (.goto (-157), 3) := by decide +kernel
theorem dX4_landed_165 : decode cX4_landed 165 = .ok (.iload_n 3, 1) := by decide +kernel
theorem dX4_landed_166 : decode cX4_landed 166 = .ok (.ireturn, 1) := by decide +kernel
theorem dX4_promote_0 : decode cX4_promote 0 = .ok (.aload_n 0, 1) := by decide +kernel
theorem dX4_promote_1 : decode cX4_promote 1 = .ok (.iconst 0, 1) := by decide +kernel
theorem dX4_promote_2 : decode cX4_promote 2 = .ok (.putfield 78, 3) := by decide +kernel
theorem dX4_promote_5 : decode cX4_promote 5 = .ok (.aload_n 0, 1) := by decide +kernel
theorem dX4_promote_6 : decode cX4_promote 6 = .ok (.iload_n 1, 1) := by decide +kernel
theorem dX4_promote_7 : decode cX4_promote 7 = .ok (.invokevirtual 112, 3) := by decide +kernel
theorem dX4_promote_10 : decode cX4_promote 10 = .ok (.ifCond .ne 9, 3) := by decide +kernel
theorem dX4_promote_13 : decode cX4_promote 13 = .ok (.aload_n 0, 1) := by decide +kernel
theorem dX4_promote_14 : decode cX4_promote 14 = .ok (.iconst 1, 1) := by decide +kernel
theorem dX4_promote_15 : decode cX4_promote 15 = .ok (.invokevirtual 94, 3) := by decide +kernel
theorem dX4_promote_18 : decode cX4_promote 18 = .ok (.ireturn, 1) := by decide +kernel
theorem dX4_promote_19 : decode cX4_promote 19 = .ok (.aload_n 0, 1) := by decide +kernel
theorem dX4_promote_20 : decode cX4_promote 20 = .ok (.getfield 26, 3) := by decide +kernel
theorem dX4_promote_23 : decode cX4_promote 23 = .ok (.iload_n 1, 1) := by decide +kernel
theorem dX4_promote_24 : decode cX4_promote 24 = .ok (.iaload, 1) := by decide +kernel
theorem dX4_promote_25 : decode cX4_promote 25 = .ok (.ifCond .ne 13, 3) := by decide +kernel
theorem dX4_promote_28 : decode cX4_promote 28 = .ok (.aload_n 0, 1) := by decide +kernel
theorem dX4_promote_29 : decode cX4_promote 29 = .ok (.iload_n 1, 1) := by decide +kernel
theorem dX4_promote_30 : decode cX4_promote 30 = .ok (.iconst 4, 1) := by decide +kernel
theorem dX4_promote_31 : decode cX4_promote 31 = .ok (.invokevirtual 115, 3) := by decide +kernel
theorem dX4_promote_34 : decode cX4_promote 34 = .ok (.iconst 3, 1) := by decide +kernel
theorem dX4_promote_35 : decode cX4_promote 35 = .ok (.if_icmp .ge 23, 3) := by decide +kernel
theorem dX4_promote_38 : decode cX4_promote 38 = .ok (.aload_n 0, 1) := by decide +kernel
theorem dX4_promote_39 : decode cX4_promote 39 = .ok (.getfield 26, 3) := by decide +kernel
theorem dX4_promote_42 : decode cX4_promote 42 = .ok (.iload_n 1, 1) := by decide +kernel
theorem dX4_promote_43 : decode cX4_promote 43 = .ok (.iaload, 1) := by decide +kernel
theorem dX4_promote_44 : decode cX4_promote 44 = .ok (.iconst 1, 1) := by decide +kernel
theorem dX4_promote_45 : decode cX4_promote 45 = .ok (.if_icmp .ne 17, 3) := by decide +kernel
theorem dX4_promote_48 : decode cX4_promote 48 = .ok (.aload_n 0, 1) := by decide +kernel
theorem dX4_promote_49 : decode cX4_promote 49 = .ok (.iload_n 1, 1) := by decide +kernel
theorem dX4_promote_50 : decode cX4_promote 50 = .ok (.iconst 5, 1) := by decide +kernel
theorem dX4_promote_51 : decode cX4_promote 51 = .ok (.invokevirtual 115, 3) := by decide +kernel
theorem dX4_promote_54 : decode cX4_promote 54 = .ok (.iconst 5, 1) := by decide +kernel
theorem dX4_promote_55 : decode cX4_promote 55 = .ok (.if_icmp .lt 7, 3) := by decide +kernel
theorem dX4_promote_58 : decode cX4_promote 58 = .ok (.iconst 1, 1) := by decide +kernel
theorem dX4_promote_59 : decode cX4_promote 59 = .ok (.goto 4, 3) := by decide +kernel
theorem dX4_promote_62 : decode cX4_promote 62 = .ok (.iconst 0, 1) := by decide +kernel
theorem dX4_promote_63 : decode cX4_promote 63 = .ok (.istore_n 2, 1) := by decide +kernel
theorem dX4_promote_64 : decode cX4_promote 64 = .ok (.aload_n 0, 1) := by decide +kernel
theorem dX4_promote_65 : decode cX4_promote 65 = .ok (.iload_n 1, 1) := by decide +kernel
theorem dX4_promote_66 : decode cX4_promote 66 = .ok (.invokevirtual 119, 3) := by decide +kernel
theorem dX4_promote_69 : decode cX4_promote 69 = .ok (.ifCond .ne 7, 3) := by decide +kernel
theorem dX4_promote_72 : decode cX4_promote 72 = .ok (.iload_n 2, 1) := by decide +kernel
theorem dX4_promote_73 : decode cX4_promote 73 = .ok (.ifCond .ne 9, 3) := by decide +kernel
theorem dX4_promote_76 : decode cX4_promote 76 = .ok (.aload_n 0, 1) := by decide +kernel
theorem dX4_promote_77 : decode cX4_promote 77 = .ok (.iconst 2, 1) := by decide +kernel
theorem dX4_promote_78 : decode cX4_promote 78 = .ok (.invokevirtual 94, 3) := by decide +kernel
theorem dX4_promote_81 : decode cX4_promote 81 = .ok (.ireturn, 1) := by decide +kernel
theorem dX4_promote_82 : decode cX4_promote 82 = .ok (.aload_n 0, 1) := by decide +kernel
theorem dX4_promote_83 : decode cX4_promote 83 = .ok (.getfield 26, 3) := by decide +kernel
theorem dX4_promote_86 : decode cX4_promote 86 = .ok (.iload_n 1, 1) := by decide +kernel
theorem dX4_promote_87 : decode cX4_promote 87 = .ok (.dup2, 1) := by decide +kernel
theorem dX4_promote_88 : decode cX4_promote 88 = .ok (.iaload, 1) := by decide +kernel
theorem dX4_promote_89 : decode cX4_promote 89 = .ok (.iconst 1, 1) := by decide +kernel
theorem dX4_promote_90 : decode cX4_promote 90 = .ok (.iadd, 1) := by decide +kernel
theorem dX4_promote_91 : decode cX4_promote 91 = .ok (.iastore, 1) := by decide +kernel
theorem dX4_promote_92 : decode cX4_promote 92 = .ok (.aload_n 0, 1) := by decide +kernel
theorem dX4_promote_93 : decode cX4_promote 93 = .ok (.getfield 26, 3) := by decide +kernel
theorem dX4_promote_96 : decode cX4_promote 96 = .ok (.iload_n 1, 1) := by decide +kernel
theorem dX4_promote_97 : decode cX4_promote 97 = .ok (.iaload, 1) := by decide +kernel
theorem dX4_promote_98 : decode cX4_promote 98 = .ok (.ireturn, 1) := by decide +kernel
theorem dX4_toldOfMember_0 : decode cX4_toldOfMember 0 = .ok (.iload_n 2, 1) := by decide +kernel
theorem dX4_toldOfMember_1 : decode cX4_toldOfMember 1 = .ok (.ifCond .ne 12, 3) := by decide +kernel
theorem dX4_toldOfMember_4 : decode cX4_toldOfMember 4 = .ok (.aload_n 0, 1) := by decide +kernel
theorem dX4_toldOfMember_5 : decode cX4_toldOfMember 5 = .ok (.getfield 26, 3) := by decide +kernel
theorem dX4_toldOfMember_8 : decode cX4_toldOfMember 8 = .ok (.iload_n 1, 1) := by decide +kernel
theorem dX4_toldOfMember_9 : decode cX4_toldOfMember 9 = .ok (.iaload, 1) := by decide +kernel
theorem dX4_toldOfMember_10 : decode cX4_toldOfMember 10 = .ok (.goto 30, 3) := by decide +kernel
theorem dX4_toldOfMember_13 : decode cX4_toldOfMember 13 = .ok (.iload_n 2, 1) := by decide +kernel
theorem dX4_toldOfMember_14 : decode cX4_toldOfMember 14 = .ok (.iconst 1, 1) := by decide +kernel
theorem dX4_toldOfMember_15 : decode cX4_toldOfMember 15 = .ok (.if_icmp .ne 19, 3) := by decide +kernel
theorem dX4_toldOfMember_18 : decode cX4_toldOfMember 18 = .ok (.aload_n 0, 1) := by decide +kernel
theorem dX4_toldOfMember_19 : decode cX4_toldOfMember 19 = .ok (.iload_n 1, 1) := by decide +kernel
theorem dX4_toldOfMember_20 : decode cX4_toldOfMember 20 = .ok (.invokevirtual 119, 3) := by decide +kernel
theorem dX4_toldOfMember_23 : decode cX4_toldOfMember 23 = .ok (.ifCond .eq 7, 3) := by decide +kernel
theorem dX4_toldOfMember_26 : decode cX4_toldOfMember 26 = .ok (.iconst 1, 1) := by decide +kernel
theorem dX4_toldOfMember_27 : decode cX4_toldOfMember 27 = .ok (.goto 13, 3) := by decide +kernel
theorem dX4_toldOfMember_30 : decode cX4_toldOfMember 30 = .ok (.iconst 0, 1) := by decide +kernel
theorem dX4_toldOfMember_31 : decode cX4_toldOfMember 31 = .ok (.goto 9, 3) := by decide +kernel
theorem dX4_toldOfMember_34 : decode cX4_toldOfMember 34 = .ok (.aload_n 0, 1) := by decide +kernel
theorem dX4_toldOfMember_35 : decode cX4_toldOfMember 35 = .ok (.iload_n 1, 1) := by decide +kernel
theorem dX4_toldOfMember_36 : decode cX4_toldOfMember 36 = .ok (.iload_n 2, 1) := by decide +kernel
theorem dX4_toldOfMember_37 : decode cX4_toldOfMember 37 = .ok (.invokevirtual 115, 3) := by decide +kernel
theorem dX4_toldOfMember_40 : decode cX4_toldOfMember 40 = .ok (.ireturn, 1) := by decide +kernel
theorem dX4_member_0 : decode cX4_member 0 = .ok (.aload_n 0, 1) := by decide +kernel
theorem dX4_member_1 : decode cX4_member 1 = .ok (.iconst 0, 1) := by decide +kernel
theorem dX4_member_2 : decode cX4_member 2 = .ok (.putfield 78, 3) := by decide +kernel
theorem dX4_member_5 : decode cX4_member 5 = .ok (.aload_n 0, 1) := by decide +kernel
theorem dX4_member_6 : decode cX4_member 6 = .ok (.iload_n 1, 1) := by decide +kernel
theorem dX4_member_7 : decode cX4_member 7 = .ok (.invokevirtual 112, 3) := by decide +kernel
theorem dX4_member_10 : decode cX4_member 10 = .ok (.ifCond .eq 21, 3) := by decide +kernel
theorem dX4_member_13 : decode cX4_member 13 = .ok (.iload_n 2, 1) := by decide +kernel
theorem dX4_member_14 : decode cX4_member 14 = .ok (.iconst 0, 1) := by decide +kernel
theorem dX4_member_15 : decode cX4_member 15 = .ok (.iconst 5, 1) := by decide +kernel
theorem dX4_member_16 : decode cX4_member 16 = .ok (.invokestatic 84, 3) := by decide +kernel
theorem dX4_member_19 : decode cX4_member 19 = .ok (.ifCond .eq 12, 3) := by decide +kernel
theorem dX4_member_22 : decode cX4_member 22 = .ok (.aload_n 0, 1) := by decide +kernel
theorem dX4_member_23 : decode cX4_member 23 = .ok (.iload_n 1, 1) := by decide +kernel
theorem dX4_member_24 : decode cX4_member 24 = .ok (.iload_n 2, 1) := by decide +kernel
theorem dX4_member_25 : decode cX4_member 25 = .ok (.invokevirtual 122, 3) := by decide +kernel
theorem dX4_member_28 : decode cX4_member 28 = .ok (.goto 8, 3) := by decide +kernel
theorem dX4_member_31 : decode cX4_member 31 = .ok (.aload_n 0, 1) := by decide +kernel
theorem dX4_member_32 : decode cX4_member 32 = .ok (.iconst 1, 1) := by decide +kernel
theorem dX4_member_33 : decode cX4_member 33 = .ok (.invokevirtual 94, 3) := by decide +kernel
theorem dX4_member_36 : decode cX4_member 36 = .ok (.ireturn, 1) := by decide +kernel
theorem dX4_toldOfGlider_0 : decode cX4_toldOfGlider 0 = .ok (.iload_n 2, 1) := by decide +kernel
theorem dX4_toldOfGlider_1 : decode cX4_toldOfGlider 1 = .ok (.ifCond .ne 31, 3) := by decide +kernel
theorem dX4_toldOfGlider_4 : decode cX4_toldOfGlider 4 = .ok (.aload_n 0, 1) := by decide +kernel
theorem dX4_toldOfGlider_5 : decode cX4_toldOfGlider 5 = .ok (.getfield 48, 3) := by decide +kernel
theorem dX4_toldOfGlider_8 : decode cX4_toldOfGlider 8 = .ok (.iload_n 1, 1) := by decide +kernel
theorem dX4_toldOfGlider_9 : decode cX4_toldOfGlider 9 = .ok (.iaload, 1) := by decide +kernel
theorem dX4_toldOfGlider_10 : decode cX4_toldOfGlider 10 = .ok (.ifCond .le 7, 3) := by decide +kernel
theorem dX4_toldOfGlider_13 : decode cX4_toldOfGlider 13 = .ok (.iconst 2, 1) := by decide +kernel
theorem dX4_toldOfGlider_14 : decode cX4_toldOfGlider 14 = .ok (.goto 17, 3) := by decide +kernel
theorem dX4_toldOfGlider_17 : decode cX4_toldOfGlider 17 = .ok (.aload_n 0, 1) := by decide +kernel
theorem dX4_toldOfGlider_18 : decode cX4_toldOfGlider 18 = .ok (.iload_n 1, 1) := by decide +kernel
theorem dX4_toldOfGlider_19 : decode cX4_toldOfGlider 19 = .ok (.invokevirtual 106, 3) := by decide +kernel
theorem dX4_toldOfGlider_22 : decode cX4_toldOfGlider 22 = .ok (.iconst (-1), 1) := by decide +kernel
theorem dX4_toldOfGlider_23 : decode cX4_toldOfGlider 23 = .ok (.if_icmp .eq 7, 3) := by decide +kernel
theorem dX4_toldOfGlider_26 : decode cX4_toldOfGlider 26 = .ok (.iconst 1, 1) := by decide +kernel
theorem dX4_toldOfGlider_27 : decode cX4_toldOfGlider 27 = .ok (.goto 4, 3) := by decide +kernel
theorem dX4_toldOfGlider_30 : decode cX4_toldOfGlider 30 = .ok (.iconst 0, 1) := by decide +kernel
theorem dX4_toldOfGlider_31 : decode cX4_toldOfGlider 31 = .ok (.ireturn, 1) := by decide +kernel
theorem dX4_toldOfGlider_32 : decode cX4_toldOfGlider 32 = .ok (.iload_n 2, 1) := by decide +kernel
theorem dX4_toldOfGlider_33 : decode cX4_toldOfGlider 33 = .ok (.iconst 1, 1) := by decide +kernel
theorem dX4_toldOfGlider_34 : decode cX4_toldOfGlider 34 = .ok (.if_icmp .ne 18, 3) := by decide +kernel
theorem dX4_toldOfGlider_37 : decode cX4_toldOfGlider 37 = .ok (.aload_n 0, 1) := by decide +kernel
theorem dX4_toldOfGlider_38 : decode cX4_toldOfGlider 38 = .ok (.getfield 41, 3) := by decide +kernel
theorem dX4_toldOfGlider_41 : decode cX4_toldOfGlider 41 = .ok (.iload_n 1, 1) := by decide +kernel
theorem dX4_toldOfGlider_42 : decode cX4_toldOfGlider 42 = .ok (.baload, 1) := by decide +kernel
theorem dX4_toldOfGlider_43 : decode cX4_toldOfGlider 43 = .ok (.ifCond .eq 7, 3) := by decide +kernel
theorem dX4_toldOfGlider_46 : decode cX4_toldOfGlider 46 = .ok (.iconst 1, 1) := by decide +kernel
theorem dX4_toldOfGlider_47 : decode cX4_toldOfGlider 47 = .ok (.goto 4, 3) := by decide +kernel
theorem dX4_toldOfGlider_50 : decode cX4_toldOfGlider 50 = .ok (.iconst 0, 1) := by decide +kernel
theorem dX4_toldOfGlider_51 : decode cX4_toldOfGlider 51 = .ok (.ireturn, 1) := by decide +kernel
theorem dX4_toldOfGlider_52 : decode cX4_toldOfGlider 52 = .ok (.iload_n 2, 1) := by decide +kernel
theorem dX4_toldOfGlider_53 : decode cX4_toldOfGlider 53 = .ok (.iconst 4, 1) := by decide +kernel
theorem dX4_toldOfGlider_54 : decode cX4_toldOfGlider 54 = .ok (.if_icmp .ne 9, 3) := by decide +kernel
theorem dX4_toldOfGlider_57 : decode cX4_toldOfGlider 57 = .ok (.aload_n 0, 1) := by decide +kernel
theorem dX4_toldOfGlider_58 : decode cX4_toldOfGlider 58 = .ok (.iload_n 1, 1) := by decide +kernel
theorem dX4_toldOfGlider_59 : decode cX4_toldOfGlider 59 = .ok (.invokevirtual 106, 3) := by decide +kernel
theorem dX4_toldOfGlider_62 : decode cX4_toldOfGlider 62 = .ok (.ireturn, 1) := by decide +kernel
theorem dX4_toldOfGlider_63 : decode cX4_toldOfGlider 63 = .ok (.iconst 0, 1) := by decide +kernel
theorem dX4_toldOfGlider_64 : decode cX4_toldOfGlider 64 = .ok (.istore_n 3, 1) := by decide +kernel
theorem dX4_toldOfGlider_65 : decode cX4_toldOfGlider 65 = .ok (.iconst 0, 1) := by decide +kernel
theorem dX4_toldOfGlider_66 : decode cX4_toldOfGlider 66 = .ok (.istore 4, 2) := by decide +kernel
theorem dX4_toldOfGlider_68 : decode cX4_toldOfGlider 68 = .ok (.iload 4, 2) := by decide +kernel
theorem dX4_toldOfGlider_70 : decode cX4_toldOfGlider 70 = .ok (.aload_n 0, 1) := by decide +kernel
theorem dX4_toldOfGlider_71 : decode cX4_toldOfGlider 71 = .ok (.getfield 91, 3) := by decide +kernel
theorem dX4_toldOfGlider_74 : decode cX4_toldOfGlider 74 = .ok (.if_icmp .ge 58, 3) := by decide +kernel
theorem dX4_toldOfGlider_77 : decode cX4_toldOfGlider 77 = .ok (.aload_n 0, 1) := by decide +kernel
theorem dX4_toldOfGlider_78 : decode cX4_toldOfGlider 78 = .ok (.getfield 75, 3) := by decide +kernel
theorem dX4_toldOfGlider_81 : decode cX4_toldOfGlider 81 = .ok (.iload 4, 2) := by decide +kernel
theorem dX4_toldOfGlider_83 : decode cX4_toldOfGlider 83 = .ok (.iaload, 1) := by decide +kernel
theorem dX4_toldOfGlider_84 : decode cX4_toldOfGlider 84 = .ok (.iconst 2, 1) := by decide +kernel
theorem dX4_toldOfGlider_85 : decode cX4_toldOfGlider 85 = .ok (.if_icmp .ne 41, 3) := by decide +kernel
theorem dX4_toldOfGlider_88 : decode cX4_toldOfGlider 88 = .ok (.aload_n 0, 1) := by decide +kernel
theorem dX4_toldOfGlider_89 : decode cX4_toldOfGlider 89 = .ok (.getfield 57, 3) := by decide +kernel
theorem dX4_toldOfGlider_92 : decode cX4_toldOfGlider 92 = .ok (.iload 4, 2) := by decide +kernel
theorem dX4_toldOfGlider_94 : decode cX4_toldOfGlider 94 = .ok (.iaload, 1) := by decide +kernel
theorem dX4_toldOfGlider_95 : decode cX4_toldOfGlider 95 = .ok (.iload_n 1, 1) := by decide +kernel
theorem dX4_toldOfGlider_96 : decode cX4_toldOfGlider 96 = .ok (.if_icmp .ne 30, 3) := by decide +kernel
theorem dX4_toldOfGlider_99 : decode cX4_toldOfGlider 99 = .ok (.iload_n 3, 1) := by decide +kernel
theorem dX4_toldOfGlider_100 : decode cX4_toldOfGlider 100 = .ok (.iload_n 2, 1) := by decide +kernel
theorem dX4_toldOfGlider_101 : decode cX4_toldOfGlider 101 = .ok (.iconst 2, 1) := by decide +kernel
theorem dX4_toldOfGlider_102 : decode cX4_toldOfGlider 102 = .ok (.if_icmp .ne 7, 3) := by decide +kernel
theorem dX4_toldOfGlider_105 : decode cX4_toldOfGlider 105 = .ok (.iconst 1, 1) := by decide +kernel
theorem dX4_toldOfGlider_106 : decode cX4_toldOfGlider 106 = .ok (.goto 18, 3) := by decide +kernel
theorem dX4_toldOfGlider_109 : decode cX4_toldOfGlider 109 = .ok (.aload_n 0, 1) := by decide +kernel
theorem dX4_toldOfGlider_110 : decode cX4_toldOfGlider 110 = .ok (.getfield 72, 3) := by decide +kernel
theorem dX4_toldOfGlider_113 : decode cX4_toldOfGlider 113 = .ok (.iload 4, 2) := by decide +kernel
theorem dX4_toldOfGlider_115 : decode cX4_toldOfGlider 115 = .ok (.iaload, 1) := by decide +kernel
theorem dX4_toldOfGlider_116 : decode cX4_toldOfGlider 116 = .ok (.aload_n 0, 1) := by decide +kernel
theorem dX4_toldOfGlider_117 : decode cX4_toldOfGlider 117 = .ok (.getfield 69, 3) := by decide +kernel
theorem dX4_toldOfGlider_120 : decode cX4_toldOfGlider 120 = .ok (.iload 4, 2) := by decide +kernel
theorem dX4_toldOfGlider_122 : decode cX4_toldOfGlider 122 = .ok (.iaload, 1) := by decide +kernel
theorem dX4_toldOfGlider_123 : decode cX4_toldOfGlider 123 = .ok (.isub, 1) := by decide +kernel
theorem dX4_toldOfGlider_124 : decode cX4_toldOfGlider 124 = .ok (.iadd, 1) := by decide +kernel
theorem dX4_toldOfGlider_125 : decode cX4_toldOfGlider 125 = .ok (.istore_n 3, 1) := by decide +kernel
theorem dX4_toldOfGlider_126 : decode cX4_toldOfGlider 126 = .ok (.iinc 4 1, 3) := by decide +kernel
theorem dX4_toldOfGlider_129 : decode cX4_toldOfGlider 129 = .ok (.goto (-61), 3) := by decide +kernel
theorem dX4_toldOfGlider_132 : decode cX4_toldOfGlider 132 = .ok (.iload_n 3, 1) := by decide +kernel
theorem dX4_toldOfGlider_133 : decode cX4_toldOfGlider 133 = .ok (.ireturn, 1) := by decide +kernel
theorem dX4_glider_0 : decode cX4_glider 0 = .ok (.aload_n 0, 1) := by decide +kernel
theorem dX4_glider_1 : decode cX4_glider 1 = .ok (.iconst 0, 1) := by decide +kernel
theorem dX4_glider_2 : decode cX4_glider 2 = .ok (.putfield 78, 3) := by decide +kernel
theorem dX4_glider_5 : decode cX4_glider 5 = .ok (.aload_n 0, 1) := by decide +kernel
theorem dX4_glider_6 : decode cX4_glider 6 = .ok (.iload_n 1, 1) := by decide +kernel
theorem dX4_glider_7 : decode cX4_glider 7 = .ok (.invokevirtual 102, 3) := by decide +kernel
theorem dX4_glider_10 : decode cX4_glider 10 = .ok (.ifCond .eq 21, 3) := by decide +kernel
theorem dX4_glider_13 : decode cX4_glider 13 = .ok (.iload_n 2, 1) := by decide +kernel
theorem dX4_glider_14 : decode cX4_glider 14 = .ok (.iconst 0, 1) := by decide +kernel
theorem dX4_glider_15 : decode cX4_glider 15 = .ok (.iconst 4, 1) := by decide +kernel
theorem dX4_glider_16 : decode cX4_glider 16 = .ok (.invokestatic 84, 3) := by decide +kernel
theorem dX4_glider_19 : decode cX4_glider 19 = .ok (.ifCond .eq 12, 3) := by decide +kernel
theorem dX4_glider_22 : decode cX4_glider 22 = .ok (.aload_n 0, 1) := by decide +kernel
theorem dX4_glider_23 : decode cX4_glider 23 = .ok (.iload_n 1, 1) := by decide +kernel
theorem dX4_glider_24 : decode cX4_glider 24 = .ok (.iload_n 2, 1) := by decide +kernel
theorem dX4_glider_25 : decode cX4_glider 25 = .ok (.invokevirtual 125, 3) := by decide +kernel
theorem dX4_glider_28 : decode cX4_glider 28 = .ok (.goto 8, 3) := by decide +kernel
theorem dX4_glider_31 : decode cX4_glider 31 = .ok (.aload_n 0, 1) := by decide +kernel
theorem dX4_glider_32 : decode cX4_glider 32 = .ok (.iconst 1, 1) := by decide +kernel
theorem dX4_glider_33 : decode cX4_glider 33 = .ok (.invokevirtual 94, 3) := by decide +kernel
theorem dX4_glider_36 : decode cX4_glider 36 = .ok (.ireturn, 1) := by decide +kernel
theorem dX4_with_0 : decode cX4_with 0 = .ok (.iconst 0, 1) := by decide +kernel
theorem dX4_with_1 : decode cX4_with 1 = .ok (.istore_n 2, 1) := by decide +kernel
theorem dX4_with_2 : decode cX4_with 2 = .ok (.iconst 0, 1) := by decide +kernel
theorem dX4_with_3 : decode cX4_with 3 = .ok (.istore_n 3, 1) := by decide +kernel
theorem dX4_with_4 : decode cX4_with 4 = .ok (.iload_n 3, 1) := by decide +kernel
theorem dX4_with_5 : decode cX4_with 5 = .ok (.aload_n 0, 1) := by decide +kernel
theorem dX4_with_6 : decode cX4_with 6 = .ok (.getfield 91, 3) := by decide +kernel
theorem dX4_with_9 : decode cX4_with 9 = .ok (.if_icmp .ge 27, 3) := by decide +kernel
theorem dX4_with_12 : decode cX4_with 12 = .ok (.iload_n 2, 1) := by decide +kernel
theorem dX4_with_13 : decode cX4_with 13 = .ok (.aload_n 0, 1) := by decide +kernel
theorem dX4_with_14 : decode cX4_with 14 = .ok (.getfield 75, 3) := by decide +kernel
theorem dX4_with_17 : decode cX4_with 17 = .ok (.iload_n 3, 1) := by decide +kernel
theorem dX4_with_18 : decode cX4_with 18 = .ok (.iaload, 1) := by decide +kernel
theorem dX4_with_19 : decode cX4_with 19 = .ok (.iload_n 1, 1) := by decide +kernel
theorem dX4_with_20 : decode cX4_with 20 = .ok (.if_icmp .ne 7, 3) := by decide +kernel
theorem dX4_with_23 : decode cX4_with 23 = .ok (.iconst 1, 1) := by decide +kernel
theorem dX4_with_24 : decode cX4_with 24 = .ok (.goto 4, 3) := by decide +kernel
theorem dX4_with_27 : decode cX4_with 27 = .ok (.iconst 0, 1) := by decide +kernel
theorem dX4_with_28 : decode cX4_with 28 = .ok (.iadd, 1) := by decide +kernel
theorem dX4_with_29 : decode cX4_with 29 = .ok (.istore_n 2, 1) := by decide +kernel
theorem dX4_with_30 : decode cX4_with 30 = .ok (.iinc 3 1, 3) := by decide +kernel
theorem dX4_with_33 : decode cX4_with 33 = .ok (.goto (-29), 3) := by decide +kernel
theorem dX4_with_36 : decode cX4_with 36 = .ok (.iload_n 2, 1) := by decide +kernel
theorem dX4_with_37 : decode cX4_with 37 = .ok (.ireturn, 1) := by decide +kernel
theorem dX4_ask_0 : decode cX4_ask 0 = .ok (.aload_n 0, 1) := by decide +kernel
theorem dX4_ask_1 : decode cX4_ask 1 = .ok (.iconst 0, 1) := by decide +kernel
theorem dX4_ask_2 : decode cX4_ask 2 = .ok (.putfield 78, 3) := by decide +kernel
theorem dX4_ask_5 : decode cX4_ask 5 = .ok (.aload_n 0, 1) := by decide +kernel
theorem dX4_ask_6 : decode cX4_ask 6 = .ok (.iload_n 1, 1) := by decide +kernel
theorem dX4_ask_7 : decode cX4_ask 7 = .ok (.invokevirtual 112, 3) := by decide +kernel
theorem dX4_ask_10 : decode cX4_ask 10 = .ok (.ifCond .eq 24, 3) := by decide +kernel
theorem dX4_ask_13 : decode cX4_ask 13 = .ok (.aload_n 0, 1) := by decide +kernel
theorem dX4_ask_14 : decode cX4_ask 14 = .ok (.iload_n 3, 1) := by decide +kernel
theorem dX4_ask_15 : decode cX4_ask 15 = .ok (.invokevirtual 102, 3) := by decide +kernel
theorem dX4_ask_18 : decode cX4_ask 18 = .ok (.ifCond .eq 16, 3) := by decide +kernel
theorem dX4_ask_21 : decode cX4_ask 21 = .ok (.iload_n 2, 1) := by decide +kernel
theorem dX4_ask_22 : decode cX4_ask 22 = .ok (.iconst (-1), 1) := by decide +kernel
theorem dX4_ask_23 : decode cX4_ask 23 = .ok (.if_icmp .eq 17, 3) := by decide +kernel
theorem dX4_ask_26 : decode cX4_ask 26 = .ok (.aload_n 0, 1) := by decide +kernel
theorem dX4_ask_27 : decode cX4_ask 27 = .ok (.iload_n 2, 1) := by decide +kernel
theorem dX4_ask_28 : decode cX4_ask 28 = .ok (.invokevirtual 112, 3) := by decide +kernel
theorem dX4_ask_31 : decode cX4_ask 31 = .ok (.ifCond .ne 9, 3) := by decide +kernel
theorem dX4_ask_34 : decode cX4_ask 34 = .ok (.aload_n 0, 1) := by decide +kernel
theorem dX4_ask_35 : decode cX4_ask 35 = .ok (.iconst 1, 1) := by decide +kernel
theorem dX4_ask_36 : decode cX4_ask 36 = .ok (.invokevirtual 94, 3) := by decide +kernel
theorem dX4_ask_39 : decode cX4_ask 39 = .ok (.ireturn, 1) := by decide +kernel
theorem dX4_ask_40 : decode cX4_ask 40 = .ok (.iload_n 1, 1) := by decide +kernel
theorem dX4_ask_41 : decode cX4_ask 41 = .ok (.iload_n 2, 1) := by decide +kernel
theorem dX4_ask_42 : decode cX4_ask 42 = .ok (.if_icmp .eq 34, 3) := by decide +kernel
theorem dX4_ask_45 : decode cX4_ask 45 = .ok (.iload 4, 2) := by decide +kernel
theorem dX4_ask_47 : decode cX4_ask 47 = .ok (.ifCond .eq 17, 3) := by decide +kernel
theorem dX4_ask_50 : decode cX4_ask 50 = .ok (.iload 4, 2) := by decide +kernel
theorem dX4_ask_52 : decode cX4_ask 52 = .ok (.sipush 200, 3) := by decide +kernel
theorem dX4_ask_55 : decode cX4_ask 55 = .ok (.sipush 1500, 3) := by decide +kernel
theorem dX4_ask_58 : decode cX4_ask 58 = .ok (.invokestatic 84, 3) := by decide +kernel
theorem dX4_ask_61 : decode cX4_ask 61 = .ok (.ifCond .eq 15, 3) := by decide +kernel
theorem dX4_ask_64 : decode cX4_ask 64 = .ok (.iload 5, 2) := by decide +kernel
theorem dX4_ask_66 : decode cX4_ask 66 = .ok (.iconst 2, 1) := by decide +kernel
theorem dX4_ask_67 : decode cX4_ask 67 = .ok (.sipush 300, 3) := by decide +kernel
theorem dX4_ask_70 : decode cX4_ask 70 = .ok (.invokestatic 84, 3) := by decide +kernel
theorem dX4_ask_73 : decode cX4_ask 73 = .ok (.ifCond .ne 9, 3) := by decide +kernel
theorem dX4_ask_76 : decode cX4_ask 76 = .ok (.aload_n 0, 1) := by decide +kernel
theorem dX4_ask_77 : decode cX4_ask 77 = .ok (.iconst 2, 1) := by decide +kernel
theorem dX4_ask_78 : decode cX4_ask 78 = .ok (.invokevirtual 94, 3) := by decide +kernel
theorem dX4_ask_81 : decode cX4_ask 81 = .ok (.ireturn, 1) := by decide +kernel
theorem dX4_ask_82 : decode cX4_ask 82 = .ok (.aload_n 0, 1) := by decide +kernel
theorem dX4_ask_83 : decode cX4_ask 83 = .ok (.iconst 0, 1) := by decide +kernel
theorem dX4_ask_84 : decode cX4_ask 84 = .ok (.invokevirtual 128, 3) := by decide +kernel
theorem dX4_ask_87 : decode cX4_ask 87 = .ok (.bipush 30, 2) := by decide +kernel
theorem dX4_ask_89 : decode cX4_ask 89 = .ok (.if_icmp .eq 12, 3) := by decide +kernel
theorem dX4_ask_92 : decode cX4_ask 92 = .ok (.aload_n 0, 1) := by decide +kernel
theorem dX4_ask_93 : decode cX4_ask 93 = .ok (.getfield 91, 3) := by decide +kernel
theorem dX4_ask_96 : decode cX4_ask 96 = .ok (.bipush 100, 2) := by decide +kernel
theorem dX4_ask_98 : decode cX4_ask 98 = .ok (.if_icmp .ne 9, 3) := by decide +kernel
theorem dX4_ask_101 : decode cX4_ask 101 = .ok (.aload_n 0, 1) := by decide +kernel
theorem dX4_ask_102 : decode cX4_ask 102 = .ok (.iconst 3, 1) := by decide +kernel
theorem dX4_ask_103 : decode cX4_ask 103 = .ok (.invokevirtual 94, 3) := by decide +kernel
theorem dX4_ask_106 : decode cX4_ask 106 = .ok (.ireturn, 1) := by decide +kernel
theorem dX4_ask_107 : decode cX4_ask 107 = .ok (.aload_n 0, 1) := by decide +kernel
theorem dX4_ask_108 : decode cX4_ask 108 = .ok (.getfield 51, 3) := by decide +kernel
theorem dX4_ask_111 : decode cX4_ask 111 = .ok (.aload_n 0, 1) := by decide +kernel
theorem dX4_ask_112 : decode cX4_ask 112 = .ok (.getfield 91, 3) := by decide +kernel
theorem dX4_ask_115 : decode cX4_ask 115 = .ok (.iload_n 1, 1) := by decide +kernel
theorem dX4_ask_116 : decode cX4_ask 116 = .ok (.iastore, 1) := by decide +kernel
theorem dX4_ask_117 : decode cX4_ask 117 = .ok (.aload_n 0, 1) := by decide +kernel
theorem dX4_ask_118 : decode cX4_ask 118 = .ok (.getfield 54, 3) := by decide +kernel
theorem dX4_ask_121 : decode cX4_ask 121 = .ok (.aload_n 0, 1) := by decide +kernel
theorem dX4_ask_122 : decode cX4_ask 122 = .ok (.getfield 91, 3) := by decide +kernel
theorem dX4_ask_125 : decode cX4_ask 125 = .ok (.iload_n 2, 1) := by decide +kernel
theorem dX4_ask_126 : decode cX4_ask 126 = .ok (.iastore, 1) := by decide +kernel
theorem dX4_ask_127 : decode cX4_ask 127 = .ok (.aload_n 0, 1) := by decide +kernel
theorem dX4_ask_128 : decode cX4_ask 128 = .ok (.getfield 57, 3) := by decide +kernel
theorem dX4_ask_131 : decode cX4_ask 131 = .ok (.aload_n 0, 1) := by decide +kernel
theorem dX4_ask_132 : decode cX4_ask 132 = .ok (.getfield 91, 3) := by decide +kernel
theorem dX4_ask_135 : decode cX4_ask 135 = .ok (.iload_n 3, 1) := by decide +kernel
theorem dX4_ask_136 : decode cX4_ask 136 = .ok (.iastore, 1) := by decide +kernel
theorem dX4_ask_137 : decode cX4_ask 137 = .ok (.aload_n 0, 1) := by decide +kernel
theorem dX4_ask_138 : decode cX4_ask 138 = .ok (.getfield 60, 3) := by decide +kernel
theorem dX4_ask_141 : decode cX4_ask 141 = .ok (.aload_n 0, 1) := by decide +kernel
theorem dX4_ask_142 : decode cX4_ask 142 = .ok (.getfield 91, 3) := by decide +kernel
theorem dX4_ask_145 : decode cX4_ask 145 = .ok (.iload 4, 2) := by decide +kernel
theorem dX4_ask_147 : decode cX4_ask 147 = .ok (.iastore, 1) := by decide +kernel
theorem dX4_ask_148 : decode cX4_ask 148 = .ok (.aload_n 0, 1) := by decide +kernel
theorem dX4_ask_149 : decode cX4_ask 149 = .ok (.getfield 63, 3) := by decide +kernel
theorem dX4_ask_152 : decode cX4_ask 152 = .ok (.aload_n 0, 1) := by decide +kernel
theorem dX4_ask_153 : decode cX4_ask 153 = .ok (.getfield 91, 3) := by decide +kernel
theorem dX4_ask_156 : decode cX4_ask 156 = .ok (.iload 5, 2) := by decide +kernel
theorem dX4_ask_158 : decode cX4_ask 158 = .ok (.iastore, 1) := by decide +kernel
theorem dX4_ask_159 : decode cX4_ask 159 = .ok (.aload_n 0, 1) := by decide +kernel
theorem dX4_ask_160 : decode cX4_ask 160 = .ok (.getfield 66, 3) := by decide +kernel
theorem dX4_ask_163 : decode cX4_ask 163 = .ok (.aload_n 0, 1) := by decide +kernel
theorem dX4_ask_164 : decode cX4_ask 164 = .ok (.getfield 91, 3) := by decide +kernel
theorem dX4_ask_167 : decode cX4_ask 167 = .ok (.aload_n 0, 1) := by decide +kernel
theorem dX4_ask_168 : decode cX4_ask 168 = .ok (.getfield 131, 3) := by decide +kernel
theorem dX4_ask_171 : decode cX4_ask 171 = .ok (.iastore, 1) := by decide +kernel
theorem dX4_ask_172 : decode cX4_ask 172 = .ok (.aload_n 0, 1) := by decide +kernel
theorem dX4_ask_173 : decode cX4_ask 173 = .ok (.getfield 69, 3) := by decide +kernel
theorem dX4_ask_176 : decode cX4_ask 176 = .ok (.aload_n 0, 1) := by decide +kernel
theorem dX4_ask_177 : decode cX4_ask 177 = .ok (.getfield 91, 3) := by decide +kernel
theorem dX4_ask_180 : decode cX4_ask 180 = .ok (.iconst (-1), 1) := by decide +kernel
theorem dX4_ask_181 : decode cX4_ask 181 = .ok (.iastore, 1) := by decide +kernel
theorem dX4_ask_182 : decode cX4_ask 182 = .ok (.aload_n 0, 1) := by decide +kernel
theorem dX4_ask_183 : decode cX4_ask 183 = .ok (.getfield 72, 3) := by decide +kernel
theorem dX4_ask_186 : decode cX4_ask 186 = .ok (.aload_n 0, 1) := by decide +kernel
theorem dX4_ask_187 : decode cX4_ask 187 = .ok (.getfield 91, 3) := by decide +kernel
theorem dX4_ask_190 : decode cX4_ask 190 = .ok (.iconst (-1), 1) := by decide +kernel
theorem dX4_ask_191 : decode cX4_ask 191 = .ok (.iastore, 1) := by decide +kernel
theorem dX4_ask_192 : decode cX4_ask 192 = .ok (.aload_n 0, 1) := by decide +kernel
theorem dX4_ask_193 : decode cX4_ask 193 = .ok (.getfield 75, 3) := by decide +kernel
theorem dX4_ask_196 : decode cX4_ask 196 = .ok (.aload_n 0, 1) := by decide +kernel
theorem dX4_ask_197 : decode cX4_ask 197 = .ok (.getfield 91, 3) := by decide +kernel
theorem dX4_ask_200 : decode cX4_ask 200 = .ok (.iconst 0, 1) := by decide +kernel
theorem dX4_ask_201 : decode cX4_ask 201 = .ok (.iastore, 1) := by decide +kernel
theorem dX4_ask_202 : decode cX4_ask 202 = .ok (.aload_n 0, 1) := by decide +kernel
theorem dX4_ask_203 : decode cX4_ask 203 = .ok (.dup, 1) := by decide +kernel
theorem dX4_ask_204 : decode cX4_ask 204 = .ok (.getfield 91, 3) := by decide +kernel
theorem dX4_ask_207 : decode cX4_ask 207 = .ok (.iconst 1, 1) := by decide +kernel
theorem dX4_ask_208 : decode cX4_ask 208 = .ok (.iadd, 1) := by decide +kernel
theorem dX4_ask_209 : decode cX4_ask 209 = .ok (.putfield 91, 3) := by decide +kernel
theorem dX4_ask_212 : decode cX4_ask 212 = .ok (.aload_n 0, 1) := by decide +kernel
theorem dX4_ask_213 : decode cX4_ask 213 = .ok (.getfield 91, 3) := by decide +kernel
theorem dX4_ask_216 : decode cX4_ask 216 = .ok (.iconst 1, 1) := by decide +kernel
theorem dX4_ask_217 : decode cX4_ask 217 = .ok (.isub, 1) := by decide +kernel
theorem dX4_ask_218 : decode cX4_ask 218 = .ok (.ireturn, 1) := by decide +kernel
theorem dX4_place_0 : decode cX4_place 0 = .ok (.iconst 0, 1) := by decide +kernel
theorem dX4_place_1 : decode cX4_place 1 = .ok (.istore_n 2, 1) := by decide +kernel
theorem dX4_place_2 : decode cX4_place 2 = .ok (.iconst 0, 1) := by decide +kernel
theorem dX4_place_3 : decode cX4_place 3 = .ok (.istore_n 3, 1) := by decide +kernel
theorem dX4_place_4 : decode cX4_place 4 = .ok (.iload_n 3, 1) := by decide +kernel
theorem dX4_place_5 : decode cX4_place 5 = .ok (.iload_n 1, 1) := by decide +kernel
theorem dX4_place_6 : decode cX4_place 6 = .ok (.if_icmp .ge 26, 3) := by decide +kernel
theorem dX4_place_9 : decode cX4_place 9 = .ok (.iload_n 2, 1) := by decide +kernel
theorem dX4_place_10 : decode cX4_place 10 = .ok (.aload_n 0, 1) := by decide +kernel
theorem dX4_place_11 : decode cX4_place 11 = .ok (.getfield 75, 3) := by decide +kernel
theorem dX4_place_14 : decode cX4_place 14 = .ok (.iload_n 3, 1) := by decide +kernel
theorem dX4_place_15 : decode cX4_place 15 = .ok (.iaload, 1) := by decide +kernel
theorem dX4_place_16 : decode cX4_place 16 = .ok (.ifCond .ne 7, 3) := by decide +kernel
theorem dX4_place_19 : decode cX4_place 19 = .ok (.iconst 1, 1) := by decide +kernel
theorem dX4_place_20 : decode cX4_place 20 = .ok (.goto 4, 3) := by decide +kernel
theorem dX4_place_23 : decode cX4_place 23 = .ok (.iconst 0, 1) := by decide +kernel
theorem dX4_place_24 : decode cX4_place 24 = .ok (.iadd, 1) := by decide +kernel
theorem dX4_place_25 : decode cX4_place 25 = .ok (.istore_n 2, 1) := by decide +kernel
theorem dX4_place_26 : decode cX4_place 26 = .ok (.iinc 3 1, 3) := by decide +kernel
theorem dX4_place_29 : decode cX4_place 29 = .ok (.goto (-25), 3) := by decide +kernel
theorem dX4_place_32 : decode cX4_place 32 = .ok (.iload_n 2, 1) := by decide +kernel
theorem dX4_place_33 : decode cX4_place 33 = .ok (.ireturn, 1) := by decide +kernel
theorem dX4_drop_0 : decode cX4_drop 0 = .ok (.aload_n 0, 1) := by decide +kernel
theorem dX4_drop_1 : decode cX4_drop 1 = .ok (.iconst 0, 1) := by decide +kernel
theorem dX4_drop_2 : decode cX4_drop 2 = .ok (.putfield 78, 3) := by decide +kernel
theorem dX4_drop_5 : decode cX4_drop 5 = .ok (.aload_n 0, 1) := by decide +kernel
theorem dX4_drop_6 : decode cX4_drop 6 = .ok (.iload_n 1, 1) := by decide +kernel
theorem dX4_drop_7 : decode cX4_drop 7 = .ok (.invokevirtual 134, 3) := by decide +kernel
theorem dX4_drop_10 : decode cX4_drop 10 = .ok (.ifCond .ne 9, 3) := by decide +kernel
theorem dX4_drop_13 : decode cX4_drop 13 = .ok (.aload_n 0, 1) := by decide +kernel
theorem dX4_drop_14 : decode cX4_drop 14 = .ok (.iconst 1, 1) := by decide +kernel
theorem dX4_drop_15 : decode cX4_drop 15 = .ok (.invokevirtual 94, 3) := by decide +kernel
theorem dX4_drop_18 : decode cX4_drop 18 = .ok (.ireturn, 1) := by decide +kernel
theorem dX4_drop_19 : decode cX4_drop 19 = .ok (.aload_n 0, 1) := by decide +kernel
theorem dX4_drop_20 : decode cX4_drop 20 = .ok (.getfield 75, 3) := by decide +kernel
theorem dX4_drop_23 : decode cX4_drop 23 = .ok (.iload_n 1, 1) := by decide +kernel
theorem dX4_drop_24 : decode cX4_drop 24 = .ok (.iaload, 1) := by decide +kernel
theorem dX4_drop_25 : decode cX4_drop 25 = .ok (.ifCond .eq 9, 3) := by decide +kernel
theorem dX4_drop_28 : decode cX4_drop 28 = .ok (.aload_n 0, 1) := by decide +kernel
theorem dX4_drop_29 : decode cX4_drop 29 = .ok (.iconst 2, 1) := by decide +kernel
theorem dX4_drop_30 : decode cX4_drop 30 = .ok (.invokevirtual 94, 3) := by decide +kernel
theorem dX4_drop_33 : decode cX4_drop 33 = .ok (.ireturn, 1) := by decide +kernel
theorem dX4_drop_34 : decode cX4_drop 34 = .ok (.aload_n 0, 1) := by decide +kernel
theorem dX4_drop_35 : decode cX4_drop 35 = .ok (.getfield 75, 3) := by decide +kernel
theorem dX4_drop_38 : decode cX4_drop 38 = .ok (.iload_n 1, 1) := by decide +kernel
theorem dX4_drop_39 : decode cX4_drop 39 = .ok (.iconst 3, 1) := by decide +kernel
theorem dX4_drop_40 : decode cX4_drop 40 = .ok (.iastore, 1) := by decide +kernel
theorem dX4_drop_41 : decode cX4_drop 41 = .ok (.aload_n 0, 1) := by decide +kernel
theorem dX4_drop_42 : decode cX4_drop 42 = .ok (.iload_n 1, 1) := by decide +kernel
theorem dX4_drop_43 : decode cX4_drop 43 = .ok (.invokevirtual 137, 3) := by decide +kernel
theorem dX4_drop_46 : decode cX4_drop 46 = .ok (.ireturn, 1) := by decide +kernel
theorem dX4_list_0 : decode cX4_list 0 = .ok (.aload_n 0, 1) := by decide +kernel
theorem dX4_list_1 : decode cX4_list 1 = .ok (.iconst 0, 1) := by decide +kernel
theorem dX4_list_2 : decode cX4_list 2 = .ok (.putfield 78, 3) := by decide +kernel
theorem dX4_list_5 : decode cX4_list 5 = .ok (.iload_n 1, 1) := by decide +kernel
theorem dX4_list_6 : decode cX4_list 6 = .ok (.ifCond .ge 9, 3) := by decide +kernel
theorem dX4_list_9 : decode cX4_list 9 = .ok (.aload_n 0, 1) := by decide +kernel
theorem dX4_list_10 : decode cX4_list 10 = .ok (.iconst 1, 1) := by decide +kernel
theorem dX4_list_11 : decode cX4_list 11 = .ok (.invokevirtual 94, 3) := by decide +kernel
theorem dX4_list_14 : decode cX4_list 14 = .ok (.ireturn, 1) := by decide +kernel
theorem dX4_list_15 : decode cX4_list 15 = .ok (.iconst 0, 1) := by decide +kernel
theorem dX4_list_16 : decode cX4_list 16 = .ok (.istore_n 2, 1) := by decide +kernel
theorem dX4_list_17 : decode cX4_list 17 = .ok (.iload_n 2, 1) := by decide +kernel
theorem dX4_list_18 : decode cX4_list 18 = .ok (.aload_n 0, 1) := by decide +kernel
theorem dX4_list_19 : decode cX4_list 19 = .ok (.getfield 91, 3) := by decide +kernel
theorem dX4_list_22 : decode cX4_list 22 = .ok (.if_icmp .ge 29, 3) := by decide +kernel
theorem dX4_list_25 : decode cX4_list 25 = .ok (.aload_n 0, 1) := by decide +kernel
theorem dX4_list_26 : decode cX4_list 26 = .ok (.getfield 75, 3) := by decide +kernel
theorem dX4_list_29 : decode cX4_list 29 = .ok (.iload_n 2, 1) := by decide +kernel
theorem dX4_list_30 : decode cX4_list 30 = .ok (.iaload, 1) := by decide +kernel
theorem dX4_list_31 : decode cX4_list 31 = .ok (.ifCond .ne 14, 3) := by decide +kernel
theorem dX4_list_34 : decode cX4_list 34 = .ok (.aload_n 0, 1) := by decide +kernel
theorem dX4_list_35 : decode cX4_list 35 = .ok (.iload_n 2, 1) := by decide +kernel
theorem dX4_list_36 : decode cX4_list 36 = .ok (.invokevirtual 137, 3) := by decide +kernel
theorem dX4_list_39 : decode cX4_list 39 = .ok (.iload_n 1, 1) := by decide +kernel
theorem dX4_list_40 : decode cX4_list 40 = .ok (.if_icmp .ne 5, 3) := by decide +kernel
theorem dX4_list_43 : decode cX4_list 43 = .ok (.iload_n 2, 1) := by decide +kernel
theorem dX4_list_44 : decode cX4_list 44 = .ok (.ireturn, 1) := by decide +kernel
theorem dX4_list_45 : decode cX4_list 45 = .ok (.iinc 2 1, 3) := by decide +kernel
theorem dX4_list_48 : decode cX4_list 48 = .ok (.goto (-31), 3) := by decide +kernel
theorem dX4_list_51 : decode cX4_list 51 = .ok (.iconst (-1), 1) := by decide +kernel
theorem dX4_list_52 : decode cX4_list 52 = .ok (.ireturn, 1) := by decide +kernel
theorem dX4_isBusyNow_0 : decode cX4_isBusyNow 0 = .ok (.aload_n 0, 1) := by decide +kernel
theorem dX4_isBusyNow_1 : decode cX4_isBusyNow 1 = .ok (.getfield 131, 3) := by decide +kernel
theorem dX4_isBusyNow_4 : decode cX4_isBusyNow 4 = .ok (.aload_n 0, 1) := by decide +kernel
theorem dX4_isBusyNow_5 : decode cX4_isBusyNow 5 = .ok (.getfield 140, 3) := by decide +kernel
theorem dX4_isBusyNow_8 : decode cX4_isBusyNow 8 = .ok (.if_icmp .ge 7, 3) := by decide +kernel
theorem dX4_isBusyNow_11 : decode cX4_isBusyNow 11 = .ok (.iconst 1, 1) := by decide +kernel
theorem dX4_isBusyNow_12 : decode cX4_isBusyNow 12 = .ok (.goto 4, 3) := by decide +kernel
theorem dX4_isBusyNow_15 : decode cX4_isBusyNow 15 = .ok (.iconst 0, 1) := by decide +kernel
theorem dX4_isBusyNow_16 : decode cX4_isBusyNow 16 = .ok (.ireturn, 1) := by decide +kernel
theorem dX4_windOf_0 : decode cX4_windOf 0 = .ok (.iload_n 0, 1) := by decide +kernel
theorem dX4_windOf_1 : decode cX4_windOf 1 = .ok (.ifCond .ne 7, 3) := by decide +kernel
theorem dX4_windOf_4 : decode cX4_windOf 4 = .ok (.iconst 0, 1) := by decide +kernel
theorem dX4_windOf_5 : decode cX4_windOf 5 = .ok (.goto 25, 3) := by decide +kernel
theorem dX4_windOf_8 : decode cX4_windOf 8 = .ok (.iload_n 0, 1) := by decide +kernel
theorem dX4_windOf_9 : decode cX4_windOf 9 = .ok (.iconst 1, 1) := by decide +kernel
theorem dX4_windOf_10 : decode cX4_windOf 10 = .ok (.if_icmp .ne 8, 3) := by decide +kernel
theorem dX4_windOf_13 : decode cX4_windOf 13 = .ok (.bipush 12, 2) := by decide +kernel
theorem dX4_windOf_15 : decode cX4_windOf 15 = .ok (.goto 15, 3) := by decide +kernel
theorem dX4_windOf_18 : decode cX4_windOf 18 = .ok (.iload_n 0, 1) := by decide +kernel
theorem dX4_windOf_19 : decode cX4_windOf 19 = .ok (.iconst 2, 1) := by decide +kernel
theorem dX4_windOf_20 : decode cX4_windOf 20 = .ok (.if_icmp .ne 8, 3) := by decide +kernel
theorem dX4_windOf_23 : decode cX4_windOf 23 = .ok (.bipush 25, 2) := by decide +kernel
theorem dX4_windOf_25 : decode cX4_windOf 25 = .ok (.goto 5, 3) := by decide +kernel
theorem dX4_windOf_28 : decode cX4_windOf 28 = .ok (.bipush 30, 2) := by decide +kernel
theorem dX4_windOf_30 : decode cX4_windOf 30 = .ok (.ireturn, 1) := by decide +kernel
theorem dX4_reasonOf_0 : decode cX4_reasonOf 0 = .ok (.aload_n 0, 1) := by decide +kernel
theorem dX4_reasonOf_1 : decode cX4_reasonOf 1 = .ok (.getfield 51, 3) := by decide +kernel
theorem dX4_reasonOf_4 : decode cX4_reasonOf 4 = .ok (.iload_n 1, 1) := by decide +kernel
theorem dX4_reasonOf_5 : decode cX4_reasonOf 5 = .ok (.iaload, 1) := by decide +kernel
theorem dX4_reasonOf_6 : decode cX4_reasonOf 6 = .ok (.istore_n 2, 1) := by decide +kernel
theorem dX4_reasonOf_7 : decode cX4_reasonOf 7 = .ok (.aload_n 0, 1) := by decide +kernel
theorem dX4_reasonOf_8 : decode cX4_reasonOf 8 = .ok (.getfield 26, 3) := by decide +kernel
theorem dX4_reasonOf_11 : decode cX4_reasonOf 11 = .ok (.iload_n 2, 1) := by decide +kernel
theorem dX4_reasonOf_12 : decode cX4_reasonOf 12 = .ok (.iaload, 1) := by decide +kernel
theorem dX4_reasonOf_13 : decode cX4_reasonOf 13 = .ok (.istore_n 3, 1) := by decide +kernel
theorem dX4_reasonOf_14 : decode cX4_reasonOf 14 = .ok (.aload_n 0, 1) := by decide +kernel
theorem dX4_reasonOf_15 : decode cX4_reasonOf 15 = .ok (.iload_n 2, 1) := by decide +kernel
theorem dX4_reasonOf_16 : decode cX4_reasonOf 16 = .ok (.invokevirtual 119, 3) := by decide +kernel
theorem dX4_reasonOf_19 : decode cX4_reasonOf 19 = .ok (.ifCond .ne 26, 3) := by decide +kernel
theorem dX4_reasonOf_22 : decode cX4_reasonOf 22 = .ok (.aload_n 0, 1) := by decide +kernel
theorem dX4_reasonOf_23 : decode cX4_reasonOf 23 = .ok (.getfield 54, 3) := by decide +kernel
theorem dX4_reasonOf_26 : decode cX4_reasonOf 26 = .ok (.iload_n 1, 1) := by decide +kernel
theorem dX4_reasonOf_27 : decode cX4_reasonOf 27 = .ok (.iaload, 1) := by decide +kernel
theorem dX4_reasonOf_28 : decode cX4_reasonOf 28 = .ok (.iconst (-1), 1) := by decide +kernel
theorem dX4_reasonOf_29 : decode cX4_reasonOf 29 = .ok (.if_icmp .eq 18, 3) := by decide +kernel
theorem dX4_reasonOf_32 : decode cX4_reasonOf 32 = .ok (.aload_n 0, 1) := by decide +kernel
theorem dX4_reasonOf_33 : decode cX4_reasonOf 33 = .ok (.aload_n 0, 1) := by decide +kernel
theorem dX4_reasonOf_34 : decode cX4_reasonOf 34 = .ok (.getfield 54, 3) := by decide +kernel
theorem dX4_reasonOf_37 : decode cX4_reasonOf 37 = .ok (.iload_n 1, 1) := by decide +kernel
theorem dX4_reasonOf_38 : decode cX4_reasonOf 38 = .ok (.iaload, 1) := by decide +kernel
theorem dX4_reasonOf_39 : decode cX4_reasonOf 39 = .ok (.invokevirtual 119, 3) := by decide +kernel
theorem dX4_reasonOf_42 : decode cX4_reasonOf 42 = .ok (.ifCond .eq 5, 3) := by decide +kernel
theorem dX4_reasonOf_45 : decode cX4_reasonOf 45 = .ok (.iconst 1, 1) := by decide +kernel
theorem dX4_reasonOf_46 : decode cX4_reasonOf 46 = .ok (.ireturn, 1) := by decide +kernel
theorem dX4_reasonOf_47 : decode cX4_reasonOf 47 = .ok (.aload_n 0, 1) := by decide +kernel
theorem dX4_reasonOf_48 : decode cX4_reasonOf 48 = .ok (.aload_n 0, 1) := by decide +kernel
theorem dX4_reasonOf_49 : decode cX4_reasonOf 49 = .ok (.getfield 57, 3) := by decide +kernel
theorem dX4_reasonOf_52 : decode cX4_reasonOf 52 = .ok (.iload_n 1, 1) := by decide +kernel
theorem dX4_reasonOf_53 : decode cX4_reasonOf 53 = .ok (.iaload, 1) := by decide +kernel
theorem dX4_reasonOf_54 : decode cX4_reasonOf 54 = .ok (.invokevirtual 106, 3) := by decide +kernel
theorem dX4_reasonOf_57 : decode cX4_reasonOf 57 = .ok (.iconst (-1), 1) := by decide +kernel
theorem dX4_reasonOf_58 : decode cX4_reasonOf 58 = .ok (.if_icmp .ne 17, 3) := by decide +kernel
theorem dX4_reasonOf_61 : decode cX4_reasonOf 61 = .ok (.aload_n 0, 1) := by decide +kernel
theorem dX4_reasonOf_62 : decode cX4_reasonOf 62 = .ok (.getfield 41, 3) := by decide +kernel
theorem dX4_reasonOf_65 : decode cX4_reasonOf 65 = .ok (.aload_n 0, 1) := by decide +kernel
theorem dX4_reasonOf_66 : decode cX4_reasonOf 66 = .ok (.getfield 57, 3) := by decide +kernel
theorem dX4_reasonOf_69 : decode cX4_reasonOf 69 = .ok (.iload_n 1, 1) := by decide +kernel
theorem dX4_reasonOf_70 : decode cX4_reasonOf 70 = .ok (.iaload, 1) := by decide +kernel
theorem dX4_reasonOf_71 : decode cX4_reasonOf 71 = .ok (.baload, 1) := by decide +kernel
theorem dX4_reasonOf_72 : decode cX4_reasonOf 72 = .ok (.ifCond .eq 5, 3) := by decide +kernel
theorem dX4_reasonOf_75 : decode cX4_reasonOf 75 = .ok (.iconst 2, 1) := by decide +kernel
theorem dX4_reasonOf_76 : decode cX4_reasonOf 76 = .ok (.ireturn, 1) := by decide +kernel
theorem dX4_reasonOf_77 : decode cX4_reasonOf 77 = .ok (.aload_n 0, 1) := by decide +kernel
theorem dX4_reasonOf_78 : decode cX4_reasonOf 78 = .ok (.getfield 54, 3) := by decide +kernel
theorem dX4_reasonOf_81 : decode cX4_reasonOf 81 = .ok (.iload_n 1, 1) := by decide +kernel
theorem dX4_reasonOf_82 : decode cX4_reasonOf 82 = .ok (.iaload, 1) := by decide +kernel
theorem dX4_reasonOf_83 : decode cX4_reasonOf 83 = .ok (.iconst (-1), 1) := by decide +kernel
theorem dX4_reasonOf_84 : decode cX4_reasonOf 84 = .ok (.if_icmp .eq 20, 3) := by decide +kernel
theorem dX4_reasonOf_87 : decode cX4_reasonOf 87 = .ok (.aload_n 0, 1) := by decide +kernel
theorem dX4_reasonOf_88 : decode cX4_reasonOf 88 = .ok (.getfield 32, 3) := by decide +kernel
theorem dX4_reasonOf_91 : decode cX4_reasonOf 91 = .ok (.aload_n 0, 1) := by decide +kernel
theorem dX4_reasonOf_92 : decode cX4_reasonOf 92 = .ok (.getfield 57, 3) := by decide +kernel
theorem dX4_reasonOf_95 : decode cX4_reasonOf 95 = .ok (.iload_n 1, 1) := by decide +kernel
theorem dX4_reasonOf_96 : decode cX4_reasonOf 96 = .ok (.iaload, 1) := by decide +kernel
theorem dX4_reasonOf_97 : decode cX4_reasonOf 97 = .ok (.iaload, 1) := by decide +kernel
theorem dX4_reasonOf_98 : decode cX4_reasonOf 98 = .ok (.iconst 1, 1) := by decide +kernel
theorem dX4_reasonOf_99 : decode cX4_reasonOf 99 = .ok (.if_icmp .ne 5, 3) := by decide +kernel
theorem dX4_reasonOf_102 : decode cX4_reasonOf 102 = .ok (.iconst 3, 1) := by decide +kernel
theorem dX4_reasonOf_103 : decode cX4_reasonOf 103 = .ok (.ireturn, 1) := by decide +kernel
theorem dX4_reasonOf_104 : decode cX4_reasonOf 104 = .ok (.aload_n 0, 1) := by decide +kernel
theorem dX4_reasonOf_105 : decode cX4_reasonOf 105 = .ok (.iload_n 1, 1) := by decide +kernel
theorem dX4_reasonOf_106 : decode cX4_reasonOf 106 = .ok (.invokevirtual 109, 3) := by decide +kernel
theorem dX4_reasonOf_109 : decode cX4_reasonOf 109 = .ok (.ifCond .ne 23, 3) := by decide +kernel
theorem dX4_reasonOf_112 : decode cX4_reasonOf 112 = .ok (.iload_n 3, 1) := by decide +kernel
theorem dX4_reasonOf_113 : decode cX4_reasonOf 113 = .ok (.ifCond .eq 17, 3) := by decide +kernel
theorem dX4_reasonOf_116 : decode cX4_reasonOf 116 = .ok (.iload_n 3, 1) := by decide +kernel
theorem dX4_reasonOf_117 : decode cX4_reasonOf 117 = .ok (.iconst 1, 1) := by decide +kernel
theorem dX4_reasonOf_118 : decode cX4_reasonOf 118 = .ok (.if_icmp .ne 14, 3) := by decide +kernel
theorem dX4_reasonOf_121 : decode cX4_reasonOf 121 = .ok (.aload_n 0, 1) := by decide +kernel
theorem dX4_reasonOf_122 : decode cX4_reasonOf 122 = .ok (.iload_n 2, 1) := by decide +kernel
theorem dX4_reasonOf_123 : decode cX4_reasonOf 123 = .ok (.iconst 4, 1) := by decide +kernel
theorem dX4_reasonOf_124 : decode cX4_reasonOf 124 = .ok (.invokevirtual 115, 3) := by decide +kernel
theorem dX4_reasonOf_127 : decode cX4_reasonOf 127 = .ok (.ifCond .ne 5, 3) := by decide +kernel
theorem dX4_reasonOf_130 : decode cX4_reasonOf 130 = .ok (.iconst 4, 1) := by decide +kernel
theorem dX4_reasonOf_131 : decode cX4_reasonOf 131 = .ok (.ireturn, 1) := by decide +kernel
theorem dX4_reasonOf_132 : decode cX4_reasonOf 132 = .ok (.aload_n 0, 1) := by decide +kernel
theorem dX4_reasonOf_133 : decode cX4_reasonOf 133 = .ok (.getfield 7, 3) := by decide +kernel
theorem dX4_reasonOf_136 : decode cX4_reasonOf 136 = .ok (.aload_n 0, 1) := by decide +kernel
theorem dX4_reasonOf_137 : decode cX4_reasonOf 137 = .ok (.getfield 38, 3) := by decide +kernel
theorem dX4_reasonOf_140 : decode cX4_reasonOf 140 = .ok (.aload_n 0, 1) := by decide +kernel
theorem dX4_reasonOf_141 : decode cX4_reasonOf 141 = .ok (.getfield 57, 3) := by decide +kernel
theorem dX4_reasonOf_144 : decode cX4_reasonOf 144 = .ok (.iload_n 1, 1) := by decide +kernel
theorem dX4_reasonOf_145 : decode cX4_reasonOf 145 = .ok (.iaload, 1) := by decide +kernel
theorem dX4_reasonOf_146 : decode cX4_reasonOf 146 = .ok (.iaload, 1) := by decide +kernel
theorem dX4_reasonOf_147 : decode cX4_reasonOf 147 = .ok (.if_icmp .gt 26, 3) := by decide +kernel
theorem dX4_reasonOf_150 : decode cX4_reasonOf 150 = .ok (.aload_n 0, 1) := by decide +kernel
theorem dX4_reasonOf_151 : decode cX4_reasonOf 151 = .ok (.getfield 7, 3) := by decide +kernel
theorem dX4_reasonOf_154 : decode cX4_reasonOf 154 = .ok (.aload_n 0, 1) := by decide +kernel
theorem dX4_reasonOf_155 : decode cX4_reasonOf 155 = .ok (.iload_n 1, 1) := by decide +kernel
theorem dX4_reasonOf_156 : decode cX4_reasonOf 156 = .ok (.invokevirtual 109, 3) := by decide +kernel
theorem dX4_reasonOf_159 : decode cX4_reasonOf 159 = .ok (.ifCond .eq 7, 3) := by decide +kernel
theorem dX4_reasonOf_162 : decode cX4_reasonOf 162 = .ok (.iconst 3, 1) := by decide +kernel
theorem dX4_reasonOf_163 : decode cX4_reasonOf 163 = .ok (.goto 4, 3) := by decide +kernel
theorem dX4_reasonOf_166 : decode cX4_reasonOf 166 = .ok (.iload_n 3, 1) := by decide +kernel
theorem dX4_reasonOf_167 : decode cX4_reasonOf 167 = .ok (.invokestatic 143, 3) := by decide +kernel
theorem dX4_reasonOf_170 : decode cX4_reasonOf 170 = .ok (.if_icmp .le 5, 3) := by decide +kernel
theorem dX4_reasonOf_173 : decode cX4_reasonOf 173 = .ok (.iconst 5, 1) := by decide +kernel
theorem dX4_reasonOf_174 : decode cX4_reasonOf 174 = .ok (.ireturn, 1) := by decide +kernel
theorem dX4_reasonOf_175 : decode cX4_reasonOf 175 = .ok (.aload_n 0, 1) := by decide +kernel
theorem dX4_reasonOf_176 : decode cX4_reasonOf 176 = .ok (.getfield 13, 3) := by decide +kernel
theorem dX4_reasonOf_179 : decode cX4_reasonOf 179 = .ok (.aload_n 0, 1) := by decide +kernel
theorem dX4_reasonOf_180 : decode cX4_reasonOf 180 = .ok (.getfield 131, 3) := by decide +kernel
theorem dX4_reasonOf_183 : decode cX4_reasonOf 183 = .ok (.isub, 1) := by decide +kernel
theorem dX4_reasonOf_184 : decode cX4_reasonOf 184 = .ok (.bipush 10, 2) := by decide +kernel
theorem dX4_reasonOf_186 : decode cX4_reasonOf 186 = .ok (.if_icmp .ge 6, 3) := by decide +kernel
theorem dX4_reasonOf_189 : decode cX4_reasonOf 189 = .ok (.bipush 6, 2) := by decide +kernel
theorem dX4_reasonOf_191 : decode cX4_reasonOf 191 = .ok (.ireturn, 1) := by decide +kernel
theorem dX4_reasonOf_192 : decode cX4_reasonOf 192 = .ok (.aload_n 0, 1) := by decide +kernel
theorem dX4_reasonOf_193 : decode cX4_reasonOf 193 = .ok (.getfield 60, 3) := by decide +kernel
theorem dX4_reasonOf_196 : decode cX4_reasonOf 196 = .ok (.iload_n 1, 1) := by decide +kernel
theorem dX4_reasonOf_197 : decode cX4_reasonOf 197 = .ok (.iaload, 1) := by decide +kernel
theorem dX4_reasonOf_198 : decode cX4_reasonOf 198 = .ok (.ifCond .ne 13, 3) := by decide +kernel
theorem dX4_reasonOf_201 : decode cX4_reasonOf 201 = .ok (.aload_n 0, 1) := by decide +kernel
theorem dX4_reasonOf_202 : decode cX4_reasonOf 202 = .ok (.getfield 16, 3) := by decide +kernel
theorem dX4_reasonOf_205 : decode cX4_reasonOf 205 = .ok (.ifCond .ne 20, 3) := by decide +kernel
theorem dX4_reasonOf_208 : decode cX4_reasonOf 208 = .ok (.goto 14, 3) := by decide +kernel
theorem dX4_reasonOf_211 : decode cX4_reasonOf 211 = .ok (.aload_n 0, 1) := by decide +kernel
theorem dX4_reasonOf_212 : decode cX4_reasonOf 212 = .ok (.invokevirtual 98, 3) := by decide +kernel
theorem dX4_reasonOf_215 : decode cX4_reasonOf 215 = .ok (.aload_n 0, 1) := by decide +kernel
theorem dX4_reasonOf_216 : decode cX4_reasonOf 216 = .ok (.getfield 19, 3) := by decide +kernel
theorem dX4_reasonOf_219 : decode cX4_reasonOf 219 = .ok (.if_icmp .lt 6, 3) := by decide +kernel
theorem dX4_reasonOf_222 : decode cX4_reasonOf 222 = .ok (.bipush 7, 2) := by decide +kernel
theorem dX4_reasonOf_224 : decode cX4_reasonOf 224 = .ok (.ireturn, 1) := by decide +kernel
theorem dX4_reasonOf_225 : decode cX4_reasonOf 225 = .ok (.aload_n 0, 1) := by decide +kernel
theorem dX4_reasonOf_226 : decode cX4_reasonOf 226 = .ok (.invokevirtual 146, 3) := by decide +kernel
theorem dX4_reasonOf_229 : decode cX4_reasonOf 229 = .ok (.ifCond .eq 8, 3) := by decide +kernel
theorem dX4_reasonOf_232 : decode cX4_reasonOf 232 = .ok (.bipush 8, 2) := by decide +kernel
theorem dX4_reasonOf_234 : decode cX4_reasonOf 234 = .ok (.goto 4, 3) := by decide +kernel
theorem dX4_reasonOf_237 : decode cX4_reasonOf 237 = .ok (.iconst 0, 1) := by decide +kernel
theorem dX4_reasonOf_238 : decode cX4_reasonOf 238 = .ok (.ireturn, 1) := by decide +kernel
theorem dX4_reason_0 : decode cX4_reason 0 = .ok (.aload_n 0, 1) := by decide +kernel
theorem dX4_reason_1 : decode cX4_reason 1 = .ok (.iconst 0, 1) := by decide +kernel
theorem dX4_reason_2 : decode cX4_reason 2 = .ok (.putfield 78, 3) := by decide +kernel
theorem dX4_reason_5 : decode cX4_reason 5 = .ok (.aload_n 0, 1) := by decide +kernel
theorem dX4_reason_6 : decode cX4_reason 6 = .ok (.iload_n 1, 1) := by decide +kernel
theorem dX4_reason_7 : decode cX4_reason 7 = .ok (.invokevirtual 134, 3) := by decide +kernel
theorem dX4_reason_10 : decode cX4_reason 10 = .ok (.ifCond .ne 9, 3) := by decide +kernel
theorem dX4_reason_13 : decode cX4_reason 13 = .ok (.aload_n 0, 1) := by decide +kernel
theorem dX4_reason_14 : decode cX4_reason 14 = .ok (.iconst 1, 1) := by decide +kernel
theorem dX4_reason_15 : decode cX4_reason 15 = .ok (.invokevirtual 94, 3) := by decide +kernel
theorem dX4_reason_18 : decode cX4_reason 18 = .ok (.ireturn, 1) := by decide +kernel
theorem dX4_reason_19 : decode cX4_reason 19 = .ok (.aload_n 0, 1) := by decide +kernel
theorem dX4_reason_20 : decode cX4_reason 20 = .ok (.getfield 75, 3) := by decide +kernel
theorem dX4_reason_23 : decode cX4_reason 23 = .ok (.iload_n 1, 1) := by decide +kernel
theorem dX4_reason_24 : decode cX4_reason 24 = .ok (.iaload, 1) := by decide +kernel
theorem dX4_reason_25 : decode cX4_reason 25 = .ok (.ifCond .ne 11, 3) := by decide +kernel
theorem dX4_reason_28 : decode cX4_reason 28 = .ok (.aload_n 0, 1) := by decide +kernel
theorem dX4_reason_29 : decode cX4_reason 29 = .ok (.iload_n 1, 1) := by decide +kernel
theorem dX4_reason_30 : decode cX4_reason 30 = .ok (.invokevirtual 150, 3) := by decide +kernel
theorem dX4_reason_33 : decode cX4_reason 33 = .ok (.goto 8, 3) := by decide +kernel
theorem dX4_reason_36 : decode cX4_reason 36 = .ok (.aload_n 0, 1) := by decide +kernel
theorem dX4_reason_37 : decode cX4_reason 37 = .ok (.iconst 2, 1) := by decide +kernel
theorem dX4_reason_38 : decode cX4_reason 38 = .ok (.invokevirtual 94, 3) := by decide +kernel
theorem dX4_reason_41 : decode cX4_reason 41 = .ok (.ireturn, 1) := by decide +kernel
theorem dX4_call_0 : decode cX4_call 0 = .ok (.aload_n 0, 1) := by decide +kernel
theorem dX4_call_1 : decode cX4_call 1 = .ok (.iconst 0, 1) := by decide +kernel
theorem dX4_call_2 : decode cX4_call 2 = .ok (.putfield 78, 3) := by decide +kernel
theorem dX4_call_5 : decode cX4_call 5 = .ok (.aload_n 0, 1) := by decide +kernel
theorem dX4_call_6 : decode cX4_call 6 = .ok (.iload_n 1, 1) := by decide +kernel
theorem dX4_call_7 : decode cX4_call 7 = .ok (.invokevirtual 102, 3) := by decide +kernel
theorem dX4_call_10 : decode cX4_call 10 = .ok (.ifCond .ne 9, 3) := by decide +kernel
theorem dX4_call_13 : decode cX4_call 13 = .ok (.aload_n 0, 1) := by decide +kernel
theorem dX4_call_14 : decode cX4_call 14 = .ok (.iconst 1, 1) := by decide +kernel
theorem dX4_call_15 : decode cX4_call 15 = .ok (.invokevirtual 94, 3) := by decide +kernel
theorem dX4_call_18 : decode cX4_call 18 = .ok (.ireturn, 1) := by decide +kernel
theorem dX4_call_19 : decode cX4_call 19 = .ok (.aload_n 0, 1) := by decide +kernel
theorem dX4_call_20 : decode cX4_call 20 = .ok (.iload_n 1, 1) := by decide +kernel
theorem dX4_call_21 : decode cX4_call 21 = .ok (.invokevirtual 106, 3) := by decide +kernel
theorem dX4_call_24 : decode cX4_call 24 = .ok (.istore_n 2, 1) := by decide +kernel
theorem dX4_call_25 : decode cX4_call 25 = .ok (.iload_n 2, 1) := by decide +kernel
theorem dX4_call_26 : decode cX4_call 26 = .ok (.iconst (-1), 1) := by decide +kernel
theorem dX4_call_27 : decode cX4_call 27 = .ok (.if_icmp .ne 9, 3) := by decide +kernel
theorem dX4_call_30 : decode cX4_call 30 = .ok (.aload_n 0, 1) := by decide +kernel
theorem dX4_call_31 : decode cX4_call 31 = .ok (.iconst 2, 1) := by decide +kernel
theorem dX4_call_32 : decode cX4_call 32 = .ok (.invokevirtual 94, 3) := by decide +kernel
theorem dX4_call_35 : decode cX4_call 35 = .ok (.ireturn, 1) := by decide +kernel
theorem dX4_call_36 : decode cX4_call 36 = .ok (.aload_n 0, 1) := by decide +kernel
theorem dX4_call_37 : decode cX4_call 37 = .ok (.getfield 45, 3) := by decide +kernel
theorem dX4_call_40 : decode cX4_call 40 = .ok (.iload_n 1, 1) := by decide +kernel
theorem dX4_call_41 : decode cX4_call 41 = .ok (.iconst 1, 1) := by decide +kernel
theorem dX4_call_42 : decode cX4_call 42 = .ok (.bastore, 1) := by decide +kernel
theorem dX4_call_43 : decode cX4_call 43 = .ok (.aload_n 0, 1) := by decide +kernel
theorem dX4_call_44 : decode cX4_call 44 = .ok (.getfield 131, 3) := by decide +kernel
theorem dX4_call_47 : decode cX4_call 47 = .ok (.aload_n 0, 1) := by decide +kernel
theorem dX4_call_48 : decode cX4_call 48 = .ok (.getfield 69, 3) := by decide +kernel
theorem dX4_call_51 : decode cX4_call 51 = .ok (.iload_n 2, 1) := by decide +kernel
theorem dX4_call_52 : decode cX4_call 52 = .ok (.iaload, 1) := by decide +kernel
theorem dX4_call_53 : decode cX4_call 53 = .ok (.isub, 1) := by decide +kernel
theorem dX4_call_54 : decode cX4_call 54 = .ok (.ireturn, 1) := by decide +kernel
theorem dX4_begin_0 : decode cX4_begin 0 = .ok (.aload_n 0, 1) := by decide +kernel
theorem dX4_begin_1 : decode cX4_begin 1 = .ok (.getfield 75, 3) := by decide +kernel
theorem dX4_begin_4 : decode cX4_begin 4 = .ok (.iload_n 1, 1) := by decide +kernel
theorem dX4_begin_5 : decode cX4_begin 5 = .ok (.iconst 1, 1) := by decide +kernel
theorem dX4_begin_6 : decode cX4_begin 6 = .ok (.iastore, 1) := by decide +kernel
theorem dX4_begin_7 : decode cX4_begin 7 = .ok (.aload_n 0, 1) := by decide +kernel
theorem dX4_begin_8 : decode cX4_begin 8 = .ok (.getfield 69, 3) := by decide +kernel
theorem dX4_begin_11 : decode cX4_begin 11 = .ok (.iload_n 1, 1) := by decide +kernel
theorem dX4_begin_12 : decode cX4_begin 12 = .ok (.aload_n 0, 1) := by decide +kernel
theorem dX4_begin_13 : decode cX4_begin 13 = .ok (.getfield 131, 3) := by decide +kernel
theorem dX4_begin_16 : decode cX4_begin 16 = .ok (.iastore, 1) := by decide +kernel
theorem dX4_begin_17 : decode cX4_begin 17 = .ok (.aload_n 0, 1) := by decide +kernel
theorem dX4_begin_18 : decode cX4_begin 18 = .ok (.getfield 45, 3) := by decide +kernel
theorem dX4_begin_21 : decode cX4_begin 21 = .ok (.aload_n 0, 1) := by decide +kernel
theorem dX4_begin_22 : decode cX4_begin 22 = .ok (.getfield 57, 3) := by decide +kernel
theorem dX4_begin_25 : decode cX4_begin 25 = .ok (.iload_n 1, 1) := by decide +kernel
theorem dX4_begin_26 : decode cX4_begin 26 = .ok (.iaload, 1) := by decide +kernel
theorem dX4_begin_27 : decode cX4_begin 27 = .ok (.iconst 0, 1) := by decide +kernel
theorem dX4_begin_28 : decode cX4_begin 28 = .ok (.bastore, 1) := by decide +kernel
theorem dX4_begin_29 : decode cX4_begin 29 = .ok (.aload_n 0, 1) := by decide +kernel
theorem dX4_begin_30 : decode cX4_begin 30 = .ok (.getfield 60, 3) := by decide +kernel
theorem dX4_begin_33 : decode cX4_begin 33 = .ok (.iload_n 1, 1) := by decide +kernel
theorem dX4_begin_34 : decode cX4_begin 34 = .ok (.iaload, 1) := by decide +kernel
theorem dX4_begin_35 : decode cX4_begin 35 = .ok (.ifCond .le 51, 3) := by decide +kernel
theorem dX4_begin_38 : decode cX4_begin 38 = .ok (.aload_n 0, 1) := by decide +kernel
theorem dX4_begin_39 : decode cX4_begin 39 = .ok (.getfield 22, 3) := by decide +kernel
theorem dX4_begin_42 : decode cX4_begin 42 = .ok (.iconst 0, 1) := by decide +kernel
theorem dX4_begin_43 : decode cX4_begin 43 = .ok (.iaload, 1) := by decide +kernel
theorem dX4_begin_44 : decode cX4_begin 44 = .ok (.ifCond .ne 7, 3) := by decide +kernel
theorem dX4_begin_47 : decode cX4_begin 47 = .ok (.iconst 0, 1) := by decide +kernel
theorem dX4_begin_48 : decode cX4_begin 48 = .ok (.goto 4, 3) := by decide +kernel
theorem dX4_begin_51 : decode cX4_begin 51 = .ok (.iconst 1, 1) := by decide +kernel
theorem dX4_begin_52 : decode cX4_begin 52 = .ok (.istore_n 2, 1) := by decide +kernel
theorem dX4_begin_53 : decode cX4_begin 53 = .ok (.aload_n 0, 1) := by decide +kernel
theorem dX4_begin_54 : decode cX4_begin 54 = .ok (.getfield 22, 3) := by decide +kernel
theorem dX4_begin_57 : decode cX4_begin 57 = .ok (.iload_n 2, 1) := by decide +kernel
theorem dX4_begin_58 : decode cX4_begin 58 = .ok (.aload_n 0, 1) := by decide +kernel
theorem dX4_begin_59 : decode cX4_begin 59 = .ok (.getfield 131, 3) := by decide +kernel
theorem dX4_begin_62 : decode cX4_begin 62 = .ok (.iconst 4, 1) := by decide +kernel
theorem dX4_begin_63 : decode cX4_begin 63 = .ok (.iadd, 1) := by decide +kernel
theorem dX4_begin_64 : decode cX4_begin 64 = .ok (.aload_n 0, 1) := by decide +kernel
theorem dX4_begin_65 : decode cX4_begin 65 = .ok (.getfield 60, 3) := by decide +kernel
theorem dX4_begin_68 : decode cX4_begin 68 = .ok (.iload_n 1, 1) := by decide +kernel
theorem dX4_begin_69 : decode cX4_begin 69 = .ok (.iaload, 1) := by decide +kernel
theorem dX4_begin_70 : decode cX4_begin 70 = .ok (.bipush 100, 2) := by decide +kernel
theorem dX4_begin_72 : decode cX4_begin 72 = .ok (.idiv, 1) := by decide +kernel
theorem dX4_begin_73 : decode cX4_begin 73 = .ok (.iadd, 1) := by decide +kernel
theorem dX4_begin_74 : decode cX4_begin 74 = .ok (.iastore, 1) := by decide +kernel
theorem dX4_begin_75 : decode cX4_begin 75 = .ok (.aload_n 0, 1) := by decide +kernel
theorem dX4_begin_76 : decode cX4_begin 76 = .ok (.aload_n 0, 1) := by decide +kernel
theorem dX4_begin_77 : decode cX4_begin 77 = .ok (.getfield 131, 3) := by decide +kernel
theorem dX4_begin_80 : decode cX4_begin 80 = .ok (.iconst 3, 1) := by decide +kernel
theorem dX4_begin_81 : decode cX4_begin 81 = .ok (.iadd, 1) := by decide +kernel
theorem dX4_begin_82 : decode cX4_begin 82 = .ok (.putfield 140, 3) := by decide +kernel
theorem dX4_begin_85 : decode cX4_begin 85 = .ok (.return_, 1) := by decide +kernel
theorem dX4_begin_86 : decode cX4_begin 86 = .ok (.aload_n 0, 1) := by decide +kernel
theorem dX4_begin_87 : decode cX4_begin 87 = .ok (.dup, 1) := by decide +kernel
theorem dX4_begin_88 : decode cX4_begin 88 = .ok (.getfield 16, 3) := by decide +kernel
theorem dX4_begin_91 : decode cX4_begin 91 = .ok (.iconst 1, 1) := by decide +kernel
theorem dX4_begin_92 : decode cX4_begin 92 = .ok (.isub, 1) := by decide +kernel
theorem dX4_begin_93 : decode cX4_begin 93 = .ok (.putfield 16, 3) := by decide +kernel
theorem dX4_begin_96 : decode cX4_begin 96 = .ok (.aload_n 0, 1) := by decide +kernel
theorem dX4_begin_97 : decode cX4_begin 97 = .ok (.aload_n 0, 1) := by decide +kernel
theorem dX4_begin_98 : decode cX4_begin 98 = .ok (.getfield 131, 3) := by decide +kernel
theorem dX4_begin_101 : decode cX4_begin 101 = .ok (.bipush 10, 2) := by decide +kernel
theorem dX4_begin_103 : decode cX4_begin 103 = .ok (.iadd, 1) := by decide +kernel
theorem dX4_begin_104 : decode cX4_begin 104 = .ok (.putfield 153, 3) := by decide +kernel
theorem dX4_begin_107 : decode cX4_begin 107 = .ok (.aload_n 0, 1) := by decide +kernel
theorem dX4_begin_108 : decode cX4_begin 108 = .ok (.aload_n 0, 1) := by decide +kernel
theorem dX4_begin_109 : decode cX4_begin 109 = .ok (.getfield 131, 3) := by decide +kernel
theorem dX4_begin_112 : decode cX4_begin 112 = .ok (.iconst 2, 1) := by decide +kernel
theorem dX4_begin_113 : decode cX4_begin 113 = .ok (.iadd, 1) := by decide +kernel
theorem dX4_begin_114 : decode cX4_begin 114 = .ok (.putfield 140, 3) := by decide +kernel
theorem dX4_begin_117 : decode cX4_begin 117 = .ok (.return_, 1) := by decide +kernel
theorem dX4_land_0 : decode cX4_land 0 = .ok (.aload_n 0, 1) := by decide +kernel
theorem dX4_land_1 : decode cX4_land 1 = .ok (.iload_n 1, 1) := by decide +kernel
theorem dX4_land_2 : decode cX4_land 2 = .ok (.invokevirtual 106, 3) := by decide +kernel
theorem dX4_land_5 : decode cX4_land 5 = .ok (.istore_n 2, 1) := by decide +kernel
theorem dX4_land_6 : decode cX4_land 6 = .ok (.aload_n 0, 1) := by decide +kernel
theorem dX4_land_7 : decode cX4_land 7 = .ok (.getfield 75, 3) := by decide +kernel
theorem dX4_land_10 : decode cX4_land 10 = .ok (.iload_n 2, 1) := by decide +kernel
theorem dX4_land_11 : decode cX4_land 11 = .ok (.iconst 2, 1) := by decide +kernel
theorem dX4_land_12 : decode cX4_land 12 = .ok (.iastore, 1) := by decide +kernel
theorem dX4_land_13 : decode cX4_land 13 = .ok (.aload_n 0, 1) := by decide +kernel
theorem dX4_land_14 : decode cX4_land 14 = .ok (.getfield 72, 3) := by decide +kernel
theorem dX4_land_17 : decode cX4_land 17 = .ok (.iload_n 2, 1) := by decide +kernel
theorem dX4_land_18 : decode cX4_land 18 = .ok (.aload_n 0, 1) := by decide +kernel
theorem dX4_land_19 : decode cX4_land 19 = .ok (.getfield 131, 3) := by decide +kernel
theorem dX4_land_22 : decode cX4_land 22 = .ok (.iastore, 1) := by decide +kernel
theorem dX4_land_23 : decode cX4_land 23 = .ok (.aload_n 0, 1) := by decide +kernel
theorem dX4_land_24 : decode cX4_land 24 = .ok (.getfield 48, 3) := by decide +kernel
theorem dX4_land_27 : decode cX4_land 27 = .ok (.iload_n 1, 1) := by decide +kernel
theorem dX4_land_28 : decode cX4_land 28 = .ok (.iconst 0, 1) := by decide +kernel
theorem dX4_land_29 : decode cX4_land 29 = .ok (.iastore, 1) := by decide +kernel
theorem dX4_land_30 : decode cX4_land 30 = .ok (.aload_n 0, 1) := by decide +kernel
theorem dX4_land_31 : decode cX4_land 31 = .ok (.aload_n 0, 1) := by decide +kernel
theorem dX4_land_32 : decode cX4_land 32 = .ok (.getfield 131, 3) := by decide +kernel
theorem dX4_land_35 : decode cX4_land 35 = .ok (.iconst 2, 1) := by decide +kernel
theorem dX4_land_36 : decode cX4_land 36 = .ok (.iadd, 1) := by decide +kernel
theorem dX4_land_37 : decode cX4_land 37 = .ok (.putfield 140, 3) := by decide +kernel
theorem dX4_land_40 : decode cX4_land 40 = .ok (.return_, 1) := by decide +kernel
theorem dX4_minute_0 : decode cX4_minute 0 = .ok (.aload_n 0, 1) := by decide +kernel
theorem dX4_minute_1 : decode cX4_minute 1 = .ok (.dup, 1) := by decide +kernel
theorem dX4_minute_2 : decode cX4_minute 2 = .ok (.getfield 131, 3) := by decide +kernel
theorem dX4_minute_5 : decode cX4_minute 5 = .ok (.iconst 1, 1) := by decide +kernel
theorem dX4_minute_6 : decode cX4_minute 6 = .ok (.iadd, 1) := by decide +kernel
theorem dX4_minute_7 : decode cX4_minute 7 = .ok (.putfield 131, 3) := by decide +kernel
theorem dX4_minute_10 : decode cX4_minute 10 = .ok (.aload_n 0, 1) := by decide +kernel
theorem dX4_minute_11 : decode cX4_minute 11 = .ok (.getfield 16, 3) := by decide +kernel
theorem dX4_minute_14 : decode cX4_minute 14 = .ok (.ifCond .ne 19, 3) := by decide +kernel
theorem dX4_minute_17 : decode cX4_minute 17 = .ok (.aload_n 0, 1) := by decide +kernel
theorem dX4_minute_18 : decode cX4_minute 18 = .ok (.getfield 131, 3) := by decide +kernel
theorem dX4_minute_21 : decode cX4_minute 21 = .ok (.aload_n 0, 1) := by decide +kernel
theorem dX4_minute_22 : decode cX4_minute 22 = .ok (.getfield 153, 3) := by decide +kernel
theorem dX4_minute_25 : decode cX4_minute 25 = .ok (.if_icmp .lt 8, 3) := by decide +kernel
theorem dX4_minute_28 : decode cX4_minute 28 = .ok (.aload_n 0, 1) := by decide +kernel
theorem dX4_minute_29 : decode cX4_minute 29 = .ok (.iconst 2, 1) := by decide +kernel
theorem dX4_minute_30 : decode cX4_minute 30 = .ok (.putfield 16, 3) := by decide +kernel
theorem dX4_minute_33 : decode cX4_minute 33 = .ok (.iconst 0, 1) := by decide +kernel
theorem dX4_minute_34 : decode cX4_minute 34 = .ok (.istore_n 1, 1) := by decide +kernel
theorem dX4_minute_35 : decode cX4_minute 35 = .ok (.iload_n 1, 1) := by decide +kernel
theorem dX4_minute_36 : decode cX4_minute 36 = .ok (.iconst 2, 1) := by decide +kernel
theorem dX4_minute_37 : decode cX4_minute 37 = .ok (.if_icmp .ge 38, 3) := by decide +kernel
theorem dX4_minute_40 : decode cX4_minute 40 = .ok (.aload_n 0, 1) := by decide +kernel
theorem dX4_minute_41 : decode cX4_minute 41 = .ok (.getfield 22, 3) := by decide +kernel
theorem dX4_minute_44 : decode cX4_minute 44 = .ok (.iload_n 1, 1) := by decide +kernel
theorem dX4_minute_45 : decode cX4_minute 45 = .ok (.aload_n 0, 1) := by decide +kernel
theorem dX4_minute_46 : decode cX4_minute 46 = .ok (.getfield 22, 3) := by decide +kernel
theorem dX4_minute_49 : decode cX4_minute 49 = .ok (.iload_n 1, 1) := by decide +kernel
theorem dX4_minute_50 : decode cX4_minute 50 = .ok (.iaload, 1) := by decide +kernel
theorem dX4_minute_51 : decode cX4_minute 51 = .ok (.aload_n 0, 1) := by decide +kernel
theorem dX4_minute_52 : decode cX4_minute 52 = .ok (.getfield 131, 3) := by decide +kernel
theorem dX4_minute_55 : decode cX4_minute 55 = .ok (.if_icmp .gt 7, 3) := by decide +kernel
theorem dX4_minute_58 : decode cX4_minute 58 = .ok (.iconst 0, 1) := by decide +kernel
theorem dX4_minute_59 : decode cX4_minute 59 = .ok (.goto 9, 3) := by decide +kernel
theorem dX4_minute_62 : decode cX4_minute 62 = .ok (.aload_n 0, 1) := by decide +kernel
theorem dX4_minute_63 : decode cX4_minute 63 = .ok (.getfield 22, 3) := by decide +kernel
theorem dX4_minute_66 : decode cX4_minute 66 = .ok (.iload_n 1, 1) := by decide +kernel
theorem dX4_minute_67 : decode cX4_minute 67 = .ok (.iaload, 1) := by decide +kernel
theorem dX4_minute_68 : decode cX4_minute 68 = .ok (.iastore, 1) := by decide +kernel
theorem dX4_minute_69 : decode cX4_minute 69 = .ok (.iinc 1 1, 3) := by decide +kernel
theorem dX4_minute_72 : decode cX4_minute 72 = .ok (.goto (-37), 3) := by decide +kernel
theorem dX4_minute_75 : decode cX4_minute 75 = .ok (.iconst 0, 1) := by decide +kernel
theorem dX4_minute_76 : decode cX4_minute 76 = .ok (.istore_n 1, 1) := by decide +kernel
theorem dX4_minute_77 : decode cX4_minute 77 = .ok (.iload_n 1, 1) := by decide +kernel
theorem dX4_minute_78 : decode cX4_minute 78 = .ok (.aload_n 0, 1) := by decide +kernel
theorem dX4_minute_79 : decode cX4_minute 79 = .ok (.getfield 88, 3) := by decide +kernel
theorem dX4_minute_82 : decode cX4_minute 82 = .ok (.if_icmp .ge 92, 3) := by decide +kernel
theorem dX4_minute_85 : decode cX4_minute 85 = .ok (.aload_n 0, 1) := by decide +kernel
theorem dX4_minute_86 : decode cX4_minute 86 = .ok (.iload_n 1, 1) := by decide +kernel
theorem dX4_minute_87 : decode cX4_minute 87 = .ok (.invokevirtual 106, 3) := by decide +kernel
theorem dX4_minute_90 : decode cX4_minute 90 = .ok (.istore_n 2, 1) := by decide +kernel
theorem dX4_minute_91 : decode cX4_minute 91 = .ok (.iload_n 2, 1) := by decide +kernel
theorem dX4_minute_92 : decode cX4_minute 92 = .ok (.iconst (-1), 1) := by decide +kernel
theorem dX4_minute_93 : decode cX4_minute 93 = .ok (.if_icmp .eq 75, 3) := by decide +kernel
theorem dX4_minute_96 : decode cX4_minute 96 = .ok (.aload_n 0, 1) := by decide +kernel
theorem dX4_minute_97 : decode cX4_minute 97 = .ok (.getfield 48, 3) := by decide +kernel
theorem dX4_minute_100 : decode cX4_minute 100 = .ok (.iload_n 1, 1) := by decide +kernel
theorem dX4_minute_101 : decode cX4_minute 101 = .ok (.iaload, 1) := by decide +kernel
theorem dX4_minute_102 : decode cX4_minute 102 = .ok (.ifCond .gt 66, 3) := by decide +kernel
theorem dX4_minute_105 : decode cX4_minute 105 = .ok (.aload_n 0, 1) := by decide +kernel
theorem dX4_minute_106 : decode cX4_minute 106 = .ok (.getfield 131, 3) := by decide +kernel
theorem dX4_minute_109 : decode cX4_minute 109 = .ok (.aload_n 0, 1) := by decide +kernel
theorem dX4_minute_110 : decode cX4_minute 110 = .ok (.getfield 69, 3) := by decide +kernel
theorem dX4_minute_113 : decode cX4_minute 113 = .ok (.iload_n 2, 1) := by decide +kernel
theorem dX4_minute_114 : decode cX4_minute 114 = .ok (.iaload, 1) := by decide +kernel
theorem dX4_minute_115 : decode cX4_minute 115 = .ok (.isub, 1) := by decide +kernel
theorem dX4_minute_116 : decode cX4_minute 116 = .ok (.aload_n 0, 1) := by decide +kernel
theorem dX4_minute_117 : decode cX4_minute 117 = .ok (.getfield 63, 3) := by decide +kernel
theorem dX4_minute_120 : decode cX4_minute 120 = .ok (.iload_n 2, 1) := by decide +kernel
theorem dX4_minute_121 : decode cX4_minute 121 = .ok (.iaload, 1) := by decide +kernel
theorem dX4_minute_122 : decode cX4_minute 122 = .ok (.if_icmp .ge 26, 3) := by decide +kernel
theorem dX4_minute_125 : decode cX4_minute 125 = .ok (.aload_n 0, 1) := by decide +kernel
theorem dX4_minute_126 : decode cX4_minute 126 = .ok (.getfield 131, 3) := by decide +kernel
theorem dX4_minute_129 : decode cX4_minute 129 = .ok (.aload_n 0, 1) := by decide +kernel
theorem dX4_minute_130 : decode cX4_minute 130 = .ok (.getfield 13, 3) := by decide +kernel
theorem dX4_minute_133 : decode cX4_minute 133 = .ok (.if_icmp .ge 15, 3) := by decide +kernel
theorem dX4_minute_136 : decode cX4_minute 136 = .ok (.aload_n 0, 1) := by decide +kernel
theorem dX4_minute_137 : decode cX4_minute 137 = .ok (.getfield 45, 3) := by decide +kernel
theorem dX4_minute_140 : decode cX4_minute 140 = .ok (.iload_n 1, 1) := by decide +kernel
theorem dX4_minute_141 : decode cX4_minute 141 = .ok (.baload, 1) := by decide +kernel
theorem dX4_minute_142 : decode cX4_minute 142 = .ok (.ifCond .ne 6, 3) := by decide +kernel
theorem dX4_minute_145 : decode cX4_minute 145 = .ok (.goto 23, 3) := by decide +kernel
theorem dX4_minute_148 : decode cX4_minute 148 = .ok (.aload_n 0, 1) := by decide +kernel
theorem dX4_minute_149 : decode cX4_minute 149 = .ok (.dup, 1) := by decide +kernel
theorem dX4_minute_150 : decode cX4_minute 150 = .ok (.getfield 156, 3) := by decide +kernel
theorem dX4_minute_153 : decode cX4_minute 153 = .ok (.iconst 1, 1) := by decide +kernel
theorem dX4_minute_154 : decode cX4_minute 154 = .ok (.iadd, 1) := by decide +kernel
theorem dX4_minute_155 : decode cX4_minute 155 = .ok (.putfield 156, 3) := by decide +kernel
theorem dX4_minute_158 : decode cX4_minute 158 = .ok (.aload_n 0, 1) := by decide +kernel
theorem dX4_minute_159 : decode cX4_minute 159 = .ok (.getfield 48, 3) := by decide +kernel
theorem dX4_minute_162 : decode cX4_minute 162 = .ok (.iload_n 1, 1) := by decide +kernel
theorem dX4_minute_163 : decode cX4_minute 163 = .ok (.aload_n 0, 1) := by decide +kernel
theorem dX4_minute_164 : decode cX4_minute 164 = .ok (.getfield 156, 3) := by decide +kernel
theorem dX4_minute_167 : decode cX4_minute 167 = .ok (.iastore, 1) := by decide +kernel
theorem dX4_minute_168 : decode cX4_minute 168 = .ok (.iinc 1 1, 3) := by decide +kernel
theorem dX4_minute_171 : decode cX4_minute 171 = .ok (.goto (-94), 3) := by decide +kernel
theorem dX4_minute_174 : decode cX4_minute 174 = .ok (.iconst (-1), 1) := by decide +kernel
theorem dX4_minute_175 : decode cX4_minute 175 = .ok (.istore_n 1, 1) := by decide +kernel
theorem dX4_minute_176 : decode cX4_minute 176 = .ok (.iconst 0, 1) := by decide +kernel
theorem dX4_minute_177 : decode cX4_minute 177 = .ok (.istore_n 2, 1) := by decide +kernel
theorem dX4_minute_178 : decode cX4_minute 178 = .ok (.iload_n 2, 1) := by decide +kernel
theorem dX4_minute_179 : decode cX4_minute 179 = .ok (.aload_n 0, 1) := by decide +kernel
theorem dX4_minute_180 : decode cX4_minute 180 = .ok (.getfield 88, 3) := by decide +kernel
theorem dX4_minute_183 : decode cX4_minute 183 = .ok (.if_icmp .ge 40, 3) := by decide +kernel
theorem dX4_minute_186 : decode cX4_minute 186 = .ok (.aload_n 0, 1) := by decide +kernel
theorem dX4_minute_187 : decode cX4_minute 187 = .ok (.getfield 48, 3) := by decide +kernel
theorem dX4_minute_190 : decode cX4_minute 190 = .ok (.iload_n 2, 1) := by decide +kernel
theorem dX4_minute_191 : decode cX4_minute 191 = .ok (.iaload, 1) := by decide +kernel
theorem dX4_minute_192 : decode cX4_minute 192 = .ok (.ifCond .le 25, 3) := by decide +kernel
theorem dX4_minute_195 : decode cX4_minute 195 = .ok (.iload_n 1, 1) := by decide +kernel
theorem dX4_minute_196 : decode cX4_minute 196 = .ok (.iconst (-1), 1) := by decide +kernel
theorem dX4_minute_197 : decode cX4_minute 197 = .ok (.if_icmp .eq 18, 3) := by decide +kernel
theorem dX4_minute_200 : decode cX4_minute 200 = .ok (.aload_n 0, 1) := by decide +kernel
theorem dX4_minute_201 : decode cX4_minute 201 = .ok (.getfield 48, 3) := by decide +kernel
theorem dX4_minute_204 : decode cX4_minute 204 = .ok (.iload_n 2, 1) := by decide +kernel
theorem dX4_minute_205 : decode cX4_minute 205 = .ok (.iaload, 1) := by decide +kernel
theorem dX4_minute_206 : decode cX4_minute 206 = .ok (.aload_n 0, 1) := by decide +kernel
theorem dX4_minute_207 : decode cX4_minute 207 = .ok (.getfield 48, 3) := by decide +kernel
theorem dX4_minute_210 : decode cX4_minute 210 = .ok (.iload_n 1, 1) := by decide +kernel
theorem dX4_minute_211 : decode cX4_minute 211 = .ok (.iaload, 1) := by decide +kernel
theorem dX4_minute_212 : decode cX4_minute 212 = .ok (.if_icmp .ge 5, 3) := by decide +kernel
theorem dX4_minute_215 : decode cX4_minute 215 = .ok (.iload_n 2, 1) := by decide +kernel
theorem dX4_minute_216 : decode cX4_minute 216 = .ok (.istore_n 1, 1) := by decide +kernel
theorem dX4_minute_217 : decode cX4_minute 217 = .ok (.iinc 2 1, 3) := by decide +kernel
theorem dX4_minute_220 : decode cX4_minute 220 = .ok (.goto (-42), 3) := by decide +kernel
theorem dX4_minute_223 : decode cX4_minute 223 = .ok (.aload_n 0, 1) := by decide +kernel
theorem dX4_minute_224 : decode cX4_minute 224 = .ok (.invokevirtual 146, 3) := by decide +kernel
theorem dX4_minute_227 : decode cX4_minute 227 = .ok (.ifCond .ne 13, 3) := by decide +kernel
theorem dX4_minute_230 : decode cX4_minute 230 = .ok (.iload_n 1, 1) := by decide +kernel
theorem dX4_minute_231 : decode cX4_minute 231 = .ok (.iconst (-1), 1) := by decide +kernel
theorem dX4_minute_232 : decode cX4_minute 232 = .ok (.if_icmp .eq 8, 3) := by decide +kernel
theorem dX4_minute_235 : decode cX4_minute 235 = .ok (.aload_n 0, 1) := by decide +kernel
theorem dX4_minute_236 : decode cX4_minute 236 = .ok (.iload_n 1, 1) := by decide +kernel
theorem dX4_minute_237 : decode cX4_minute 237 = .ok (.invokevirtual 159, 3) := by decide +kernel
theorem dX4_minute_240 : decode cX4_minute 240 = .ok (.iconst 0, 1) := by decide +kernel
theorem dX4_minute_241 : decode cX4_minute 241 = .ok (.istore_n 2, 1) := by decide +kernel
theorem dX4_minute_242 : decode cX4_minute 242 = .ok (.iload_n 2, 1) := by decide +kernel
theorem dX4_minute_243 : decode cX4_minute 243 = .ok (.aload_n 0, 1) := by decide +kernel
theorem dX4_minute_244 : decode cX4_minute 244 = .ok (.getfield 91, 3) := by decide +kernel
theorem dX4_minute_247 : decode cX4_minute 247 = .ok (.if_icmp .ge 43, 3) := by decide +kernel
theorem dX4_minute_250 : decode cX4_minute 250 = .ok (.aload_n 0, 1) := by decide +kernel
theorem dX4_minute_251 : decode cX4_minute 251 = .ok (.invokevirtual 146, 3) := by decide +kernel
theorem dX4_minute_254 : decode cX4_minute 254 = .ok (.ifCond .ne 36, 3) := by decide +kernel
theorem dX4_minute_257 : decode cX4_minute 257 = .ok (.aload_n 0, 1) := by decide +kernel
theorem dX4_minute_258 : decode cX4_minute 258 = .ok (.getfield 75, 3) := by decide +kernel
theorem dX4_minute_261 : decode cX4_minute 261 = .ok (.iload_n 2, 1) := by decide +kernel
theorem dX4_minute_262 : decode cX4_minute 262 = .ok (.iaload, 1) := by decide +kernel
theorem dX4_minute_263 : decode cX4_minute 263 = .ok (.ifCond .ne 21, 3) := by decide +kernel
theorem dX4_minute_266 : decode cX4_minute 266 = .ok (.aload_n 0, 1) := by decide +kernel
theorem dX4_minute_267 : decode cX4_minute 267 = .ok (.iload_n 2, 1) := by decide +kernel
theorem dX4_minute_268 : decode cX4_minute 268 = .ok (.invokevirtual 150, 3) := by decide +kernel
theorem dX4_minute_271 : decode cX4_minute 271 = .ok (.ifCond .eq 6, 3) := by decide +kernel
theorem dX4_minute_274 : decode cX4_minute 274 = .ok (.goto 10, 3) := by decide +kernel
theorem dX4_minute_277 : decode cX4_minute 277 = .ok (.aload_n 0, 1) := by decide +kernel
theorem dX4_minute_278 : decode cX4_minute 278 = .ok (.iload_n 2, 1) := by decide +kernel
theorem dX4_minute_279 : decode cX4_minute 279 = .ok (.invokevirtual 163, 3) := by decide +kernel
theorem dX4_minute_282 : decode cX4_minute 282 = .ok (.iconst 1, 1) := by decide +kernel
theorem dX4_minute_283 : decode cX4_minute 283 = .ok (.ireturn, 1) := by decide +kernel
theorem dX4_minute_284 : decode cX4_minute 284 = .ok (.iinc 2 1, 3) := by decide +kernel
theorem dX4_minute_287 : decode cX4_minute 287 = .ok (.goto (-45), 3) := by decide +kernel
theorem dX4_minute_290 : decode cX4_minute 290 = .ok (.iconst 0, 1) := by decide +kernel
theorem dX4_minute_291 : decode cX4_minute 291 = .ok (.ireturn, 1) := by decide +kernel
theorem dX4_tick_0 : decode cX4_tick 0 = .ok (.aload_n 0, 1) := by decide +kernel
theorem dX4_tick_1 : decode cX4_tick 1 = .ok (.iconst 0, 1) := by decide +kernel
theorem dX4_tick_2 : decode cX4_tick 2 = .ok (.putfield 78, 3) := by decide +kernel
theorem dX4_tick_5 : decode cX4_tick 5 = .ok (.iload_n 1, 1) := by decide +kernel
theorem dX4_tick_6 : decode cX4_tick 6 = .ok (.iconst 1, 1) := by decide +kernel
theorem dX4_tick_7 : decode cX4_tick 7 = .ok (.sipush 300, 3) := by decide +kernel
theorem dX4_tick_10 : decode cX4_tick 10 = .ok (.invokestatic 84, 3) := by decide +kernel
theorem dX4_tick_13 : decode cX4_tick 13 = .ok (.ifCond .eq 15, 3) := by decide +kernel
theorem dX4_tick_16 : decode cX4_tick 16 = .ok (.aload_n 0, 1) := by decide +kernel
theorem dX4_tick_17 : decode cX4_tick 17 = .ok (.getfield 131, 3) := by decide +kernel
theorem dX4_tick_20 : decode cX4_tick 20 = .ok (.iload_n 1, 1) := by decide +kernel
theorem dX4_tick_21 : decode cX4_tick 21 = .ok (.iadd, 1) := by decide +kernel
theorem dX4_tick_22 : decode cX4_tick 22 = .ok (.sipush 1500, 3) := by decide +kernel
theorem dX4_tick_25 : decode cX4_tick 25 = .ok (.if_icmp .le 9, 3) := by decide +kernel
theorem dX4_tick_28 : decode cX4_tick 28 = .ok (.aload_n 0, 1) := by decide +kernel
theorem dX4_tick_29 : decode cX4_tick 29 = .ok (.iconst 1, 1) := by decide +kernel
theorem dX4_tick_30 : decode cX4_tick 30 = .ok (.invokevirtual 94, 3) := by decide +kernel
theorem dX4_tick_33 : decode cX4_tick 33 = .ok (.ireturn, 1) := by decide +kernel
theorem dX4_tick_34 : decode cX4_tick 34 = .ok (.iconst 0, 1) := by decide +kernel
theorem dX4_tick_35 : decode cX4_tick 35 = .ok (.istore_n 2, 1) := by decide +kernel
theorem dX4_tick_36 : decode cX4_tick 36 = .ok (.iconst 0, 1) := by decide +kernel
theorem dX4_tick_37 : decode cX4_tick 37 = .ok (.istore_n 3, 1) := by decide +kernel
theorem dX4_tick_38 : decode cX4_tick 38 = .ok (.iload_n 3, 1) := by decide +kernel
theorem dX4_tick_39 : decode cX4_tick 39 = .ok (.iload_n 1, 1) := by decide +kernel
theorem dX4_tick_40 : decode cX4_tick 40 = .ok (.if_icmp .ge 24, 3) := by decide +kernel
theorem dX4_tick_43 : decode cX4_tick 43 = .ok (.iload_n 2, 1) := by decide +kernel
theorem dX4_tick_44 : decode cX4_tick 44 = .ok (.aload_n 0, 1) := by decide +kernel
theorem dX4_tick_45 : decode cX4_tick 45 = .ok (.invokevirtual 166, 3) := by decide +kernel
theorem dX4_tick_48 : decode cX4_tick 48 = .ok (.ifCond .eq 7, 3) := by decide +kernel
theorem dX4_tick_51 : decode cX4_tick 51 = .ok (.iconst 1, 1) := by decide +kernel
theorem dX4_tick_52 : decode cX4_tick 52 = .ok (.goto 4, 3) := by decide +kernel
theorem dX4_tick_55 : decode cX4_tick 55 = .ok (.iconst 0, 1) := by decide +kernel
theorem dX4_tick_56 : decode cX4_tick 56 = .ok (.iadd, 1) := by decide +kernel
theorem dX4_tick_57 : decode cX4_tick 57 = .ok (.istore_n 2, 1) := by decide +kernel
theorem dX4_tick_58 : decode cX4_tick 58 = .ok (.iinc 3 1, 3) := by decide +kernel
theorem dX4_tick_61 : decode cX4_tick 61 = .ok (.goto (-23), 3) := by decide +kernel
theorem dX4_tick_64 : decode cX4_tick 64 = .ok (.iload_n 2, 1) := by decide +kernel
theorem dX4_tick_65 : decode cX4_tick 65 = .ok (.ireturn, 1) := by decide +kernel
theorem dX4_now_0 : decode cX4_now 0 = .ok (.aload_n 0, 1) := by decide +kernel
theorem dX4_now_1 : decode cX4_now 1 = .ok (.iconst 0, 1) := by decide +kernel
theorem dX4_now_2 : decode cX4_now 2 = .ok (.putfield 78, 3) := by decide +kernel
theorem dX4_now_5 : decode cX4_now 5 = .ok (.aload_n 0, 1) := by decide +kernel
theorem dX4_now_6 : decode cX4_now 6 = .ok (.getfield 131, 3) := by decide +kernel
theorem dX4_now_9 : decode cX4_now 9 = .ok (.ireturn, 1) := by decide +kernel
theorem dX4_costOf_0 : decode cX4_costOf 0 = .ok (.aload_n 0, 1) := by decide +kernel
theorem dX4_costOf_1 : decode cX4_costOf 1 = .ok (.getfield 75, 3) := by decide +kernel
theorem dX4_costOf_4 : decode cX4_costOf 4 = .ok (.iload_n 1, 1) := by decide +kernel
theorem dX4_costOf_5 : decode cX4_costOf 5 = .ok (.iaload, 1) := by decide +kernel
theorem dX4_costOf_6 : decode cX4_costOf 6 = .ok (.iconst 2, 1) := by decide +kernel
theorem dX4_costOf_7 : decode cX4_costOf 7 = .ok (.if_icmp .eq 5, 3) := by decide +kernel
theorem dX4_costOf_10 : decode cX4_costOf 10 = .ok (.iconst 0, 1) := by decide +kernel
theorem dX4_costOf_11 : decode cX4_costOf 11 = .ok (.ireturn, 1) := by decide +kernel
theorem dX4_costOf_12 : decode cX4_costOf 12 = .ok (.aload_n 0, 1) := by decide +kernel
theorem dX4_costOf_13 : decode cX4_costOf 13 = .ok (.getfield 60, 3) := by decide +kernel
theorem dX4_costOf_16 : decode cX4_costOf 16 = .ok (.iload_n 1, 1) := by decide +kernel
theorem dX4_costOf_17 : decode cX4_costOf 17 = .ok (.iaload, 1) := by decide +kernel
theorem dX4_costOf_18 : decode cX4_costOf 18 = .ok (.ifCond .ne 8, 3) := by decide +kernel
theorem dX4_costOf_21 : decode cX4_costOf 21 = .ok (.bipush 8, 2) := by decide +kernel
theorem dX4_costOf_23 : decode cX4_costOf 23 = .ok (.goto 12, 3) := by decide +kernel
theorem dX4_costOf_26 : decode cX4_costOf 26 = .ok (.aload_n 0, 1) := by decide +kernel
theorem dX4_costOf_27 : decode cX4_costOf 27 = .ok (.getfield 60, 3) := by decide +kernel
theorem dX4_costOf_30 : decode cX4_costOf 30 = .ok (.iload_n 1, 1) := by decide +kernel
theorem dX4_costOf_31 : decode cX4_costOf 31 = .ok (.iaload, 1) := by decide +kernel
theorem dX4_costOf_32 : decode cX4_costOf 32 = .ok (.bipush 20, 2) := by decide +kernel
theorem dX4_costOf_34 : decode cX4_costOf 34 = .ok (.idiv, 1) := by decide +kernel
theorem dX4_costOf_35 : decode cX4_costOf 35 = .ok (.aload_n 0, 1) := by decide +kernel
theorem dX4_costOf_36 : decode cX4_costOf 36 = .ok (.getfield 35, 3) := by decide +kernel
theorem dX4_costOf_39 : decode cX4_costOf 39 = .ok (.aload_n 0, 1) := by decide +kernel
theorem dX4_costOf_40 : decode cX4_costOf 40 = .ok (.getfield 57, 3) := by decide +kernel
theorem dX4_costOf_43 : decode cX4_costOf 43 = .ok (.iload_n 1, 1) := by decide +kernel
theorem dX4_costOf_44 : decode cX4_costOf 44 = .ok (.iaload, 1) := by decide +kernel
theorem dX4_costOf_45 : decode cX4_costOf 45 = .ok (.iaload, 1) := by decide +kernel
theorem dX4_costOf_46 : decode cX4_costOf 46 = .ok (.sipush 180, 3) := by decide +kernel
theorem dX4_costOf_49 : decode cX4_costOf 49 = .ok (.aload_n 0, 1) := by decide +kernel
theorem dX4_costOf_50 : decode cX4_costOf 50 = .ok (.getfield 72, 3) := by decide +kernel
theorem dX4_costOf_53 : decode cX4_costOf 53 = .ok (.iload_n 1, 1) := by decide +kernel
theorem dX4_costOf_54 : decode cX4_costOf 54 = .ok (.iaload, 1) := by decide +kernel
theorem dX4_costOf_55 : decode cX4_costOf 55 = .ok (.aload_n 0, 1) := by decide +kernel
theorem dX4_costOf_56 : decode cX4_costOf 56 = .ok (.getfield 69, 3) := by decide +kernel
theorem dX4_costOf_59 : decode cX4_costOf 59 = .ok (.iload_n 1, 1) := by decide +kernel
theorem dX4_costOf_60 : decode cX4_costOf 60 = .ok (.iaload, 1) := by decide +kernel
theorem dX4_costOf_61 : decode cX4_costOf 61 = .ok (.isub, 1) := by decide +kernel
theorem dX4_costOf_62 : decode cX4_costOf 62 = .ok (.invokestatic 169, 3) := by decide +kernel
theorem dX4_costOf_65 : decode cX4_costOf 65 = .ok (.imul, 1) := by decide +kernel
theorem dX4_costOf_66 : decode cX4_costOf 66 = .ok (.iadd, 1) := by decide +kernel
theorem dX4_costOf_67 : decode cX4_costOf 67 = .ok (.ireturn, 1) := by decide +kernel
theorem dX4_toldOf_0 : decode cX4_toldOf 0 = .ok (.bipush 8, 2) := by decide +kernel
theorem dX4_toldOf_2 : decode cX4_toldOf 2 = .ok (.newarray .int, 2) := by decide +kernel
theorem dX4_toldOf_4 : decode cX4_toldOf 4 = .ok (.dup, 1) := by decide +kernel
theorem dX4_toldOf_5 : decode cX4_toldOf 5 = .ok (.iconst 0, 1) := by decide +kernel
theorem dX4_toldOf_6 : decode cX4_toldOf 6 = .ok (.aload_n 0, 1) := by decide +kernel
theorem dX4_toldOf_7 : decode cX4_toldOf 7 = .ok (.getfield 75, 3) := by decide +kernel
theorem dX4_toldOf_10 : decode cX4_toldOf 10 = .ok (.iload_n 1, 1) := by decide +kernel
theorem dX4_toldOf_11 : decode cX4_toldOf 11 = .ok (.iaload, 1) := by decide +kernel
theorem dX4_toldOf_12 : decode cX4_toldOf 12 = .ok (.iastore, 1) := by decide +kernel
theorem dX4_toldOf_13 : decode cX4_toldOf 13 = .ok (.dup, 1) := by decide +kernel
theorem dX4_toldOf_14 : decode cX4_toldOf 14 = .ok (.iconst 1, 1) := by decide +kernel
theorem dX4_toldOf_15 : decode cX4_toldOf 15 = .ok (.aload_n 0, 1) := by decide +kernel
theorem dX4_toldOf_16 : decode cX4_toldOf 16 = .ok (.getfield 51, 3) := by decide +kernel
theorem dX4_toldOf_19 : decode cX4_toldOf 19 = .ok (.iload_n 1, 1) := by decide +kernel
theorem dX4_toldOf_20 : decode cX4_toldOf 20 = .ok (.iaload, 1) := by decide +kernel
theorem dX4_toldOf_21 : decode cX4_toldOf 21 = .ok (.iastore, 1) := by decide +kernel
theorem dX4_toldOf_22 : decode cX4_toldOf 22 = .ok (.dup, 1) := by decide +kernel
theorem dX4_toldOf_23 : decode cX4_toldOf 23 = .ok (.iconst 2, 1) := by decide +kernel
theorem dX4_toldOf_24 : decode cX4_toldOf 24 = .ok (.aload_n 0, 1) := by decide +kernel
theorem dX4_toldOf_25 : decode cX4_toldOf 25 = .ok (.getfield 54, 3) := by decide +kernel
theorem dX4_toldOf_28 : decode cX4_toldOf 28 = .ok (.iload_n 1, 1) := by decide +kernel
theorem dX4_toldOf_29 : decode cX4_toldOf 29 = .ok (.iaload, 1) := by decide +kernel
theorem dX4_toldOf_30 : decode cX4_toldOf 30 = .ok (.iastore, 1) := by decide +kernel
theorem dX4_toldOf_31 : decode cX4_toldOf 31 = .ok (.dup, 1) := by decide +kernel
theorem dX4_toldOf_32 : decode cX4_toldOf 32 = .ok (.iconst 3, 1) := by decide +kernel
theorem dX4_toldOf_33 : decode cX4_toldOf 33 = .ok (.aload_n 0, 1) := by decide +kernel
theorem dX4_toldOf_34 : decode cX4_toldOf 34 = .ok (.getfield 57, 3) := by decide +kernel
theorem dX4_toldOf_37 : decode cX4_toldOf 37 = .ok (.iload_n 1, 1) := by decide +kernel
theorem dX4_toldOf_38 : decode cX4_toldOf 38 = .ok (.iaload, 1) := by decide +kernel
theorem dX4_toldOf_39 : decode cX4_toldOf 39 = .ok (.iastore, 1) := by decide +kernel
theorem dX4_toldOf_40 : decode cX4_toldOf 40 = .ok (.dup, 1) := by decide +kernel
theorem dX4_toldOf_41 : decode cX4_toldOf 41 = .ok (.iconst 4, 1) := by decide +kernel
theorem dX4_toldOf_42 : decode cX4_toldOf 42 = .ok (.aload_n 0, 1) := by decide +kernel
theorem dX4_toldOf_43 : decode cX4_toldOf 43 = .ok (.getfield 60, 3) := by decide +kernel
theorem dX4_toldOf_46 : decode cX4_toldOf 46 = .ok (.iload_n 1, 1) := by decide +kernel
theorem dX4_toldOf_47 : decode cX4_toldOf 47 = .ok (.iaload, 1) := by decide +kernel
theorem dX4_toldOf_48 : decode cX4_toldOf 48 = .ok (.iastore, 1) := by decide +kernel
theorem dX4_toldOf_49 : decode cX4_toldOf 49 = .ok (.dup, 1) := by decide +kernel
theorem dX4_toldOf_50 : decode cX4_toldOf 50 = .ok (.iconst 5, 1) := by decide +kernel
theorem dX4_toldOf_51 : decode cX4_toldOf 51 = .ok (.aload_n 0, 1) := by decide +kernel
theorem dX4_toldOf_52 : decode cX4_toldOf 52 = .ok (.getfield 69, 3) := by decide +kernel
theorem dX4_toldOf_55 : decode cX4_toldOf 55 = .ok (.iload_n 1, 1) := by decide +kernel
theorem dX4_toldOf_56 : decode cX4_toldOf 56 = .ok (.iaload, 1) := by decide +kernel
theorem dX4_toldOf_57 : decode cX4_toldOf 57 = .ok (.iastore, 1) := by decide +kernel
theorem dX4_toldOf_58 : decode cX4_toldOf 58 = .ok (.dup, 1) := by decide +kernel
theorem dX4_toldOf_59 : decode cX4_toldOf 59 = .ok (.bipush 6, 2) := by decide +kernel
theorem dX4_toldOf_61 : decode cX4_toldOf 61 = .ok (.aload_n 0, 1) := by decide +kernel
theorem dX4_toldOf_62 : decode cX4_toldOf 62 = .ok (.getfield 72, 3) := by decide +kernel
theorem dX4_toldOf_65 : decode cX4_toldOf 65 = .ok (.iload_n 1, 1) := by decide +kernel
theorem dX4_toldOf_66 : decode cX4_toldOf 66 = .ok (.iaload, 1) := by decide +kernel
theorem dX4_toldOf_67 : decode cX4_toldOf 67 = .ok (.iastore, 1) := by decide +kernel
theorem dX4_toldOf_68 : decode cX4_toldOf 68 = .ok (.dup, 1) := by decide +kernel
theorem dX4_toldOf_69 : decode cX4_toldOf 69 = .ok (.bipush 7, 2) := by decide +kernel
theorem dX4_toldOf_71 : decode cX4_toldOf 71 = .ok (.aload_n 0, 1) := by decide +kernel
theorem dX4_toldOf_72 : decode cX4_toldOf 72 = .ok (.iload_n 1, 1) := by decide +kernel
theorem dX4_toldOf_73 : decode cX4_toldOf 73 = .ok (.invokevirtual 174, 3) := by decide +kernel
theorem dX4_toldOf_76 : decode cX4_toldOf 76 = .ok (.iastore, 1) := by decide +kernel
theorem dX4_toldOf_77 : decode cX4_toldOf 77 = .ok (.astore_n 3, 1) := by decide +kernel
theorem dX4_toldOf_78 : decode cX4_toldOf 78 = .ok (.aload_n 3, 1) := by decide +kernel
theorem dX4_toldOf_79 : decode cX4_toldOf 79 = .ok (.iload_n 2, 1) := by decide +kernel
theorem dX4_toldOf_80 : decode cX4_toldOf 80 = .ok (.iaload, 1) := by decide +kernel
theorem dX4_toldOf_81 : decode cX4_toldOf 81 = .ok (.ireturn, 1) := by decide +kernel
theorem dX4_flight_0 : decode cX4_flight 0 = .ok (.aload_n 0, 1) := by decide +kernel
theorem dX4_flight_1 : decode cX4_flight 1 = .ok (.iconst 0, 1) := by decide +kernel
theorem dX4_flight_2 : decode cX4_flight 2 = .ok (.putfield 78, 3) := by decide +kernel
theorem dX4_flight_5 : decode cX4_flight 5 = .ok (.aload_n 0, 1) := by decide +kernel
theorem dX4_flight_6 : decode cX4_flight 6 = .ok (.iload_n 1, 1) := by decide +kernel
theorem dX4_flight_7 : decode cX4_flight 7 = .ok (.invokevirtual 134, 3) := by decide +kernel
theorem dX4_flight_10 : decode cX4_flight 10 = .ok (.ifCond .eq 22, 3) := by decide +kernel
theorem dX4_flight_13 : decode cX4_flight 13 = .ok (.iload_n 2, 1) := by decide +kernel
theorem dX4_flight_14 : decode cX4_flight 14 = .ok (.iconst 0, 1) := by decide +kernel
theorem dX4_flight_15 : decode cX4_flight 15 = .ok (.bipush 7, 2) := by decide +kernel
theorem dX4_flight_17 : decode cX4_flight 17 = .ok (.invokestatic 84, 3) := by decide +kernel
theorem dX4_flight_20 : decode cX4_flight 20 = .ok (.ifCond .eq 12, 3) := by decide +kernel
theorem dX4_flight_23 : decode cX4_flight 23 = .ok (.aload_n 0, 1) := by decide +kernel
theorem dX4_flight_24 : decode cX4_flight 24 = .ok (.iload_n 1, 1) := by decide +kernel
theorem dX4_flight_25 : decode cX4_flight 25 = .ok (.iload_n 2, 1) := by decide +kernel
theorem dX4_flight_26 : decode cX4_flight 26 = .ok (.invokevirtual 177, 3) := by decide +kernel
theorem dX4_flight_29 : decode cX4_flight 29 = .ok (.goto 8, 3) := by decide +kernel
theorem dX4_flight_32 : decode cX4_flight 32 = .ok (.aload_n 0, 1) := by decide +kernel
theorem dX4_flight_33 : decode cX4_flight 33 = .ok (.iconst 1, 1) := by decide +kernel
theorem dX4_flight_34 : decode cX4_flight 34 = .ok (.invokevirtual 94, 3) := by decide +kernel
theorem dX4_flight_37 : decode cX4_flight 37 = .ok (.ireturn, 1) := by decide +kernel
theorem dX4_counted_0 : decode cX4_counted 0 = .ok (.iload_n 1, 1) := by decide +kernel
theorem dX4_counted_1 : decode cX4_counted 1 = .ok (.tableswitch 89 0 7 #[47, 52, 57, 62, 68, 89, 74, 79], 47) := by decide +kernel
theorem dX4_counted_48 : decode cX4_counted 48 = .ok (.aload_n 0, 1) := by decide +kernel
theorem dX4_counted_49 : decode cX4_counted 49 = .ok (.getfield 81, 3) := by decide +kernel
theorem dX4_counted_52 : decode cX4_counted 52 = .ok (.ireturn, 1) := by decide +kernel
theorem dX4_counted_53 : decode cX4_counted 53 = .ok (.aload_n 0, 1) := by decide +kernel
theorem dX4_counted_54 : decode cX4_counted 54 = .ok (.getfield 88, 3) := by decide +kernel
theorem dX4_counted_57 : decode cX4_counted 57 = .ok (.ireturn, 1) := by decide +kernel
theorem dX4_counted_58 : decode cX4_counted 58 = .ok (.aload_n 0, 1) := by decide +kernel
theorem dX4_counted_59 : decode cX4_counted 59 = .ok (.getfield 91, 3) := by decide +kernel
theorem dX4_counted_62 : decode cX4_counted 62 = .ok (.ireturn, 1) := by decide +kernel
theorem dX4_counted_63 : decode cX4_counted 63 = .ok (.aload_n 0, 1) := by decide +kernel
theorem dX4_counted_64 : decode cX4_counted 64 = .ok (.iconst 0, 1) := by decide +kernel
theorem dX4_counted_65 : decode cX4_counted 65 = .ok (.invokevirtual 128, 3) := by decide +kernel
theorem dX4_counted_68 : decode cX4_counted 68 = .ok (.ireturn, 1) := by decide +kernel
theorem dX4_counted_69 : decode cX4_counted 69 = .ok (.aload_n 0, 1) := by decide +kernel
theorem dX4_counted_70 : decode cX4_counted 70 = .ok (.iconst 1, 1) := by decide +kernel
theorem dX4_counted_71 : decode cX4_counted 71 = .ok (.invokevirtual 128, 3) := by decide +kernel
theorem dX4_counted_74 : decode cX4_counted 74 = .ok (.ireturn, 1) := by decide +kernel
theorem dX4_counted_75 : decode cX4_counted 75 = .ok (.aload_n 0, 1) := by decide +kernel
theorem dX4_counted_76 : decode cX4_counted 76 = .ok (.getfield 16, 3) := by decide +kernel
theorem dX4_counted_79 : decode cX4_counted 79 = .ok (.ireturn, 1) := by decide +kernel
theorem dX4_counted_80 : decode cX4_counted 80 = .ok (.aload_n 0, 1) := by decide +kernel
theorem dX4_counted_81 : decode cX4_counted 81 = .ok (.getfield 19, 3) := by decide +kernel
theorem dX4_counted_84 : decode cX4_counted 84 = .ok (.aload_n 0, 1) := by decide +kernel
theorem dX4_counted_85 : decode cX4_counted 85 = .ok (.invokevirtual 98, 3) := by decide +kernel
theorem dX4_counted_88 : decode cX4_counted 88 = .ok (.isub, 1) := by decide +kernel
theorem dX4_counted_89 : decode cX4_counted 89 = .ok (.ireturn, 1) := by decide +kernel
theorem dX4_counted_90 : decode cX4_counted 90 = .ok (.iconst 0, 1) := by decide +kernel
theorem dX4_counted_91 : decode cX4_counted 91 = .ok (.istore_n 2, 1) := by decide +kernel
theorem dX4_counted_92 : decode cX4_counted 92 = .ok (.aload_n 0, 1) := by decide +kernel
theorem dX4_counted_93 : decode cX4_counted 93 = .ok (.getfield 48, 3) := by decide +kernel
theorem dX4_counted_96 : decode cX4_counted 96 = .ok (.astore_n 3, 1) := by decide +kernel
theorem dX4_counted_97 : decode cX4_counted 97 = .ok (.aload_n 3, 1) := by decide +kernel
theorem dX4_counted_98 : decode cX4_counted 98 = .ok (.arraylength, 1) := by decide +kernel
theorem dX4_counted_99 : decode cX4_counted 99 = .ok (.istore 4, 2) := by decide +kernel
theorem dX4_counted_101 : decode cX4_counted 101 = .ok (.iconst 0, 1) := by decide +kernel
theorem dX4_counted_102 : decode cX4_counted 102 = .ok (.istore 5, 2) := by decide +kernel
theorem dX4_counted_104 : decode cX4_counted 104 = .ok (.iload 5, 2) := by decide +kernel
theorem dX4_counted_106 : decode cX4_counted 106 = .ok (.iload 4, 2) := by decide +kernel
theorem dX4_counted_108 : decode cX4_counted 108 = .ok (.if_icmp .ge 28, 3) := by decide +kernel
theorem dX4_counted_111 : decode cX4_counted 111 = .ok (.aload_n 3, 1) := by decide +kernel
theorem dX4_counted_112 : decode cX4_counted 112 = .ok (.iload 5, 2) := by decide +kernel
theorem dX4_counted_114 : decode cX4_counted 114 = .ok (.iaload, 1) := by decide +kernel
theorem dX4_counted_115 : decode cX4_counted 115 = .ok (.istore 6, 2) := by decide +kernel
theorem dX4_counted_117 : decode cX4_counted 117 = .ok (.iload_n 2, 1) := by decide +kernel
theorem dX4_counted_118 : decode cX4_counted 118 = .ok (.iload 6, 2) := by decide +kernel
theorem dX4_counted_120 : decode cX4_counted 120 = .ok (.ifCond .le 7, 3) := by decide +kernel
theorem dX4_counted_123 : decode cX4_counted 123 = .ok (.iconst 1, 1) := by decide +kernel
theorem dX4_counted_124 : decode cX4_counted 124 = .ok (.goto 4, 3) := by decide +kernel
theorem dX4_counted_127 : decode cX4_counted 127 = .ok (.iconst 0, 1) := by decide +kernel
theorem dX4_counted_128 : decode cX4_counted 128 = .ok (.iadd, 1) := by decide +kernel
theorem dX4_counted_129 : decode cX4_counted 129 = .ok (.istore_n 2, 1) := by decide +kernel
theorem dX4_counted_130 : decode cX4_counted 130 = .ok (.iinc 5 1, 3) := by decide +kernel
theorem dX4_counted_133 : decode cX4_counted 133 = .ok (.goto (-29), 3) := by decide +kernel
theorem dX4_counted_136 : decode cX4_counted 136 = .ok (.iload_n 2, 1) := by decide +kernel
theorem dX4_counted_137 : decode cX4_counted 137 = .ok (.ireturn, 1) := by decide +kernel
theorem dX4_count_0 : decode cX4_count 0 = .ok (.aload_n 0, 1) := by decide +kernel
theorem dX4_count_1 : decode cX4_count 1 = .ok (.iconst 0, 1) := by decide +kernel
theorem dX4_count_2 : decode cX4_count 2 = .ok (.putfield 78, 3) := by decide +kernel
theorem dX4_count_5 : decode cX4_count 5 = .ok (.iload_n 1, 1) := by decide +kernel
theorem dX4_count_6 : decode cX4_count 6 = .ok (.iconst 0, 1) := by decide +kernel
theorem dX4_count_7 : decode cX4_count 7 = .ok (.bipush 7, 2) := by decide +kernel
theorem dX4_count_9 : decode cX4_count 9 = .ok (.invokestatic 84, 3) := by decide +kernel
theorem dX4_count_12 : decode cX4_count 12 = .ok (.ifCond .eq 11, 3) := by decide +kernel
theorem dX4_count_15 : decode cX4_count 15 = .ok (.aload_n 0, 1) := by decide +kernel
theorem dX4_count_16 : decode cX4_count 16 = .ok (.iload_n 1, 1) := by decide +kernel
theorem dX4_count_17 : decode cX4_count 17 = .ok (.invokevirtual 180, 3) := by decide +kernel
theorem dX4_count_20 : decode cX4_count 20 = .ok (.goto 8, 3) := by decide +kernel
theorem dX4_count_23 : decode cX4_count 23 = .ok (.aload_n 0, 1) := by decide +kernel
theorem dX4_count_24 : decode cX4_count 24 = .ok (.iconst 1, 1) := by decide +kernel
theorem dX4_count_25 : decode cX4_count 25 = .ok (.invokevirtual 94, 3) := by decide +kernel
theorem dX4_count_28 : decode cX4_count 28 = .ok (.ireturn, 1) := by decide +kernel
theorem dX4_isBusy_0 : decode cX4_isBusy 0 = .ok (.aload_n 0, 1) := by decide +kernel
theorem dX4_isBusy_1 : decode cX4_isBusy 1 = .ok (.iconst 0, 1) := by decide +kernel
theorem dX4_isBusy_2 : decode cX4_isBusy 2 = .ok (.putfield 78, 3) := by decide +kernel
theorem dX4_isBusy_5 : decode cX4_isBusy 5 = .ok (.aload_n 0, 1) := by decide +kernel
theorem dX4_isBusy_6 : decode cX4_isBusy 6 = .ok (.invokevirtual 146, 3) := by decide +kernel
theorem dX4_isBusy_9 : decode cX4_isBusy 9 = .ok (.ireturn, 1) := by decide +kernel
theorem dX4_billOf_0 : decode cX4_billOf 0 = .ok (.aload_n 0, 1) := by decide +kernel
theorem dX4_billOf_1 : decode cX4_billOf 1 = .ok (.getfield 29, 3) := by decide +kernel
theorem dX4_billOf_4 : decode cX4_billOf 4 = .ok (.iload_n 1, 1) := by decide +kernel
theorem dX4_billOf_5 : decode cX4_billOf 5 = .ok (.iaload, 1) := by decide +kernel
theorem dX4_billOf_6 : decode cX4_billOf 6 = .ok (.ineg, 1) := by decide +kernel
theorem dX4_billOf_7 : decode cX4_billOf 7 = .ok (.istore_n 2, 1) := by decide +kernel
theorem dX4_billOf_8 : decode cX4_billOf 8 = .ok (.iconst 0, 1) := by decide +kernel
theorem dX4_billOf_9 : decode cX4_billOf 9 = .ok (.istore_n 3, 1) := by decide +kernel
theorem dX4_billOf_10 : decode cX4_billOf 10 = .ok (.iload_n 3, 1) := by decide +kernel
theorem dX4_billOf_11 : decode cX4_billOf 11 = .ok (.aload_n 0, 1) := by decide +kernel
theorem dX4_billOf_12 : decode cX4_billOf 12 = .ok (.getfield 91, 3) := by decide +kernel
theorem dX4_billOf_15 : decode cX4_billOf 15 = .ok (.if_icmp .ge 31, 3) := by decide +kernel
theorem dX4_billOf_18 : decode cX4_billOf 18 = .ok (.iload_n 2, 1) := by decide +kernel
theorem dX4_billOf_19 : decode cX4_billOf 19 = .ok (.aload_n 0, 1) := by decide +kernel
theorem dX4_billOf_20 : decode cX4_billOf 20 = .ok (.getfield 51, 3) := by decide +kernel
theorem dX4_billOf_23 : decode cX4_billOf 23 = .ok (.iload_n 3, 1) := by decide +kernel
theorem dX4_billOf_24 : decode cX4_billOf 24 = .ok (.iaload, 1) := by decide +kernel
theorem dX4_billOf_25 : decode cX4_billOf 25 = .ok (.iload_n 1, 1) := by decide +kernel
theorem dX4_billOf_26 : decode cX4_billOf 26 = .ok (.if_icmp .ne 11, 3) := by decide +kernel
theorem dX4_billOf_29 : decode cX4_billOf 29 = .ok (.aload_n 0, 1) := by decide +kernel
theorem dX4_billOf_30 : decode cX4_billOf 30 = .ok (.iload_n 3, 1) := by decide +kernel
theorem dX4_billOf_31 : decode cX4_billOf 31 = .ok (.invokevirtual 174, 3) := by decide +kernel
theorem dX4_billOf_34 : decode cX4_billOf 34 = .ok (.goto 4, 3) := by decide +kernel
theorem dX4_billOf_37 : decode cX4_billOf 37 = .ok (.iconst 0, 1) := by decide +kernel
theorem dX4_billOf_38 : decode cX4_billOf 38 = .ok (.iadd, 1) := by decide +kernel
theorem dX4_billOf_39 : decode cX4_billOf 39 = .ok (.istore_n 2, 1) := by decide +kernel
theorem dX4_billOf_40 : decode cX4_billOf 40 = .ok (.iinc 3 1, 3) := by decide +kernel
theorem dX4_billOf_43 : decode cX4_billOf 43 = .ok (.goto (-33), 3) := by decide +kernel
theorem dX4_billOf_46 : decode cX4_billOf 46 = .ok (.iload_n 2, 1) := by decide +kernel
theorem dX4_billOf_47 : decode cX4_billOf 47 = .ok (.ireturn, 1) := by decide +kernel
theorem dX4_bill_0 : decode cX4_bill 0 = .ok (.aload_n 0, 1) := by decide +kernel
theorem dX4_bill_1 : decode cX4_bill 1 = .ok (.iconst 0, 1) := by decide +kernel
theorem dX4_bill_2 : decode cX4_bill 2 = .ok (.putfield 78, 3) := by decide +kernel
theorem dX4_bill_5 : decode cX4_bill 5 = .ok (.aload_n 0, 1) := by decide +kernel
theorem dX4_bill_6 : decode cX4_bill 6 = .ok (.iload_n 1, 1) := by decide +kernel
theorem dX4_bill_7 : decode cX4_bill 7 = .ok (.invokevirtual 112, 3) := by decide +kernel
theorem dX4_bill_10 : decode cX4_bill 10 = .ok (.ifCond .eq 11, 3) := by decide +kernel
theorem dX4_bill_13 : decode cX4_bill 13 = .ok (.aload_n 0, 1) := by decide +kernel
theorem dX4_bill_14 : decode cX4_bill 14 = .ok (.iload_n 1, 1) := by decide +kernel
theorem dX4_bill_15 : decode cX4_bill 15 = .ok (.invokevirtual 183, 3) := by decide +kernel
theorem dX4_bill_18 : decode cX4_bill 18 = .ok (.goto 8, 3) := by decide +kernel
theorem dX4_bill_21 : decode cX4_bill 21 = .ok (.aload_n 0, 1) := by decide +kernel
theorem dX4_bill_22 : decode cX4_bill 22 = .ok (.iconst 1, 1) := by decide +kernel
theorem dX4_bill_23 : decode cX4_bill 23 = .ok (.invokevirtual 94, 3) := by decide +kernel
theorem dX4_bill_26 : decode cX4_bill 26 = .ok (.ireturn, 1) := by decide +kernel
theorem dX4_pay_0 : decode cX4_pay 0 = .ok (.aload_n 0, 1) := by decide +kernel
theorem dX4_pay_1 : decode cX4_pay 1 = .ok (.iconst 0, 1) := by decide +kernel
theorem dX4_pay_2 : decode cX4_pay 2 = .ok (.putfield 78, 3) := by decide +kernel
theorem dX4_pay_5 : decode cX4_pay 5 = .ok (.aload_n 0, 1) := by decide +kernel
theorem dX4_pay_6 : decode cX4_pay 6 = .ok (.iload_n 1, 1) := by decide +kernel
theorem dX4_pay_7 : decode cX4_pay 7 = .ok (.invokevirtual 112, 3) := by decide +kernel
theorem dX4_pay_10 : decode cX4_pay 10 = .ok (.ifCond .ne 9, 3) := by decide +kernel
theorem dX4_pay_13 : decode cX4_pay 13 = .ok (.aload_n 0, 1) := by decide +kernel
theorem dX4_pay_14 : decode cX4_pay 14 = .ok (.iconst 1, 1) := by decide +kernel
theorem dX4_pay_15 : decode cX4_pay 15 = .ok (.invokevirtual 94, 3) := by decide +kernel
theorem dX4_pay_18 : decode cX4_pay 18 = .ok (.ireturn, 1) := by decide +kernel
theorem dX4_pay_19 : decode cX4_pay 19 = .ok (.iload_n 2, 1) := by decide +kernel
theorem dX4_pay_20 : decode cX4_pay 20 = .ok (.iconst 1, 1) := by decide +kernel
theorem dX4_pay_21 : decode cX4_pay 21 = .ok (.ldc 186, 2) := by decide +kernel
theorem dX4_pay_23 : decode cX4_pay 23 = .ok (.invokestatic 84, 3) := by decide +kernel
theorem dX4_pay_26 : decode cX4_pay 26 = .ok (.ifCond .ne 9, 3) := by decide +kernel
theorem dX4_pay_29 : decode cX4_pay 29 = .ok (.aload_n 0, 1) := by decide +kernel
theorem dX4_pay_30 : decode cX4_pay 30 = .ok (.iconst 2, 1) := by decide +kernel
theorem dX4_pay_31 : decode cX4_pay 31 = .ok (.invokevirtual 94, 3) := by decide +kernel
theorem dX4_pay_34 : decode cX4_pay 34 = .ok (.ireturn, 1) := by decide +kernel
theorem dX4_pay_35 : decode cX4_pay 35 = .ok (.aload_n 0, 1) := by decide +kernel
theorem dX4_pay_36 : decode cX4_pay 36 = .ok (.getfield 29, 3) := by decide +kernel
theorem dX4_pay_39 : decode cX4_pay 39 = .ok (.iload_n 1, 1) := by decide +kernel
theorem dX4_pay_40 : decode cX4_pay 40 = .ok (.dup2, 1) := by decide +kernel
theorem dX4_pay_41 : decode cX4_pay 41 = .ok (.iaload, 1) := by decide +kernel
theorem dX4_pay_42 : decode cX4_pay 42 = .ok (.iload_n 2, 1) := by decide +kernel
theorem dX4_pay_43 : decode cX4_pay 43 = .ok (.iadd, 1) := by decide +kernel
theorem dX4_pay_44 : decode cX4_pay 44 = .ok (.iastore, 1) := by decide +kernel
theorem dX4_pay_45 : decode cX4_pay 45 = .ok (.aload_n 0, 1) := by decide +kernel
theorem dX4_pay_46 : decode cX4_pay 46 = .ok (.iload_n 1, 1) := by decide +kernel
theorem dX4_pay_47 : decode cX4_pay 47 = .ok (.invokevirtual 183, 3) := by decide +kernel
theorem dX4_pay_50 : decode cX4_pay 50 = .ok (.ireturn, 1) := by decide +kernel
theorem dX4_income_0 : decode cX4_income 0 = .ok (.aload_n 0, 1) := by decide +kernel
theorem dX4_income_1 : decode cX4_income 1 = .ok (.iconst 0, 1) := by decide +kernel
theorem dX4_income_2 : decode cX4_income 2 = .ok (.putfield 78, 3) := by decide +kernel
theorem dX4_income_5 : decode cX4_income 5 = .ok (.iconst 0, 1) := by decide +kernel
theorem dX4_income_6 : decode cX4_income 6 = .ok (.istore_n 1, 1) := by decide +kernel
theorem dX4_income_7 : decode cX4_income 7 = .ok (.iconst 0, 1) := by decide +kernel
theorem dX4_income_8 : decode cX4_income 8 = .ok (.istore_n 2, 1) := by decide +kernel
theorem dX4_income_9 : decode cX4_income 9 = .ok (.iload_n 2, 1) := by decide +kernel
theorem dX4_income_10 : decode cX4_income 10 = .ok (.aload_n 0, 1) := by decide +kernel
theorem dX4_income_11 : decode cX4_income 11 = .ok (.getfield 91, 3) := by decide +kernel
theorem dX4_income_14 : decode cX4_income 14 = .ok (.if_icmp .ge 17, 3) := by decide +kernel
theorem dX4_income_17 : decode cX4_income 17 = .ok (.iload_n 1, 1) := by decide +kernel
theorem dX4_income_18 : decode cX4_income 18 = .ok (.aload_n 0, 1) := by decide +kernel
theorem dX4_income_19 : decode cX4_income 19 = .ok (.iload_n 2, 1) := by decide +kernel
theorem dX4_income_20 : decode cX4_income 20 = .ok (.invokevirtual 174, 3) := by decide +kernel
theorem dX4_income_23 : decode cX4_income 23 = .ok (.iadd, 1) := by decide +kernel
theorem dX4_income_24 : decode cX4_income 24 = .ok (.istore_n 1, 1) := by decide +kernel
theorem dX4_income_25 : decode cX4_income 25 = .ok (.iinc 2 1, 3) := by decide +kernel
theorem dX4_income_28 : decode cX4_income 28 = .ok (.goto (-19), 3) := by decide +kernel
theorem dX4_income_31 : decode cX4_income 31 = .ok (.iload_n 1, 1) := by decide +kernel
theorem dX4_income_32 : decode cX4_income 32 = .ok (.ireturn, 1) := by decide +kernel
theorem dX4_longest_0 : decode cX4_longest 0 = .ok (.aload_n 0, 1) := by decide +kernel
theorem dX4_longest_1 : decode cX4_longest 1 = .ok (.iconst 0, 1) := by decide +kernel
theorem dX4_longest_2 : decode cX4_longest 2 = .ok (.putfield 78, 3) := by decide +kernel
theorem dX4_longest_5 : decode cX4_longest 5 = .ok (.iconst (-1), 1) := by decide +kernel
theorem dX4_longest_6 : decode cX4_longest 6 = .ok (.istore_n 1, 1) := by decide +kernel
theorem dX4_longest_7 : decode cX4_longest 7 = .ok (.iconst 0, 1) := by decide +kernel
theorem dX4_longest_8 : decode cX4_longest 8 = .ok (.istore_n 2, 1) := by decide +kernel
theorem dX4_longest_9 : decode cX4_longest 9 = .ok (.iload_n 2, 1) := by decide +kernel
theorem dX4_longest_10 : decode cX4_longest 10 = .ok (.aload_n 0, 1) := by decide +kernel
theorem dX4_longest_11 : decode cX4_longest 11 = .ok (.getfield 91, 3) := by decide +kernel
theorem dX4_longest_14 : decode cX4_longest 14 = .ok (.if_icmp .ge 55, 3) := by decide +kernel
theorem dX4_longest_17 : decode cX4_longest 17 = .ok (.aload_n 0, 1) := by decide +kernel
theorem dX4_longest_18 : decode cX4_longest 18 = .ok (.getfield 75, 3) := by decide +kernel
theorem dX4_longest_21 : decode cX4_longest 21 = .ok (.iload_n 2, 1) := by decide +kernel
theorem dX4_longest_22 : decode cX4_longest 22 = .ok (.iaload, 1) := by decide +kernel
theorem dX4_longest_23 : decode cX4_longest 23 = .ok (.iconst 2, 1) := by decide +kernel
theorem dX4_longest_24 : decode cX4_longest 24 = .ok (.if_icmp .ne 39, 3) := by decide +kernel
theorem dX4_longest_27 : decode cX4_longest 27 = .ok (.iload_n 1, 1) := by decide +kernel
theorem dX4_longest_28 : decode cX4_longest 28 = .ok (.iconst (-1), 1) := by decide +kernel
theorem dX4_longest_29 : decode cX4_longest 29 = .ok (.if_icmp .eq 32, 3) := by decide +kernel
theorem dX4_longest_32 : decode cX4_longest 32 = .ok (.aload_n 0, 1) := by decide +kernel
theorem dX4_longest_33 : decode cX4_longest 33 = .ok (.getfield 72, 3) := by decide +kernel
theorem dX4_longest_36 : decode cX4_longest 36 = .ok (.iload_n 2, 1) := by decide +kernel
theorem dX4_longest_37 : decode cX4_longest 37 = .ok (.iaload, 1) := by decide +kernel
theorem dX4_longest_38 : decode cX4_longest 38 = .ok (.aload_n 0, 1) := by decide +kernel
theorem dX4_longest_39 : decode cX4_longest 39 = .ok (.getfield 69, 3) := by decide +kernel
theorem dX4_longest_42 : decode cX4_longest 42 = .ok (.iload_n 2, 1) := by decide +kernel
theorem dX4_longest_43 : decode cX4_longest 43 = .ok (.iaload, 1) := by decide +kernel
theorem dX4_longest_44 : decode cX4_longest 44 = .ok (.isub, 1) := by decide +kernel
theorem dX4_longest_45 : decode cX4_longest 45 = .ok (.aload_n 0, 1) := by decide +kernel
theorem dX4_longest_46 : decode cX4_longest 46 = .ok (.getfield 72, 3) := by decide +kernel
theorem dX4_longest_49 : decode cX4_longest 49 = .ok (.iload_n 1, 1) := by decide +kernel
theorem dX4_longest_50 : decode cX4_longest 50 = .ok (.iaload, 1) := by decide +kernel
theorem dX4_longest_51 : decode cX4_longest 51 = .ok (.aload_n 0, 1) := by decide +kernel
theorem dX4_longest_52 : decode cX4_longest 52 = .ok (.getfield 69, 3) := by decide +kernel
theorem dX4_longest_55 : decode cX4_longest 55 = .ok (.iload_n 1, 1) := by decide +kernel
theorem dX4_longest_56 : decode cX4_longest 56 = .ok (.iaload, 1) := by decide +kernel
theorem dX4_longest_57 : decode cX4_longest 57 = .ok (.isub, 1) := by decide +kernel
theorem dX4_longest_58 : decode cX4_longest 58 = .ok (.if_icmp .le 5, 3) := by decide +kernel
theorem dX4_longest_61 : decode cX4_longest 61 = .ok (.iload_n 2, 1) := by decide +kernel
theorem dX4_longest_62 : decode cX4_longest 62 = .ok (.istore_n 1, 1) := by decide +kernel
theorem dX4_longest_63 : decode cX4_longest 63 = .ok (.iinc 2 1, 3) := by decide +kernel
theorem dX4_longest_66 : decode cX4_longest 66 = .ok (.goto (-57), 3) := by decide +kernel
theorem dX4_longest_69 : decode cX4_longest 69 = .ok (.iload_n 1, 1) := by decide +kernel
theorem dX4_longest_70 : decode cX4_longest 70 = .ok (.ireturn, 1) := by decide +kernel
theorem dX4_waited_0 : decode cX4_waited 0 = .ok (.aload_n 0, 1) := by decide +kernel
theorem dX4_waited_1 : decode cX4_waited 1 = .ok (.iconst 0, 1) := by decide +kernel
theorem dX4_waited_2 : decode cX4_waited 2 = .ok (.putfield 78, 3) := by decide +kernel
theorem dX4_waited_5 : decode cX4_waited 5 = .ok (.iconst 0, 1) := by decide +kernel
theorem dX4_waited_6 : decode cX4_waited 6 = .ok (.istore_n 1, 1) := by decide +kernel
theorem dX4_waited_7 : decode cX4_waited 7 = .ok (.iconst 0, 1) := by decide +kernel
theorem dX4_waited_8 : decode cX4_waited 8 = .ok (.istore_n 2, 1) := by decide +kernel
theorem dX4_waited_9 : decode cX4_waited 9 = .ok (.iconst 0, 1) := by decide +kernel
theorem dX4_waited_10 : decode cX4_waited 10 = .ok (.istore_n 3, 1) := by decide +kernel
theorem dX4_waited_11 : decode cX4_waited 11 = .ok (.iload_n 3, 1) := by decide +kernel
theorem dX4_waited_12 : decode cX4_waited 12 = .ok (.aload_n 0, 1) := by decide +kernel
theorem dX4_waited_13 : decode cX4_waited 13 = .ok (.getfield 91, 3) := by decide +kernel
theorem dX4_waited_16 : decode cX4_waited 16 = .ok (.if_icmp .ge 41, 3) := by decide +kernel
theorem dX4_waited_19 : decode cX4_waited 19 = .ok (.aload_n 0, 1) := by decide +kernel
theorem dX4_waited_20 : decode cX4_waited 20 = .ok (.getfield 69, 3) := by decide +kernel
theorem dX4_waited_23 : decode cX4_waited 23 = .ok (.iload_n 3, 1) := by decide +kernel
theorem dX4_waited_24 : decode cX4_waited 24 = .ok (.iaload, 1) := by decide +kernel
theorem dX4_waited_25 : decode cX4_waited 25 = .ok (.iconst (-1), 1) := by decide +kernel
theorem dX4_waited_26 : decode cX4_waited 26 = .ok (.if_icmp .ne 6, 3) := by decide +kernel
theorem dX4_waited_29 : decode cX4_waited 29 = .ok (.goto 22, 3) := by decide +kernel
theorem dX4_waited_32 : decode cX4_waited 32 = .ok (.iload_n 1, 1) := by decide +kernel
theorem dX4_waited_33 : decode cX4_waited 33 = .ok (.aload_n 0, 1) := by decide +kernel
theorem dX4_waited_34 : decode cX4_waited 34 = .ok (.getfield 69, 3) := by decide +kernel
theorem dX4_waited_37 : decode cX4_waited 37 = .ok (.iload_n 3, 1) := by decide +kernel
theorem dX4_waited_38 : decode cX4_waited 38 = .ok (.iaload, 1) := by decide +kernel
theorem dX4_waited_39 : decode cX4_waited 39 = .ok (.aload_n 0, 1) := by decide +kernel
theorem dX4_waited_40 : decode cX4_waited 40 = .ok (.getfield 66, 3) := by decide +kernel
theorem dX4_waited_43 : decode cX4_waited 43 = .ok (.iload_n 3, 1) := by decide +kernel
theorem dX4_waited_44 : decode cX4_waited 44 = .ok (.iaload, 1) := by decide +kernel
theorem dX4_waited_45 : decode cX4_waited 45 = .ok (.isub, 1) := by decide +kernel
theorem dX4_waited_46 : decode cX4_waited 46 = .ok (.iadd, 1) := by decide +kernel
theorem dX4_waited_47 : decode cX4_waited 47 = .ok (.istore_n 1, 1) := by decide +kernel
theorem dX4_waited_48 : decode cX4_waited 48 = .ok (.iinc 2 1, 3) := by decide +kernel
theorem dX4_waited_51 : decode cX4_waited 51 = .ok (.iinc 3 1, 3) := by decide +kernel
theorem dX4_waited_54 : decode cX4_waited 54 = .ok (.goto (-43), 3) := by decide +kernel
theorem dX4_waited_57 : decode cX4_waited 57 = .ok (.iload_n 2, 1) := by decide +kernel
theorem dX4_waited_58 : decode cX4_waited 58 = .ok (.ifCond .ne 7, 3) := by decide +kernel
theorem dX4_waited_61 : decode cX4_waited 61 = .ok (.dconst 0, 1) := by decide +kernel
theorem dX4_waited_62 : decode cX4_waited 62 = .ok (.goto 8, 3) := by decide +kernel
theorem dX4_waited_65 : decode cX4_waited 65 = .ok (.iload_n 1, 1) := by decide +kernel
theorem dX4_waited_66 : decode cX4_waited 66 = .ok (.i2d, 1) := by decide +kernel
theorem dX4_waited_67 : decode cX4_waited 67 = .ok (.iload_n 2, 1) := by decide +kernel
theorem dX4_waited_68 : decode cX4_waited 68 = .ok (.i2d, 1) := by decide +kernel
theorem dX4_waited_69 : decode cX4_waited 69 = .ok (.ddiv, 1) := by decide +kernel
theorem dX4_waited_70 : decode cX4_waited 70 = .ok (.dreturn, 1) := by decide +kernel
theorem dX4_digest_0 : decode cX4_digest 0 = .ok (.aload_n 0, 1) := by decide +kernel
theorem dX4_digest_1 : decode cX4_digest 1 = .ok (.iconst 0, 1) := by decide +kernel
theorem dX4_digest_2 : decode cX4_digest 2 = .ok (.putfield 78, 3) := by decide +kernel
theorem dX4_digest_5 : decode cX4_digest 5 = .ok (.ldc2_w 187, 3) := by decide +kernel
theorem dX4_digest_8 : decode cX4_digest 8 = .ok (.aload_n 0, 1) := by decide +kernel
theorem dX4_digest_9 : decode cX4_digest 9 = .ok (.getfield 131, 3) := by decide +kernel
theorem dX4_digest_12 : decode cX4_digest 12 = .ok (.i2l, 1) := by decide +kernel
theorem dX4_digest_13 : decode cX4_digest 13 = .ok (.ladd, 1) := by decide +kernel
theorem dX4_digest_14 : decode cX4_digest 14 = .ok (.lstore_n 1, 1) := by decide +kernel
theorem dX4_digest_15 : decode cX4_digest 15 = .ok (.iconst 0, 1) := by decide +kernel
theorem dX4_digest_16 : decode cX4_digest 16 = .ok (.istore_n 3, 1) := by decide +kernel
theorem dX4_digest_17 : decode cX4_digest 17 = .ok (.iload_n 3, 1) := by decide +kernel
theorem dX4_digest_18 : decode cX4_digest 18 = .ok (.bipush 8, 2) := by decide +kernel
theorem dX4_digest_20 : decode cX4_digest 20 = .ok (.if_icmp .ge 22, 3) := by decide +kernel
theorem dX4_digest_23 : decode cX4_digest 23 = .ok (.lload_n 1, 1) := by decide +kernel
theorem dX4_digest_24 : decode cX4_digest 24 = .ok (.ldc2_w 189, 3) := by decide +kernel
theorem dX4_digest_27 : decode cX4_digest 27 = .ok (.lmul, 1) := by decide +kernel
theorem dX4_digest_28 : decode cX4_digest 28 = .ok (.aload_n 0, 1) := by decide +kernel
theorem dX4_digest_29 : decode cX4_digest 29 = .ok (.iload_n 3, 1) := by decide +kernel
theorem dX4_digest_30 : decode cX4_digest 30 = .ok (.invokevirtual 180, 3) := by decide +kernel
theorem dX4_digest_33 : decode cX4_digest 33 = .ok (.i2l, 1) := by decide +kernel
theorem dX4_digest_34 : decode cX4_digest 34 = .ok (.ladd, 1) := by decide +kernel
theorem dX4_digest_35 : decode cX4_digest 35 = .ok (.lstore_n 1, 1) := by decide +kernel
theorem dX4_digest_36 : decode cX4_digest 36 = .ok (.iinc 3 1, 3) := by decide +kernel
theorem dX4_digest_39 : decode cX4_digest 39 = .ok (.goto (-22), 3) := by decide +kernel
theorem dX4_digest_42 : decode cX4_digest 42 = .ok (.iconst 0, 1) := by decide +kernel
theorem dX4_digest_43 : decode cX4_digest 43 = .ok (.istore_n 3, 1) := by decide +kernel
theorem dX4_digest_44 : decode cX4_digest 44 = .ok (.iload_n 3, 1) := by decide +kernel
theorem dX4_digest_45 : decode cX4_digest 45 = .ok (.aload_n 0, 1) := by decide +kernel
theorem dX4_digest_46 : decode cX4_digest 46 = .ok (.getfield 81, 3) := by decide +kernel
theorem dX4_digest_49 : decode cX4_digest 49 = .ok (.if_icmp .ge 53, 3) := by decide +kernel
theorem dX4_digest_52 : decode cX4_digest 52 = .ok (.iconst 0, 1) := by decide +kernel
theorem dX4_digest_53 : decode cX4_digest 53 = .ok (.istore 4, 2) := by decide +kernel
theorem dX4_digest_55 : decode cX4_digest 55 = .ok (.iload 4, 2) := by decide +kernel
theorem dX4_digest_57 : decode cX4_digest 57 = .ok (.bipush 6, 2) := by decide +kernel
theorem dX4_digest_59 : decode cX4_digest 59 = .ok (.if_icmp .ge 24, 3) := by decide +kernel
theorem dX4_digest_62 : decode cX4_digest 62 = .ok (.lload_n 1, 1) := by decide +kernel
theorem dX4_digest_63 : decode cX4_digest 63 = .ok (.ldc2_w 189, 3) := by decide +kernel
theorem dX4_digest_66 : decode cX4_digest 66 = .ok (.lmul, 1) := by decide +kernel
theorem dX4_digest_67 : decode cX4_digest 67 = .ok (.aload_n 0, 1) := by decide +kernel
theorem dX4_digest_68 : decode cX4_digest 68 = .ok (.iload_n 3, 1) := by decide +kernel
theorem dX4_digest_69 : decode cX4_digest 69 = .ok (.iload 4, 2) := by decide +kernel
theorem dX4_digest_71 : decode cX4_digest 71 = .ok (.invokevirtual 122, 3) := by decide +kernel
theorem dX4_digest_74 : decode cX4_digest 74 = .ok (.i2l, 1) := by decide +kernel
theorem dX4_digest_75 : decode cX4_digest 75 = .ok (.ladd, 1) := by decide +kernel
theorem dX4_digest_76 : decode cX4_digest 76 = .ok (.lstore_n 1, 1) := by decide +kernel
theorem dX4_digest_77 : decode cX4_digest 77 = .ok (.iinc 4 1, 3) := by decide +kernel
theorem dX4_digest_80 : decode cX4_digest 80 = .ok (.goto (-25), 3) := by decide +kernel
theorem dX4_digest_83 : decode cX4_digest 83 = .ok (.lload_n 1, 1) := by decide +kernel
theorem dX4_digest_84 : decode cX4_digest 84 = .ok (.ldc2_w 189, 3) := by decide +kernel
theorem dX4_digest_87 : decode cX4_digest 87 = .ok (.lmul, 1) := by decide +kernel
theorem dX4_digest_88 : decode cX4_digest 88 = .ok (.aload_n 0, 1) := by decide +kernel
theorem dX4_digest_89 : decode cX4_digest 89 = .ok (.iload_n 3, 1) := by decide +kernel
theorem dX4_digest_90 : decode cX4_digest 90 = .ok (.invokevirtual 183, 3) := by decide +kernel
theorem dX4_digest_93 : decode cX4_digest 93 = .ok (.i2l, 1) := by decide +kernel
theorem dX4_digest_94 : decode cX4_digest 94 = .ok (.ladd, 1) := by decide +kernel
theorem dX4_digest_95 : decode cX4_digest 95 = .ok (.lstore_n 1, 1) := by decide +kernel
theorem dX4_digest_96 : decode cX4_digest 96 = .ok (.iinc 3 1, 3) := by decide +kernel
theorem dX4_digest_99 : decode cX4_digest 99 = .ok (.goto (-55), 3) := by decide +kernel
theorem dX4_digest_102 : decode cX4_digest 102 = .ok (.iconst 0, 1) := by decide +kernel
theorem dX4_digest_103 : decode cX4_digest 103 = .ok (.istore_n 3, 1) := by decide +kernel
theorem dX4_digest_104 : decode cX4_digest 104 = .ok (.iload_n 3, 1) := by decide +kernel
theorem dX4_digest_105 : decode cX4_digest 105 = .ok (.aload_n 0, 1) := by decide +kernel
theorem dX4_digest_106 : decode cX4_digest 106 = .ok (.getfield 88, 3) := by decide +kernel
theorem dX4_digest_109 : decode cX4_digest 109 = .ok (.if_icmp .ge 39, 3) := by decide +kernel
theorem dX4_digest_112 : decode cX4_digest 112 = .ok (.iconst 0, 1) := by decide +kernel
theorem dX4_digest_113 : decode cX4_digest 113 = .ok (.istore 4, 2) := by decide +kernel
theorem dX4_digest_115 : decode cX4_digest 115 = .ok (.iload 4, 2) := by decide +kernel
theorem dX4_digest_117 : decode cX4_digest 117 = .ok (.iconst 5, 1) := by decide +kernel
theorem dX4_digest_118 : decode cX4_digest 118 = .ok (.if_icmp .ge 24, 3) := by decide +kernel
theorem dX4_digest_121 : decode cX4_digest 121 = .ok (.lload_n 1, 1) := by decide +kernel
theorem dX4_digest_122 : decode cX4_digest 122 = .ok (.ldc2_w 189, 3) := by decide +kernel
theorem dX4_digest_125 : decode cX4_digest 125 = .ok (.lmul, 1) := by decide +kernel
theorem dX4_digest_126 : decode cX4_digest 126 = .ok (.aload_n 0, 1) := by decide +kernel
theorem dX4_digest_127 : decode cX4_digest 127 = .ok (.iload_n 3, 1) := by decide +kernel
theorem dX4_digest_128 : decode cX4_digest 128 = .ok (.iload 4, 2) := by decide +kernel
theorem dX4_digest_130 : decode cX4_digest 130 = .ok (.invokevirtual 125, 3) := by decide +kernel
theorem dX4_digest_133 : decode cX4_digest 133 = .ok (.i2l, 1) := by decide +kernel
theorem dX4_digest_134 : decode cX4_digest 134 = .ok (.ladd, 1) := by decide +kernel
theorem dX4_digest_135 : decode cX4_digest 135 = .ok (.lstore_n 1, 1) := by decide +kernel
theorem dX4_digest_136 : decode cX4_digest 136 = .ok (.iinc 4 1, 3) := by decide +kernel
theorem dX4_digest_139 : decode cX4_digest 139 = .ok (.goto (-24), 3) := by decide +kernel
theorem dX4_digest_142 : decode cX4_digest 142 = .ok (.iinc 3 1, 3) := by decide +kernel
theorem dX4_digest_145 : decode cX4_digest 145 = .ok (.goto (-41), 3) := by decide +kernel
theorem dX4_digest_148 : decode cX4_digest 148 = .ok (.iconst 0, 1) := by decide +kernel
theorem dX4_digest_149 : decode cX4_digest 149 = .ok (.istore_n 3, 1) := by decide +kernel
theorem dX4_digest_150 : decode cX4_digest 150 = .ok (.iload_n 3, 1) := by decide +kernel
theorem dX4_digest_151 : decode cX4_digest 151 = .ok (.aload_n 0, 1) := by decide +kernel
theorem dX4_digest_152 : decode cX4_digest 152 = .ok (.getfield 91, 3) := by decide +kernel
theorem dX4_digest_155 : decode cX4_digest 155 = .ok (.if_icmp .ge 40, 3) := by decide +kernel
theorem dX4_digest_158 : decode cX4_digest 158 = .ok (.iconst 0, 1) := by decide +kernel
theorem dX4_digest_159 : decode cX4_digest 159 = .ok (.istore 4, 2) := by decide +kernel
theorem dX4_digest_161 : decode cX4_digest 161 = .ok (.iload 4, 2) := by decide +kernel
theorem dX4_digest_163 : decode cX4_digest 163 = .ok (.bipush 8, 2) := by decide +kernel
theorem dX4_digest_165 : decode cX4_digest 165 = .ok (.if_icmp .ge 24, 3) := by decide +kernel
theorem dX4_digest_168 : decode cX4_digest 168 = .ok (.lload_n 1, 1) := by decide +kernel
theorem dX4_digest_169 : decode cX4_digest 169 = .ok (.ldc2_w 189, 3) := by decide +kernel
theorem dX4_digest_172 : decode cX4_digest 172 = .ok (.lmul, 1) := by decide +kernel
theorem dX4_digest_173 : decode cX4_digest 173 = .ok (.aload_n 0, 1) := by decide +kernel
theorem dX4_digest_174 : decode cX4_digest 174 = .ok (.iload_n 3, 1) := by decide +kernel
theorem dX4_digest_175 : decode cX4_digest 175 = .ok (.iload 4, 2) := by decide +kernel
theorem dX4_digest_177 : decode cX4_digest 177 = .ok (.invokevirtual 177, 3) := by decide +kernel
theorem dX4_digest_180 : decode cX4_digest 180 = .ok (.i2l, 1) := by decide +kernel
theorem dX4_digest_181 : decode cX4_digest 181 = .ok (.ladd, 1) := by decide +kernel
theorem dX4_digest_182 : decode cX4_digest 182 = .ok (.lstore_n 1, 1) := by decide +kernel
theorem dX4_digest_183 : decode cX4_digest 183 = .ok (.iinc 4 1, 3) := by decide +kernel
theorem dX4_digest_186 : decode cX4_digest 186 = .ok (.goto (-25), 3) := by decide +kernel
theorem dX4_digest_189 : decode cX4_digest 189 = .ok (.iinc 3 1, 3) := by decide +kernel
theorem dX4_digest_192 : decode cX4_digest 192 = .ok (.goto (-42), 3) := by decide +kernel
theorem dX4_digest_195 : decode cX4_digest 195 = .ok (.iconst 0, 1) := by decide +kernel
theorem dX4_digest_196 : decode cX4_digest 196 = .ok (.istore_n 3, 1) := by decide +kernel
theorem dX4_digest_197 : decode cX4_digest 197 = .ok (.iload_n 3, 1) := by decide +kernel
theorem dX4_digest_198 : decode cX4_digest 198 = .ok (.aload_n 0, 1) := by decide +kernel
theorem dX4_digest_199 : decode cX4_digest 199 = .ok (.getfield 91, 3) := by decide +kernel
theorem dX4_digest_202 : decode cX4_digest 202 = .ok (.if_icmp .ge 27, 3) := by decide +kernel
theorem dX4_digest_205 : decode cX4_digest 205 = .ok (.aload_n 0, 1) := by decide +kernel
theorem dX4_digest_206 : decode cX4_digest 206 = .ok (.getfield 75, 3) := by decide +kernel
theorem dX4_digest_209 : decode cX4_digest 209 = .ok (.iload_n 3, 1) := by decide +kernel
theorem dX4_digest_210 : decode cX4_digest 210 = .ok (.iaload, 1) := by decide +kernel
theorem dX4_digest_211 : decode cX4_digest 211 = .ok (.ifCond .ne 12, 3) := by decide +kernel
theorem dX4_digest_214 : decode cX4_digest 214 = .ok (.lload_n 1, 1) := by decide +kernel
theorem dX4_digest_215 : decode cX4_digest 215 = .ok (.ldc2_w 189, 3) := by decide +kernel
theorem dX4_digest_218 : decode cX4_digest 218 = .ok (.lmul, 1) := by decide +kernel
theorem dX4_digest_219 : decode cX4_digest 219 = .ok (.iload_n 3, 1) := by decide +kernel
theorem dX4_digest_220 : decode cX4_digest 220 = .ok (.i2l, 1) := by decide +kernel
theorem dX4_digest_221 : decode cX4_digest 221 = .ok (.ladd, 1) := by decide +kernel
theorem dX4_digest_222 : decode cX4_digest 222 = .ok (.lstore_n 1, 1) := by decide +kernel
theorem dX4_digest_223 : decode cX4_digest 223 = .ok (.iinc 3 1, 3) := by decide +kernel
theorem dX4_digest_226 : decode cX4_digest 226 = .ok (.goto (-29), 3) := by decide +kernel
theorem dX4_digest_229 : decode cX4_digest 229 = .ok (.lload_n 1, 1) := by decide +kernel
theorem dX4_digest_230 : decode cX4_digest 230 = .ok (.lreturn, 1) := by decide +kernel
end
section
theorem dL_addMember_0 : decode cL_addMember 0 = .ok (.aload_n 2, 1) := by decide +kernel
theorem dL_addMember_1 : decode cL_addMember 1 = .ok (.iconst 0, 1) := by decide +kernel
theorem dL_addMember_2 : decode cL_addMember 2 = .ok (.aload_n 0, 1) := by decide +kernel
theorem dL_addMember_3 : decode cL_addMember 3 = .ok (.iload_n 1, 1) := by decide +kernel
theorem dL_addMember_4 : decode cL_addMember 4 = .ok (.invokevirtual 7, 3) := by decide +kernel
theorem dL_addMember_7 : decode cL_addMember 7 = .ok (.i2l, 1) := by decide +kernel
theorem dL_addMember_8 : decode cL_addMember 8 = .ok (.lastore, 1) := by decide +kernel
theorem dL_addMember_9 : decode cL_addMember 9 = .ok (.goto 9, 3) := by decide +kernel
theorem dL_addMember_12 : decode cL_addMember 12 = .ok (.astore_n 3, 1) := by decide +kernel
theorem dL_addMember_13 : decode cL_addMember 13 = .ok (.iconst 1, 1) := by decide +kernel
theorem dL_addMember_14 : decode cL_addMember 14 = .ok (.ireturn, 1) := by decide +kernel
theorem dL_addMember_15 : decode cL_addMember 15 = .ok (.astore_n 3, 1) := by decide +kernel
theorem dL_addMember_16 : decode cL_addMember 16 = .ok (.iconst 2, 1) := by decide +kernel
theorem dL_addMember_17 : decode cL_addMember 17 = .ok (.ireturn, 1) := by decide +kernel
theorem dL_addMember_18 : decode cL_addMember 18 = .ok (.iconst 0, 1) := by decide +kernel
theorem dL_addMember_19 : decode cL_addMember 19 = .ok (.ireturn, 1) := by decide +kernel
theorem dL_addGlider_0 : decode cL_addGlider 0 = .ok (.aload 4, 2) := by decide +kernel
theorem dL_addGlider_2 : decode cL_addGlider 2 = .ok (.iconst 0, 1) := by decide +kernel
theorem dL_addGlider_3 : decode cL_addGlider 3 = .ok (.aload_n 0, 1) := by decide +kernel
theorem dL_addGlider_4 : decode cL_addGlider 4 = .ok (.iload_n 1, 1) := by decide +kernel
theorem dL_addGlider_5 : decode cL_addGlider 5 = .ok (.iload_n 2, 1) := by decide +kernel
theorem dL_addGlider_6 : decode cL_addGlider 6 = .ok (.iload_n 3, 1) := by decide +kernel
theorem dL_addGlider_7 : decode cL_addGlider 7 = .ok (.invokevirtual 17, 3) := by decide +kernel
theorem dL_addGlider_10 : decode cL_addGlider 10 = .ok (.i2l, 1) := by decide +kernel
theorem dL_addGlider_11 : decode cL_addGlider 11 = .ok (.lastore, 1) := by decide +kernel
theorem dL_addGlider_12 : decode cL_addGlider 12 = .ok (.goto 11, 3) := by decide +kernel
theorem dL_addGlider_15 : decode cL_addGlider 15 = .ok (.astore 5, 2) := by decide +kernel
theorem dL_addGlider_17 : decode cL_addGlider 17 = .ok (.iconst 1, 1) := by decide +kernel
theorem dL_addGlider_18 : decode cL_addGlider 18 = .ok (.ireturn, 1) := by decide +kernel
theorem dL_addGlider_19 : decode cL_addGlider 19 = .ok (.astore 5, 2) := by decide +kernel
theorem dL_addGlider_21 : decode cL_addGlider 21 = .ok (.iconst 2, 1) := by decide +kernel
theorem dL_addGlider_22 : decode cL_addGlider 22 = .ok (.ireturn, 1) := by decide +kernel
theorem dL_addGlider_23 : decode cL_addGlider 23 = .ok (.iconst 0, 1) := by decide +kernel
theorem dL_addGlider_24 : decode cL_addGlider 24 = .ok (.ireturn, 1) := by decide +kernel
theorem dL_setWind_0 : decode cL_setWind 0 = .ok (.aload_n 2, 1) := by decide +kernel
theorem dL_setWind_1 : decode cL_setWind 1 = .ok (.iconst 0, 1) := by decide +kernel
theorem dL_setWind_2 : decode cL_setWind 2 = .ok (.aload_n 0, 1) := by decide +kernel
theorem dL_setWind_3 : decode cL_setWind 3 = .ok (.iload_n 1, 1) := by decide +kernel
theorem dL_setWind_4 : decode cL_setWind 4 = .ok (.invokevirtual 21, 3) := by decide +kernel
theorem dL_setWind_7 : decode cL_setWind 7 = .ok (.i2l, 1) := by decide +kernel
theorem dL_setWind_8 : decode cL_setWind 8 = .ok (.lastore, 1) := by decide +kernel
theorem dL_setWind_9 : decode cL_setWind 9 = .ok (.goto 6, 3) := by decide +kernel
theorem dL_setWind_12 : decode cL_setWind 12 = .ok (.astore_n 3, 1) := by decide +kernel
theorem dL_setWind_13 : decode cL_setWind 13 = .ok (.iconst 1, 1) := by decide +kernel
theorem dL_setWind_14 : decode cL_setWind 14 = .ok (.ireturn, 1) := by decide +kernel
theorem dL_setWind_15 : decode cL_setWind 15 = .ok (.iconst 0, 1) := by decide +kernel
theorem dL_setWind_16 : decode cL_setWind 16 = .ok (.ireturn, 1) := by decide +kernel
theorem dL_setSunset_0 : decode cL_setSunset 0 = .ok (.aload_n 2, 1) := by decide +kernel
theorem dL_setSunset_1 : decode cL_setSunset 1 = .ok (.iconst 0, 1) := by decide +kernel
theorem dL_setSunset_2 : decode cL_setSunset 2 = .ok (.aload_n 0, 1) := by decide +kernel
theorem dL_setSunset_3 : decode cL_setSunset 3 = .ok (.iload_n 1, 1) := by decide +kernel
theorem dL_setSunset_4 : decode cL_setSunset 4 = .ok (.invokevirtual 24, 3) := by decide +kernel
theorem dL_setSunset_7 : decode cL_setSunset 7 = .ok (.i2l, 1) := by decide +kernel
theorem dL_setSunset_8 : decode cL_setSunset 8 = .ok (.lastore, 1) := by decide +kernel
theorem dL_setSunset_9 : decode cL_setSunset 9 = .ok (.goto 6, 3) := by decide +kernel
theorem dL_setSunset_12 : decode cL_setSunset 12 = .ok (.astore_n 3, 1) := by decide +kernel
theorem dL_setSunset_13 : decode cL_setSunset 13 = .ok (.iconst 1, 1) := by decide +kernel
theorem dL_setSunset_14 : decode cL_setSunset 14 = .ok (.ireturn, 1) := by decide +kernel
theorem dL_setSunset_15 : decode cL_setSunset 15 = .ok (.iconst 0, 1) := by decide +kernel
theorem dL_setSunset_16 : decode cL_setSunset 16 = .ok (.ireturn, 1) := by decide +kernel
theorem dL_setTugs_0 : decode cL_setTugs 0 = .ok (.aload_n 2, 1) := by decide +kernel
theorem dL_setTugs_1 : decode cL_setTugs 1 = .ok (.iconst 0, 1) := by decide +kernel
theorem dL_setTugs_2 : decode cL_setTugs 2 = .ok (.aload_n 0, 1) := by decide +kernel
theorem dL_setTugs_3 : decode cL_setTugs 3 = .ok (.iload_n 1, 1) := by decide +kernel
theorem dL_setTugs_4 : decode cL_setTugs 4 = .ok (.invokevirtual 27, 3) := by decide +kernel
theorem dL_setTugs_7 : decode cL_setTugs 7 = .ok (.i2l, 1) := by decide +kernel
theorem dL_setTugs_8 : decode cL_setTugs 8 = .ok (.lastore, 1) := by decide +kernel
theorem dL_setTugs_9 : decode cL_setTugs 9 = .ok (.goto 9, 3) := by decide +kernel
theorem dL_setTugs_12 : decode cL_setTugs 12 = .ok (.astore_n 3, 1) := by decide +kernel
theorem dL_setTugs_13 : decode cL_setTugs 13 = .ok (.iconst 1, 1) := by decide +kernel
theorem dL_setTugs_14 : decode cL_setTugs 14 = .ok (.ireturn, 1) := by decide +kernel
theorem dL_setTugs_15 : decode cL_setTugs 15 = .ok (.astore_n 3, 1) := by decide +kernel
theorem dL_setTugs_16 : decode cL_setTugs 16 = .ok (.iconst 2, 1) := by decide +kernel
theorem dL_setTugs_17 : decode cL_setTugs 17 = .ok (.ireturn, 1) := by decide +kernel
theorem dL_setTugs_18 : decode cL_setTugs 18 = .ok (.iconst 0, 1) := by decide +kernel
theorem dL_setTugs_19 : decode cL_setTugs 19 = .ok (.ireturn, 1) := by decide +kernel
theorem dL_bar_0 : decode cL_bar 0 = .ok (.aload_n 3, 1) := by decide +kernel
theorem dL_bar_1 : decode cL_bar 1 = .ok (.iconst 0, 1) := by decide +kernel
theorem dL_bar_2 : decode cL_bar 2 = .ok (.aload_n 0, 1) := by decide +kernel
theorem dL_bar_3 : decode cL_bar 3 = .ok (.iload_n 1, 1) := by decide +kernel
theorem dL_bar_4 : decode cL_bar 4 = .ok (.iload_n 2, 1) := by decide +kernel
theorem dL_bar_5 : decode cL_bar 5 = .ok (.invokevirtual 30, 3) := by decide +kernel
theorem dL_bar_8 : decode cL_bar 8 = .ok (.ifCond .eq 7, 3) := by decide +kernel
theorem dL_bar_11 : decode cL_bar 11 = .ok (.lconst 1, 1) := by decide +kernel
theorem dL_bar_12 : decode cL_bar 12 = .ok (.goto 4, 3) := by decide +kernel
theorem dL_bar_15 : decode cL_bar 15 = .ok (.lconst 0, 1) := by decide +kernel
theorem dL_bar_16 : decode cL_bar 16 = .ok (.lastore, 1) := by decide +kernel
theorem dL_bar_17 : decode cL_bar 17 = .ok (.goto 11, 3) := by decide +kernel
theorem dL_bar_20 : decode cL_bar 20 = .ok (.astore 4, 2) := by decide +kernel
theorem dL_bar_22 : decode cL_bar 22 = .ok (.iconst 1, 1) := by decide +kernel
theorem dL_bar_23 : decode cL_bar 23 = .ok (.ireturn, 1) := by decide +kernel
theorem dL_bar_24 : decode cL_bar 24 = .ok (.astore 4, 2) := by decide +kernel
theorem dL_bar_26 : decode cL_bar 26 = .ok (.iconst 2, 1) := by decide +kernel
theorem dL_bar_27 : decode cL_bar 27 = .ok (.ireturn, 1) := by decide +kernel
theorem dL_bar_28 : decode cL_bar 28 = .ok (.iconst 0, 1) := by decide +kernel
theorem dL_bar_29 : decode cL_bar 29 = .ok (.ireturn, 1) := by decide +kernel
theorem dL_promote_0 : decode cL_promote 0 = .ok (.aload_n 2, 1) := by decide +kernel
theorem dL_promote_1 : decode cL_promote 1 = .ok (.iconst 0, 1) := by decide +kernel
theorem dL_promote_2 : decode cL_promote 2 = .ok (.aload_n 0, 1) := by decide +kernel
theorem dL_promote_3 : decode cL_promote 3 = .ok (.iload_n 1, 1) := by decide +kernel
theorem dL_promote_4 : decode cL_promote 4 = .ok (.invokevirtual 36, 3) := by decide +kernel
theorem dL_promote_7 : decode cL_promote 7 = .ok (.i2l, 1) := by decide +kernel
theorem dL_promote_8 : decode cL_promote 8 = .ok (.lastore, 1) := by decide +kernel
theorem dL_promote_9 : decode cL_promote 9 = .ok (.goto 9, 3) := by decide +kernel
theorem dL_promote_12 : decode cL_promote 12 = .ok (.astore_n 3, 1) := by decide +kernel
theorem dL_promote_13 : decode cL_promote 13 = .ok (.iconst 1, 1) := by decide +kernel
theorem dL_promote_14 : decode cL_promote 14 = .ok (.ireturn, 1) := by decide +kernel
theorem dL_promote_15 : decode cL_promote 15 = .ok (.astore_n 3, 1) := by decide +kernel
theorem dL_promote_16 : decode cL_promote 16 = .ok (.iconst 2, 1) := by decide +kernel
theorem dL_promote_17 : decode cL_promote 17 = .ok (.ireturn, 1) := by decide +kernel
theorem dL_promote_18 : decode cL_promote 18 = .ok (.iconst 0, 1) := by decide +kernel
theorem dL_promote_19 : decode cL_promote 19 = .ok (.ireturn, 1) := by decide +kernel
theorem dL_member_0 : decode cL_member 0 = .ok (.aload_n 3, 1) := by decide +kernel
theorem dL_member_1 : decode cL_member 1 = .ok (.iconst 0, 1) := by decide +kernel
theorem dL_member_2 : decode cL_member 2 = .ok (.aload_n 0, 1) := by decide +kernel
theorem dL_member_3 : decode cL_member 3 = .ok (.iload_n 1, 1) := by decide +kernel
theorem dL_member_4 : decode cL_member 4 = .ok (.iload_n 2, 1) := by decide +kernel
theorem dL_member_5 : decode cL_member 5 = .ok (.invokevirtual 39, 3) := by decide +kernel
theorem dL_member_8 : decode cL_member 8 = .ok (.i2l, 1) := by decide +kernel
theorem dL_member_9 : decode cL_member 9 = .ok (.lastore, 1) := by decide +kernel
theorem dL_member_10 : decode cL_member 10 = .ok (.goto 7, 3) := by decide +kernel
theorem dL_member_13 : decode cL_member 13 = .ok (.astore 4, 2) := by decide +kernel
theorem dL_member_15 : decode cL_member 15 = .ok (.iconst 1, 1) := by decide +kernel
theorem dL_member_16 : decode cL_member 16 = .ok (.ireturn, 1) := by decide +kernel
theorem dL_member_17 : decode cL_member 17 = .ok (.iconst 0, 1) := by decide +kernel
theorem dL_member_18 : decode cL_member 18 = .ok (.ireturn, 1) := by decide +kernel
theorem dL_glider_0 : decode cL_glider 0 = .ok (.aload_n 3, 1) := by decide +kernel
theorem dL_glider_1 : decode cL_glider 1 = .ok (.iconst 0, 1) := by decide +kernel
theorem dL_glider_2 : decode cL_glider 2 = .ok (.aload_n 0, 1) := by decide +kernel
theorem dL_glider_3 : decode cL_glider 3 = .ok (.iload_n 1, 1) := by decide +kernel
theorem dL_glider_4 : decode cL_glider 4 = .ok (.iload_n 2, 1) := by decide +kernel
theorem dL_glider_5 : decode cL_glider 5 = .ok (.invokevirtual 43, 3) := by decide +kernel
theorem dL_glider_8 : decode cL_glider 8 = .ok (.i2l, 1) := by decide +kernel
theorem dL_glider_9 : decode cL_glider 9 = .ok (.lastore, 1) := by decide +kernel
theorem dL_glider_10 : decode cL_glider 10 = .ok (.goto 7, 3) := by decide +kernel
theorem dL_glider_13 : decode cL_glider 13 = .ok (.astore 4, 2) := by decide +kernel
theorem dL_glider_15 : decode cL_glider 15 = .ok (.iconst 1, 1) := by decide +kernel
theorem dL_glider_16 : decode cL_glider 16 = .ok (.ireturn, 1) := by decide +kernel
theorem dL_glider_17 : decode cL_glider 17 = .ok (.iconst 0, 1) := by decide +kernel
theorem dL_glider_18 : decode cL_glider 18 = .ok (.ireturn, 1) := by decide +kernel
theorem dL_ask_0 : decode cL_ask 0 = .ok (.aload 6, 2) := by decide +kernel
theorem dL_ask_2 : decode cL_ask 2 = .ok (.iconst 0, 1) := by decide +kernel
theorem dL_ask_3 : decode cL_ask 3 = .ok (.aload_n 0, 1) := by decide +kernel
theorem dL_ask_4 : decode cL_ask 4 = .ok (.iload_n 1, 1) := by decide +kernel
theorem dL_ask_5 : decode cL_ask 5 = .ok (.iload_n 2, 1) := by decide +kernel
theorem dL_ask_6 : decode cL_ask 6 = .ok (.iload_n 3, 1) := by decide +kernel
theorem dL_ask_7 : decode cL_ask 7 = .ok (.iload 4, 2) := by decide +kernel
theorem dL_ask_9 : decode cL_ask 9 = .ok (.iload 5, 2) := by decide +kernel
theorem dL_ask_11 : decode cL_ask 11 = .ok (.invokevirtual 46, 3) := by decide +kernel
theorem dL_ask_14 : decode cL_ask 14 = .ok (.i2l, 1) := by decide +kernel
theorem dL_ask_15 : decode cL_ask 15 = .ok (.lastore, 1) := by decide +kernel
theorem dL_ask_16 : decode cL_ask 16 = .ok (.goto 15, 3) := by decide +kernel
theorem dL_ask_19 : decode cL_ask 19 = .ok (.astore 7, 2) := by decide +kernel
theorem dL_ask_21 : decode cL_ask 21 = .ok (.iconst 1, 1) := by decide +kernel
theorem dL_ask_22 : decode cL_ask 22 = .ok (.ireturn, 1) := by decide +kernel
theorem dL_ask_23 : decode cL_ask 23 = .ok (.astore 7, 2) := by decide +kernel
theorem dL_ask_25 : decode cL_ask 25 = .ok (.iconst 2, 1) := by decide +kernel
theorem dL_ask_26 : decode cL_ask 26 = .ok (.ireturn, 1) := by decide +kernel
theorem dL_ask_27 : decode cL_ask 27 = .ok (.astore 7, 2) := by decide +kernel
theorem dL_ask_29 : decode cL_ask 29 = .ok (.iconst 3, 1) := by decide +kernel
theorem dL_ask_30 : decode cL_ask 30 = .ok (.ireturn, 1) := by decide +kernel
theorem dL_ask_31 : decode cL_ask 31 = .ok (.iconst 0, 1) := by decide +kernel
theorem dL_ask_32 : decode cL_ask 32 = .ok (.ireturn, 1) := by decide +kernel
theorem dL_drop_0 : decode cL_drop 0 = .ok (.aload_n 2, 1) := by decide +kernel
theorem dL_drop_1 : decode cL_drop 1 = .ok (.iconst 0, 1) := by decide +kernel
theorem dL_drop_2 : decode cL_drop 2 = .ok (.aload_n 0, 1) := by decide +kernel
theorem dL_drop_3 : decode cL_drop 3 = .ok (.iload_n 1, 1) := by decide +kernel
theorem dL_drop_4 : decode cL_drop 4 = .ok (.invokevirtual 50, 3) := by decide +kernel
theorem dL_drop_7 : decode cL_drop 7 = .ok (.i2l, 1) := by decide +kernel
theorem dL_drop_8 : decode cL_drop 8 = .ok (.lastore, 1) := by decide +kernel
theorem dL_drop_9 : decode cL_drop 9 = .ok (.goto 9, 3) := by decide +kernel
theorem dL_drop_12 : decode cL_drop 12 = .ok (.astore_n 3, 1) := by decide +kernel
theorem dL_drop_13 : decode cL_drop 13 = .ok (.iconst 1, 1) := by decide +kernel
theorem dL_drop_14 : decode cL_drop 14 = .ok (.ireturn, 1) := by decide +kernel
theorem dL_drop_15 : decode cL_drop 15 = .ok (.astore_n 3, 1) := by decide +kernel
theorem dL_drop_16 : decode cL_drop 16 = .ok (.iconst 2, 1) := by decide +kernel
theorem dL_drop_17 : decode cL_drop 17 = .ok (.ireturn, 1) := by decide +kernel
theorem dL_drop_18 : decode cL_drop 18 = .ok (.iconst 0, 1) := by decide +kernel
theorem dL_drop_19 : decode cL_drop 19 = .ok (.ireturn, 1) := by decide +kernel
theorem dL_list_0 : decode cL_list 0 = .ok (.aload_n 2, 1) := by decide +kernel
theorem dL_list_1 : decode cL_list 1 = .ok (.iconst 0, 1) := by decide +kernel
theorem dL_list_2 : decode cL_list 2 = .ok (.aload_n 0, 1) := by decide +kernel
theorem dL_list_3 : decode cL_list 3 = .ok (.iload_n 1, 1) := by decide +kernel
theorem dL_list_4 : decode cL_list 4 = .ok (.invokevirtual 53, 3) := by decide +kernel
theorem dL_list_7 : decode cL_list 7 = .ok (.i2l, 1) := by decide +kernel
theorem dL_list_8 : decode cL_list 8 = .ok (.lastore, 1) := by decide +kernel
theorem dL_list_9 : decode cL_list 9 = .ok (.goto 6, 3) := by decide +kernel
theorem dL_list_12 : decode cL_list 12 = .ok (.astore_n 3, 1) := by decide +kernel
theorem dL_list_13 : decode cL_list 13 = .ok (.iconst 1, 1) := by decide +kernel
theorem dL_list_14 : decode cL_list 14 = .ok (.ireturn, 1) := by decide +kernel
theorem dL_list_15 : decode cL_list 15 = .ok (.iconst 0, 1) := by decide +kernel
theorem dL_list_16 : decode cL_list 16 = .ok (.ireturn, 1) := by decide +kernel
theorem dL_reason_0 : decode cL_reason 0 = .ok (.aload_n 2, 1) := by decide +kernel
theorem dL_reason_1 : decode cL_reason 1 = .ok (.iconst 0, 1) := by decide +kernel
theorem dL_reason_2 : decode cL_reason 2 = .ok (.aload_n 0, 1) := by decide +kernel
theorem dL_reason_3 : decode cL_reason 3 = .ok (.iload_n 1, 1) := by decide +kernel
theorem dL_reason_4 : decode cL_reason 4 = .ok (.invokevirtual 56, 3) := by decide +kernel
theorem dL_reason_7 : decode cL_reason 7 = .ok (.i2l, 1) := by decide +kernel
theorem dL_reason_8 : decode cL_reason 8 = .ok (.lastore, 1) := by decide +kernel
theorem dL_reason_9 : decode cL_reason 9 = .ok (.goto 9, 3) := by decide +kernel
theorem dL_reason_12 : decode cL_reason 12 = .ok (.astore_n 3, 1) := by decide +kernel
theorem dL_reason_13 : decode cL_reason 13 = .ok (.iconst 1, 1) := by decide +kernel
theorem dL_reason_14 : decode cL_reason 14 = .ok (.ireturn, 1) := by decide +kernel
theorem dL_reason_15 : decode cL_reason 15 = .ok (.astore_n 3, 1) := by decide +kernel
theorem dL_reason_16 : decode cL_reason 16 = .ok (.iconst 2, 1) := by decide +kernel
theorem dL_reason_17 : decode cL_reason 17 = .ok (.ireturn, 1) := by decide +kernel
theorem dL_reason_18 : decode cL_reason 18 = .ok (.iconst 0, 1) := by decide +kernel
theorem dL_reason_19 : decode cL_reason 19 = .ok (.ireturn, 1) := by decide +kernel
theorem dL_call_0 : decode cL_call 0 = .ok (.aload_n 2, 1) := by decide +kernel
theorem dL_call_1 : decode cL_call 1 = .ok (.iconst 0, 1) := by decide +kernel
theorem dL_call_2 : decode cL_call 2 = .ok (.aload_n 0, 1) := by decide +kernel
theorem dL_call_3 : decode cL_call 3 = .ok (.iload_n 1, 1) := by decide +kernel
theorem dL_call_4 : decode cL_call 4 = .ok (.invokevirtual 59, 3) := by decide +kernel
theorem dL_call_7 : decode cL_call 7 = .ok (.i2l, 1) := by decide +kernel
theorem dL_call_8 : decode cL_call 8 = .ok (.lastore, 1) := by decide +kernel
theorem dL_call_9 : decode cL_call 9 = .ok (.goto 9, 3) := by decide +kernel
theorem dL_call_12 : decode cL_call 12 = .ok (.astore_n 3, 1) := by decide +kernel
theorem dL_call_13 : decode cL_call 13 = .ok (.iconst 1, 1) := by decide +kernel
theorem dL_call_14 : decode cL_call 14 = .ok (.ireturn, 1) := by decide +kernel
theorem dL_call_15 : decode cL_call 15 = .ok (.astore_n 3, 1) := by decide +kernel
theorem dL_call_16 : decode cL_call 16 = .ok (.iconst 2, 1) := by decide +kernel
theorem dL_call_17 : decode cL_call 17 = .ok (.ireturn, 1) := by decide +kernel
theorem dL_call_18 : decode cL_call 18 = .ok (.iconst 0, 1) := by decide +kernel
theorem dL_call_19 : decode cL_call 19 = .ok (.ireturn, 1) := by decide +kernel
theorem dL_tick_0 : decode cL_tick 0 = .ok (.aload_n 2, 1) := by decide +kernel
theorem dL_tick_1 : decode cL_tick 1 = .ok (.iconst 0, 1) := by decide +kernel
theorem dL_tick_2 : decode cL_tick 2 = .ok (.aload_n 0, 1) := by decide +kernel
theorem dL_tick_3 : decode cL_tick 3 = .ok (.iload_n 1, 1) := by decide +kernel
theorem dL_tick_4 : decode cL_tick 4 = .ok (.invokevirtual 62, 3) := by decide +kernel
theorem dL_tick_7 : decode cL_tick 7 = .ok (.i2l, 1) := by decide +kernel
theorem dL_tick_8 : decode cL_tick 8 = .ok (.lastore, 1) := by decide +kernel
theorem dL_tick_9 : decode cL_tick 9 = .ok (.goto 6, 3) := by decide +kernel
theorem dL_tick_12 : decode cL_tick 12 = .ok (.astore_n 3, 1) := by decide +kernel
theorem dL_tick_13 : decode cL_tick 13 = .ok (.iconst 1, 1) := by decide +kernel
theorem dL_tick_14 : decode cL_tick 14 = .ok (.ireturn, 1) := by decide +kernel
theorem dL_tick_15 : decode cL_tick 15 = .ok (.iconst 0, 1) := by decide +kernel
theorem dL_tick_16 : decode cL_tick 16 = .ok (.ireturn, 1) := by decide +kernel
theorem dL_flight_0 : decode cL_flight 0 = .ok (.aload_n 3, 1) := by decide +kernel
theorem dL_flight_1 : decode cL_flight 1 = .ok (.iconst 0, 1) := by decide +kernel
theorem dL_flight_2 : decode cL_flight 2 = .ok (.aload_n 0, 1) := by decide +kernel
theorem dL_flight_3 : decode cL_flight 3 = .ok (.iload_n 1, 1) := by decide +kernel
theorem dL_flight_4 : decode cL_flight 4 = .ok (.iload_n 2, 1) := by decide +kernel
theorem dL_flight_5 : decode cL_flight 5 = .ok (.invokevirtual 65, 3) := by decide +kernel
theorem dL_flight_8 : decode cL_flight 8 = .ok (.i2l, 1) := by decide +kernel
theorem dL_flight_9 : decode cL_flight 9 = .ok (.lastore, 1) := by decide +kernel
theorem dL_flight_10 : decode cL_flight 10 = .ok (.goto 7, 3) := by decide +kernel
theorem dL_flight_13 : decode cL_flight 13 = .ok (.astore 4, 2) := by decide +kernel
theorem dL_flight_15 : decode cL_flight 15 = .ok (.iconst 1, 1) := by decide +kernel
theorem dL_flight_16 : decode cL_flight 16 = .ok (.ireturn, 1) := by decide +kernel
theorem dL_flight_17 : decode cL_flight 17 = .ok (.iconst 0, 1) := by decide +kernel
theorem dL_flight_18 : decode cL_flight 18 = .ok (.ireturn, 1) := by decide +kernel
theorem dL_count_0 : decode cL_count 0 = .ok (.aload_n 2, 1) := by decide +kernel
theorem dL_count_1 : decode cL_count 1 = .ok (.iconst 0, 1) := by decide +kernel
theorem dL_count_2 : decode cL_count 2 = .ok (.aload_n 0, 1) := by decide +kernel
theorem dL_count_3 : decode cL_count 3 = .ok (.iload_n 1, 1) := by decide +kernel
theorem dL_count_4 : decode cL_count 4 = .ok (.invokevirtual 68, 3) := by decide +kernel
theorem dL_count_7 : decode cL_count 7 = .ok (.i2l, 1) := by decide +kernel
theorem dL_count_8 : decode cL_count 8 = .ok (.lastore, 1) := by decide +kernel
theorem dL_count_9 : decode cL_count 9 = .ok (.goto 6, 3) := by decide +kernel
theorem dL_count_12 : decode cL_count 12 = .ok (.astore_n 3, 1) := by decide +kernel
theorem dL_count_13 : decode cL_count 13 = .ok (.iconst 1, 1) := by decide +kernel
theorem dL_count_14 : decode cL_count 14 = .ok (.ireturn, 1) := by decide +kernel
theorem dL_count_15 : decode cL_count 15 = .ok (.iconst 0, 1) := by decide +kernel
theorem dL_count_16 : decode cL_count 16 = .ok (.ireturn, 1) := by decide +kernel
theorem dL_bill_0 : decode cL_bill 0 = .ok (.aload_n 2, 1) := by decide +kernel
theorem dL_bill_1 : decode cL_bill 1 = .ok (.iconst 0, 1) := by decide +kernel
theorem dL_bill_2 : decode cL_bill 2 = .ok (.aload_n 0, 1) := by decide +kernel
theorem dL_bill_3 : decode cL_bill 3 = .ok (.iload_n 1, 1) := by decide +kernel
theorem dL_bill_4 : decode cL_bill 4 = .ok (.invokevirtual 71, 3) := by decide +kernel
theorem dL_bill_7 : decode cL_bill 7 = .ok (.i2l, 1) := by decide +kernel
theorem dL_bill_8 : decode cL_bill 8 = .ok (.lastore, 1) := by decide +kernel
theorem dL_bill_9 : decode cL_bill 9 = .ok (.goto 6, 3) := by decide +kernel
theorem dL_bill_12 : decode cL_bill 12 = .ok (.astore_n 3, 1) := by decide +kernel
theorem dL_bill_13 : decode cL_bill 13 = .ok (.iconst 1, 1) := by decide +kernel
theorem dL_bill_14 : decode cL_bill 14 = .ok (.ireturn, 1) := by decide +kernel
theorem dL_bill_15 : decode cL_bill 15 = .ok (.iconst 0, 1) := by decide +kernel
theorem dL_bill_16 : decode cL_bill 16 = .ok (.ireturn, 1) := by decide +kernel
theorem dL_pay_0 : decode cL_pay 0 = .ok (.aload_n 3, 1) := by decide +kernel
theorem dL_pay_1 : decode cL_pay 1 = .ok (.iconst 0, 1) := by decide +kernel
theorem dL_pay_2 : decode cL_pay 2 = .ok (.aload_n 0, 1) := by decide +kernel
theorem dL_pay_3 : decode cL_pay 3 = .ok (.iload_n 1, 1) := by decide +kernel
theorem dL_pay_4 : decode cL_pay 4 = .ok (.iload_n 2, 1) := by decide +kernel
theorem dL_pay_5 : decode cL_pay 5 = .ok (.invokevirtual 74, 3) := by decide +kernel
theorem dL_pay_8 : decode cL_pay 8 = .ok (.i2l, 1) := by decide +kernel
theorem dL_pay_9 : decode cL_pay 9 = .ok (.lastore, 1) := by decide +kernel
theorem dL_pay_10 : decode cL_pay 10 = .ok (.goto 11, 3) := by decide +kernel
theorem dL_pay_13 : decode cL_pay 13 = .ok (.astore 4, 2) := by decide +kernel
theorem dL_pay_15 : decode cL_pay 15 = .ok (.iconst 1, 1) := by decide +kernel
theorem dL_pay_16 : decode cL_pay 16 = .ok (.ireturn, 1) := by decide +kernel
theorem dL_pay_17 : decode cL_pay 17 = .ok (.astore 4, 2) := by decide +kernel
theorem dL_pay_19 : decode cL_pay 19 = .ok (.iconst 2, 1) := by decide +kernel
theorem dL_pay_20 : decode cL_pay 20 = .ok (.ireturn, 1) := by decide +kernel
theorem dL_pay_21 : decode cL_pay 21 = .ok (.iconst 0, 1) := by decide +kernel
theorem dL_pay_22 : decode cL_pay 22 = .ok (.ireturn, 1) := by decide +kernel
theorem dL_law_0 : decode cL_law 0 = .ok (.new 8, 3) := by decide +kernel
theorem dL_law_3 : decode cL_law 3 = .ok (.dup, 1) := by decide +kernel
theorem dL_law_4 : decode cL_law 4 = .ok (.invokespecial 77, 3) := by decide +kernel
theorem dL_law_7 : decode cL_law 7 = .ok (.astore_n 1, 1) := by decide +kernel
theorem dL_law_8 : decode cL_law 8 = .ok (.new 78, 3) := by decide +kernel
theorem dL_law_11 : decode cL_law 11 = .ok (.dup, 1) := by decide +kernel
theorem dL_law_12 : decode cL_law 12 = .ok (.invokespecial 80, 3) := by decide +kernel
theorem dL_law_15 : decode cL_law 15 = .ok (.astore_n 2, 1) := by decide +kernel
theorem dL_law_16 : decode cL_law 16 = .ok (.iconst 1, 1) := by decide +kernel
theorem dL_law_17 : decode cL_law 17 = .ok (.newarray .long, 2) := by decide +kernel
theorem dL_law_19 : decode cL_law 19 = .ok (.astore_n 3, 1) := by decide +kernel
theorem dL_law_20 : decode cL_law 20 = .ok (.iconst 0, 1) := by decide +kernel
theorem dL_law_21 : decode cL_law 21 = .ok (.istore 4, 2) := by decide +kernel
theorem dL_law_23 : decode cL_law 23 = .ok (.iload 4, 2) := by decide +kernel
theorem dL_law_25 : decode cL_law 25 = .ok (.aload_n 0, 1) := by decide +kernel
theorem dL_law_26 : decode cL_law 26 = .ok (.arraylength, 1) := by decide +kernel
theorem dL_law_27 : decode cL_law 27 = .ok (.bipush 6, 2) := by decide +kernel
theorem dL_law_29 : decode cL_law 29 = .ok (.isub, 1) := by decide +kernel
theorem dL_law_30 : decode cL_law 30 = .ok (.if_icmp .gt 1458, 3) := by decide +kernel
theorem dL_law_33 : decode cL_law 33 = .ok (.aload_n 0, 1) := by decide +kernel
theorem dL_law_34 : decode cL_law 34 = .ok (.iload 4, 2) := by decide +kernel
theorem dL_law_36 : decode cL_law 36 = .ok (.iaload, 1) := by decide +kernel
theorem dL_law_37 : decode cL_law 37 = .ok (.bipush 31, 2) := by decide +kernel
theorem dL_law_39 : decode cL_law 39 = .ok (.iand, 1) := by decide +kernel
theorem dL_law_40 : decode cL_law 40 = .ok (.tableswitch 1442 0 24 #[116, 172, 252, 308, 364, 420, 511, 567, 635, 703, 807, 863, 919, 975, 1031, 1087, 1100, 1168, 1224, 1237, 1293, 1361, 1374, 1387, 1428], 116) := by decide +kernel
theorem dL_law_156 : decode cL_law 156 = .ok (.aload_n 1, 1) := by decide +kernel
theorem dL_law_157 : decode cL_law 157 = .ok (.aload_n 0, 1) := by decide +kernel
theorem dL_law_158 : decode cL_law 158 = .ok (.iload 4, 2) := by decide +kernel
theorem dL_law_160 : decode cL_law 160 = .ok (.iconst 1, 1) := by decide +kernel
theorem dL_law_161 : decode cL_law 161 = .ok (.iadd, 1) := by decide +kernel
theorem dL_law_162 : decode cL_law 162 = .ok (.iaload, 1) := by decide +kernel
theorem dL_law_163 : decode cL_law 163 = .ok (.aload_n 3, 1) := by decide +kernel
theorem dL_law_164 : decode cL_law 164 = .ok (.invokestatic 81, 3) := by decide +kernel
theorem dL_law_167 : decode cL_law 167 = .ok (.istore 5, 2) := by decide +kernel
theorem dL_law_169 : decode cL_law 169 = .ok (.aload_n 2, 1) := by decide +kernel
theorem dL_law_170 : decode cL_law 170 = .ok (.aload_n 0, 1) := by decide +kernel
theorem dL_law_171 : decode cL_law 171 = .ok (.iload 4, 2) := by decide +kernel
theorem dL_law_173 : decode cL_law 173 = .ok (.iconst 1, 1) := by decide +kernel
theorem dL_law_174 : decode cL_law 174 = .ok (.iadd, 1) := by decide +kernel
theorem dL_law_175 : decode cL_law 175 = .ok (.iaload, 1) := by decide +kernel
theorem dL_law_176 : decode cL_law 176 = .ok (.invokevirtual 86, 3) := by decide +kernel
theorem dL_law_179 : decode cL_law 179 = .ok (.istore 6, 2) := by decide +kernel
theorem dL_law_181 : decode cL_law 181 = .ok (.aload_n 2, 1) := by decide +kernel
theorem dL_law_182 : decode cL_law 182 = .ok (.invokevirtual 87, 3) := by decide +kernel
theorem dL_law_185 : decode cL_law 185 = .ok (.iload 5, 2) := by decide +kernel
theorem dL_law_187 : decode cL_law 187 = .ok (.if_icmp .eq 5, 3) := by decide +kernel
theorem dL_law_190 : decode cL_law 190 = .ok (.iconst 0, 1) := by decide +kernel
theorem dL_law_191 : decode cL_law 191 = .ok (.ireturn, 1) := by decide +kernel
theorem dL_law_192 : decode cL_law 192 = .ok (.iload 5, 2) := by decide +kernel
theorem dL_law_194 : decode cL_law 194 = .ok (.ifCond .ne 15, 3) := by decide +kernel
theorem dL_law_197 : decode cL_law 197 = .ok (.aload_n 3, 1) := by decide +kernel
theorem dL_law_198 : decode cL_law 198 = .ok (.iconst 0, 1) := by decide +kernel
theorem dL_law_199 : decode cL_law 199 = .ok (.laload, 1) := by decide +kernel
theorem dL_law_200 : decode cL_law 200 = .ok (.iload 6, 2) := by decide +kernel
theorem dL_law_202 : decode cL_law 202 = .ok (.i2l, 1) := by decide +kernel
theorem dL_law_203 : decode cL_law 203 = .ok (.lcmp, 1) := by decide +kernel
theorem dL_law_204 : decode cL_law 204 = .ok (.ifCond .eq 5, 3) := by decide +kernel
theorem dL_law_207 : decode cL_law 207 = .ok (.iconst 0, 1) := by decide +kernel
theorem dL_law_208 : decode cL_law 208 = .ok (.ireturn, 1) := by decide +kernel
theorem dL_law_209 : decode cL_law 209 = .ok (.goto 1273, 3) := by decide +kernel
theorem dL_law_212 : decode cL_law 212 = .ok (.aload_n 1, 1) := by decide +kernel
theorem dL_law_213 : decode cL_law 213 = .ok (.aload_n 0, 1) := by decide +kernel
theorem dL_law_214 : decode cL_law 214 = .ok (.iload 4, 2) := by decide +kernel
theorem dL_law_216 : decode cL_law 216 = .ok (.iconst 1, 1) := by decide +kernel
theorem dL_law_217 : decode cL_law 217 = .ok (.iadd, 1) := by decide +kernel
theorem dL_law_218 : decode cL_law 218 = .ok (.iaload, 1) := by decide +kernel
theorem dL_law_219 : decode cL_law 219 = .ok (.aload_n 0, 1) := by decide +kernel
theorem dL_law_220 : decode cL_law 220 = .ok (.iload 4, 2) := by decide +kernel
theorem dL_law_222 : decode cL_law 222 = .ok (.iconst 2, 1) := by decide +kernel
theorem dL_law_223 : decode cL_law 223 = .ok (.iadd, 1) := by decide +kernel
theorem dL_law_224 : decode cL_law 224 = .ok (.iaload, 1) := by decide +kernel
theorem dL_law_225 : decode cL_law 225 = .ok (.aload_n 0, 1) := by decide +kernel
theorem dL_law_226 : decode cL_law 226 = .ok (.iload 4, 2) := by decide +kernel
theorem dL_law_228 : decode cL_law 228 = .ok (.iconst 3, 1) := by decide +kernel
theorem dL_law_229 : decode cL_law 229 = .ok (.iadd, 1) := by decide +kernel
theorem dL_law_230 : decode cL_law 230 = .ok (.iaload, 1) := by decide +kernel
theorem dL_law_231 : decode cL_law 231 = .ok (.aload_n 3, 1) := by decide +kernel
theorem dL_law_232 : decode cL_law 232 = .ok (.invokestatic 91, 3) := by decide +kernel
theorem dL_law_235 : decode cL_law 235 = .ok (.istore 5, 2) := by decide +kernel
theorem dL_law_237 : decode cL_law 237 = .ok (.aload_n 2, 1) := by decide +kernel
theorem dL_law_238 : decode cL_law 238 = .ok (.aload_n 0, 1) := by decide +kernel
theorem dL_law_239 : decode cL_law 239 = .ok (.iload 4, 2) := by decide +kernel
theorem dL_law_241 : decode cL_law 241 = .ok (.iconst 1, 1) := by decide +kernel
theorem dL_law_242 : decode cL_law 242 = .ok (.iadd, 1) := by decide +kernel
theorem dL_law_243 : decode cL_law 243 = .ok (.iaload, 1) := by decide +kernel
theorem dL_law_244 : decode cL_law 244 = .ok (.aload_n 0, 1) := by decide +kernel
theorem dL_law_245 : decode cL_law 245 = .ok (.iload 4, 2) := by decide +kernel
theorem dL_law_247 : decode cL_law 247 = .ok (.iconst 2, 1) := by decide +kernel
theorem dL_law_248 : decode cL_law 248 = .ok (.iadd, 1) := by decide +kernel
theorem dL_law_249 : decode cL_law 249 = .ok (.iaload, 1) := by decide +kernel
theorem dL_law_250 : decode cL_law 250 = .ok (.aload_n 0, 1) := by decide +kernel
theorem dL_law_251 : decode cL_law 251 = .ok (.iload 4, 2) := by decide +kernel
theorem dL_law_253 : decode cL_law 253 = .ok (.iconst 3, 1) := by decide +kernel
theorem dL_law_254 : decode cL_law 254 = .ok (.iadd, 1) := by decide +kernel
theorem dL_law_255 : decode cL_law 255 = .ok (.iaload, 1) := by decide +kernel
theorem dL_law_256 : decode cL_law 256 = .ok (.invokevirtual 94, 3) := by decide +kernel
theorem dL_law_259 : decode cL_law 259 = .ok (.istore 6, 2) := by decide +kernel
theorem dL_law_261 : decode cL_law 261 = .ok (.aload_n 2, 1) := by decide +kernel
theorem dL_law_262 : decode cL_law 262 = .ok (.invokevirtual 87, 3) := by decide +kernel
theorem dL_law_265 : decode cL_law 265 = .ok (.iload 5, 2) := by decide +kernel
theorem dL_law_267 : decode cL_law 267 = .ok (.if_icmp .eq 5, 3) := by decide +kernel
theorem dL_law_270 : decode cL_law 270 = .ok (.iconst 0, 1) := by decide +kernel
theorem dL_law_271 : decode cL_law 271 = .ok (.ireturn, 1) := by decide +kernel
theorem dL_law_272 : decode cL_law 272 = .ok (.iload 5, 2) := by decide +kernel
theorem dL_law_274 : decode cL_law 274 = .ok (.ifCond .ne 15, 3) := by decide +kernel
theorem dL_law_277 : decode cL_law 277 = .ok (.aload_n 3, 1) := by decide +kernel
theorem dL_law_278 : decode cL_law 278 = .ok (.iconst 0, 1) := by decide +kernel
theorem dL_law_279 : decode cL_law 279 = .ok (.laload, 1) := by decide +kernel
theorem dL_law_280 : decode cL_law 280 = .ok (.iload 6, 2) := by decide +kernel
theorem dL_law_282 : decode cL_law 282 = .ok (.i2l, 1) := by decide +kernel
theorem dL_law_283 : decode cL_law 283 = .ok (.lcmp, 1) := by decide +kernel
theorem dL_law_284 : decode cL_law 284 = .ok (.ifCond .eq 5, 3) := by decide +kernel
theorem dL_law_287 : decode cL_law 287 = .ok (.iconst 0, 1) := by decide +kernel
theorem dL_law_288 : decode cL_law 288 = .ok (.ireturn, 1) := by decide +kernel
theorem dL_law_289 : decode cL_law 289 = .ok (.goto 1193, 3) := by decide +kernel
theorem dL_law_292 : decode cL_law 292 = .ok (.aload_n 1, 1) := by decide +kernel
theorem dL_law_293 : decode cL_law 293 = .ok (.aload_n 0, 1) := by decide +kernel
theorem dL_law_294 : decode cL_law 294 = .ok (.iload 4, 2) := by decide +kernel
theorem dL_law_296 : decode cL_law 296 = .ok (.iconst 1, 1) := by decide +kernel
theorem dL_law_297 : decode cL_law 297 = .ok (.iadd, 1) := by decide +kernel
theorem dL_law_298 : decode cL_law 298 = .ok (.iaload, 1) := by decide +kernel
theorem dL_law_299 : decode cL_law 299 = .ok (.aload_n 3, 1) := by decide +kernel
theorem dL_law_300 : decode cL_law 300 = .ok (.invokestatic 95, 3) := by decide +kernel
theorem dL_law_303 : decode cL_law 303 = .ok (.istore 5, 2) := by decide +kernel
theorem dL_law_305 : decode cL_law 305 = .ok (.aload_n 2, 1) := by decide +kernel
theorem dL_law_306 : decode cL_law 306 = .ok (.aload_n 0, 1) := by decide +kernel
theorem dL_law_307 : decode cL_law 307 = .ok (.iload 4, 2) := by decide +kernel
theorem dL_law_309 : decode cL_law 309 = .ok (.iconst 1, 1) := by decide +kernel
theorem dL_law_310 : decode cL_law 310 = .ok (.iadd, 1) := by decide +kernel
theorem dL_law_311 : decode cL_law 311 = .ok (.iaload, 1) := by decide +kernel
theorem dL_law_312 : decode cL_law 312 = .ok (.invokevirtual 97, 3) := by decide +kernel
theorem dL_law_315 : decode cL_law 315 = .ok (.istore 6, 2) := by decide +kernel
theorem dL_law_317 : decode cL_law 317 = .ok (.aload_n 2, 1) := by decide +kernel
theorem dL_law_318 : decode cL_law 318 = .ok (.invokevirtual 87, 3) := by decide +kernel
theorem dL_law_321 : decode cL_law 321 = .ok (.iload 5, 2) := by decide +kernel
theorem dL_law_323 : decode cL_law 323 = .ok (.if_icmp .eq 5, 3) := by decide +kernel
theorem dL_law_326 : decode cL_law 326 = .ok (.iconst 0, 1) := by decide +kernel
theorem dL_law_327 : decode cL_law 327 = .ok (.ireturn, 1) := by decide +kernel
theorem dL_law_328 : decode cL_law 328 = .ok (.iload 5, 2) := by decide +kernel
theorem dL_law_330 : decode cL_law 330 = .ok (.ifCond .ne 15, 3) := by decide +kernel
theorem dL_law_333 : decode cL_law 333 = .ok (.aload_n 3, 1) := by decide +kernel
theorem dL_law_334 : decode cL_law 334 = .ok (.iconst 0, 1) := by decide +kernel
theorem dL_law_335 : decode cL_law 335 = .ok (.laload, 1) := by decide +kernel
theorem dL_law_336 : decode cL_law 336 = .ok (.iload 6, 2) := by decide +kernel
theorem dL_law_338 : decode cL_law 338 = .ok (.i2l, 1) := by decide +kernel
theorem dL_law_339 : decode cL_law 339 = .ok (.lcmp, 1) := by decide +kernel
theorem dL_law_340 : decode cL_law 340 = .ok (.ifCond .eq 5, 3) := by decide +kernel
theorem dL_law_343 : decode cL_law 343 = .ok (.iconst 0, 1) := by decide +kernel
theorem dL_law_344 : decode cL_law 344 = .ok (.ireturn, 1) := by decide +kernel
theorem dL_law_345 : decode cL_law 345 = .ok (.goto 1137, 3) := by decide +kernel
theorem dL_law_348 : decode cL_law 348 = .ok (.aload_n 1, 1) := by decide +kernel
theorem dL_law_349 : decode cL_law 349 = .ok (.aload_n 0, 1) := by decide +kernel
theorem dL_law_350 : decode cL_law 350 = .ok (.iload 4, 2) := by decide +kernel
theorem dL_law_352 : decode cL_law 352 = .ok (.iconst 1, 1) := by decide +kernel
theorem dL_law_353 : decode cL_law 353 = .ok (.iadd, 1) := by decide +kernel
theorem dL_law_354 : decode cL_law 354 = .ok (.iaload, 1) := by decide +kernel
theorem dL_law_355 : decode cL_law 355 = .ok (.aload_n 3, 1) := by decide +kernel
theorem dL_law_356 : decode cL_law 356 = .ok (.invokestatic 98, 3) := by decide +kernel
theorem dL_law_359 : decode cL_law 359 = .ok (.istore 5, 2) := by decide +kernel
theorem dL_law_361 : decode cL_law 361 = .ok (.aload_n 2, 1) := by decide +kernel
theorem dL_law_362 : decode cL_law 362 = .ok (.aload_n 0, 1) := by decide +kernel
theorem dL_law_363 : decode cL_law 363 = .ok (.iload 4, 2) := by decide +kernel
theorem dL_law_365 : decode cL_law 365 = .ok (.iconst 1, 1) := by decide +kernel
theorem dL_law_366 : decode cL_law 366 = .ok (.iadd, 1) := by decide +kernel
theorem dL_law_367 : decode cL_law 367 = .ok (.iaload, 1) := by decide +kernel
theorem dL_law_368 : decode cL_law 368 = .ok (.invokevirtual 100, 3) := by decide +kernel
theorem dL_law_371 : decode cL_law 371 = .ok (.istore 6, 2) := by decide +kernel
theorem dL_law_373 : decode cL_law 373 = .ok (.aload_n 2, 1) := by decide +kernel
theorem dL_law_374 : decode cL_law 374 = .ok (.invokevirtual 87, 3) := by decide +kernel
theorem dL_law_377 : decode cL_law 377 = .ok (.iload 5, 2) := by decide +kernel
theorem dL_law_379 : decode cL_law 379 = .ok (.if_icmp .eq 5, 3) := by decide +kernel
theorem dL_law_382 : decode cL_law 382 = .ok (.iconst 0, 1) := by decide +kernel
theorem dL_law_383 : decode cL_law 383 = .ok (.ireturn, 1) := by decide +kernel
theorem dL_law_384 : decode cL_law 384 = .ok (.iload 5, 2) := by decide +kernel
theorem dL_law_386 : decode cL_law 386 = .ok (.ifCond .ne 15, 3) := by decide +kernel
theorem dL_law_389 : decode cL_law 389 = .ok (.aload_n 3, 1) := by decide +kernel
theorem dL_law_390 : decode cL_law 390 = .ok (.iconst 0, 1) := by decide +kernel
theorem dL_law_391 : decode cL_law 391 = .ok (.laload, 1) := by decide +kernel
theorem dL_law_392 : decode cL_law 392 = .ok (.iload 6, 2) := by decide +kernel
theorem dL_law_394 : decode cL_law 394 = .ok (.i2l, 1) := by decide +kernel
theorem dL_law_395 : decode cL_law 395 = .ok (.lcmp, 1) := by decide +kernel
theorem dL_law_396 : decode cL_law 396 = .ok (.ifCond .eq 5, 3) := by decide +kernel
theorem dL_law_399 : decode cL_law 399 = .ok (.iconst 0, 1) := by decide +kernel
theorem dL_law_400 : decode cL_law 400 = .ok (.ireturn, 1) := by decide +kernel
theorem dL_law_401 : decode cL_law 401 = .ok (.goto 1081, 3) := by decide +kernel
theorem dL_law_404 : decode cL_law 404 = .ok (.aload_n 1, 1) := by decide +kernel
theorem dL_law_405 : decode cL_law 405 = .ok (.aload_n 0, 1) := by decide +kernel
theorem dL_law_406 : decode cL_law 406 = .ok (.iload 4, 2) := by decide +kernel
theorem dL_law_408 : decode cL_law 408 = .ok (.iconst 1, 1) := by decide +kernel
theorem dL_law_409 : decode cL_law 409 = .ok (.iadd, 1) := by decide +kernel
theorem dL_law_410 : decode cL_law 410 = .ok (.iaload, 1) := by decide +kernel
theorem dL_law_411 : decode cL_law 411 = .ok (.aload_n 3, 1) := by decide +kernel
theorem dL_law_412 : decode cL_law 412 = .ok (.invokestatic 101, 3) := by decide +kernel
theorem dL_law_415 : decode cL_law 415 = .ok (.istore 5, 2) := by decide +kernel
theorem dL_law_417 : decode cL_law 417 = .ok (.aload_n 2, 1) := by decide +kernel
theorem dL_law_418 : decode cL_law 418 = .ok (.aload_n 0, 1) := by decide +kernel
theorem dL_law_419 : decode cL_law 419 = .ok (.iload 4, 2) := by decide +kernel
theorem dL_law_421 : decode cL_law 421 = .ok (.iconst 1, 1) := by decide +kernel
theorem dL_law_422 : decode cL_law 422 = .ok (.iadd, 1) := by decide +kernel
theorem dL_law_423 : decode cL_law 423 = .ok (.iaload, 1) := by decide +kernel
theorem dL_law_424 : decode cL_law 424 = .ok (.invokevirtual 103, 3) := by decide +kernel
theorem dL_law_427 : decode cL_law 427 = .ok (.istore 6, 2) := by decide +kernel
theorem dL_law_429 : decode cL_law 429 = .ok (.aload_n 2, 1) := by decide +kernel
theorem dL_law_430 : decode cL_law 430 = .ok (.invokevirtual 87, 3) := by decide +kernel
theorem dL_law_433 : decode cL_law 433 = .ok (.iload 5, 2) := by decide +kernel
theorem dL_law_435 : decode cL_law 435 = .ok (.if_icmp .eq 5, 3) := by decide +kernel
theorem dL_law_438 : decode cL_law 438 = .ok (.iconst 0, 1) := by decide +kernel
theorem dL_law_439 : decode cL_law 439 = .ok (.ireturn, 1) := by decide +kernel
theorem dL_law_440 : decode cL_law 440 = .ok (.iload 5, 2) := by decide +kernel
theorem dL_law_442 : decode cL_law 442 = .ok (.ifCond .ne 15, 3) := by decide +kernel
theorem dL_law_445 : decode cL_law 445 = .ok (.aload_n 3, 1) := by decide +kernel
theorem dL_law_446 : decode cL_law 446 = .ok (.iconst 0, 1) := by decide +kernel
theorem dL_law_447 : decode cL_law 447 = .ok (.laload, 1) := by decide +kernel
theorem dL_law_448 : decode cL_law 448 = .ok (.iload 6, 2) := by decide +kernel
theorem dL_law_450 : decode cL_law 450 = .ok (.i2l, 1) := by decide +kernel
theorem dL_law_451 : decode cL_law 451 = .ok (.lcmp, 1) := by decide +kernel
theorem dL_law_452 : decode cL_law 452 = .ok (.ifCond .eq 5, 3) := by decide +kernel
theorem dL_law_455 : decode cL_law 455 = .ok (.iconst 0, 1) := by decide +kernel
theorem dL_law_456 : decode cL_law 456 = .ok (.ireturn, 1) := by decide +kernel
theorem dL_law_457 : decode cL_law 457 = .ok (.goto 1025, 3) := by decide +kernel
theorem dL_law_460 : decode cL_law 460 = .ok (.aload_n 1, 1) := by decide +kernel
theorem dL_law_461 : decode cL_law 461 = .ok (.aload_n 0, 1) := by decide +kernel
theorem dL_law_462 : decode cL_law 462 = .ok (.iload 4, 2) := by decide +kernel
theorem dL_law_464 : decode cL_law 464 = .ok (.iconst 1, 1) := by decide +kernel
theorem dL_law_465 : decode cL_law 465 = .ok (.iadd, 1) := by decide +kernel
theorem dL_law_466 : decode cL_law 466 = .ok (.iaload, 1) := by decide +kernel
theorem dL_law_467 : decode cL_law 467 = .ok (.aload_n 0, 1) := by decide +kernel
theorem dL_law_468 : decode cL_law 468 = .ok (.iload 4, 2) := by decide +kernel
theorem dL_law_470 : decode cL_law 470 = .ok (.iconst 2, 1) := by decide +kernel
theorem dL_law_471 : decode cL_law 471 = .ok (.iadd, 1) := by decide +kernel
theorem dL_law_472 : decode cL_law 472 = .ok (.iaload, 1) := by decide +kernel
theorem dL_law_473 : decode cL_law 473 = .ok (.ifCond .eq 7, 3) := by decide +kernel
theorem dL_law_476 : decode cL_law 476 = .ok (.iconst 1, 1) := by decide +kernel
theorem dL_law_477 : decode cL_law 477 = .ok (.goto 4, 3) := by decide +kernel
theorem dL_law_480 : decode cL_law 480 = .ok (.iconst 0, 1) := by decide +kernel
theorem dL_law_481 : decode cL_law 481 = .ok (.aload_n 3, 1) := by decide +kernel
theorem dL_law_482 : decode cL_law 482 = .ok (.invokestatic 104, 3) := by decide +kernel
theorem dL_law_485 : decode cL_law 485 = .ok (.istore 5, 2) := by decide +kernel
theorem dL_law_487 : decode cL_law 487 = .ok (.aload_n 2, 1) := by decide +kernel
theorem dL_law_488 : decode cL_law 488 = .ok (.aload_n 0, 1) := by decide +kernel
theorem dL_law_489 : decode cL_law 489 = .ok (.iload 4, 2) := by decide +kernel
theorem dL_law_491 : decode cL_law 491 = .ok (.iconst 1, 1) := by decide +kernel
theorem dL_law_492 : decode cL_law 492 = .ok (.iadd, 1) := by decide +kernel
theorem dL_law_493 : decode cL_law 493 = .ok (.iaload, 1) := by decide +kernel
theorem dL_law_494 : decode cL_law 494 = .ok (.aload_n 0, 1) := by decide +kernel
theorem dL_law_495 : decode cL_law 495 = .ok (.iload 4, 2) := by decide +kernel
theorem dL_law_497 : decode cL_law 497 = .ok (.iconst 2, 1) := by decide +kernel
theorem dL_law_498 : decode cL_law 498 = .ok (.iadd, 1) := by decide +kernel
theorem dL_law_499 : decode cL_law 499 = .ok (.iaload, 1) := by decide +kernel
theorem dL_law_500 : decode cL_law 500 = .ok (.ifCond .eq 7, 3) := by decide +kernel
theorem dL_law_503 : decode cL_law 503 = .ok (.iconst 1, 1) := by decide +kernel
theorem dL_law_504 : decode cL_law 504 = .ok (.goto 4, 3) := by decide +kernel
theorem dL_law_507 : decode cL_law 507 = .ok (.iconst 0, 1) := by decide +kernel
theorem dL_law_508 : decode cL_law 508 = .ok (.invokevirtual 107, 3) := by decide +kernel
theorem dL_law_511 : decode cL_law 511 = .ok (.istore 6, 2) := by decide +kernel
theorem dL_law_513 : decode cL_law 513 = .ok (.aload_n 2, 1) := by decide +kernel
theorem dL_law_514 : decode cL_law 514 = .ok (.invokevirtual 87, 3) := by decide +kernel
theorem dL_law_517 : decode cL_law 517 = .ok (.iload 5, 2) := by decide +kernel
theorem dL_law_519 : decode cL_law 519 = .ok (.if_icmp .eq 5, 3) := by decide +kernel
theorem dL_law_522 : decode cL_law 522 = .ok (.iconst 0, 1) := by decide +kernel
theorem dL_law_523 : decode cL_law 523 = .ok (.ireturn, 1) := by decide +kernel
theorem dL_law_524 : decode cL_law 524 = .ok (.iload 5, 2) := by decide +kernel
theorem dL_law_526 : decode cL_law 526 = .ok (.ifCond .ne 22, 3) := by decide +kernel
theorem dL_law_529 : decode cL_law 529 = .ok (.aload_n 3, 1) := by decide +kernel
theorem dL_law_530 : decode cL_law 530 = .ok (.iconst 0, 1) := by decide +kernel
theorem dL_law_531 : decode cL_law 531 = .ok (.laload, 1) := by decide +kernel
theorem dL_law_532 : decode cL_law 532 = .ok (.iload 6, 2) := by decide +kernel
theorem dL_law_534 : decode cL_law 534 = .ok (.ifCond .eq 7, 3) := by decide +kernel
theorem dL_law_537 : decode cL_law 537 = .ok (.lconst 1, 1) := by decide +kernel
theorem dL_law_538 : decode cL_law 538 = .ok (.goto 4, 3) := by decide +kernel
theorem dL_law_541 : decode cL_law 541 = .ok (.lconst 0, 1) := by decide +kernel
theorem dL_law_542 : decode cL_law 542 = .ok (.lcmp, 1) := by decide +kernel
theorem dL_law_543 : decode cL_law 543 = .ok (.ifCond .eq 5, 3) := by decide +kernel
theorem dL_law_546 : decode cL_law 546 = .ok (.iconst 0, 1) := by decide +kernel
theorem dL_law_547 : decode cL_law 547 = .ok (.ireturn, 1) := by decide +kernel
theorem dL_law_548 : decode cL_law 548 = .ok (.goto 934, 3) := by decide +kernel
theorem dL_law_551 : decode cL_law 551 = .ok (.aload_n 1, 1) := by decide +kernel
theorem dL_law_552 : decode cL_law 552 = .ok (.aload_n 0, 1) := by decide +kernel
theorem dL_law_553 : decode cL_law 553 = .ok (.iload 4, 2) := by decide +kernel
theorem dL_law_555 : decode cL_law 555 = .ok (.iconst 1, 1) := by decide +kernel
theorem dL_law_556 : decode cL_law 556 = .ok (.iadd, 1) := by decide +kernel
theorem dL_law_557 : decode cL_law 557 = .ok (.iaload, 1) := by decide +kernel
theorem dL_law_558 : decode cL_law 558 = .ok (.aload_n 3, 1) := by decide +kernel
theorem dL_law_559 : decode cL_law 559 = .ok (.invokestatic 108, 3) := by decide +kernel
theorem dL_law_562 : decode cL_law 562 = .ok (.istore 5, 2) := by decide +kernel
theorem dL_law_564 : decode cL_law 564 = .ok (.aload_n 2, 1) := by decide +kernel
theorem dL_law_565 : decode cL_law 565 = .ok (.aload_n 0, 1) := by decide +kernel
theorem dL_law_566 : decode cL_law 566 = .ok (.iload 4, 2) := by decide +kernel
theorem dL_law_568 : decode cL_law 568 = .ok (.iconst 1, 1) := by decide +kernel
theorem dL_law_569 : decode cL_law 569 = .ok (.iadd, 1) := by decide +kernel
theorem dL_law_570 : decode cL_law 570 = .ok (.iaload, 1) := by decide +kernel
theorem dL_law_571 : decode cL_law 571 = .ok (.invokevirtual 110, 3) := by decide +kernel
theorem dL_law_574 : decode cL_law 574 = .ok (.istore 6, 2) := by decide +kernel
theorem dL_law_576 : decode cL_law 576 = .ok (.aload_n 2, 1) := by decide +kernel
theorem dL_law_577 : decode cL_law 577 = .ok (.invokevirtual 87, 3) := by decide +kernel
theorem dL_law_580 : decode cL_law 580 = .ok (.iload 5, 2) := by decide +kernel
theorem dL_law_582 : decode cL_law 582 = .ok (.if_icmp .eq 5, 3) := by decide +kernel
theorem dL_law_585 : decode cL_law 585 = .ok (.iconst 0, 1) := by decide +kernel
theorem dL_law_586 : decode cL_law 586 = .ok (.ireturn, 1) := by decide +kernel
theorem dL_law_587 : decode cL_law 587 = .ok (.iload 5, 2) := by decide +kernel
theorem dL_law_589 : decode cL_law 589 = .ok (.ifCond .ne 15, 3) := by decide +kernel
theorem dL_law_592 : decode cL_law 592 = .ok (.aload_n 3, 1) := by decide +kernel
theorem dL_law_593 : decode cL_law 593 = .ok (.iconst 0, 1) := by decide +kernel
theorem dL_law_594 : decode cL_law 594 = .ok (.laload, 1) := by decide +kernel
theorem dL_law_595 : decode cL_law 595 = .ok (.iload 6, 2) := by decide +kernel
theorem dL_law_597 : decode cL_law 597 = .ok (.i2l, 1) := by decide +kernel
theorem dL_law_598 : decode cL_law 598 = .ok (.lcmp, 1) := by decide +kernel
theorem dL_law_599 : decode cL_law 599 = .ok (.ifCond .eq 5, 3) := by decide +kernel
theorem dL_law_602 : decode cL_law 602 = .ok (.iconst 0, 1) := by decide +kernel
theorem dL_law_603 : decode cL_law 603 = .ok (.ireturn, 1) := by decide +kernel
theorem dL_law_604 : decode cL_law 604 = .ok (.goto 878, 3) := by decide +kernel
theorem dL_law_607 : decode cL_law 607 = .ok (.aload_n 1, 1) := by decide +kernel
theorem dL_law_608 : decode cL_law 608 = .ok (.aload_n 0, 1) := by decide +kernel
theorem dL_law_609 : decode cL_law 609 = .ok (.iload 4, 2) := by decide +kernel
theorem dL_law_611 : decode cL_law 611 = .ok (.iconst 1, 1) := by decide +kernel
theorem dL_law_612 : decode cL_law 612 = .ok (.iadd, 1) := by decide +kernel
theorem dL_law_613 : decode cL_law 613 = .ok (.iaload, 1) := by decide +kernel
theorem dL_law_614 : decode cL_law 614 = .ok (.aload_n 0, 1) := by decide +kernel
theorem dL_law_615 : decode cL_law 615 = .ok (.iload 4, 2) := by decide +kernel
theorem dL_law_617 : decode cL_law 617 = .ok (.iconst 2, 1) := by decide +kernel
theorem dL_law_618 : decode cL_law 618 = .ok (.iadd, 1) := by decide +kernel
theorem dL_law_619 : decode cL_law 619 = .ok (.iaload, 1) := by decide +kernel
theorem dL_law_620 : decode cL_law 620 = .ok (.aload_n 3, 1) := by decide +kernel
theorem dL_law_621 : decode cL_law 621 = .ok (.invokestatic 111, 3) := by decide +kernel
theorem dL_law_624 : decode cL_law 624 = .ok (.istore 5, 2) := by decide +kernel
theorem dL_law_626 : decode cL_law 626 = .ok (.aload_n 2, 1) := by decide +kernel
theorem dL_law_627 : decode cL_law 627 = .ok (.aload_n 0, 1) := by decide +kernel
theorem dL_law_628 : decode cL_law 628 = .ok (.iload 4, 2) := by decide +kernel
theorem dL_law_630 : decode cL_law 630 = .ok (.iconst 1, 1) := by decide +kernel
theorem dL_law_631 : decode cL_law 631 = .ok (.iadd, 1) := by decide +kernel
theorem dL_law_632 : decode cL_law 632 = .ok (.iaload, 1) := by decide +kernel
theorem dL_law_633 : decode cL_law 633 = .ok (.aload_n 0, 1) := by decide +kernel
theorem dL_law_634 : decode cL_law 634 = .ok (.iload 4, 2) := by decide +kernel
theorem dL_law_636 : decode cL_law 636 = .ok (.iconst 2, 1) := by decide +kernel
theorem dL_law_637 : decode cL_law 637 = .ok (.iadd, 1) := by decide +kernel
theorem dL_law_638 : decode cL_law 638 = .ok (.iaload, 1) := by decide +kernel
theorem dL_law_639 : decode cL_law 639 = .ok (.invokevirtual 114, 3) := by decide +kernel
theorem dL_law_642 : decode cL_law 642 = .ok (.istore 6, 2) := by decide +kernel
theorem dL_law_644 : decode cL_law 644 = .ok (.aload_n 2, 1) := by decide +kernel
theorem dL_law_645 : decode cL_law 645 = .ok (.invokevirtual 87, 3) := by decide +kernel
theorem dL_law_648 : decode cL_law 648 = .ok (.iload 5, 2) := by decide +kernel
theorem dL_law_650 : decode cL_law 650 = .ok (.if_icmp .eq 5, 3) := by decide +kernel
theorem dL_law_653 : decode cL_law 653 = .ok (.iconst 0, 1) := by decide +kernel
theorem dL_law_654 : decode cL_law 654 = .ok (.ireturn, 1) := by decide +kernel
theorem dL_law_655 : decode cL_law 655 = .ok (.iload 5, 2) := by decide +kernel
theorem dL_law_657 : decode cL_law 657 = .ok (.ifCond .ne 15, 3) := by decide +kernel
theorem dL_law_660 : decode cL_law 660 = .ok (.aload_n 3, 1) := by decide +kernel
theorem dL_law_661 : decode cL_law 661 = .ok (.iconst 0, 1) := by decide +kernel
theorem dL_law_662 : decode cL_law 662 = .ok (.laload, 1) := by decide +kernel
theorem dL_law_663 : decode cL_law 663 = .ok (.iload 6, 2) := by decide +kernel
theorem dL_law_665 : decode cL_law 665 = .ok (.i2l, 1) := by decide +kernel
theorem dL_law_666 : decode cL_law 666 = .ok (.lcmp, 1) := by decide +kernel
theorem dL_law_667 : decode cL_law 667 = .ok (.ifCond .eq 5, 3) := by decide +kernel
theorem dL_law_670 : decode cL_law 670 = .ok (.iconst 0, 1) := by decide +kernel
theorem dL_law_671 : decode cL_law 671 = .ok (.ireturn, 1) := by decide +kernel
theorem dL_law_672 : decode cL_law 672 = .ok (.goto 810, 3) := by decide +kernel
theorem dL_law_675 : decode cL_law 675 = .ok (.aload_n 1, 1) := by decide +kernel
theorem dL_law_676 : decode cL_law 676 = .ok (.aload_n 0, 1) := by decide +kernel
theorem dL_law_677 : decode cL_law 677 = .ok (.iload 4, 2) := by decide +kernel
theorem dL_law_679 : decode cL_law 679 = .ok (.iconst 1, 1) := by decide +kernel
theorem dL_law_680 : decode cL_law 680 = .ok (.iadd, 1) := by decide +kernel
theorem dL_law_681 : decode cL_law 681 = .ok (.iaload, 1) := by decide +kernel
theorem dL_law_682 : decode cL_law 682 = .ok (.aload_n 0, 1) := by decide +kernel
theorem dL_law_683 : decode cL_law 683 = .ok (.iload 4, 2) := by decide +kernel
theorem dL_law_685 : decode cL_law 685 = .ok (.iconst 2, 1) := by decide +kernel
theorem dL_law_686 : decode cL_law 686 = .ok (.iadd, 1) := by decide +kernel
theorem dL_law_687 : decode cL_law 687 = .ok (.iaload, 1) := by decide +kernel
theorem dL_law_688 : decode cL_law 688 = .ok (.aload_n 3, 1) := by decide +kernel
theorem dL_law_689 : decode cL_law 689 = .ok (.invokestatic 115, 3) := by decide +kernel
theorem dL_law_692 : decode cL_law 692 = .ok (.istore 5, 2) := by decide +kernel
theorem dL_law_694 : decode cL_law 694 = .ok (.aload_n 2, 1) := by decide +kernel
theorem dL_law_695 : decode cL_law 695 = .ok (.aload_n 0, 1) := by decide +kernel
theorem dL_law_696 : decode cL_law 696 = .ok (.iload 4, 2) := by decide +kernel
theorem dL_law_698 : decode cL_law 698 = .ok (.iconst 1, 1) := by decide +kernel
theorem dL_law_699 : decode cL_law 699 = .ok (.iadd, 1) := by decide +kernel
theorem dL_law_700 : decode cL_law 700 = .ok (.iaload, 1) := by decide +kernel
theorem dL_law_701 : decode cL_law 701 = .ok (.aload_n 0, 1) := by decide +kernel
theorem dL_law_702 : decode cL_law 702 = .ok (.iload 4, 2) := by decide +kernel
theorem dL_law_704 : decode cL_law 704 = .ok (.iconst 2, 1) := by decide +kernel
theorem dL_law_705 : decode cL_law 705 = .ok (.iadd, 1) := by decide +kernel
theorem dL_law_706 : decode cL_law 706 = .ok (.iaload, 1) := by decide +kernel
theorem dL_law_707 : decode cL_law 707 = .ok (.invokevirtual 117, 3) := by decide +kernel
theorem dL_law_710 : decode cL_law 710 = .ok (.istore 6, 2) := by decide +kernel
theorem dL_law_712 : decode cL_law 712 = .ok (.aload_n 2, 1) := by decide +kernel
theorem dL_law_713 : decode cL_law 713 = .ok (.invokevirtual 87, 3) := by decide +kernel
theorem dL_law_716 : decode cL_law 716 = .ok (.iload 5, 2) := by decide +kernel
theorem dL_law_718 : decode cL_law 718 = .ok (.if_icmp .eq 5, 3) := by decide +kernel
theorem dL_law_721 : decode cL_law 721 = .ok (.iconst 0, 1) := by decide +kernel
theorem dL_law_722 : decode cL_law 722 = .ok (.ireturn, 1) := by decide +kernel
theorem dL_law_723 : decode cL_law 723 = .ok (.iload 5, 2) := by decide +kernel
theorem dL_law_725 : decode cL_law 725 = .ok (.ifCond .ne 15, 3) := by decide +kernel
theorem dL_law_728 : decode cL_law 728 = .ok (.aload_n 3, 1) := by decide +kernel
theorem dL_law_729 : decode cL_law 729 = .ok (.iconst 0, 1) := by decide +kernel
theorem dL_law_730 : decode cL_law 730 = .ok (.laload, 1) := by decide +kernel
theorem dL_law_731 : decode cL_law 731 = .ok (.iload 6, 2) := by decide +kernel
theorem dL_law_733 : decode cL_law 733 = .ok (.i2l, 1) := by decide +kernel
theorem dL_law_734 : decode cL_law 734 = .ok (.lcmp, 1) := by decide +kernel
theorem dL_law_735 : decode cL_law 735 = .ok (.ifCond .eq 5, 3) := by decide +kernel
theorem dL_law_738 : decode cL_law 738 = .ok (.iconst 0, 1) := by decide +kernel
theorem dL_law_739 : decode cL_law 739 = .ok (.ireturn, 1) := by decide +kernel
theorem dL_law_740 : decode cL_law 740 = .ok (.goto 742, 3) := by decide +kernel
theorem dL_law_743 : decode cL_law 743 = .ok (.aload_n 1, 1) := by decide +kernel
theorem dL_law_744 : decode cL_law 744 = .ok (.aload_n 0, 1) := by decide +kernel
theorem dL_law_745 : decode cL_law 745 = .ok (.iload 4, 2) := by decide +kernel
theorem dL_law_747 : decode cL_law 747 = .ok (.iconst 1, 1) := by decide +kernel
theorem dL_law_748 : decode cL_law 748 = .ok (.iadd, 1) := by decide +kernel
theorem dL_law_749 : decode cL_law 749 = .ok (.iaload, 1) := by decide +kernel
theorem dL_law_750 : decode cL_law 750 = .ok (.aload_n 0, 1) := by decide +kernel
theorem dL_law_751 : decode cL_law 751 = .ok (.iload 4, 2) := by decide +kernel
theorem dL_law_753 : decode cL_law 753 = .ok (.iconst 2, 1) := by decide +kernel
theorem dL_law_754 : decode cL_law 754 = .ok (.iadd, 1) := by decide +kernel
theorem dL_law_755 : decode cL_law 755 = .ok (.iaload, 1) := by decide +kernel
theorem dL_law_756 : decode cL_law 756 = .ok (.aload_n 0, 1) := by decide +kernel
theorem dL_law_757 : decode cL_law 757 = .ok (.iload 4, 2) := by decide +kernel
theorem dL_law_759 : decode cL_law 759 = .ok (.iconst 3, 1) := by decide +kernel
theorem dL_law_760 : decode cL_law 760 = .ok (.iadd, 1) := by decide +kernel
theorem dL_law_761 : decode cL_law 761 = .ok (.iaload, 1) := by decide +kernel
theorem dL_law_762 : decode cL_law 762 = .ok (.aload_n 0, 1) := by decide +kernel
theorem dL_law_763 : decode cL_law 763 = .ok (.iload 4, 2) := by decide +kernel
theorem dL_law_765 : decode cL_law 765 = .ok (.iconst 4, 1) := by decide +kernel
theorem dL_law_766 : decode cL_law 766 = .ok (.iadd, 1) := by decide +kernel
theorem dL_law_767 : decode cL_law 767 = .ok (.iaload, 1) := by decide +kernel
theorem dL_law_768 : decode cL_law 768 = .ok (.aload_n 0, 1) := by decide +kernel
theorem dL_law_769 : decode cL_law 769 = .ok (.iload 4, 2) := by decide +kernel
theorem dL_law_771 : decode cL_law 771 = .ok (.iconst 5, 1) := by decide +kernel
theorem dL_law_772 : decode cL_law 772 = .ok (.iadd, 1) := by decide +kernel
theorem dL_law_773 : decode cL_law 773 = .ok (.iaload, 1) := by decide +kernel
theorem dL_law_774 : decode cL_law 774 = .ok (.aload_n 3, 1) := by decide +kernel
theorem dL_law_775 : decode cL_law 775 = .ok (.invokestatic 118, 3) := by decide +kernel
theorem dL_law_778 : decode cL_law 778 = .ok (.istore 5, 2) := by decide +kernel
theorem dL_law_780 : decode cL_law 780 = .ok (.aload_n 2, 1) := by decide +kernel
theorem dL_law_781 : decode cL_law 781 = .ok (.aload_n 0, 1) := by decide +kernel
theorem dL_law_782 : decode cL_law 782 = .ok (.iload 4, 2) := by decide +kernel
theorem dL_law_784 : decode cL_law 784 = .ok (.iconst 1, 1) := by decide +kernel
theorem dL_law_785 : decode cL_law 785 = .ok (.iadd, 1) := by decide +kernel
theorem dL_law_786 : decode cL_law 786 = .ok (.iaload, 1) := by decide +kernel
theorem dL_law_787 : decode cL_law 787 = .ok (.aload_n 0, 1) := by decide +kernel
theorem dL_law_788 : decode cL_law 788 = .ok (.iload 4, 2) := by decide +kernel
theorem dL_law_790 : decode cL_law 790 = .ok (.iconst 2, 1) := by decide +kernel
theorem dL_law_791 : decode cL_law 791 = .ok (.iadd, 1) := by decide +kernel
theorem dL_law_792 : decode cL_law 792 = .ok (.iaload, 1) := by decide +kernel
theorem dL_law_793 : decode cL_law 793 = .ok (.aload_n 0, 1) := by decide +kernel
theorem dL_law_794 : decode cL_law 794 = .ok (.iload 4, 2) := by decide +kernel
theorem dL_law_796 : decode cL_law 796 = .ok (.iconst 3, 1) := by decide +kernel
theorem dL_law_797 : decode cL_law 797 = .ok (.iadd, 1) := by decide +kernel
theorem dL_law_798 : decode cL_law 798 = .ok (.iaload, 1) := by decide +kernel
theorem dL_law_799 : decode cL_law 799 = .ok (.aload_n 0, 1) := by decide +kernel
theorem dL_law_800 : decode cL_law 800 = .ok (.iload 4, 2) := by decide +kernel
theorem dL_law_802 : decode cL_law 802 = .ok (.iconst 4, 1) := by decide +kernel
theorem dL_law_803 : decode cL_law 803 = .ok (.iadd, 1) := by decide +kernel
theorem dL_law_804 : decode cL_law 804 = .ok (.iaload, 1) := by decide +kernel
theorem dL_law_805 : decode cL_law 805 = .ok (.aload_n 0, 1) := by decide +kernel
theorem dL_law_806 : decode cL_law 806 = .ok (.iload 4, 2) := by decide +kernel
theorem dL_law_808 : decode cL_law 808 = .ok (.iconst 5, 1) := by decide +kernel
theorem dL_law_809 : decode cL_law 809 = .ok (.iadd, 1) := by decide +kernel
theorem dL_law_810 : decode cL_law 810 = .ok (.iaload, 1) := by decide +kernel
theorem dL_law_811 : decode cL_law 811 = .ok (.invokevirtual 121, 3) := by decide +kernel
theorem dL_law_814 : decode cL_law 814 = .ok (.istore 6, 2) := by decide +kernel
theorem dL_law_816 : decode cL_law 816 = .ok (.aload_n 2, 1) := by decide +kernel
theorem dL_law_817 : decode cL_law 817 = .ok (.invokevirtual 87, 3) := by decide +kernel
theorem dL_law_820 : decode cL_law 820 = .ok (.iload 5, 2) := by decide +kernel
theorem dL_law_822 : decode cL_law 822 = .ok (.if_icmp .eq 5, 3) := by decide +kernel
theorem dL_law_825 : decode cL_law 825 = .ok (.iconst 0, 1) := by decide +kernel
theorem dL_law_826 : decode cL_law 826 = .ok (.ireturn, 1) := by decide +kernel
theorem dL_law_827 : decode cL_law 827 = .ok (.iload 5, 2) := by decide +kernel
theorem dL_law_829 : decode cL_law 829 = .ok (.ifCond .ne 15, 3) := by decide +kernel
theorem dL_law_832 : decode cL_law 832 = .ok (.aload_n 3, 1) := by decide +kernel
theorem dL_law_833 : decode cL_law 833 = .ok (.iconst 0, 1) := by decide +kernel
theorem dL_law_834 : decode cL_law 834 = .ok (.laload, 1) := by decide +kernel
theorem dL_law_835 : decode cL_law 835 = .ok (.iload 6, 2) := by decide +kernel
theorem dL_law_837 : decode cL_law 837 = .ok (.i2l, 1) := by decide +kernel
theorem dL_law_838 : decode cL_law 838 = .ok (.lcmp, 1) := by decide +kernel
theorem dL_law_839 : decode cL_law 839 = .ok (.ifCond .eq 5, 3) := by decide +kernel
theorem dL_law_842 : decode cL_law 842 = .ok (.iconst 0, 1) := by decide +kernel
theorem dL_law_843 : decode cL_law 843 = .ok (.ireturn, 1) := by decide +kernel
theorem dL_law_844 : decode cL_law 844 = .ok (.goto 638, 3) := by decide +kernel
theorem dL_law_847 : decode cL_law 847 = .ok (.aload_n 1, 1) := by decide +kernel
theorem dL_law_848 : decode cL_law 848 = .ok (.aload_n 0, 1) := by decide +kernel
theorem dL_law_849 : decode cL_law 849 = .ok (.iload 4, 2) := by decide +kernel
theorem dL_law_851 : decode cL_law 851 = .ok (.iconst 1, 1) := by decide +kernel
theorem dL_law_852 : decode cL_law 852 = .ok (.iadd, 1) := by decide +kernel
theorem dL_law_853 : decode cL_law 853 = .ok (.iaload, 1) := by decide +kernel
theorem dL_law_854 : decode cL_law 854 = .ok (.aload_n 3, 1) := by decide +kernel
theorem dL_law_855 : decode cL_law 855 = .ok (.invokestatic 122, 3) := by decide +kernel
theorem dL_law_858 : decode cL_law 858 = .ok (.istore 5, 2) := by decide +kernel
theorem dL_law_860 : decode cL_law 860 = .ok (.aload_n 2, 1) := by decide +kernel
theorem dL_law_861 : decode cL_law 861 = .ok (.aload_n 0, 1) := by decide +kernel
theorem dL_law_862 : decode cL_law 862 = .ok (.iload 4, 2) := by decide +kernel
theorem dL_law_864 : decode cL_law 864 = .ok (.iconst 1, 1) := by decide +kernel
theorem dL_law_865 : decode cL_law 865 = .ok (.iadd, 1) := by decide +kernel
theorem dL_law_866 : decode cL_law 866 = .ok (.iaload, 1) := by decide +kernel
theorem dL_law_867 : decode cL_law 867 = .ok (.invokevirtual 124, 3) := by decide +kernel
theorem dL_law_870 : decode cL_law 870 = .ok (.istore 6, 2) := by decide +kernel
theorem dL_law_872 : decode cL_law 872 = .ok (.aload_n 2, 1) := by decide +kernel
theorem dL_law_873 : decode cL_law 873 = .ok (.invokevirtual 87, 3) := by decide +kernel
theorem dL_law_876 : decode cL_law 876 = .ok (.iload 5, 2) := by decide +kernel
theorem dL_law_878 : decode cL_law 878 = .ok (.if_icmp .eq 5, 3) := by decide +kernel
theorem dL_law_881 : decode cL_law 881 = .ok (.iconst 0, 1) := by decide +kernel
theorem dL_law_882 : decode cL_law 882 = .ok (.ireturn, 1) := by decide +kernel
theorem dL_law_883 : decode cL_law 883 = .ok (.iload 5, 2) := by decide +kernel
theorem dL_law_885 : decode cL_law 885 = .ok (.ifCond .ne 15, 3) := by decide +kernel
theorem dL_law_888 : decode cL_law 888 = .ok (.aload_n 3, 1) := by decide +kernel
theorem dL_law_889 : decode cL_law 889 = .ok (.iconst 0, 1) := by decide +kernel
theorem dL_law_890 : decode cL_law 890 = .ok (.laload, 1) := by decide +kernel
theorem dL_law_891 : decode cL_law 891 = .ok (.iload 6, 2) := by decide +kernel
theorem dL_law_893 : decode cL_law 893 = .ok (.i2l, 1) := by decide +kernel
theorem dL_law_894 : decode cL_law 894 = .ok (.lcmp, 1) := by decide +kernel
theorem dL_law_895 : decode cL_law 895 = .ok (.ifCond .eq 5, 3) := by decide +kernel
theorem dL_law_898 : decode cL_law 898 = .ok (.iconst 0, 1) := by decide +kernel
theorem dL_law_899 : decode cL_law 899 = .ok (.ireturn, 1) := by decide +kernel
theorem dL_law_900 : decode cL_law 900 = .ok (.goto 582, 3) := by decide +kernel
theorem dL_law_903 : decode cL_law 903 = .ok (.aload_n 1, 1) := by decide +kernel
theorem dL_law_904 : decode cL_law 904 = .ok (.aload_n 0, 1) := by decide +kernel
theorem dL_law_905 : decode cL_law 905 = .ok (.iload 4, 2) := by decide +kernel
theorem dL_law_907 : decode cL_law 907 = .ok (.iconst 1, 1) := by decide +kernel
theorem dL_law_908 : decode cL_law 908 = .ok (.iadd, 1) := by decide +kernel
theorem dL_law_909 : decode cL_law 909 = .ok (.iaload, 1) := by decide +kernel
theorem dL_law_910 : decode cL_law 910 = .ok (.aload_n 3, 1) := by decide +kernel
theorem dL_law_911 : decode cL_law 911 = .ok (.invokestatic 125, 3) := by decide +kernel
theorem dL_law_914 : decode cL_law 914 = .ok (.istore 5, 2) := by decide +kernel
theorem dL_law_916 : decode cL_law 916 = .ok (.aload_n 2, 1) := by decide +kernel
theorem dL_law_917 : decode cL_law 917 = .ok (.aload_n 0, 1) := by decide +kernel
theorem dL_law_918 : decode cL_law 918 = .ok (.iload 4, 2) := by decide +kernel
theorem dL_law_920 : decode cL_law 920 = .ok (.iconst 1, 1) := by decide +kernel
theorem dL_law_921 : decode cL_law 921 = .ok (.iadd, 1) := by decide +kernel
theorem dL_law_922 : decode cL_law 922 = .ok (.iaload, 1) := by decide +kernel
theorem dL_law_923 : decode cL_law 923 = .ok (.invokevirtual 127, 3) := by decide +kernel
theorem dL_law_926 : decode cL_law 926 = .ok (.istore 6, 2) := by decide +kernel
theorem dL_law_928 : decode cL_law 928 = .ok (.aload_n 2, 1) := by decide +kernel
theorem dL_law_929 : decode cL_law 929 = .ok (.invokevirtual 87, 3) := by decide +kernel
theorem dL_law_932 : decode cL_law 932 = .ok (.iload 5, 2) := by decide +kernel
theorem dL_law_934 : decode cL_law 934 = .ok (.if_icmp .eq 5, 3) := by decide +kernel
theorem dL_law_937 : decode cL_law 937 = .ok (.iconst 0, 1) := by decide +kernel
theorem dL_law_938 : decode cL_law 938 = .ok (.ireturn, 1) := by decide +kernel
theorem dL_law_939 : decode cL_law 939 = .ok (.iload 5, 2) := by decide +kernel
theorem dL_law_941 : decode cL_law 941 = .ok (.ifCond .ne 15, 3) := by decide +kernel
theorem dL_law_944 : decode cL_law 944 = .ok (.aload_n 3, 1) := by decide +kernel
theorem dL_law_945 : decode cL_law 945 = .ok (.iconst 0, 1) := by decide +kernel
theorem dL_law_946 : decode cL_law 946 = .ok (.laload, 1) := by decide +kernel
theorem dL_law_947 : decode cL_law 947 = .ok (.iload 6, 2) := by decide +kernel
theorem dL_law_949 : decode cL_law 949 = .ok (.i2l, 1) := by decide +kernel
theorem dL_law_950 : decode cL_law 950 = .ok (.lcmp, 1) := by decide +kernel
theorem dL_law_951 : decode cL_law 951 = .ok (.ifCond .eq 5, 3) := by decide +kernel
theorem dL_law_954 : decode cL_law 954 = .ok (.iconst 0, 1) := by decide +kernel
theorem dL_law_955 : decode cL_law 955 = .ok (.ireturn, 1) := by decide +kernel
theorem dL_law_956 : decode cL_law 956 = .ok (.goto 526, 3) := by decide +kernel
theorem dL_law_959 : decode cL_law 959 = .ok (.aload_n 1, 1) := by decide +kernel
theorem dL_law_960 : decode cL_law 960 = .ok (.aload_n 0, 1) := by decide +kernel
theorem dL_law_961 : decode cL_law 961 = .ok (.iload 4, 2) := by decide +kernel
theorem dL_law_963 : decode cL_law 963 = .ok (.iconst 1, 1) := by decide +kernel
theorem dL_law_964 : decode cL_law 964 = .ok (.iadd, 1) := by decide +kernel
theorem dL_law_965 : decode cL_law 965 = .ok (.iaload, 1) := by decide +kernel
theorem dL_law_966 : decode cL_law 966 = .ok (.aload_n 3, 1) := by decide +kernel
theorem dL_law_967 : decode cL_law 967 = .ok (.invokestatic 128, 3) := by decide +kernel
theorem dL_law_970 : decode cL_law 970 = .ok (.istore 5, 2) := by decide +kernel
theorem dL_law_972 : decode cL_law 972 = .ok (.aload_n 2, 1) := by decide +kernel
theorem dL_law_973 : decode cL_law 973 = .ok (.aload_n 0, 1) := by decide +kernel
theorem dL_law_974 : decode cL_law 974 = .ok (.iload 4, 2) := by decide +kernel
theorem dL_law_976 : decode cL_law 976 = .ok (.iconst 1, 1) := by decide +kernel
theorem dL_law_977 : decode cL_law 977 = .ok (.iadd, 1) := by decide +kernel
theorem dL_law_978 : decode cL_law 978 = .ok (.iaload, 1) := by decide +kernel
theorem dL_law_979 : decode cL_law 979 = .ok (.invokevirtual 130, 3) := by decide +kernel
theorem dL_law_982 : decode cL_law 982 = .ok (.istore 6, 2) := by decide +kernel
theorem dL_law_984 : decode cL_law 984 = .ok (.aload_n 2, 1) := by decide +kernel
theorem dL_law_985 : decode cL_law 985 = .ok (.invokevirtual 87, 3) := by decide +kernel
theorem dL_law_988 : decode cL_law 988 = .ok (.iload 5, 2) := by decide +kernel
theorem dL_law_990 : decode cL_law 990 = .ok (.if_icmp .eq 5, 3) := by decide +kernel
theorem dL_law_993 : decode cL_law 993 = .ok (.iconst 0, 1) := by decide +kernel
theorem dL_law_994 : decode cL_law 994 = .ok (.ireturn, 1) := by decide +kernel
theorem dL_law_995 : decode cL_law 995 = .ok (.iload 5, 2) := by decide +kernel
theorem dL_law_997 : decode cL_law 997 = .ok (.ifCond .ne 15, 3) := by decide +kernel
theorem dL_law_1000 : decode cL_law 1000 = .ok (.aload_n 3, 1) := by decide +kernel
theorem dL_law_1001 : decode cL_law 1001 = .ok (.iconst 0, 1) := by decide +kernel
theorem dL_law_1002 : decode cL_law 1002 = .ok (.laload, 1) := by decide +kernel
theorem dL_law_1003 : decode cL_law 1003 = .ok (.iload 6, 2) := by decide +kernel
theorem dL_law_1005 : decode cL_law 1005 = .ok (.i2l, 1) := by decide +kernel
theorem dL_law_1006 : decode cL_law 1006 = .ok (.lcmp, 1) := by decide +kernel
theorem dL_law_1007 : decode cL_law 1007 = .ok (.ifCond .eq 5, 3) := by decide +kernel
theorem dL_law_1010 : decode cL_law 1010 = .ok (.iconst 0, 1) := by decide +kernel
theorem dL_law_1011 : decode cL_law 1011 = .ok (.ireturn, 1) := by decide +kernel
theorem dL_law_1012 : decode cL_law 1012 = .ok (.goto 470, 3) := by decide +kernel
theorem dL_law_1015 : decode cL_law 1015 = .ok (.aload_n 1, 1) := by decide +kernel
theorem dL_law_1016 : decode cL_law 1016 = .ok (.aload_n 0, 1) := by decide +kernel
theorem dL_law_1017 : decode cL_law 1017 = .ok (.iload 4, 2) := by decide +kernel
theorem dL_law_1019 : decode cL_law 1019 = .ok (.iconst 1, 1) := by decide +kernel
theorem dL_law_1020 : decode cL_law 1020 = .ok (.iadd, 1) := by decide +kernel
theorem dL_law_1021 : decode cL_law 1021 = .ok (.iaload, 1) := by decide +kernel
theorem dL_law_1022 : decode cL_law 1022 = .ok (.aload_n 3, 1) := by decide +kernel
theorem dL_law_1023 : decode cL_law 1023 = .ok (.invokestatic 131, 3) := by decide +kernel
theorem dL_law_1026 : decode cL_law 1026 = .ok (.istore 5, 2) := by decide +kernel
theorem dL_law_1028 : decode cL_law 1028 = .ok (.aload_n 2, 1) := by decide +kernel
theorem dL_law_1029 : decode cL_law 1029 = .ok (.aload_n 0, 1) := by decide +kernel
theorem dL_law_1030 : decode cL_law 1030 = .ok (.iload 4, 2) := by decide +kernel
theorem dL_law_1032 : decode cL_law 1032 = .ok (.iconst 1, 1) := by decide +kernel
theorem dL_law_1033 : decode cL_law 1033 = .ok (.iadd, 1) := by decide +kernel
theorem dL_law_1034 : decode cL_law 1034 = .ok (.iaload, 1) := by decide +kernel
theorem dL_law_1035 : decode cL_law 1035 = .ok (.invokevirtual 133, 3) := by decide +kernel
theorem dL_law_1038 : decode cL_law 1038 = .ok (.istore 6, 2) := by decide +kernel
theorem dL_law_1040 : decode cL_law 1040 = .ok (.aload_n 2, 1) := by decide +kernel
theorem dL_law_1041 : decode cL_law 1041 = .ok (.invokevirtual 87, 3) := by decide +kernel
theorem dL_law_1044 : decode cL_law 1044 = .ok (.iload 5, 2) := by decide +kernel
theorem dL_law_1046 : decode cL_law 1046 = .ok (.if_icmp .eq 5, 3) := by decide +kernel
theorem dL_law_1049 : decode cL_law 1049 = .ok (.iconst 0, 1) := by decide +kernel
theorem dL_law_1050 : decode cL_law 1050 = .ok (.ireturn, 1) := by decide +kernel
theorem dL_law_1051 : decode cL_law 1051 = .ok (.iload 5, 2) := by decide +kernel
theorem dL_law_1053 : decode cL_law 1053 = .ok (.ifCond .ne 15, 3) := by decide +kernel
theorem dL_law_1056 : decode cL_law 1056 = .ok (.aload_n 3, 1) := by decide +kernel
theorem dL_law_1057 : decode cL_law 1057 = .ok (.iconst 0, 1) := by decide +kernel
theorem dL_law_1058 : decode cL_law 1058 = .ok (.laload, 1) := by decide +kernel
theorem dL_law_1059 : decode cL_law 1059 = .ok (.iload 6, 2) := by decide +kernel
theorem dL_law_1061 : decode cL_law 1061 = .ok (.i2l, 1) := by decide +kernel
theorem dL_law_1062 : decode cL_law 1062 = .ok (.lcmp, 1) := by decide +kernel
theorem dL_law_1063 : decode cL_law 1063 = .ok (.ifCond .eq 5, 3) := by decide +kernel
theorem dL_law_1066 : decode cL_law 1066 = .ok (.iconst 0, 1) := by decide +kernel
theorem dL_law_1067 : decode cL_law 1067 = .ok (.ireturn, 1) := by decide +kernel
theorem dL_law_1068 : decode cL_law 1068 = .ok (.goto 414, 3) := by decide +kernel
theorem dL_law_1071 : decode cL_law 1071 = .ok (.aload_n 1, 1) := by decide +kernel
theorem dL_law_1072 : decode cL_law 1072 = .ok (.aload_n 0, 1) := by decide +kernel
theorem dL_law_1073 : decode cL_law 1073 = .ok (.iload 4, 2) := by decide +kernel
theorem dL_law_1075 : decode cL_law 1075 = .ok (.iconst 1, 1) := by decide +kernel
theorem dL_law_1076 : decode cL_law 1076 = .ok (.iadd, 1) := by decide +kernel
theorem dL_law_1077 : decode cL_law 1077 = .ok (.iaload, 1) := by decide +kernel
theorem dL_law_1078 : decode cL_law 1078 = .ok (.aload_n 3, 1) := by decide +kernel
theorem dL_law_1079 : decode cL_law 1079 = .ok (.invokestatic 134, 3) := by decide +kernel
theorem dL_law_1082 : decode cL_law 1082 = .ok (.istore 5, 2) := by decide +kernel
theorem dL_law_1084 : decode cL_law 1084 = .ok (.aload_n 2, 1) := by decide +kernel
theorem dL_law_1085 : decode cL_law 1085 = .ok (.aload_n 0, 1) := by decide +kernel
theorem dL_law_1086 : decode cL_law 1086 = .ok (.iload 4, 2) := by decide +kernel
theorem dL_law_1088 : decode cL_law 1088 = .ok (.iconst 1, 1) := by decide +kernel
theorem dL_law_1089 : decode cL_law 1089 = .ok (.iadd, 1) := by decide +kernel
theorem dL_law_1090 : decode cL_law 1090 = .ok (.iaload, 1) := by decide +kernel
theorem dL_law_1091 : decode cL_law 1091 = .ok (.invokevirtual 136, 3) := by decide +kernel
theorem dL_law_1094 : decode cL_law 1094 = .ok (.istore 6, 2) := by decide +kernel
theorem dL_law_1096 : decode cL_law 1096 = .ok (.aload_n 2, 1) := by decide +kernel
theorem dL_law_1097 : decode cL_law 1097 = .ok (.invokevirtual 87, 3) := by decide +kernel
theorem dL_law_1100 : decode cL_law 1100 = .ok (.iload 5, 2) := by decide +kernel
theorem dL_law_1102 : decode cL_law 1102 = .ok (.if_icmp .eq 5, 3) := by decide +kernel
theorem dL_law_1105 : decode cL_law 1105 = .ok (.iconst 0, 1) := by decide +kernel
theorem dL_law_1106 : decode cL_law 1106 = .ok (.ireturn, 1) := by decide +kernel
theorem dL_law_1107 : decode cL_law 1107 = .ok (.iload 5, 2) := by decide +kernel
theorem dL_law_1109 : decode cL_law 1109 = .ok (.ifCond .ne 15, 3) := by decide +kernel
theorem dL_law_1112 : decode cL_law 1112 = .ok (.aload_n 3, 1) := by decide +kernel
theorem dL_law_1113 : decode cL_law 1113 = .ok (.iconst 0, 1) := by decide +kernel
theorem dL_law_1114 : decode cL_law 1114 = .ok (.laload, 1) := by decide +kernel
theorem dL_law_1115 : decode cL_law 1115 = .ok (.iload 6, 2) := by decide +kernel
theorem dL_law_1117 : decode cL_law 1117 = .ok (.i2l, 1) := by decide +kernel
theorem dL_law_1118 : decode cL_law 1118 = .ok (.lcmp, 1) := by decide +kernel
theorem dL_law_1119 : decode cL_law 1119 = .ok (.ifCond .eq 5, 3) := by decide +kernel
theorem dL_law_1122 : decode cL_law 1122 = .ok (.iconst 0, 1) := by decide +kernel
theorem dL_law_1123 : decode cL_law 1123 = .ok (.ireturn, 1) := by decide +kernel
theorem dL_law_1124 : decode cL_law 1124 = .ok (.goto 358, 3) := by decide +kernel
theorem dL_law_1127 : decode cL_law 1127 = .ok (.aload_n 1, 1) := by decide +kernel
theorem dL_law_1128 : decode cL_law 1128 = .ok (.invokevirtual 137, 3) := by decide +kernel
theorem dL_law_1131 : decode cL_law 1131 = .ok (.aload_n 2, 1) := by decide +kernel
theorem dL_law_1132 : decode cL_law 1132 = .ok (.invokevirtual 140, 3) := by decide +kernel
theorem dL_law_1135 : decode cL_law 1135 = .ok (.if_icmp .eq 347, 3) := by decide +kernel
theorem dL_law_1138 : decode cL_law 1138 = .ok (.iconst 0, 1) := by decide +kernel
theorem dL_law_1139 : decode cL_law 1139 = .ok (.ireturn, 1) := by decide +kernel
theorem dL_law_1140 : decode cL_law 1140 = .ok (.aload_n 1, 1) := by decide +kernel
theorem dL_law_1141 : decode cL_law 1141 = .ok (.aload_n 0, 1) := by decide +kernel
theorem dL_law_1142 : decode cL_law 1142 = .ok (.iload 4, 2) := by decide +kernel
theorem dL_law_1144 : decode cL_law 1144 = .ok (.iconst 1, 1) := by decide +kernel
theorem dL_law_1145 : decode cL_law 1145 = .ok (.iadd, 1) := by decide +kernel
theorem dL_law_1146 : decode cL_law 1146 = .ok (.iaload, 1) := by decide +kernel
theorem dL_law_1147 : decode cL_law 1147 = .ok (.aload_n 0, 1) := by decide +kernel
theorem dL_law_1148 : decode cL_law 1148 = .ok (.iload 4, 2) := by decide +kernel
theorem dL_law_1150 : decode cL_law 1150 = .ok (.iconst 2, 1) := by decide +kernel
theorem dL_law_1151 : decode cL_law 1151 = .ok (.iadd, 1) := by decide +kernel
theorem dL_law_1152 : decode cL_law 1152 = .ok (.iaload, 1) := by decide +kernel
theorem dL_law_1153 : decode cL_law 1153 = .ok (.aload_n 3, 1) := by decide +kernel
theorem dL_law_1154 : decode cL_law 1154 = .ok (.invokestatic 141, 3) := by decide +kernel
theorem dL_law_1157 : decode cL_law 1157 = .ok (.istore 5, 2) := by decide +kernel
theorem dL_law_1159 : decode cL_law 1159 = .ok (.aload_n 2, 1) := by decide +kernel
theorem dL_law_1160 : decode cL_law 1160 = .ok (.aload_n 0, 1) := by decide +kernel
theorem dL_law_1161 : decode cL_law 1161 = .ok (.iload 4, 2) := by decide +kernel
theorem dL_law_1163 : decode cL_law 1163 = .ok (.iconst 1, 1) := by decide +kernel
theorem dL_law_1164 : decode cL_law 1164 = .ok (.iadd, 1) := by decide +kernel
theorem dL_law_1165 : decode cL_law 1165 = .ok (.iaload, 1) := by decide +kernel
theorem dL_law_1166 : decode cL_law 1166 = .ok (.aload_n 0, 1) := by decide +kernel
theorem dL_law_1167 : decode cL_law 1167 = .ok (.iload 4, 2) := by decide +kernel
theorem dL_law_1169 : decode cL_law 1169 = .ok (.iconst 2, 1) := by decide +kernel
theorem dL_law_1170 : decode cL_law 1170 = .ok (.iadd, 1) := by decide +kernel
theorem dL_law_1171 : decode cL_law 1171 = .ok (.iaload, 1) := by decide +kernel
theorem dL_law_1172 : decode cL_law 1172 = .ok (.invokevirtual 143, 3) := by decide +kernel
theorem dL_law_1175 : decode cL_law 1175 = .ok (.istore 6, 2) := by decide +kernel
theorem dL_law_1177 : decode cL_law 1177 = .ok (.aload_n 2, 1) := by decide +kernel
theorem dL_law_1178 : decode cL_law 1178 = .ok (.invokevirtual 87, 3) := by decide +kernel
theorem dL_law_1181 : decode cL_law 1181 = .ok (.iload 5, 2) := by decide +kernel
theorem dL_law_1183 : decode cL_law 1183 = .ok (.if_icmp .eq 5, 3) := by decide +kernel
theorem dL_law_1186 : decode cL_law 1186 = .ok (.iconst 0, 1) := by decide +kernel
theorem dL_law_1187 : decode cL_law 1187 = .ok (.ireturn, 1) := by decide +kernel
theorem dL_law_1188 : decode cL_law 1188 = .ok (.iload 5, 2) := by decide +kernel
theorem dL_law_1190 : decode cL_law 1190 = .ok (.ifCond .ne 15, 3) := by decide +kernel
theorem dL_law_1193 : decode cL_law 1193 = .ok (.aload_n 3, 1) := by decide +kernel
theorem dL_law_1194 : decode cL_law 1194 = .ok (.iconst 0, 1) := by decide +kernel
theorem dL_law_1195 : decode cL_law 1195 = .ok (.laload, 1) := by decide +kernel
theorem dL_law_1196 : decode cL_law 1196 = .ok (.iload 6, 2) := by decide +kernel
theorem dL_law_1198 : decode cL_law 1198 = .ok (.i2l, 1) := by decide +kernel
theorem dL_law_1199 : decode cL_law 1199 = .ok (.lcmp, 1) := by decide +kernel
theorem dL_law_1200 : decode cL_law 1200 = .ok (.ifCond .eq 5, 3) := by decide +kernel
theorem dL_law_1203 : decode cL_law 1203 = .ok (.iconst 0, 1) := by decide +kernel
theorem dL_law_1204 : decode cL_law 1204 = .ok (.ireturn, 1) := by decide +kernel
theorem dL_law_1205 : decode cL_law 1205 = .ok (.goto 277, 3) := by decide +kernel
theorem dL_law_1208 : decode cL_law 1208 = .ok (.aload_n 1, 1) := by decide +kernel
theorem dL_law_1209 : decode cL_law 1209 = .ok (.aload_n 0, 1) := by decide +kernel
theorem dL_law_1210 : decode cL_law 1210 = .ok (.iload 4, 2) := by decide +kernel
theorem dL_law_1212 : decode cL_law 1212 = .ok (.iconst 1, 1) := by decide +kernel
theorem dL_law_1213 : decode cL_law 1213 = .ok (.iadd, 1) := by decide +kernel
theorem dL_law_1214 : decode cL_law 1214 = .ok (.iaload, 1) := by decide +kernel
theorem dL_law_1215 : decode cL_law 1215 = .ok (.aload_n 3, 1) := by decide +kernel
theorem dL_law_1216 : decode cL_law 1216 = .ok (.invokestatic 144, 3) := by decide +kernel
theorem dL_law_1219 : decode cL_law 1219 = .ok (.istore 5, 2) := by decide +kernel
theorem dL_law_1221 : decode cL_law 1221 = .ok (.aload_n 2, 1) := by decide +kernel
theorem dL_law_1222 : decode cL_law 1222 = .ok (.aload_n 0, 1) := by decide +kernel
theorem dL_law_1223 : decode cL_law 1223 = .ok (.iload 4, 2) := by decide +kernel
theorem dL_law_1225 : decode cL_law 1225 = .ok (.iconst 1, 1) := by decide +kernel
theorem dL_law_1226 : decode cL_law 1226 = .ok (.iadd, 1) := by decide +kernel
theorem dL_law_1227 : decode cL_law 1227 = .ok (.iaload, 1) := by decide +kernel
theorem dL_law_1228 : decode cL_law 1228 = .ok (.invokevirtual 146, 3) := by decide +kernel
theorem dL_law_1231 : decode cL_law 1231 = .ok (.istore 6, 2) := by decide +kernel
theorem dL_law_1233 : decode cL_law 1233 = .ok (.aload_n 2, 1) := by decide +kernel
theorem dL_law_1234 : decode cL_law 1234 = .ok (.invokevirtual 87, 3) := by decide +kernel
theorem dL_law_1237 : decode cL_law 1237 = .ok (.iload 5, 2) := by decide +kernel
theorem dL_law_1239 : decode cL_law 1239 = .ok (.if_icmp .eq 5, 3) := by decide +kernel
theorem dL_law_1242 : decode cL_law 1242 = .ok (.iconst 0, 1) := by decide +kernel
theorem dL_law_1243 : decode cL_law 1243 = .ok (.ireturn, 1) := by decide +kernel
theorem dL_law_1244 : decode cL_law 1244 = .ok (.iload 5, 2) := by decide +kernel
theorem dL_law_1246 : decode cL_law 1246 = .ok (.ifCond .ne 15, 3) := by decide +kernel
theorem dL_law_1249 : decode cL_law 1249 = .ok (.aload_n 3, 1) := by decide +kernel
theorem dL_law_1250 : decode cL_law 1250 = .ok (.iconst 0, 1) := by decide +kernel
theorem dL_law_1251 : decode cL_law 1251 = .ok (.laload, 1) := by decide +kernel
theorem dL_law_1252 : decode cL_law 1252 = .ok (.iload 6, 2) := by decide +kernel
theorem dL_law_1254 : decode cL_law 1254 = .ok (.i2l, 1) := by decide +kernel
theorem dL_law_1255 : decode cL_law 1255 = .ok (.lcmp, 1) := by decide +kernel
theorem dL_law_1256 : decode cL_law 1256 = .ok (.ifCond .eq 5, 3) := by decide +kernel
theorem dL_law_1259 : decode cL_law 1259 = .ok (.iconst 0, 1) := by decide +kernel
theorem dL_law_1260 : decode cL_law 1260 = .ok (.ireturn, 1) := by decide +kernel
theorem dL_law_1261 : decode cL_law 1261 = .ok (.goto 221, 3) := by decide +kernel
theorem dL_law_1264 : decode cL_law 1264 = .ok (.aload_n 1, 1) := by decide +kernel
theorem dL_law_1265 : decode cL_law 1265 = .ok (.invokevirtual 147, 3) := by decide +kernel
theorem dL_law_1268 : decode cL_law 1268 = .ok (.aload_n 2, 1) := by decide +kernel
theorem dL_law_1269 : decode cL_law 1269 = .ok (.invokevirtual 151, 3) := by decide +kernel
theorem dL_law_1272 : decode cL_law 1272 = .ok (.if_icmp .eq 210, 3) := by decide +kernel
theorem dL_law_1275 : decode cL_law 1275 = .ok (.iconst 0, 1) := by decide +kernel
theorem dL_law_1276 : decode cL_law 1276 = .ok (.ireturn, 1) := by decide +kernel
theorem dL_law_1277 : decode cL_law 1277 = .ok (.aload_n 1, 1) := by decide +kernel
theorem dL_law_1278 : decode cL_law 1278 = .ok (.aload_n 0, 1) := by decide +kernel
theorem dL_law_1279 : decode cL_law 1279 = .ok (.iload 4, 2) := by decide +kernel
theorem dL_law_1281 : decode cL_law 1281 = .ok (.iconst 1, 1) := by decide +kernel
theorem dL_law_1282 : decode cL_law 1282 = .ok (.iadd, 1) := by decide +kernel
theorem dL_law_1283 : decode cL_law 1283 = .ok (.iaload, 1) := by decide +kernel
theorem dL_law_1284 : decode cL_law 1284 = .ok (.aload_n 3, 1) := by decide +kernel
theorem dL_law_1285 : decode cL_law 1285 = .ok (.invokestatic 152, 3) := by decide +kernel
theorem dL_law_1288 : decode cL_law 1288 = .ok (.istore 5, 2) := by decide +kernel
theorem dL_law_1290 : decode cL_law 1290 = .ok (.aload_n 2, 1) := by decide +kernel
theorem dL_law_1291 : decode cL_law 1291 = .ok (.aload_n 0, 1) := by decide +kernel
theorem dL_law_1292 : decode cL_law 1292 = .ok (.iload 4, 2) := by decide +kernel
theorem dL_law_1294 : decode cL_law 1294 = .ok (.iconst 1, 1) := by decide +kernel
theorem dL_law_1295 : decode cL_law 1295 = .ok (.iadd, 1) := by decide +kernel
theorem dL_law_1296 : decode cL_law 1296 = .ok (.iaload, 1) := by decide +kernel
theorem dL_law_1297 : decode cL_law 1297 = .ok (.invokevirtual 154, 3) := by decide +kernel
theorem dL_law_1300 : decode cL_law 1300 = .ok (.istore 6, 2) := by decide +kernel
theorem dL_law_1302 : decode cL_law 1302 = .ok (.aload_n 2, 1) := by decide +kernel
theorem dL_law_1303 : decode cL_law 1303 = .ok (.invokevirtual 87, 3) := by decide +kernel
theorem dL_law_1306 : decode cL_law 1306 = .ok (.iload 5, 2) := by decide +kernel
theorem dL_law_1308 : decode cL_law 1308 = .ok (.if_icmp .eq 5, 3) := by decide +kernel
theorem dL_law_1311 : decode cL_law 1311 = .ok (.iconst 0, 1) := by decide +kernel
theorem dL_law_1312 : decode cL_law 1312 = .ok (.ireturn, 1) := by decide +kernel
theorem dL_law_1313 : decode cL_law 1313 = .ok (.iload 5, 2) := by decide +kernel
theorem dL_law_1315 : decode cL_law 1315 = .ok (.ifCond .ne 15, 3) := by decide +kernel
theorem dL_law_1318 : decode cL_law 1318 = .ok (.aload_n 3, 1) := by decide +kernel
theorem dL_law_1319 : decode cL_law 1319 = .ok (.iconst 0, 1) := by decide +kernel
theorem dL_law_1320 : decode cL_law 1320 = .ok (.laload, 1) := by decide +kernel
theorem dL_law_1321 : decode cL_law 1321 = .ok (.iload 6, 2) := by decide +kernel
theorem dL_law_1323 : decode cL_law 1323 = .ok (.i2l, 1) := by decide +kernel
theorem dL_law_1324 : decode cL_law 1324 = .ok (.lcmp, 1) := by decide +kernel
theorem dL_law_1325 : decode cL_law 1325 = .ok (.ifCond .eq 5, 3) := by decide +kernel
theorem dL_law_1328 : decode cL_law 1328 = .ok (.iconst 0, 1) := by decide +kernel
theorem dL_law_1329 : decode cL_law 1329 = .ok (.ireturn, 1) := by decide +kernel
theorem dL_law_1330 : decode cL_law 1330 = .ok (.goto 152, 3) := by decide +kernel
theorem dL_law_1333 : decode cL_law 1333 = .ok (.aload_n 1, 1) := by decide +kernel
theorem dL_law_1334 : decode cL_law 1334 = .ok (.aload_n 0, 1) := by decide +kernel
theorem dL_law_1335 : decode cL_law 1335 = .ok (.iload 4, 2) := by decide +kernel
theorem dL_law_1337 : decode cL_law 1337 = .ok (.iconst 1, 1) := by decide +kernel
theorem dL_law_1338 : decode cL_law 1338 = .ok (.iadd, 1) := by decide +kernel
theorem dL_law_1339 : decode cL_law 1339 = .ok (.iaload, 1) := by decide +kernel
theorem dL_law_1340 : decode cL_law 1340 = .ok (.aload_n 0, 1) := by decide +kernel
theorem dL_law_1341 : decode cL_law 1341 = .ok (.iload 4, 2) := by decide +kernel
theorem dL_law_1343 : decode cL_law 1343 = .ok (.iconst 2, 1) := by decide +kernel
theorem dL_law_1344 : decode cL_law 1344 = .ok (.iadd, 1) := by decide +kernel
theorem dL_law_1345 : decode cL_law 1345 = .ok (.iaload, 1) := by decide +kernel
theorem dL_law_1346 : decode cL_law 1346 = .ok (.aload_n 3, 1) := by decide +kernel
theorem dL_law_1347 : decode cL_law 1347 = .ok (.invokestatic 155, 3) := by decide +kernel
theorem dL_law_1350 : decode cL_law 1350 = .ok (.istore 5, 2) := by decide +kernel
theorem dL_law_1352 : decode cL_law 1352 = .ok (.aload_n 2, 1) := by decide +kernel
theorem dL_law_1353 : decode cL_law 1353 = .ok (.aload_n 0, 1) := by decide +kernel
theorem dL_law_1354 : decode cL_law 1354 = .ok (.iload 4, 2) := by decide +kernel
theorem dL_law_1356 : decode cL_law 1356 = .ok (.iconst 1, 1) := by decide +kernel
theorem dL_law_1357 : decode cL_law 1357 = .ok (.iadd, 1) := by decide +kernel
theorem dL_law_1358 : decode cL_law 1358 = .ok (.iaload, 1) := by decide +kernel
theorem dL_law_1359 : decode cL_law 1359 = .ok (.aload_n 0, 1) := by decide +kernel
theorem dL_law_1360 : decode cL_law 1360 = .ok (.iload 4, 2) := by decide +kernel
theorem dL_law_1362 : decode cL_law 1362 = .ok (.iconst 2, 1) := by decide +kernel
theorem dL_law_1363 : decode cL_law 1363 = .ok (.iadd, 1) := by decide +kernel
theorem dL_law_1364 : decode cL_law 1364 = .ok (.iaload, 1) := by decide +kernel
theorem dL_law_1365 : decode cL_law 1365 = .ok (.invokevirtual 157, 3) := by decide +kernel
theorem dL_law_1368 : decode cL_law 1368 = .ok (.istore 6, 2) := by decide +kernel
theorem dL_law_1370 : decode cL_law 1370 = .ok (.aload_n 2, 1) := by decide +kernel
theorem dL_law_1371 : decode cL_law 1371 = .ok (.invokevirtual 87, 3) := by decide +kernel
theorem dL_law_1374 : decode cL_law 1374 = .ok (.iload 5, 2) := by decide +kernel
theorem dL_law_1376 : decode cL_law 1376 = .ok (.if_icmp .eq 5, 3) := by decide +kernel
theorem dL_law_1379 : decode cL_law 1379 = .ok (.iconst 0, 1) := by decide +kernel
theorem dL_law_1380 : decode cL_law 1380 = .ok (.ireturn, 1) := by decide +kernel
theorem dL_law_1381 : decode cL_law 1381 = .ok (.iload 5, 2) := by decide +kernel
theorem dL_law_1383 : decode cL_law 1383 = .ok (.ifCond .ne 15, 3) := by decide +kernel
theorem dL_law_1386 : decode cL_law 1386 = .ok (.aload_n 3, 1) := by decide +kernel
theorem dL_law_1387 : decode cL_law 1387 = .ok (.iconst 0, 1) := by decide +kernel
theorem dL_law_1388 : decode cL_law 1388 = .ok (.laload, 1) := by decide +kernel
theorem dL_law_1389 : decode cL_law 1389 = .ok (.iload 6, 2) := by decide +kernel
theorem dL_law_1391 : decode cL_law 1391 = .ok (.i2l, 1) := by decide +kernel
theorem dL_law_1392 : decode cL_law 1392 = .ok (.lcmp, 1) := by decide +kernel
theorem dL_law_1393 : decode cL_law 1393 = .ok (.ifCond .eq 5, 3) := by decide +kernel
theorem dL_law_1396 : decode cL_law 1396 = .ok (.iconst 0, 1) := by decide +kernel
theorem dL_law_1397 : decode cL_law 1397 = .ok (.ireturn, 1) := by decide +kernel
theorem dL_law_1398 : decode cL_law 1398 = .ok (.goto 84, 3) := by decide +kernel
theorem dL_law_1401 : decode cL_law 1401 = .ok (.aload_n 1, 1) := by decide +kernel
theorem dL_law_1402 : decode cL_law 1402 = .ok (.invokevirtual 158, 3) := by decide +kernel
theorem dL_law_1405 : decode cL_law 1405 = .ok (.aload_n 2, 1) := by decide +kernel
theorem dL_law_1406 : decode cL_law 1406 = .ok (.invokevirtual 161, 3) := by decide +kernel
theorem dL_law_1409 : decode cL_law 1409 = .ok (.if_icmp .eq 73, 3) := by decide +kernel
theorem dL_law_1412 : decode cL_law 1412 = .ok (.iconst 0, 1) := by decide +kernel
theorem dL_law_1413 : decode cL_law 1413 = .ok (.ireturn, 1) := by decide +kernel
theorem dL_law_1414 : decode cL_law 1414 = .ok (.aload_n 1, 1) := by decide +kernel
theorem dL_law_1415 : decode cL_law 1415 = .ok (.invokevirtual 162, 3) := by decide +kernel
theorem dL_law_1418 : decode cL_law 1418 = .ok (.aload_n 2, 1) := by decide +kernel
theorem dL_law_1419 : decode cL_law 1419 = .ok (.invokevirtual 165, 3) := by decide +kernel
theorem dL_law_1422 : decode cL_law 1422 = .ok (.if_icmp .eq 60, 3) := by decide +kernel
theorem dL_law_1425 : decode cL_law 1425 = .ok (.iconst 0, 1) := by decide +kernel
theorem dL_law_1426 : decode cL_law 1426 = .ok (.ireturn, 1) := by decide +kernel
theorem dL_law_1427 : decode cL_law 1427 = .ok (.aload_n 1, 1) := by decide +kernel
theorem dL_law_1428 : decode cL_law 1428 = .ok (.invokevirtual 166, 3) := by decide +kernel
theorem dL_law_1431 : decode cL_law 1431 = .ok (.dstore 5, 2) := by decide +kernel
theorem dL_law_1433 : decode cL_law 1433 = .ok (.aload_n 2, 1) := by decide +kernel
theorem dL_law_1434 : decode cL_law 1434 = .ok (.invokevirtual 170, 3) := by decide +kernel
theorem dL_law_1437 : decode cL_law 1437 = .ok (.dstore 7, 2) := by decide +kernel
theorem dL_law_1439 : decode cL_law 1439 = .ok (.dload 5, 2) := by decide +kernel
theorem dL_law_1441 : decode cL_law 1441 = .ok (.dload 7, 2) := by decide +kernel
theorem dL_law_1443 : decode cL_law 1443 = .ok (.dcmp .l, 1) := by decide +kernel
theorem dL_law_1444 : decode cL_law 1444 = .ok (.ifCond .eq 21, 3) := by decide +kernel
theorem dL_law_1447 : decode cL_law 1447 = .ok (.dload 5, 2) := by decide +kernel
theorem dL_law_1449 : decode cL_law 1449 = .ok (.dload 5, 2) := by decide +kernel
theorem dL_law_1451 : decode cL_law 1451 = .ok (.dcmp .l, 1) := by decide +kernel
theorem dL_law_1452 : decode cL_law 1452 = .ok (.ifCond .eq 11, 3) := by decide +kernel
theorem dL_law_1455 : decode cL_law 1455 = .ok (.dload 7, 2) := by decide +kernel
theorem dL_law_1457 : decode cL_law 1457 = .ok (.dload 7, 2) := by decide +kernel
theorem dL_law_1459 : decode cL_law 1459 = .ok (.dcmp .l, 1) := by decide +kernel
theorem dL_law_1460 : decode cL_law 1460 = .ok (.ifCond .ne 5, 3) := by decide +kernel
theorem dL_law_1463 : decode cL_law 1463 = .ok (.iconst 0, 1) := by decide +kernel
theorem dL_law_1464 : decode cL_law 1464 = .ok (.ireturn, 1) := by decide +kernel
theorem dL_law_1465 : decode cL_law 1465 = .ok (.goto 17, 3) := by decide +kernel
theorem dL_law_1468 : decode cL_law 1468 = .ok (.aload_n 1, 1) := by decide +kernel
theorem dL_law_1469 : decode cL_law 1469 = .ok (.invokevirtual 171, 3) := by decide +kernel
theorem dL_law_1472 : decode cL_law 1472 = .ok (.aload_n 2, 1) := by decide +kernel
theorem dL_law_1473 : decode cL_law 1473 = .ok (.invokevirtual 175, 3) := by decide +kernel
theorem dL_law_1476 : decode cL_law 1476 = .ok (.lcmp, 1) := by decide +kernel
theorem dL_law_1477 : decode cL_law 1477 = .ok (.ifCond .eq 5, 3) := by decide +kernel
theorem dL_law_1480 : decode cL_law 1480 = .ok (.iconst 0, 1) := by decide +kernel
theorem dL_law_1481 : decode cL_law 1481 = .ok (.ireturn, 1) := by decide +kernel
theorem dL_law_1482 : decode cL_law 1482 = .ok (.iinc 4 6, 3) := by decide +kernel
theorem dL_law_1485 : decode cL_law 1485 = .ok (.goto (-1462), 3) := by decide +kernel
theorem dL_law_1488 : decode cL_law 1488 = .ok (.iconst 1, 1) := by decide +kernel
theorem dL_law_1489 : decode cL_law 1489 = .ok (.ireturn, 1) := by decide +kernel
end
section
/-! the standing facts, the walk at a place, and its rows -/
section FR0
abbrev GT : Type := va_G × (ClassId × ClassId × ClassId × ClassId) × (Nat × Nat) × (Nat → Nat)
/-- the words that are no good words, of the tables all the same -/
def nestW : List Cond := [(Cond.fieldLinkNest "GliderDay" 283 "GliderDay$Member" "number" "I" "GliderDay"), (Cond.fieldLinkNest "GliderDay" 132 "GliderDay$Member" "level" "I" "GliderDay"), (Cond.fieldLinkNest "GliderDay" 123 "GliderDay$Member" "isFlying" "Z" "GliderDay"), (Cond.fieldLinkNest "GliderDay" 267 "GliderDay$Member" "landings" "I" "GliderDay"), (Cond.fieldLinkNest "GliderDay" 270 "GliderDay$Member" "minutes" "I" "GliderDay"), (Cond.fieldLinkNest "GliderDay" 271 "GliderDay$Member" "lessons" "I" "GliderDay"), (Cond.fieldLinkNest "GliderDay" 274 "GliderDay$Member" "solos" "I" "GliderDay"), (Cond.fieldLinkNest "GliderDay" 226 "GliderDay$Member" "bill" "I" "GliderDay"), (Cond.fieldLinkNest "GliderDay" 291 "GliderDay$Glider" "number" "I" "GliderDay"), (Cond.fieldLinkNest "GliderDay" 308 "GliderDay$Glider" "seats" "I" "GliderDay"), (Cond.fieldLinkNest "GliderDay" 352 "GliderDay$Glider" "rate" "I" "GliderDay"), (Cond.fieldLinkNest "GliderDay" 299 "GliderDay$Glider" "limit" "I" "GliderDay"), (Cond.fieldLinkNest "GliderDay" 110 "GliderDay$Glider" "state" "I" "GliderDay"), (Cond.fieldLinkNest "GliderDay" 115 "GliderDay$Glider" "isBarred" "Z" "GliderDay"), (Cond.fieldLinkNest "GliderDay" 201 "GliderDay$Glider" "isCalled" "Z" "GliderDay"), (Cond.fieldLinkNest "GliderDay" 277 "GliderDay$Glider" "landings" "I" "GliderDay"), (Cond.fieldLinkNest "GliderDay" 278 "GliderDay$Glider" "minutes" "I" "GliderDay"), (Cond.fieldLinkNest "GliderDay" 195 "GliderDay$Glider" "flight" "LGliderDay$Flight;" "GliderDay"), (Cond.fieldLinkNest "GliderDay" 170 "GliderDay$Flight" "number" "I" "GliderDay"), (Cond.fieldLinkNest "GliderDay" 279 "GliderDay$Flight" "member" "LGliderDay$Member;" "GliderDay"), (Cond.fieldLinkNest "GliderDay" 284 "GliderDay$Flight" "second" "LGliderDay$Member;" "GliderDay"), (Cond.fieldLinkNest "GliderDay" 287 "GliderDay$Flight" "glider" "LGliderDay$Glider;" "GliderDay"), (Cond.fieldLinkNest "GliderDay" 161 "GliderDay$Flight" "height" "I" "GliderDay"), (Cond.fieldLinkNest "GliderDay" 164 "GliderDay$Flight" "minutes" "I" "GliderDay"), (Cond.fieldLinkNest "GliderDay" 185 "GliderDay$Flight" "state" "I" "GliderDay"), (Cond.fieldLinkNest "GliderDay" 167 "GliderDay$Flight" "askedAt" "I" "GliderDay"), (Cond.fieldLinkNest "GliderDay" 204 "GliderDay$Flight" "begin" "I" "GliderDay"), (Cond.fieldLinkNest "GliderDay" 235 "GliderDay$Flight" "landing" "I" "GliderDay"), (Cond.fieldLinkNest "GliderDay" 232 "GliderDay$Flight" "cost" "I" "GliderDay"), (Cond.methodLinkNest "GliderDay" 76 ({ cls := "GliderDay$Member", name := "<init>", desc := "(II)V" } : MethodName) "GliderDay"), (Cond.methodLinkNest "GliderDay" 89 ({ cls := "GliderDay$Glider", name := "<init>", desc := "(IIII)V" } : MethodName) "GliderDay"), (Cond.methodLinkNest "GliderDay" 158 ({ cls := "GliderDay$Flight", name := "<init>", desc := "(ILGliderDay$Member;LGliderDay$Member;LGliderDay$Glider;)V" } : MethodName) "GliderDay"), (Cond.castable "java/lang/IllegalArgumentException" "java/lang/IllegalArgumentException"), (Cond.castable "java/lang/IllegalStateException" "java/lang/IllegalStateException"), (Cond.castable "java/lang/IndexOutOfBoundsException" "java/lang/IndexOutOfBoundsException"), (Cond.castable "GliderDay" "java/lang/Object"), (Cond.castable "java/util/ArrayList" "java/lang/Object"), (Cond.castable "GliderDayModel" "java/lang/Object"), (Cond.castable "java/lang/IllegalArgumentException" "java/lang/Object"), (Cond.castable "java/lang/IllegalStateException" "java/lang/Object"), (Cond.castable "GliderDay$Member" "java/lang/Object"), (Cond.castable "GliderDay$Glider" "java/lang/Object"), (Cond.castable "java/lang/IndexOutOfBoundsException" "java/lang/Object"), (Cond.castable "GliderDay$Flight" "java/lang/Object"), (Cond.castable "java/lang/Throwable" "java/lang/Object"), (Cond.castable "java/lang/String" "java/lang/Object"), (Cond.castable "[I" "java/lang/Object"), (Cond.castable "[B" "java/lang/Object"), (Cond.castable "[Ljava/lang/Object;" "java/lang/Object"), (Cond.castable "[Z" "java/lang/Object"), (Cond.castable "[J" "java/lang/Object"), (Cond.declares ({ cls := "java/lang/RuntimeException", name := "<init>", desc := "()V" } : MethodName)), (Cond.declares ({ cls := "java/lang/RuntimeException", name := "<init>", desc := "(Ljava/lang/String;)V" } : MethodName)), (Cond.declares ({ cls := "java/lang/Exception", name := "<init>", desc := "()V" } : MethodName)), (Cond.declares ({ cls := "java/lang/Exception", name := "<init>", desc := "(Ljava/lang/String;)V" } : MethodName)), (Cond.declares ({ cls := "java/lang/Throwable", name := "<init>", desc := "()V" } : MethodName)), (Cond.declares ({ cls := "java/lang/Throwable", name := "<init>", desc := "(Ljava/lang/String;)V" } : MethodName)), (Cond.declares ({ cls := "java/lang/Object", name := "getClass", desc := "()Ljava/lang/Class;" } : MethodName))]
def strW : List (Nat × String) := [(60, "no such level"), (71, "too many members"), (83, "no such glider can be"), (85, "too many gliders"), (92, "no such wind"), (94, "no such time"), (96, "no such number of tugs"), (101, "more tugs are taken"), (258, "no such glider"), (113, "the glider flies"), (256, "no such member"), (130, "no promotion now"), (137, "no such fact"), (152, "no such flight can be"), (154, "too many flights"), (260, "no such flight"), (262, "the flight is not on the list"), (186, "no such place"), (199, "the glider is on the ground"), (207, "no such minutes"), (220, "no such count"), (230, "no such amount")]
def nk (w : Cond) : Bool := match w with
  | .fieldLinkNest .. => true
  | .methodLinkNest .. => true
  | .castable .. => true
  | .declares .. => true
  | _ => false
theorem nk_all : nestW.all nk = true := by decide +kernel
theorem nk_warm {w : Cond} {s U : State} (h : nk w = true) (hW : s.WarmedH U.vm) (hw : va_Nw w s) : va_Nw w U := by
  cases w <;> first | exact va_Nw.warmF hW hw | exact va_Nw.warmM hW hw | exact va_Nw.warmC hW hw | exact va_Nw.warmD hW hw | cases h
/-- of the tables: the classes, the arrays' classes, the other words, the texts, Object's array, its mirror -/
def Kt (G : GT) (U : State) : Prop := va_K G.1 vwCl [(G.2.1.1, .int), (G.2.1.2.1, .boolean), (G.2.1.2.2.1, .object "java/lang/Object"), (G.2.1.2.2.2, .long)] U ∧ (∀ w ∈ nestW, va_Nw w U) ∧ (∀ q ∈ strW, vk_R RX3 q.1 q.2 (G.2.2.2 q.1) U) ∧ va_AO "java/lang/Object" U ∧ va_Mi "[Ljava/lang/Object;" G.2.2.1.2 U ∧ va_Nc "java/lang/IllegalStateException" "java/lang/IllegalArgumentException" U ∧ va_Nc "java/lang/IllegalStateException" "java/lang/IndexOutOfBoundsException" U ∧ va_Nc "java/lang/IllegalArgumentException" "java/lang/IndexOutOfBoundsException" U
/-- of the heap: three static fields, the empty array of all new lists -/
def Kh (G : GT) (A : Nat → Prop) (U : State) (H : Heap) : Prop := vx_Zq Bundle.tN "UNASSIGNED_STACK" Bundle.steD A U H ∧ vx_Zq Bundle.tN "SUPPRESSED_SENTINEL" Bundle.listD A U H ∧ va_Z "java/util/ArrayList" "DEFAULTCAPACITY_EMPTY_ELEMENTDATA" "[Ljava/lang/Object;" (.ref G.2.2.1.1) A U H ∧ va_T (.object "java/lang/Object") G.2.2.1.1 0 (fun _ => .null) A U H
theorem Kt.warm {G : GT} {s U : State} (hW : s.WarmedH U.vm) (h : Kt G s) : Kt G U := by
  obtain ⟨h1, h2, h3, h4, h5, h6, h7, h8⟩ := h
  have hA := hW.alike
  exact ⟨va_K.moved hA h1, fun w hw => nk_warm (List.all_eq_true.mp nk_all w hw) hW (h2 w hw), fun q hq => vk_R.warm hW (h3 q hq), h4.moved hA, h5.moved hA, h6.moved hA, h7.moved hA, h8.moved hA⟩
theorem Kh.moved {G : GT} {A : Nat → Prop} {u U : State} {H : Heap} (hvm : u.vm.Alike U.vm) (h : Kh G A u H) : Kh G A U H := ⟨h.1.moved hvm, h.2.1.moved hvm, h.2.2.1.moved hvm, h.2.2.2.moved hvm⟩
theorem Kh.kept {G : GT} {A : Nat → Prop} {U : State} {H H1 : Heap} (h : Kh G A U H) (hq : ∀ a : Nat, a < H.size → ¬ A a → H1[a]? = H[a]?) : Kh G A U H1 := ⟨h.1.kept hq, h.2.1.kept hq, h.2.2.1.kept hq, h.2.2.2.kept hq⟩
theorem Kh.narrow {G : GT} {A B : Nat → Prop} {U : State} {H : Heap} (h : Kh G A U H) (hAB : ∀ q, B q → A q) : Kh G B U H := ⟨h.1.narrow hAB, h.2.1.narrow hAB, h.2.2.1.narrow hAB, h.2.2.2.narrow hAB⟩
abbrev WE : Type := Program × Launch × Env × Room × State × MethodId × Array Value × List Frame × Method × Code × (Nat → Prop) × Nat × (State → Prop)
/-- the walk at a place: heap H, room used, the locals lv, the stack st; nothing outside A has changed since the start -/
def wx : WE → Heap → Nat → Nat → Nat → List (Nat × Value) → List Value → Prop
  | (p, l, e, R, s, m, args, below, meth, c, A, nL, Q), H, k, n, pc, lv, st => ∀ (locs : List Loc) (ls : Array Slot), va_S A s.heap H locs → lv_has ls nL lv → W p l e R s m args below meth c H locs k n Q (F0 m pc ls st)
/-- the same with q thrown -/
def wt : WE → Heap → Nat → Nat → Nat → List (Nat × Value) → Addr → Prop
  | (p, l, e, R, s, m, args, below, meth, c, A, nL, Q), H, k, n, pc, lv, q => ∀ (locs : List Loc) (ls : Array Slot) (st : List Value), va_S A s.heap H locs → lv_has ls nL lv → vx_W p l e R s m args below meth c H locs k n Q (F0 m pc ls st) q
/-- what is fixed in a method's body -/
def fx (L : Launch) (rm : Room) (G : GT) (A : Nat → Prop) (H0 : Heap) (n0 : Nat) (cc : ByteArray) (own : String) : WE → Prop
  | (p, l, _, R, s, m, args, _, meth, c, A1, nL, _) => CallFix p m c cc nL s args WALL own ∧ l = L ∧ R = rm ∧ A1 = A ∧ s.heap = H0 ∧ nL = n0 ∧ Kt G s ∧ Kh G A s H0 ∧ (∀ q, H0.size ≤ q → A q) ∧ meth.locks = false
def ctQ (A : Nat → Prop) (Post : Heap → Option Value → Heap → Prop) : Array Value → State → Outcome → State → Prop := fun _ st o t => ∃ v, o = .returned v ∧ Post st.heap v t.heap ∧ va_F A st t
def ctX (A : Nat → Prop) (PX : Heap → String → Heap → Prop) : String → State → State → Prop := fun E st t => PX st.heap E t.heap ∧ va_F A st t
/-- what is owed at a return -/
def fe (rm : Room) (A : Nat → Prop) (Post : Heap → Option Value → Heap → Prop) (ret : Option FieldType) (nm : String) : WE → Prop
  | (_, _, _, _, s, _, args, below, meth, _, _, _, Q) => (Q = MQ below (ctQ A Post) args s rm.cells rm.slots A ∨ ∃ PX, Q = vx_MQ below (ctQ A Post) (ctX A PX) args s rm.cells rm.slots A) ∧ meth.sig.returnType = ret ∧ meth.name = nm
/-- what is owed at a throw that isn't caught -/
def fX (rm : Room) (A : Nat → Prop) (Post : Heap → Option Value → Heap → Prop) (PX : Heap → String → Heap → Prop) : WE → Prop
  | (_, _, _, _, s, _, args, below, _, c, _, _, Q) => Q = vx_MQ below (ctQ A Post) (ctX A PX) args s rm.cells rm.slots A ∧ ∀ x ∈ c.exceptionTable.toList, False
def ctP (G : GT) (A : Nat → Prop) (av : List Value) (Pre : Heap → Prop) : Array Value → State → Prop := va_Pc av (fun U => Kt G U ∧ Kh G A U U.heap ∧ (∀ q, U.heap.size ≤ q → A q) ∧ Pre U.heap)
/-- a contract: the method returns -/
def Ct (l : Launch) (y : MethodName) (cc : ByteArray) (maxL : Nat) (ret : Option FieldType) (rm : Room) (G : GT) (A : Nat → Prop) (av : List Value) (Pre : Heap → Prop) (Post : Heap → Option Value → Heap → Prop) : Prop :=
  Met l y (.code y cc maxL ret :: WALL) rm (ctP G A av Pre) (ctQ A Post) rm.cells rm.slots A
/-- a contract: the method returns or throws -/
def Cx (l : Launch) (y : MethodName) (cc : ByteArray) (maxL : Nat) (ret : Option FieldType) (rm : Room) (G : GT) (A : Nat → Prop) (av : List Value) (Pre : Heap → Prop) (Post : Heap → Option Value → Heap → Prop) (PX : Heap → String → Heap → Prop) : Prop :=
  vx_Met l y (.code y cc maxL ret :: WALL) rm (ctP G A av Pre) (ctQ A Post) (ctX A PX) rm.cells rm.slots A
theorem ctP_blind {G : GT} {A : Nat → Prop} {av : List Value} {Pre : Heap → Prop} : FrameBlind (ctP G A av Pre) := fun a U g mk q => by
  obtain ⟨h1, h2, h3, h4, h5⟩ := q
  exact ⟨h1, Kt.warm (s := U) (U := U.calling g mk a) (State.WarmedH.refl U) h2, Kh.moved (u := U) (U := U.calling g mk a) (Vm.Alike.refl U.vm) h3, h4, h5⟩
set_option maxHeartbeats 1000000 in
theorem ct_of {l : Launch} {y : MethodName} {cc : ByteArray} {maxL : Nat} {ret : Option FieldType} {rm : Room} {G : GT} {A : Nat → Prop} {av : List Value} {Pre : Heap → Prop} {Post : Heap → Option Value → Heap → Prop} {own : String} (hy : plainName y.cls = true) (hyo : y.cls = own) (hlen : (lg_sl av).length ≤ maxL)
    (body : ∀ (E : WE) (H0 : Heap), fx l rm G A H0 maxL cc own E → fe rm A Post ret y.name E → Pre H0 → wx E H0 0 0 0 (lv_args 0 av) []) : Ct l y cc maxL ret rm G A av Pre Post := by
  refine Met.ofW (cc := cc) (maxL := maxL) (ret := ret) hy rfl ?_
  intro p e s m args below meth c s₁ B hml hv
  obtain ⟨rfl, hKt, hKh, hfr, hpre⟩ := hv
  have hts := atoms_spec (ws := .code y cc maxL ret :: WALL) B.pre
  have hown : s.vm.findClass own = some m.cls := by rw [← hyo]; exact findClass_of_methodNamed B.named
  have K := body (p, l, e, rm, s, m, av.toArray, below, meth, c, A, maxL, MQ below (ctQ A Post) av.toArray s rm.cells rm.slots A) s.heap ⟨⟨B.exec, B.bytes, hml, hown, fun w h => hts w (List.mem_cons_of_mem _ h)⟩, rfl, rfl, rfl, rfl, rfl, hKt, hKh, hfr, B.notSynchronized⟩ ⟨Or.inl rfl, B.returns, (name_of_methodNamed B.named B.method).1⟩ hpre
  have hl := lv_entry av (n := maxL) hlen
  rw [lg_entry_eq]
  exact K [] _ va_S.rf hl
set_option maxHeartbeats 1000000 in
theorem cx_of {l : Launch} {y : MethodName} {cc : ByteArray} {maxL : Nat} {ret : Option FieldType} {rm : Room} {G : GT} {A : Nat → Prop} {av : List Value} {Pre : Heap → Prop} {Post : Heap → Option Value → Heap → Prop} {PX : Heap → String → Heap → Prop} {own : String} (hy : plainName y.cls = true) (hyo : y.cls = own) (hlen : (lg_sl av).length ≤ maxL)
    (body : ∀ (E : WE) (H0 : Heap), fx l rm G A H0 maxL cc own E → fe rm A Post ret y.name E → fX rm A Post PX E → Pre H0 → wx E H0 0 0 0 (lv_args 0 av) []) : Cx l y cc maxL ret rm G A av Pre Post PX := by
  refine vx_ofW (cc := cc) (maxL := maxL) (ret := ret) hy rfl ?_
  intro p e s m args below meth c s₁ B hml hex hv
  obtain ⟨rfl, hKt, hKh, hfr, hpre⟩ := hv
  have hts := atoms_spec (ws := .code y cc maxL ret :: WALL) B.pre
  have hown : s.vm.findClass own = some m.cls := by rw [← hyo]; exact findClass_of_methodNamed B.named
  have K := body (p, l, e, rm, s, m, av.toArray, below, meth, c, A, maxL, vx_MQ below (ctQ A Post) (ctX A PX) av.toArray s rm.cells rm.slots A) s.heap ⟨⟨B.exec, B.bytes, hml, hown, fun w h => hts w (List.mem_cons_of_mem _ h)⟩, rfl, rfl, rfl, rfl, rfl, hKt, hKh, hfr, B.notSynchronized⟩ ⟨Or.inr ⟨PX, rfl⟩, B.returns, (name_of_methodNamed B.named B.method).1⟩ ⟨rfl, hex⟩ hpre
  have hl := lv_entry av (n := maxL) hlen
  rw [lg_entry_eq]
  exact K [] _ va_S.rf hl
end FR0
section FR1
variable {L : Launch} {rm : Room} {G : GT} {A : Nat → Prop} {H0 : Heap} {n0 : Nat} {cc : ByteArray} {own : String} {E : WE} {H : Heap} {k n pc : Nat} {lv lv' : List (Nat × Value)} {st : List Value} {ret : Option FieldType} {nm : String} {Post : Heap → Option Value → Heap → Prop}
theorem x_iload_n (F : fx L rm G A H0 n0 cc own E) {q : Fin 4} {i : Nat} {x : Int32} (hd : decode cc pc = .ok (.iload_n q, 1)) (j : Nat) (hj : lv[j]? = some (i, .int x)) (hi : (q : Nat) = i) (kk : wx E H k n (pc + 1) lv (.int x :: st)) : wx E H k n pc lv st := by
  obtain ⟨p, l, e, R, s, m, args, below, meth, c, A1, nL, Q⟩ := E
  obtain ⟨⟨hx, hb, hml, hown, hts⟩, hL, hR, hAA, hH0, hnL, hKt, hKh, hfr, hlk⟩ := F
  intro locs ls hS hl
  exact lv_iload_n hx hb hd hi (lv_at hl j hj) (kk locs ls hS hl)
theorem x_iload (F : fx L rm G A H0 n0 cc own E) {i : Nat} {x : Int32} (hd : decode cc pc = .ok (.iload i, 2)) (j : Nat) (hj : lv[j]? = some (i, .int x)) (kk : wx E H k n (pc + 2) lv (.int x :: st)) : wx E H k n pc lv st := by
  obtain ⟨p, l, e, R, s, m, args, below, meth, c, A1, nL, Q⟩ := E
  obtain ⟨⟨hx, hb, hml, hown, hts⟩, hL, hR, hAA, hH0, hnL, hKt, hKh, hfr, hlk⟩ := F
  intro locs ls hS hl
  exact lv_iload hx hb hd (lv_at hl j hj) (kk locs ls hS hl)
theorem x_aload_n (F : fx L rm G A H0 n0 cc own E) {q : Fin 4} {i : Nat} {x : Nat} (hd : decode cc pc = .ok (.aload_n q, 1)) (j : Nat) (hj : lv[j]? = some (i, .ref x)) (hi : (q : Nat) = i) (kk : wx E H k n (pc + 1) lv (.ref x :: st)) : wx E H k n pc lv st := by
  obtain ⟨p, l, e, R, s, m, args, below, meth, c, A1, nL, Q⟩ := E
  obtain ⟨⟨hx, hb, hml, hown, hts⟩, hL, hR, hAA, hH0, hnL, hKt, hKh, hfr, hlk⟩ := F
  intro locs ls hS hl
  exact lv_aload_n hx hb hd hi (lv_at hl j hj) (kk locs ls hS hl)
theorem x_aload (F : fx L rm G A H0 n0 cc own E) {i : Nat} {x : Nat} (hd : decode cc pc = .ok (.aload i, 2)) (j : Nat) (hj : lv[j]? = some (i, .ref x)) (kk : wx E H k n (pc + 2) lv (.ref x :: st)) : wx E H k n pc lv st := by
  obtain ⟨p, l, e, R, s, m, args, below, meth, c, A1, nL, Q⟩ := E
  obtain ⟨⟨hx, hb, hml, hown, hts⟩, hL, hR, hAA, hH0, hnL, hKt, hKh, hfr, hlk⟩ := F
  intro locs ls hS hl
  exact lv_aload hx hb hd (lv_at hl j hj) (kk locs ls hS hl)
theorem x_lload_n (F : fx L rm G A H0 n0 cc own E) {q : Fin 4} {i : Nat} {x : Int64} (hd : decode cc pc = .ok (.lload_n q, 1)) (j : Nat) (hj : lv[j]? = some (i, .long x)) (hi : (q : Nat) = i) (kk : wx E H k n (pc + 1) lv (.long x :: st)) : wx E H k n pc lv st := by
  obtain ⟨p, l, e, R, s, m, args, below, meth, c, A1, nL, Q⟩ := E
  obtain ⟨⟨hx, hb, hml, hown, hts⟩, hL, hR, hAA, hH0, hnL, hKt, hKh, hfr, hlk⟩ := F
  intro locs ls hS hl
  exact lv_lload_n hx hb hd hi (lv_at hl j hj) (kk locs ls hS hl)
theorem x_lload (F : fx L rm G A H0 n0 cc own E) {i : Nat} {x : Int64} (hd : decode cc pc = .ok (.lload i, 2)) (j : Nat) (hj : lv[j]? = some (i, .long x)) (kk : wx E H k n (pc + 2) lv (.long x :: st)) : wx E H k n pc lv st := by
  obtain ⟨p, l, e, R, s, m, args, below, meth, c, A1, nL, Q⟩ := E
  obtain ⟨⟨hx, hb, hml, hown, hts⟩, hL, hR, hAA, hH0, hnL, hKt, hKh, hfr, hlk⟩ := F
  intro locs ls hS hl
  exact lv_lload hx hb hd (lv_at hl j hj) (kk locs ls hS hl)
theorem x_dload_n (F : fx L rm G A H0 n0 cc own E) {q : Fin 4} {i : Nat} {x : UInt64} (hd : decode cc pc = .ok (.dload_n q, 1)) (j : Nat) (hj : lv[j]? = some (i, .double x)) (hi : (q : Nat) = i) (kk : wx E H k n (pc + 1) lv (.double x :: st)) : wx E H k n pc lv st := by
  obtain ⟨p, l, e, R, s, m, args, below, meth, c, A1, nL, Q⟩ := E
  obtain ⟨⟨hx, hb, hml, hown, hts⟩, hL, hR, hAA, hH0, hnL, hKt, hKh, hfr, hlk⟩ := F
  intro locs ls hS hl
  exact lv_dload_n hx hb hd hi (lv_at hl j hj) (kk locs ls hS hl)
theorem x_dload (F : fx L rm G A H0 n0 cc own E) {i : Nat} {x : UInt64} (hd : decode cc pc = .ok (.dload i, 2)) (j : Nat) (hj : lv[j]? = some (i, .double x)) (kk : wx E H k n (pc + 2) lv (.double x :: st)) : wx E H k n pc lv st := by
  obtain ⟨p, l, e, R, s, m, args, below, meth, c, A1, nL, Q⟩ := E
  obtain ⟨⟨hx, hb, hml, hown, hts⟩, hL, hR, hAA, hH0, hnL, hKt, hKh, hfr, hlk⟩ := F
  intro locs ls hS hl
  exact lv_dload hx hb hd (lv_at hl j hj) (kk locs ls hS hl)
theorem x_istore_n (F : fx L rm G A H0 n0 cc own E) {q : Fin 4} {i : Nat} {x : Int32} (hd : decode cc pc = .ok (.istore_n q, 1)) (hi : (q : Nat) = i) (hn : i < n0) (hl2 : (i, Value.int x) :: lv.filter (fun q => !(q.1 == i) && !(q.1 + 1 == i && q.2.category == 2)) = lv') (kk : wx E H k n (pc + 1) lv' st) : wx E H k n pc lv (.int x :: st) := by
  obtain ⟨p, l, e, R, s, m, args, below, meth, c, A1, nL, Q⟩ := E
  obtain ⟨⟨hx, hb, hml, hown, hts⟩, hL, hR, hAA, hH0, hnL, hKt, hKh, hfr, hlk⟩ := F
  intro locs ls hS hl
  exact lv_istore_n hx hb hd hi hl (by rw [hnL]; exact hn) hl2 (fun ls2 hl3 => kk locs ls2 hS hl3)
theorem x_istore (F : fx L rm G A H0 n0 cc own E) {i : Nat} {x : Int32} (hd : decode cc pc = .ok (.istore i, 2)) (hn : i < n0) (hl2 : (i, Value.int x) :: lv.filter (fun q => !(q.1 == i) && !(q.1 + 1 == i && q.2.category == 2)) = lv') (kk : wx E H k n (pc + 2) lv' st) : wx E H k n pc lv (.int x :: st) := by
  obtain ⟨p, l, e, R, s, m, args, below, meth, c, A1, nL, Q⟩ := E
  obtain ⟨⟨hx, hb, hml, hown, hts⟩, hL, hR, hAA, hH0, hnL, hKt, hKh, hfr, hlk⟩ := F
  intro locs ls hS hl
  exact lv_istore hx hb hd hl (by rw [hnL]; exact hn) hl2 (fun ls2 hl3 => kk locs ls2 hS hl3)
theorem x_astore_n (F : fx L rm G A H0 n0 cc own E) {q : Fin 4} {i : Nat} {x : Nat} (hd : decode cc pc = .ok (.astore_n q, 1)) (hi : (q : Nat) = i) (hn : i < n0) (hl2 : (i, Value.ref x) :: lv.filter (fun q => !(q.1 == i) && !(q.1 + 1 == i && q.2.category == 2)) = lv') (kk : wx E H k n (pc + 1) lv' st) : wx E H k n pc lv (.ref x :: st) := by
  obtain ⟨p, l, e, R, s, m, args, below, meth, c, A1, nL, Q⟩ := E
  obtain ⟨⟨hx, hb, hml, hown, hts⟩, hL, hR, hAA, hH0, hnL, hKt, hKh, hfr, hlk⟩ := F
  intro locs ls hS hl
  exact lv_astore_n hx hb hd hi hl (by rw [hnL]; exact hn) hl2 (fun ls2 hl3 => kk locs ls2 hS hl3)
theorem x_astore (F : fx L rm G A H0 n0 cc own E) {i : Nat} {x : Nat} (hd : decode cc pc = .ok (.astore i, 2)) (hn : i < n0) (hl2 : (i, Value.ref x) :: lv.filter (fun q => !(q.1 == i) && !(q.1 + 1 == i && q.2.category == 2)) = lv') (kk : wx E H k n (pc + 2) lv' st) : wx E H k n pc lv (.ref x :: st) := by
  obtain ⟨p, l, e, R, s, m, args, below, meth, c, A1, nL, Q⟩ := E
  obtain ⟨⟨hx, hb, hml, hown, hts⟩, hL, hR, hAA, hH0, hnL, hKt, hKh, hfr, hlk⟩ := F
  intro locs ls hS hl
  exact lv_astore hx hb hd hl (by rw [hnL]; exact hn) hl2 (fun ls2 hl3 => kk locs ls2 hS hl3)
theorem x_iinc (F : fx L rm G A H0 n0 cc own E) {i j : Nat} {z : Int} {x v : Int32} (hd : decode cc pc = .ok (.iinc i z, 3)) (hj : lv[j]? = some (i, .int x)) (hv : x + Int32.ofInt z = v) (hn : i < n0) (hl2 : (i, Value.int v) :: lv.filter (fun q => !(q.1 == i) && !(q.1 + 1 == i && q.2.category == 2)) = lv') (kk : wx E H k n (pc + 3) lv' st) : wx E H k n pc lv st := by
  obtain ⟨p, l, e, R, s, m, args, below, meth, c, A1, nL, Q⟩ := E
  obtain ⟨⟨hx, hb, hml, hown, hts⟩, hL, hR, hAA, hH0, hnL, hKt, hKh, hfr, hlk⟩ := F
  intro locs ls hS hl
  exact lv_iinc hx hb hd hl hj hv (by rw [hnL]; exact hn) hl2 (fun ls2 hl3 => kk locs ls2 hS hl3)
theorem x_iconst (F : fx L rm G A H0 n0 cc own E) {z : Int} {v : Int32} (hv : Int32.ofInt z = v) (hd : decode cc pc = .ok (.iconst z, 1)) (kk : wx E H k n (pc + 1) lv (.int v :: st)) : wx E H k n pc lv (st) := by
  obtain ⟨p, l, e, R, s, m, args, below, meth, c, A1, nL, Q⟩ := E
  obtain ⟨⟨hx, hb, hml, hown, hts⟩, hL, hR, hAA, hH0, hnL, hKt, hKh, hfr, hlk⟩ := F
  intro locs ls hS hl
  exact lv_iconst hx hb hd hv (kk locs ls hS hl)
theorem x_bipush (F : fx L rm G A H0 n0 cc own E) {z : Int} {v : Int32} (hv : (Int8.ofInt z).toInt32 = v) (hd : decode cc pc = .ok (.bipush z, 2)) (kk : wx E H k n (pc + 2) lv (.int v :: st)) : wx E H k n pc lv (st) := by
  obtain ⟨p, l, e, R, s, m, args, below, meth, c, A1, nL, Q⟩ := E
  obtain ⟨⟨hx, hb, hml, hown, hts⟩, hL, hR, hAA, hH0, hnL, hKt, hKh, hfr, hlk⟩ := F
  intro locs ls hS hl
  exact lv_bipush hx hb hd hv (kk locs ls hS hl)
theorem x_sipush (F : fx L rm G A H0 n0 cc own E) {z : Int} {v : Int32} (hv : (Int16.ofInt z).toInt32 = v) (hd : decode cc pc = .ok (.sipush z, 3)) (kk : wx E H k n (pc + 3) lv (.int v :: st)) : wx E H k n pc lv (st) := by
  obtain ⟨p, l, e, R, s, m, args, below, meth, c, A1, nL, Q⟩ := E
  obtain ⟨⟨hx, hb, hml, hown, hts⟩, hL, hR, hAA, hH0, hnL, hKt, hKh, hfr, hlk⟩ := F
  intro locs ls hS hl
  exact lv_sipush hx hb hd hv (kk locs ls hS hl)
theorem x_ldc (F : fx L rm G A H0 n0 cc own E) {i : Nat} {v : Int32} (hc : Cond.constant own i v ∈ WALL) (hd : decode cc pc = .ok (.ldc i, 2)) (kk : wx E H k n (pc + 2) lv (.int v :: st)) : wx E H k n pc lv st := by
  obtain ⟨p, l, e, R, s, m, args, below, meth, c, A1, nL, Q⟩ := E
  obtain ⟨⟨hx, hb, hml, hown, hts⟩, hL, hR, hAA, hH0, hnL, hKt, hKh, hfr, hlk⟩ := F
  intro locs ls hS hl
  exact lv_ldc hx hb hown (hts _ hc) hd (kk locs ls hS hl)
theorem x_iadd (F : fx L rm G A H0 n0 cc own E) {x y : Int32} (hd : decode cc pc = .ok (.iadd, 1)) (kk : wx E H k n (pc + 1) lv (.int (x + y) :: st)) : wx E H k n pc lv (.int y :: .int x :: st) := by
  obtain ⟨p, l, e, R, s, m, args, below, meth, c, A1, nL, Q⟩ := E
  obtain ⟨⟨hx, hb, hml, hown, hts⟩, hL, hR, hAA, hH0, hnL, hKt, hKh, hfr, hlk⟩ := F
  intro locs ls hS hl
  exact lv_iadd hx hb hd (kk locs ls hS hl)
theorem x_isub (F : fx L rm G A H0 n0 cc own E) {x y : Int32} (hd : decode cc pc = .ok (.isub, 1)) (kk : wx E H k n (pc + 1) lv (.int (x - y) :: st)) : wx E H k n pc lv (.int y :: .int x :: st) := by
  obtain ⟨p, l, e, R, s, m, args, below, meth, c, A1, nL, Q⟩ := E
  obtain ⟨⟨hx, hb, hml, hown, hts⟩, hL, hR, hAA, hH0, hnL, hKt, hKh, hfr, hlk⟩ := F
  intro locs ls hS hl
  exact lv_isub hx hb hd (kk locs ls hS hl)
theorem x_imul (F : fx L rm G A H0 n0 cc own E) {x y : Int32} (hd : decode cc pc = .ok (.imul, 1)) (kk : wx E H k n (pc + 1) lv (.int (x * y) :: st)) : wx E H k n pc lv (.int y :: .int x :: st) := by
  obtain ⟨p, l, e, R, s, m, args, below, meth, c, A1, nL, Q⟩ := E
  obtain ⟨⟨hx, hb, hml, hown, hts⟩, hL, hR, hAA, hH0, hnL, hKt, hKh, hfr, hlk⟩ := F
  intro locs ls hS hl
  exact lv_imul hx hb hd (kk locs ls hS hl)
theorem x_iand (F : fx L rm G A H0 n0 cc own E) {x y : Int32} (hd : decode cc pc = .ok (.iand, 1)) (kk : wx E H k n (pc + 1) lv (.int (x &&& y) :: st)) : wx E H k n pc lv (.int y :: .int x :: st) := by
  obtain ⟨p, l, e, R, s, m, args, below, meth, c, A1, nL, Q⟩ := E
  obtain ⟨⟨hx, hb, hml, hown, hts⟩, hL, hR, hAA, hH0, hnL, hKt, hKh, hfr, hlk⟩ := F
  intro locs ls hS hl
  exact lv_iand hx hb hd (kk locs ls hS hl)
theorem x_idiv (F : fx L rm G A H0 n0 cc own E) {x y : Int32} (hd : decode cc pc = .ok (.idiv, 1)) (hne : ¬ y = 0) (kk : wx E H k n (pc + 1) lv (.int (x / y) :: st)) : wx E H k n pc lv (.int y :: .int x :: st) := by
  obtain ⟨p, l, e, R, s, m, args, below, meth, c, A1, nL, Q⟩ := E
  obtain ⟨⟨hx, hb, hml, hown, hts⟩, hL, hR, hAA, hH0, hnL, hKt, hKh, hfr, hlk⟩ := F
  intro locs ls hS hl
  exact lv_idiv hx hb hd hne (kk locs ls hS hl)
theorem x_ineg (F : fx L rm G A H0 n0 cc own E) {x : Int32} (hd : decode cc pc = .ok (.ineg, 1)) (kk : wx E H k n (pc + 1) lv (.int (-x) :: st)) : wx E H k n pc lv (.int x :: st) := by
  obtain ⟨p, l, e, R, s, m, args, below, meth, c, A1, nL, Q⟩ := E
  obtain ⟨⟨hx, hb, hml, hown, hts⟩, hL, hR, hAA, hH0, hnL, hKt, hKh, hfr, hlk⟩ := F
  intro locs ls hS hl
  exact lv_ineg hx hb hd (kk locs ls hS hl)
theorem x_ladd (F : fx L rm G A H0 n0 cc own E) {x y : Int64} (hd : decode cc pc = .ok (.ladd, 1)) (kk : wx E H k n (pc + 1) lv (.long (x + y) :: st)) : wx E H k n pc lv (.long y :: .long x :: st) := by
  obtain ⟨p, l, e, R, s, m, args, below, meth, c, A1, nL, Q⟩ := E
  obtain ⟨⟨hx, hb, hml, hown, hts⟩, hL, hR, hAA, hH0, hnL, hKt, hKh, hfr, hlk⟩ := F
  intro locs ls hS hl
  exact lv_ladd hx hb hd (kk locs ls hS hl)
theorem x_lmul (F : fx L rm G A H0 n0 cc own E) {x y : Int64} (hd : decode cc pc = .ok (.lmul, 1)) (kk : wx E H k n (pc + 1) lv (.long (x * y) :: st)) : wx E H k n pc lv (.long y :: .long x :: st) := by
  obtain ⟨p, l, e, R, s, m, args, below, meth, c, A1, nL, Q⟩ := E
  obtain ⟨⟨hx, hb, hml, hown, hts⟩, hL, hR, hAA, hH0, hnL, hKt, hKh, hfr, hlk⟩ := F
  intro locs ls hS hl
  exact lv_lmul hx hb hd (kk locs ls hS hl)
theorem x_i2l (F : fx L rm G A H0 n0 cc own E) {x : Int32} (hd : decode cc pc = .ok (.i2l, 1)) (kk : wx E H k n (pc + 1) lv (.long x.toInt64 :: st)) : wx E H k n pc lv (.int x :: st) := by
  obtain ⟨p, l, e, R, s, m, args, below, meth, c, A1, nL, Q⟩ := E
  obtain ⟨⟨hx, hb, hml, hown, hts⟩, hL, hR, hAA, hH0, hnL, hKt, hKh, hfr, hlk⟩ := F
  intro locs ls hS hl
  exact lv_i2l hx hb hd rfl (kk locs ls hS hl)
theorem x_dup (F : fx L rm G A H0 n0 cc own E) {v : Value} (hd : decode cc pc = .ok (.dup, 1)) (hv : v.category = 1) (kk : wx E H k n (pc + 1) lv (v :: v :: st)) : wx E H k n pc lv (v :: st) := by
  obtain ⟨p, l, e, R, s, m, args, below, meth, c, A1, nL, Q⟩ := E
  obtain ⟨⟨hx, hb, hml, hown, hts⟩, hL, hR, hAA, hH0, hnL, hKt, hKh, hfr, hlk⟩ := F
  intro locs ls hS hl
  exact lv_dup hx hb hd hv (kk locs ls hS hl)
theorem x_pop (F : fx L rm G A H0 n0 cc own E) {v : Value} (hd : decode cc pc = .ok (.pop, 1)) (hv : v.category = 1) (kk : wx E H k n (pc + 1) lv st) : wx E H k n pc lv (v :: st) := by
  obtain ⟨p, l, e, R, s, m, args, below, meth, c, A1, nL, Q⟩ := E
  obtain ⟨⟨hx, hb, hml, hown, hts⟩, hL, hR, hAA, hH0, hnL, hKt, hKh, hfr, hlk⟩ := F
  intro locs ls hS hl
  exact lv_pop hx hb hd hv (kk locs ls hS hl)
theorem x_icmp_eq (F : fx L rm G A H0 n0 cc own E) {x y : Int32} {off : Int} {tgt : Nat} (hd : decode cc pc = .ok (.if_icmp .eq off, 3)) (ht : (pc : Int) + off = (tgt : Int)) (k1 : x = y → wx E H k n tgt lv st) (k2 : ¬ x = y → wx E H k n (pc + 3) lv st) : wx E H k n pc lv (.int y :: .int x :: st) := by
  obtain ⟨p, l, e, R, s, m, args, below, meth, c, A1, nL, Q⟩ := E
  obtain ⟨⟨hx, hb, hml, hown, hts⟩, hL, hR, hAA, hH0, hnL, hKt, hKh, hfr, hlk⟩ := F
  intro locs ls hS hl
  exact lv_icmp_eq hx hb hd ht (fun h => k1 h locs ls hS hl) (fun h => k2 h locs ls hS hl)
theorem x_if_eq (F : fx L rm G A H0 n0 cc own E) {x : Int32} {off : Int} {tgt : Nat} (hd : decode cc pc = .ok (.ifCond .eq off, 3)) (ht : (pc : Int) + off = (tgt : Int)) (k1 : x = 0 → wx E H k n tgt lv st) (k2 : ¬ x = 0 → wx E H k n (pc + 3) lv st) : wx E H k n pc lv (.int x :: st) := by
  obtain ⟨p, l, e, R, s, m, args, below, meth, c, A1, nL, Q⟩ := E
  obtain ⟨⟨hx, hb, hml, hown, hts⟩, hL, hR, hAA, hH0, hnL, hKt, hKh, hfr, hlk⟩ := F
  intro locs ls hS hl
  exact lv_if_eq hx hb hd ht (fun h => k1 h locs ls hS hl) (fun h => k2 h locs ls hS hl)
theorem x_icmp_ne (F : fx L rm G A H0 n0 cc own E) {x y : Int32} {off : Int} {tgt : Nat} (hd : decode cc pc = .ok (.if_icmp .ne off, 3)) (ht : (pc : Int) + off = (tgt : Int)) (k1 : x ≠ y → wx E H k n tgt lv st) (k2 : x = y → wx E H k n (pc + 3) lv st) : wx E H k n pc lv (.int y :: .int x :: st) := by
  obtain ⟨p, l, e, R, s, m, args, below, meth, c, A1, nL, Q⟩ := E
  obtain ⟨⟨hx, hb, hml, hown, hts⟩, hL, hR, hAA, hH0, hnL, hKt, hKh, hfr, hlk⟩ := F
  intro locs ls hS hl
  exact lv_icmp_ne hx hb hd ht (fun h => k1 h locs ls hS hl) (fun h => k2 h locs ls hS hl)
theorem x_if_ne (F : fx L rm G A H0 n0 cc own E) {x : Int32} {off : Int} {tgt : Nat} (hd : decode cc pc = .ok (.ifCond .ne off, 3)) (ht : (pc : Int) + off = (tgt : Int)) (k1 : x ≠ 0 → wx E H k n tgt lv st) (k2 : x = 0 → wx E H k n (pc + 3) lv st) : wx E H k n pc lv (.int x :: st) := by
  obtain ⟨p, l, e, R, s, m, args, below, meth, c, A1, nL, Q⟩ := E
  obtain ⟨⟨hx, hb, hml, hown, hts⟩, hL, hR, hAA, hH0, hnL, hKt, hKh, hfr, hlk⟩ := F
  intro locs ls hS hl
  exact lv_if_ne hx hb hd ht (fun h => k1 h locs ls hS hl) (fun h => k2 h locs ls hS hl)
theorem x_icmp_lt (F : fx L rm G A H0 n0 cc own E) {x y : Int32} {off : Int} {tgt : Nat} (hd : decode cc pc = .ok (.if_icmp .lt off, 3)) (ht : (pc : Int) + off = (tgt : Int)) (k1 : x < y → wx E H k n tgt lv st) (k2 : ¬ x < y → wx E H k n (pc + 3) lv st) : wx E H k n pc lv (.int y :: .int x :: st) := by
  obtain ⟨p, l, e, R, s, m, args, below, meth, c, A1, nL, Q⟩ := E
  obtain ⟨⟨hx, hb, hml, hown, hts⟩, hL, hR, hAA, hH0, hnL, hKt, hKh, hfr, hlk⟩ := F
  intro locs ls hS hl
  exact lv_icmp_lt hx hb hd ht (fun h => k1 h locs ls hS hl) (fun h => k2 h locs ls hS hl)
theorem x_if_lt (F : fx L rm G A H0 n0 cc own E) {x : Int32} {off : Int} {tgt : Nat} (hd : decode cc pc = .ok (.ifCond .lt off, 3)) (ht : (pc : Int) + off = (tgt : Int)) (k1 : x < 0 → wx E H k n tgt lv st) (k2 : ¬ x < 0 → wx E H k n (pc + 3) lv st) : wx E H k n pc lv (.int x :: st) := by
  obtain ⟨p, l, e, R, s, m, args, below, meth, c, A1, nL, Q⟩ := E
  obtain ⟨⟨hx, hb, hml, hown, hts⟩, hL, hR, hAA, hH0, hnL, hKt, hKh, hfr, hlk⟩ := F
  intro locs ls hS hl
  exact lv_if_lt hx hb hd ht (fun h => k1 h locs ls hS hl) (fun h => k2 h locs ls hS hl)
theorem x_icmp_ge (F : fx L rm G A H0 n0 cc own E) {x y : Int32} {off : Int} {tgt : Nat} (hd : decode cc pc = .ok (.if_icmp .ge off, 3)) (ht : (pc : Int) + off = (tgt : Int)) (k1 : y ≤ x → wx E H k n tgt lv st) (k2 : ¬ y ≤ x → wx E H k n (pc + 3) lv st) : wx E H k n pc lv (.int y :: .int x :: st) := by
  obtain ⟨p, l, e, R, s, m, args, below, meth, c, A1, nL, Q⟩ := E
  obtain ⟨⟨hx, hb, hml, hown, hts⟩, hL, hR, hAA, hH0, hnL, hKt, hKh, hfr, hlk⟩ := F
  intro locs ls hS hl
  exact lv_icmp_ge hx hb hd ht (fun h => k1 h locs ls hS hl) (fun h => k2 h locs ls hS hl)
theorem x_if_ge (F : fx L rm G A H0 n0 cc own E) {x : Int32} {off : Int} {tgt : Nat} (hd : decode cc pc = .ok (.ifCond .ge off, 3)) (ht : (pc : Int) + off = (tgt : Int)) (k1 : 0 ≤ x → wx E H k n tgt lv st) (k2 : ¬ 0 ≤ x → wx E H k n (pc + 3) lv st) : wx E H k n pc lv (.int x :: st) := by
  obtain ⟨p, l, e, R, s, m, args, below, meth, c, A1, nL, Q⟩ := E
  obtain ⟨⟨hx, hb, hml, hown, hts⟩, hL, hR, hAA, hH0, hnL, hKt, hKh, hfr, hlk⟩ := F
  intro locs ls hS hl
  exact lv_if_ge hx hb hd ht (fun h => k1 h locs ls hS hl) (fun h => k2 h locs ls hS hl)
theorem x_icmp_gt (F : fx L rm G A H0 n0 cc own E) {x y : Int32} {off : Int} {tgt : Nat} (hd : decode cc pc = .ok (.if_icmp .gt off, 3)) (ht : (pc : Int) + off = (tgt : Int)) (k1 : y < x → wx E H k n tgt lv st) (k2 : ¬ y < x → wx E H k n (pc + 3) lv st) : wx E H k n pc lv (.int y :: .int x :: st) := by
  obtain ⟨p, l, e, R, s, m, args, below, meth, c, A1, nL, Q⟩ := E
  obtain ⟨⟨hx, hb, hml, hown, hts⟩, hL, hR, hAA, hH0, hnL, hKt, hKh, hfr, hlk⟩ := F
  intro locs ls hS hl
  exact lv_icmp_gt hx hb hd ht (fun h => k1 h locs ls hS hl) (fun h => k2 h locs ls hS hl)
theorem x_if_gt (F : fx L rm G A H0 n0 cc own E) {x : Int32} {off : Int} {tgt : Nat} (hd : decode cc pc = .ok (.ifCond .gt off, 3)) (ht : (pc : Int) + off = (tgt : Int)) (k1 : 0 < x → wx E H k n tgt lv st) (k2 : ¬ 0 < x → wx E H k n (pc + 3) lv st) : wx E H k n pc lv (.int x :: st) := by
  obtain ⟨p, l, e, R, s, m, args, below, meth, c, A1, nL, Q⟩ := E
  obtain ⟨⟨hx, hb, hml, hown, hts⟩, hL, hR, hAA, hH0, hnL, hKt, hKh, hfr, hlk⟩ := F
  intro locs ls hS hl
  exact lv_if_gt hx hb hd ht (fun h => k1 h locs ls hS hl) (fun h => k2 h locs ls hS hl)
theorem x_icmp_le (F : fx L rm G A H0 n0 cc own E) {x y : Int32} {off : Int} {tgt : Nat} (hd : decode cc pc = .ok (.if_icmp .le off, 3)) (ht : (pc : Int) + off = (tgt : Int)) (k1 : x ≤ y → wx E H k n tgt lv st) (k2 : ¬ x ≤ y → wx E H k n (pc + 3) lv st) : wx E H k n pc lv (.int y :: .int x :: st) := by
  obtain ⟨p, l, e, R, s, m, args, below, meth, c, A1, nL, Q⟩ := E
  obtain ⟨⟨hx, hb, hml, hown, hts⟩, hL, hR, hAA, hH0, hnL, hKt, hKh, hfr, hlk⟩ := F
  intro locs ls hS hl
  exact lv_icmp_le hx hb hd ht (fun h => k1 h locs ls hS hl) (fun h => k2 h locs ls hS hl)
theorem x_if_le (F : fx L rm G A H0 n0 cc own E) {x : Int32} {off : Int} {tgt : Nat} (hd : decode cc pc = .ok (.ifCond .le off, 3)) (ht : (pc : Int) + off = (tgt : Int)) (k1 : x ≤ 0 → wx E H k n tgt lv st) (k2 : ¬ x ≤ 0 → wx E H k n (pc + 3) lv st) : wx E H k n pc lv (.int x :: st) := by
  obtain ⟨p, l, e, R, s, m, args, below, meth, c, A1, nL, Q⟩ := E
  obtain ⟨⟨hx, hb, hml, hown, hts⟩, hL, hR, hAA, hH0, hnL, hKt, hKh, hfr, hlk⟩ := F
  intro locs ls hS hl
  exact lv_if_le hx hb hd ht (fun h => k1 h locs ls hS hl) (fun h => k2 h locs ls hS hl)
theorem x_goto (F : fx L rm G A H0 n0 cc own E) {off : Int} {tgt : Nat} (hd : decode cc pc = .ok (.goto off, 3)) (ht : (pc : Int) + off = (tgt : Int)) (kk : wx E H k n tgt lv st) : wx E H k n pc lv st := by
  obtain ⟨p, l, e, R, s, m, args, below, meth, c, A1, nL, Q⟩ := E
  obtain ⟨⟨hx, hb, hml, hown, hts⟩, hL, hR, hAA, hH0, hnL, hKt, hKh, hfr, hlk⟩ := F
  intro locs ls hS hl
  exact lv_goto hx hb hd ht (kk locs ls hS hl)
theorem x_ifnull (F : fx L rm G A H0 n0 cc own E) {x : Nat} {off : Int} (hd : decode cc pc = .ok (.ifnull off, 3)) (kk : wx E H k n (pc + 3) lv st) : wx E H k n pc lv (.ref x :: st) := by
  obtain ⟨p, l, e, R, s, m, args, below, meth, c, A1, nL, Q⟩ := E
  obtain ⟨⟨hx, hb, hml, hown, hts⟩, hL, hR, hAA, hH0, hnL, hKt, hKh, hfr, hlk⟩ := F
  intro locs ls hS hl
  exact lv_ifnull hx hb hd (kk locs ls hS hl)
theorem x_ifnullN (F : fx L rm G A H0 n0 cc own E) {off : Int} {tgt : Nat} (hd : decode cc pc = .ok (.ifnull off, 3)) (ht : (pc : Int) + off = (tgt : Int)) (kk : wx E H k n tgt lv st) : wx E H k n pc lv (.null :: st) := by
  obtain ⟨p, l, e, R, s, m, args, below, meth, c, A1, nL, Q⟩ := E
  obtain ⟨⟨hx, hb, hml, hown, hts⟩, hL, hR, hAA, hH0, hnL, hKt, hKh, hfr, hlk⟩ := F
  intro locs ls hS hl
  exact lv_ifnullN hx hb hd ht (kk locs ls hS hl)
theorem x_ifnonnull (F : fx L rm G A H0 n0 cc own E) {x : Nat} {off : Int} {tgt : Nat} (hd : decode cc pc = .ok (.ifnonnull off, 3)) (ht : (pc : Int) + off = (tgt : Int)) (kk : wx E H k n tgt lv st) : wx E H k n pc lv (.ref x :: st) := by
  obtain ⟨p, l, e, R, s, m, args, below, meth, c, A1, nL, Q⟩ := E
  obtain ⟨⟨hx, hb, hml, hown, hts⟩, hL, hR, hAA, hH0, hnL, hKt, hKh, hfr, hlk⟩ := F
  intro locs ls hS hl
  exact lv_ifnonnull hx hb hd ht (kk locs ls hS hl)
theorem x_ifnonnullN (F : fx L rm G A H0 n0 cc own E) {off : Int} (hd : decode cc pc = .ok (.ifnonnull off, 3)) (kk : wx E H k n (pc + 3) lv st) : wx E H k n pc lv (.null :: st) := by
  obtain ⟨p, l, e, R, s, m, args, below, meth, c, A1, nL, Q⟩ := E
  obtain ⟨⟨hx, hb, hml, hown, hts⟩, hL, hR, hAA, hH0, hnL, hKt, hKh, hfr, hlk⟩ := F
  intro locs ls hS hl
  exact lv_ifnonnullN hx hb hd (kk locs ls hS hl)
theorem x_null (F : fx L rm G A H0 n0 cc own E) (hd : decode cc pc = .ok (.aconst_null, 1)) (kk : wx E H k n (pc + 1) lv (.null :: st)) : wx E H k n pc lv st := by
  obtain ⟨p, l, e, R, s, m, args, below, meth, c, A1, nL, Q⟩ := E
  obtain ⟨⟨hx, hb, hml, hown, hts⟩, hL, hR, hAA, hH0, hnL, hKt, hKh, hfr, hlk⟩ := F
  intro locs ls hS hl
  exact lv_null hx hb hd (kk locs ls hS hl)
theorem x_tableIn (F : fx L rm G A H0 n0 cc own E) {dflt lo hi : Int} {offs : Array Int} {len : Nat} {x : Int32} {off : Int} {tgt : Nat} (hd : decode cc pc = .ok (.tableswitch dflt lo hi offs, len)) (h1 : ¬ x.toInt < lo) (h2 : ¬ hi < x.toInt) (ho : offs[(x.toInt - lo).toNat]? = some off) (ht : (pc : Int) + off = (tgt : Int)) (kk : wx E H k n tgt lv st) : wx E H k n pc lv (.int x :: st) := by
  obtain ⟨p, l, e, R, s, m, args, below, meth, c, A1, nL, Q⟩ := E
  obtain ⟨⟨hx, hb, hml, hown, hts⟩, hL, hR, hAA, hH0, hnL, hKt, hKh, hfr, hlk⟩ := F
  intro locs ls hS hl
  exact lv_tableIn hx hb hd h1 h2 ho ht (kk locs ls hS hl)
theorem x_tableOut (F : fx L rm G A H0 n0 cc own E) {dflt lo hi : Int} {offs : Array Int} {len : Nat} {x : Int32} {tgt : Nat} (hd : decode cc pc = .ok (.tableswitch dflt lo hi offs, len)) (h : x.toInt < lo ∨ hi < x.toInt) (ht : (pc : Int) + dflt = (tgt : Int)) (kk : wx E H k n tgt lv st) : wx E H k n pc lv (.int x :: st) := by
  obtain ⟨p, l, e, R, s, m, args, below, meth, c, A1, nL, Q⟩ := E
  obtain ⟨⟨hx, hb, hml, hown, hts⟩, hL, hR, hAA, hH0, hnL, hKt, hKh, hfr, hlk⟩ := F
  intro locs ls hS hl
  exact lv_tableOut hx hb hd h ht (kk locs ls hS hl)
theorem x_iret (F : fx L rm G A H0 n0 cc own E) {v : Int32}  (hE : fe rm A Post (some .int) nm E) (hd : decode cc pc = .ok (.ireturn, 1)) (hc : k ≤ rm.cells) (hs : n ≤ rm.slots) (hp : Post H0 (some (.int v)) H) : wx E H k n pc lv (.int v :: []) := by
  obtain ⟨p, l, e, R, s, m, args, below, meth, c, A1, nL, Q⟩ := E
  obtain ⟨⟨hx, hb, hml, hown, hts⟩, hL, hR, hAA, hH0, hnL, hKt, hKh, hfr, hlk⟩ := F
  subst hL hR hAA hH0 hnL
  obtain ⟨hQ, hr, hnm⟩ := hE
  intro locs ls hS hl
  refine W.widen hc hs ?_
  rcases hQ with hQ | ⟨PX, hQ⟩
  · subst hQ
    exact W.iret hx hb hr (fun t ht hW => ⟨_, rfl, by rw [ht]; exact hp, hS.F ht⟩) hS.2.2 hd hlk
  · subst hQ
    exact vx_ret (W.iret hx hb hr (fun t ht hW => ⟨_, rfl, by rw [ht]; exact hp, hS.F ht⟩) hS.2.2 hd hlk)
theorem x_zret (F : fx L rm G A H0 n0 cc own E) {v : Int32} {ty : FieldType} (hn : narrow ty (.int v) = .int v) (hE : fe rm A Post (some ty) nm E) (hd : decode cc pc = .ok (.ireturn, 1)) (hc : k ≤ rm.cells) (hs : n ≤ rm.slots) (hp : Post H0 (some (.int v)) H) : wx E H k n pc lv (.int v :: []) := by
  obtain ⟨p, l, e, R, s, m, args, below, meth, c, A1, nL, Q⟩ := E
  obtain ⟨⟨hx, hb, hml, hown, hts⟩, hL, hR, hAA, hH0, hnL, hKt, hKh, hfr, hlk⟩ := F
  subst hL hR hAA hH0 hnL
  obtain ⟨hQ, hr, hnm⟩ := hE
  intro locs ls hS hl
  refine W.widen hc hs ?_
  rcases hQ with hQ | ⟨PX, hQ⟩
  · subst hQ
    exact W.zret hx hb hr hn (fun t ht hW => ⟨_, rfl, by rw [ht]; exact hp, hS.F ht⟩) hS.2.2 hd hlk
  · subst hQ
    exact vx_ret (W.zret hx hb hr hn (fun t ht hW => ⟨_, rfl, by rw [ht]; exact hp, hS.F ht⟩) hS.2.2 hd hlk)
theorem x_lret (F : fx L rm G A H0 n0 cc own E) {v : Int64}  (hE : fe rm A Post (some .long) nm E) (hd : decode cc pc = .ok (.lreturn, 1)) (hc : k ≤ rm.cells) (hs : n ≤ rm.slots) (hp : Post H0 (some (.long v)) H) : wx E H k n pc lv (.long v :: []) := by
  obtain ⟨p, l, e, R, s, m, args, below, meth, c, A1, nL, Q⟩ := E
  obtain ⟨⟨hx, hb, hml, hown, hts⟩, hL, hR, hAA, hH0, hnL, hKt, hKh, hfr, hlk⟩ := F
  subst hL hR hAA hH0 hnL
  obtain ⟨hQ, hr, hnm⟩ := hE
  intro locs ls hS hl
  refine W.widen hc hs ?_
  rcases hQ with hQ | ⟨PX, hQ⟩
  · subst hQ
    exact W.lret hx hb hr (fun t ht hW => ⟨_, rfl, by rw [ht]; exact hp, hS.F ht⟩) hS.2.2 hd hlk
  · subst hQ
    exact vx_ret (W.lret hx hb hr (fun t ht hW => ⟨_, rfl, by rw [ht]; exact hp, hS.F ht⟩) hS.2.2 hd hlk)
theorem x_aret (F : fx L rm G A H0 n0 cc own E) {v : Value} {ty : FieldType} (hn : (∃ n, ty = .object n) ∨ ∃ t, ty = .array t) (hv : v = .null ∨ ∃ a, v = .ref a) (hE : fe rm A Post (some ty) nm E) (hd : decode cc pc = .ok (.areturn, 1)) (hc : k ≤ rm.cells) (hs : n ≤ rm.slots) (hp : Post H0 (some v) H) : wx E H k n pc lv (v :: []) := by
  obtain ⟨p, l, e, R, s, m, args, below, meth, c, A1, nL, Q⟩ := E
  obtain ⟨⟨hx, hb, hml, hown, hts⟩, hL, hR, hAA, hH0, hnL, hKt, hKh, hfr, hlk⟩ := F
  subst hL hR hAA hH0 hnL
  obtain ⟨hQ, hr, hnm⟩ := hE
  intro locs ls hS hl
  refine W.widen hc hs ?_
  rcases hQ with hQ | ⟨PX, hQ⟩
  · subst hQ
    exact W.aret hx hb hr hn hv (fun t ht hW => ⟨_, rfl, by rw [ht]; exact hp, hS.F ht⟩) hS.2.2 hd hlk
  · subst hQ
    exact vx_ret (W.aret hx hb hr hn hv (fun t ht hW => ⟨_, rfl, by rw [ht]; exact hp, hS.F ht⟩) hS.2.2 hd hlk)
theorem x_vret (F : fx L rm G A H0 n0 cc own E) (hE : fe rm A Post none nm E) (hd : decode cc pc = .ok (.return_, 1)) (hc : k ≤ rm.cells) (hs : n ≤ rm.slots) (hp : Post H0 none H) : wx E H k n pc lv [] := by
  obtain ⟨p, l, e, R, s, m, args, below, meth, c, A1, nL, Q⟩ := E
  obtain ⟨⟨hx, hb, hml, hown, hts⟩, hL, hR, hAA, hH0, hnL, hKt, hKh, hfr, hlk⟩ := F
  subst hL hR hAA hH0 hnL
  obtain ⟨hQ, hr, hnm⟩ := hE
  intro locs ls hS hl
  refine W.widen hc hs ?_
  rcases hQ with hQ | ⟨PX, hQ⟩
  · subst hQ
    exact W.vret hx hb hr (fun t ht hW => ⟨_, rfl, by rw [ht]; exact hp, hS.F ht⟩) hS.2.2 hd hlk
  · subst hQ
    exact vx_ret (W.vret hx hb hr (fun t ht hW => ⟨_, rfl, by rw [ht]; exact hp, hS.F ht⟩) hS.2.2 hd hlk)
theorem wx_widen {k2 n2 : Nat} (h1 : k ≤ k2) (h2 : n ≤ n2) (kk : wx E H k2 n2 pc lv st) : wx E H k n pc lv st := by
  obtain ⟨p, l, e, R, s, m, args, below, meth, c, A1, nL, Q⟩ := E
  intro locs ls hS hl
  exact W.widen h1 h2 (kk locs ls hS hl)
theorem wx_sub (ks : List Nat) (h : lv_pick lv ks = lv') (kk : wx E H k n pc lv' st) : wx E H k n pc lv st := by
  obtain ⟨p, l, e, R, s, m, args, below, meth, c, A1, nL, Q⟩ := E
  intro locs ls hS hl
  exact kk locs ls hS (lv_sub hl ks h)
end FR1
end
section
/-! rows that read and write single cells: what the other cells hold stays -/
section CE
variable {L : Launch} {rm : Room} {G : GT} {A : Nat → Prop} {H0 : Heap} {n0 : Nat} {cc : ByteArray} {own : String} {E : WE} {H : Heap} {k n pc : Nat} {lv lv' : List (Nat × Value)} {st : List Value} {ret : Option FieldType} {nm : String} {Post : Heap → Option Value → Heap → Prop}
/-- a thing lies at a -/
def vt (G : GT) (a : Nat) (e : va_E) (H : Heap) : Prop := va_at G.1 vwCl (a, e) H
def hset (H : Heap) (a : Nat) (H1 : Heap) : Prop := H1.size = H.size ∧ ∀ q : Nat, q ≠ a → H1[q]? = H[q]?
def hnew (H H1 : Heap) : Prop := H1.size = H.size + 1 ∧ ∀ q : Nat, q < H.size → H1[q]? = H[q]?
theorem vt.kept {a : Nat} {e : va_E} {H1 : Heap} (h : vt G a e H) (hq : H1[a]? = H[a]?) : vt G a e H1 := va_at.kept h hq
theorem vt.lt {a : Nat} {e : va_E} (h : vt G a e H) : a < H.size := va_at.lt h
theorem vt.P {a : Nat} {e : va_E} (h : vt G a e H) : va_P G.1 vwCl [(a, e)] H := fun i q hq => by
  rcases i with _ | i
  · simp at hq
    subst hq
    exact h
  · simp at hq
theorem va_S.new {H1 : Heap} {s : State} {locs : List Loc} (hS : va_S A s.heap H locs) (h : hnew H H1) : va_S A s.heap H1 locs :=
  ⟨Nat.le_trans hS.1 (by have := h.1; omega), fun q h1 h2 => (h.2 q (Nat.lt_of_lt_of_le h1 hS.1)).trans (hS.2.1 q h1 h2), hS.2.2⟩
theorem sm_ {s : State} {args : Array Value} {a b c d : String} (hts : ∀ w ∈ WALL, w.before args s = true) (h : a = b ∨ Cond.sameField b a c d ∈ WALL) : ∀ x, s.fieldFound? a c d = some x → s.fieldFound? b c d = some x := fun x hx => by
  rcases h with h | h
  · rw [← h]; exact hx
  · exact u_same (hts _ h) x hx
theorem x_get (F : fx L rm G A H0 n0 cc own E) {a ci j idx N : Nat} {C ref : String} {T : u_T} {fs : List Value} {v : Value} (hv : vt G a (.inr (ci, fs)) H) (hc : vwCl[ci]? = some (C, T, N)) (hj : j < N) (hin : ∀ w ∈ u_ws C T N, w ∈ WALL) (hl : Cond.fieldLink own idx ref (T j).2.1 (T j).2.2.1 ∈ WALL) (hsame : (T j).1 = ref ∨ Cond.sameField ref (T j).1 (T j).2.1 (T j).2.2.1 ∈ WALL) (hf : fs[j]? = some v) (hd : decode cc pc = .ok (.getfield idx, 3))
    (kk : wx E H k n (pc + 3) lv (v :: st)) : wx E H k n pc lv (.ref a :: st) := by
  obtain ⟨p, l, e, R, s, m, args, below, meth, c, A1, nL, Q⟩ := E
  obtain ⟨⟨hx, hb, hml, hown, hts⟩, hL, hR, hAA, hH0, hnL, hKt, hKh, hfr, hlk⟩ := F
  intro locs ls hS hl2
  exact va_get hx hb hts hin hown hKt.1 hv.P 0 rfl hc j hj (hts _ hl) (sm_ hts hsame) hf hd (kk locs ls hS hl2)
theorem x_getN (F : fx L rm G A H0 n0 cc own E) {a ci j idx N : Nat} {C ref host : String} {T : u_T} {fs : List Value} {v : Value} (hv : vt G a (.inr (ci, fs)) H) (hc : vwCl[ci]? = some (C, T, N)) (hj : j < N) (hin : ∀ w ∈ u_ws C T N, w ∈ WALL) (hl : Cond.fieldLinkNest own idx ref (T j).2.1 (T j).2.2.1 host ∈ nestW) (hsame : (T j).1 = ref ∨ Cond.sameField ref (T j).1 (T j).2.1 (T j).2.2.1 ∈ WALL) (hf : fs[j]? = some v) (hd : decode cc pc = .ok (.getfield idx, 3))
    (kk : wx E H k n (pc + 3) lv (v :: st)) : wx E H k n pc lv (.ref a :: st) := by
  obtain ⟨p, l, e, R, s, m, args, below, meth, c, A1, nL, Q⟩ := E
  obtain ⟨⟨hx, hb, hml, hown, hts⟩, hL, hR, hAA, hH0, hnL, hKt, hKh, hfr, hlk⟩ := F
  intro locs ls hS hl2
  exact va_getN hx hb hts hin hown hKt.1 hv.P 0 rfl hc j hj (va_Nw.use rfl (hKt.2.1 _ hl)) (sm_ hts hsame) hf hd (kk locs ls hS hl2)
theorem x_put (F : fx L rm G A H0 n0 cc own E) {a ci j idx N : Nat} {C ref : String} {T : u_T} {fs : List Value} {v : Value} {ty : FieldType} (hv : vt G a (.inr (ci, fs)) H) (hAa : A a) (hc : vwCl[ci]? = some (C, T, N)) (hj : j < N) (hin : ∀ w ∈ u_ws C T N, w ∈ WALL) (ty0 : Nat → FieldType) (hty : ∀ k, k < N → parseFieldDescriptor (T k).2.2.1 = some (ty0 k)) (hnm : ∀ a, a < N → ∀ b, b < N → a ≠ b → (T a).2.1 ≠ (T b).2.1) (hl : Cond.fieldLink own idx ref (T j).2.1 (T j).2.2.1 ∈ WALL) (hsame : (T j).1 = ref ∨ Cond.sameField ref (T j).1 (T j).2.1 (T j).2.2.1 ∈ WALL) (hfin : (T j).2.2.2 = false) (hpd : parseFieldDescriptor (T j).2.2.1 = some ty) (hn : narrow ty v = v) (hfit : fits ty v = true) (hlen : j < fs.length) (hd : decode cc pc = .ok (.putfield idx, 3))
    (kk : ∀ H1 : Heap, vt G a (.inr (ci, fs.set j v)) H1 → hset H a H1 → wx E H1 k n (pc + 3) lv st) : wx E H k n pc lv (v :: .ref a :: st) := by
  obtain ⟨p, l, e, R, s, m, args, below, meth, c, A1, nL, Q⟩ := E
  obtain ⟨⟨hx, hb, hml, hown, hts⟩, hL, hR, hAA, hH0, hnL, hKt, hKh, hfr, hlk⟩ := F
  subst hAA
  intro locs ls hS hl2
  have hK := hKt.1
  have hap := va_apart (own := own) hts hin ty0 hty hnm hK hc
  obtain ⟨r, h1, cell, q1, q2, q3, q4⟩ := hv
  obtain rfl : r = (C, T, N) := Option.some.inj (h1.symm.trans hc)
  obtain ⟨hSl, hfc, kC, hkC, hkind⟩ := hK.1 ci _ hc
  obtain ⟨cf, kf, fi, f, hi, hsl⟩ := hSl j hj
  have hlay := hts _ (hin _ (u_in_lay hj))
  unfold u_lay at hlay
  rw [if_neg (by rw [hfin]; decide)] at hlay
  have hst := (u_facts hfc hkC (u_lays hts hin hj) hi).1
  have h6 := u_store hfc hkC hkind hlay hi hpd hn hfit
  refine W.putK hx hb (f := f) ⟨hown, hts _ hl, ⟨_, _, _, sm_ hts hsame _ hi⟩, hst⟩ (by rw [q2]; exact h6) q1 q3 (by rw [hsl]; exact k2_hasslot (q4 j hj)) rfl rfl hd fun H' e1 e2 e3 => ?_
  rw [hsl] at e1 ⊢
  exact kk H' ⟨_, hc, t_OB.to (V := updV (vp_V fs) j v) ⟨_, e1, q2, q3, t_set q4 hap hj v⟩ (fun i _ => vp_updV_set hlen v i)⟩ ⟨e2, e3⟩ _ ls (hS.put e2 e3 hAa) hl2
theorem x_putN (F : fx L rm G A H0 n0 cc own E) {a ci j idx N : Nat} {C ref host : String} {T : u_T} {fs : List Value} {v : Value} {ty : FieldType} (hv : vt G a (.inr (ci, fs)) H) (hAa : A a) (hc : vwCl[ci]? = some (C, T, N)) (hj : j < N) (hin : ∀ w ∈ u_ws C T N, w ∈ WALL) (ty0 : Nat → FieldType) (hty : ∀ k, k < N → parseFieldDescriptor (T k).2.2.1 = some (ty0 k)) (hnm : ∀ a, a < N → ∀ b, b < N → a ≠ b → (T a).2.1 ≠ (T b).2.1) (hl : Cond.fieldLinkNest own idx ref (T j).2.1 (T j).2.2.1 host ∈ nestW) (hsame : (T j).1 = ref ∨ Cond.sameField ref (T j).1 (T j).2.1 (T j).2.2.1 ∈ WALL) (hfin : (T j).2.2.2 = false) (hpd : parseFieldDescriptor (T j).2.2.1 = some ty) (hn : narrow ty v = v) (hfit : fits ty v = true) (hlen : j < fs.length) (hd : decode cc pc = .ok (.putfield idx, 3))
    (kk : ∀ H1 : Heap, vt G a (.inr (ci, fs.set j v)) H1 → hset H a H1 → wx E H1 k n (pc + 3) lv st) : wx E H k n pc lv (v :: .ref a :: st) := by
  obtain ⟨p, l, e, R, s, m, args, below, meth, c, A1, nL, Q⟩ := E
  obtain ⟨⟨hx, hb, hml, hown, hts⟩, hL, hR, hAA, hH0, hnL, hKt, hKh, hfr, hlk⟩ := F
  subst hAA
  intro locs ls hS hl2
  have hK := hKt.1
  have hap := va_apart (own := own) hts hin ty0 hty hnm hK hc
  obtain ⟨r, h1, cell, q1, q2, q3, q4⟩ := hv
  obtain rfl : r = (C, T, N) := Option.some.inj (h1.symm.trans hc)
  obtain ⟨hSl, hfc, kC, hkC, hkind⟩ := hK.1 ci _ hc
  obtain ⟨cf, kf, fi, f, hi, hsl⟩ := hSl j hj
  have hlay := hts _ (hin _ (u_in_lay hj))
  unfold u_lay at hlay
  rw [if_neg (by rw [hfin]; decide)] at hlay
  have hst := (u_facts hfc hkC (u_lays hts hin hj) hi).1
  have h6 := u_store hfc hkC hkind hlay hi hpd hn hfit
  refine va_WputK hx hb (f := f) hown (va_Nw.use rfl (hKt.2.1 _ hl)) (sm_ hts hsame _ hi) hst (by rw [q2]; exact h6) q1 q3 (by rw [hsl]; exact k2_hasslot (q4 j hj)) rfl rfl hd fun H' e1 e2 e3 => ?_
  rw [hsl] at e1 ⊢
  exact kk H' ⟨_, hc, t_OB.to (V := updV (vp_V fs) j v) ⟨_, e1, q2, q3, t_set q4 hap hj v⟩ (fun i _ => vp_updV_set hlen v i)⟩ ⟨e2, e3⟩ _ ls (hS.put e2 e3 hAa) hl2
theorem x_putF (F : fx L rm G A H0 n0 cc own E) (hE : fe rm A Post ret nm E) (hnmI : nm = "<init>") {a ci j idx N : Nat} {C ref : String} {T : u_T} {fs : List Value} {v : Value} {ty : FieldType} (hv : vt G a (.inr (ci, fs)) H) (hAa : A a) (hc : vwCl[ci]? = some (C, T, N)) (hj : j < N) (hin : ∀ w ∈ u_ws C T N, w ∈ WALL) (ty0 : Nat → FieldType) (hty : ∀ k, k < N → parseFieldDescriptor (T k).2.2.1 = some (ty0 k)) (hnm : ∀ a, a < N → ∀ b, b < N → a ≠ b → (T a).2.1 ≠ (T b).2.1) (hl : Cond.fieldLink own idx ref (T j).2.1 (T j).2.2.1 ∈ WALL) (hsame : (T j).1 = ref ∨ Cond.sameField ref (T j).1 (T j).2.1 (T j).2.2.1 ∈ WALL) (hfin : (T j).2.2.2 = true) (hdecl : (T j).1 = own) (hpd : parseFieldDescriptor (T j).2.2.1 = some ty) (hn : narrow ty v = v) (hfit : fits ty v = true) (hlen : j < fs.length) (hd : decode cc pc = .ok (.putfield idx, 3))
    (kk : ∀ H1 : Heap, vt G a (.inr (ci, fs.set j v)) H1 → hset H a H1 → wx E H1 k n (pc + 3) lv st) : wx E H k n pc lv (v :: .ref a :: st) := by
  obtain ⟨p, l, e, R, s, m, args, below, meth, c, A1, nL, Q⟩ := E
  obtain ⟨⟨hx, hb, hml, hown, hts⟩, hL, hR, hAA, hH0, hnL, hKt, hKh, hfr, hlk⟩ := F
  obtain ⟨hQ, hr, hnmm⟩ := hE
  subst hAA
  intro locs ls hS hl2
  have hK := hKt.1
  have hap := va_apart (own := own) hts hin ty0 hty hnm hK hc
  obtain ⟨r, h1, cell, q1, q2, q3, q4⟩ := hv
  obtain rfl : r = (C, T, N) := Option.some.inj (h1.symm.trans hc)
  obtain ⟨hSl, hfc, kC, hkC, hkind⟩ := hK.1 ci _ hc
  obtain ⟨cf, kf, fi, f, hi, hsl⟩ := hSl j hj
  have hlay := hts _ (hin _ (u_in_lay hj))
  unfold u_lay at hlay
  rw [if_pos hfin] at hlay
  have hst := (u_facts hfc hkC (u_lays hts hin hj) hi).1
  have hcf : m.cls = cf := by
    obtain ⟨_, _, c', _, _, _, -, -, hf', -, -, -, hown2, -⟩ := Cond.laysFinal_spec hlay
    have e1 : c' = cf := by have := hi.symm.trans hf'; simp at this; exact this.1.symm
    rw [hdecl] at hown2
    rw [← e1]
    exact Option.some.inj (hown.symm.trans hown2)
  have h6 := u_fits hfc hkC hkind (Or.inr hlay) hi hpd hn hfit
  refine W.putFinK hx hb hown (hts _ hl) (sm_ hts hsame _ hi) hst hcf (by rw [hnmm]; exact hnmI) (by rw [q2]; exact h6) q1 q3 (by rw [hsl]; exact k2_hasslot (q4 j hj)) rfl rfl hd fun H' e1 e2 e3 => ?_
  rw [hsl] at e1 ⊢
  exact kk H' ⟨_, hc, t_OB.to (V := updV (vp_V fs) j v) ⟨_, e1, q2, q3, t_set q4 hap hj v⟩ (fun i _ => vp_updV_set hlen v i)⟩ ⟨e2, e3⟩ _ ls (hS.put e2 e3 hAa) hl2
theorem x_new (F : fx L rm G A H0 n0 cc own E) {ci idx N : Nat} {C : String} {T : u_T} {fs : List Value} (hc : vwCl[ci]? = some (C, T, N)) (hin : ∀ w ∈ u_ws C T N, w ∈ WALL) (ty : Nat → FieldType) (hty : ∀ k, k < N → parseFieldDescriptor (T k).2.2.1 = some (ty k)) (hcl : Cond.classLink own idx C ∈ WALL) (hins : Cond.instantiable C N ∈ WALL) (hini : Cond.initialized C ∈ WALL) (hfs : ∀ j, j < N → defaultValue (ty j) = vp_V fs j) (hk : k + 1 ≤ rm.cells) (hn : n + N ≤ rm.slots) (hd : decode cc pc = .ok (.new idx, 3))
    (kk : ∀ H1 : Heap, vt G H.size (.inr (ci, fs)) H1 → hnew H H1 → wx E H1 (k + 1) (n + N) (pc + 3) lv (.ref H.size :: st)) : wx E H k n pc lv st := by
  obtain ⟨p, l, e, R, s, m, args, below, meth, c, A1, nL, Q⟩ := E
  obtain ⟨⟨hx, hb, hml, hown, hts⟩, hL, hR, hAA, hH0, hnL, hKt, hKh, hfr, hlk⟩ := F
  subst hR
  intro locs ls hS hl2
  have hKn := hKt.1.1 ci _ hc
  refine W.newcK hx hb hown (hts _ hcl) (hts _ hins) (hts _ hini) rfl hd hk hn hKn.2.1 rfl fun H1 kC hkC e1 z1 o1 => ?_
  exact kk H1 ⟨_, hc, (u_born ty hts hin hKn hkC e1 hty).to hfs⟩ ⟨z1, o1⟩ locs ls (va_S.new hS ⟨z1, o1⟩) hl2
/-- an array's class and what the tables say of it -/
def hA_ (G : GT) (cA : ClassId) (ty : FieldType) : Prop := (cA, ty) ∈ [(G.2.1.1, FieldType.int), (G.2.1.2.1, .boolean), (G.2.1.2.2.1, .object "java/lang/Object"), (G.2.1.2.2.2, .long)]
theorem Kt.arr {s : State} (h : Kt G s) {cA : ClassId} {ty : FieldType} (q : hA_ G cA ty) : ArrOfT s cA ty ∧ va_RA s cA ty := by
  obtain ⟨i, hi⟩ := List.getElem?_of_mem q
  exact h.1.2 i _ hi
theorem x_iald (F : fx L rm G A H0 n0 cc own E) {a N : Nat} {f : Nat → Int32} (hv : vt G a (.inl (G.2.1.1, N, .inl f)) H) {i : Int32} (hin : vp_in i N) (hd : decode cc pc = .ok (.iaload, 1)) (kk : wx E H k n (pc + 1) lv (.int (f i.toNatClampNeg) :: st)) : wx E H k n pc lv (.int i :: .ref a :: st) := by
  obtain ⟨p, l, e, R, s, m, args, below, meth, c, A1, nL, Q⟩ := E
  obtain ⟨⟨hx, hb, hml, hown, hts⟩, hL, hR, hAA, hH0, hnL, hKt, hKh, hfr, hlk⟩ := F
  intro locs ls hS hl2
  exact va_iald hx hb hKt.1 hv.P 0 0 rfl rfl hin hd (kk locs ls hS hl2)
theorem x_zald (F : fx L rm G A H0 n0 cc own E) {a N : Nat} {f : Nat → Int32} (hv : vt G a (.inl (G.2.1.2.1, N, .inl f)) H) {i : Int32} (hin : vp_in i N) (hd : decode cc pc = .ok (.baload, 1)) (kk : wx E H k n (pc + 1) lv (.int (f i.toNatClampNeg) :: st)) : wx E H k n pc lv (.int i :: .ref a :: st) := by
  obtain ⟨p, l, e, R, s, m, args, below, meth, c, A1, nL, Q⟩ := E
  obtain ⟨⟨hx, hb, hml, hown, hts⟩, hL, hR, hAA, hH0, hnL, hKt, hKh, hfr, hlk⟩ := F
  intro locs ls hS hl2
  exact va_zald hx hb hKt.1 hv.P 0 1 rfl rfl hin hd (kk locs ls hS hl2)
theorem x_lald (F : fx L rm G A H0 n0 cc own E) {a N : Nat} {f : Nat → Int64} (hv : vt G a (.inl (G.2.1.2.2.2, N, .inr (.inl f))) H) {i : Int32} (hin : vp_in i N) (hd : decode cc pc = .ok (.laload, 1)) (kk : wx E H k n (pc + 1) lv (.long (f i.toNatClampNeg) :: st)) : wx E H k n pc lv (.int i :: .ref a :: st) := by
  obtain ⟨p, l, e, R, s, m, args, below, meth, c, A1, nL, Q⟩ := E
  obtain ⟨⟨hx, hb, hml, hown, hts⟩, hL, hR, hAA, hH0, hnL, hKt, hKh, hfr, hlk⟩ := F
  intro locs ls hS hl2
  exact va_lald hx hb hKt.1 hv.P 0 3 rfl rfl hin hd (kk locs ls hS hl2)
theorem x_aald (F : fx L rm G A H0 n0 cc own E) {a N : Nat} {f : Nat → Option Nat} (hv : vt G a (.inl (G.2.1.2.2.1, N, .inr (.inr (.inr (.inr f))))) H) {i : Int32} (hin : vp_in i N) (hd : decode cc pc = .ok (.aaload, 1)) (kk : wx E H k n (pc + 1) lv (va_rf (f i.toNatClampNeg) :: st)) : wx E H k n pc lv (.int i :: .ref a :: st) := by
  obtain ⟨p, l, e, R, s, m, args, below, meth, c, A1, nL, Q⟩ := E
  obtain ⟨⟨hx, hb, hml, hown, hts⟩, hL, hR, hAA, hH0, hnL, hKt, hKh, hfr, hlk⟩ := F
  intro locs ls hS hl2
  exact va_aldq hx hb hKt.1 hv.P 0 2 rfl rfl hin hd (kk locs ls hS hl2)
theorem x_alen (F : fx L rm G A H0 n0 cc own E) {a : Nat} {cA : ClassId} {x : vp_A} {ty : FieldType} (hv : vt G a (.inl (cA, x)) H) (hq : hA_ G cA ty) {v : Int32} (hvv : Int32.ofNat x.1 = v) (hd : decode cc pc = .ok (.arraylength, 1)) (kk : wx E H k n (pc + 1) lv (.int v :: st)) : wx E H k n pc lv (.ref a :: st) := by
  obtain ⟨p, l, e, R, s, m, args, below, meth, c, A1, nL, Q⟩ := E
  obtain ⟨⟨hx, hb, hml, hown, hts⟩, hL, hR, hAA, hH0, hnL, hKt, hKh, hfr, hlk⟩ := F
  intro locs ls hS hl2
  obtain ⟨i, hi⟩ := List.getElem?_of_mem hq
  exact va_alen hx hb hKt.1 hv.P 0 i rfl hi hvv hd (kk locs ls hS hl2)
theorem x_iast (F : fx L rm G A H0 n0 cc own E) {a N : Nat} {f : Nat → Int32} (hv : vt G a (.inl (G.2.1.1, N, .inl f)) H) (hAa : A a) {i x : Int32} (hin : vp_in i N) (hd : decode cc pc = .ok (.iastore, 1)) (kk : ∀ H1 : Heap, vt G a (.inl (G.2.1.1, N, .inl (upd f i.toNatClampNeg x))) H1 → hset H a H1 → wx E H1 k n (pc + 1) lv st) : wx E H k n pc lv (.int x :: .int i :: .ref a :: st) := by
  obtain ⟨p, l, e, R, s, m, args, below, meth, c, A1, nL, Q⟩ := E
  obtain ⟨⟨hx, hb, hml, hown, hts⟩, hL, hR, hAA, hH0, hnL, hKt, hKh, hfr, hlk⟩ := F
  subst hAA
  intro locs ls hS hl2
  refine W.iast hx hb hv ((hKt.1.2 0 _ rfl).1 N (fun j => .int (f j))) (fun q => by cases q) (by show ¬ (i < 0 ∨ (arrV _ _ _).slots.size ≤ _); rw [arrV_size]; exact hin) rfl rfl hd fun H1 e1 z oq => ?_
  refine kk H1 ?_ ⟨z, oq⟩ _ ls (hS.put z oq hAa) hl2
  show H1[a]? = some (vp_cell _ _)
  rw [e1]
  show some ((vp_cell _ _).setSlot _ _) = _
  rw [vp_cell_i, vp_cell_i, arrV_store]
  congr 2
  funext q
  by_cases hq : q = i.toNatClampNeg
  · subst hq
    simp [updV, upd]
  · simp [updV, upd, hq]
theorem x_zast (F : fx L rm G A H0 n0 cc own E) {a N : Nat} {f : Nat → Int32} (hv : vt G a (.inl (G.2.1.2.1, N, .inl f)) H) (hAa : A a) {i x : Int32} (hin : vp_in i N) (hx1 : narrow .boolean (.int x) = .int x) (hd : decode cc pc = .ok (.bastore, 1)) (kk : ∀ H1 : Heap, vt G a (.inl (G.2.1.2.1, N, .inl (upd f i.toNatClampNeg x))) H1 → hset H a H1 → wx E H1 k n (pc + 1) lv st) : wx E H k n pc lv (.int x :: .int i :: .ref a :: st) := by
  obtain ⟨p, l, e, R, s, m, args, below, meth, c, A1, nL, Q⟩ := E
  obtain ⟨⟨hx, hb, hml, hown, hts⟩, hL, hR, hAA, hH0, hnL, hKt, hKh, hfr, hlk⟩ := F
  subst hAA
  intro locs ls hS hl2
  refine W.zast hx hb hv ((hKt.1.2 1 _ rfl).1 N (fun j => .int (f j))) (fun q => by cases q) (by show ¬ (i < 0 ∨ (arrV _ _ _).slots.size ≤ _); rw [arrV_size]; exact hin) rfl rfl hd fun H1 e1 z oq => ?_
  refine kk H1 ?_ ⟨z, oq⟩ _ ls (hS.put z oq hAa) hl2
  show H1[a]? = some (vp_cell _ _)
  rw [e1, hx1]
  show some ((vp_cell _ _).setSlot _ _) = _
  rw [vp_cell_i, vp_cell_i, arrV_store]
  congr 2
  funext q
  by_cases hq : q = i.toNatClampNeg
  · subst hq
    simp [updV, upd]
  · simp [updV, upd, hq]
theorem x_last (F : fx L rm G A H0 n0 cc own E) {a N : Nat} {f : Nat → Int64} (hv : vt G a (.inl (G.2.1.2.2.2, N, .inr (.inl f))) H) (hAa : A a) {i : Int32} {x : Int64} (hin : vp_in i N) (hd : decode cc pc = .ok (.lastore, 1)) (kk : ∀ H1 : Heap, vt G a (.inl (G.2.1.2.2.2, N, .inr (.inl (vp_updL f i.toNatClampNeg x)))) H1 → hset H a H1 → wx E H1 k n (pc + 1) lv st) : wx E H k n pc lv (.long x :: .int i :: .ref a :: st) := by
  obtain ⟨p, l, e, R, s, m, args, below, meth, c, A1, nL, Q⟩ := E
  obtain ⟨⟨hx, hb, hml, hown, hts⟩, hL, hR, hAA, hH0, hnL, hKt, hKh, hfr, hlk⟩ := F
  subst hAA
  intro locs ls hS hl2
  refine W.last hx hb hv ((hKt.1.2 3 _ rfl).1 N (fun j => .long (f j))) (fun q => by cases q) (by show ¬ (i < 0 ∨ (arrV _ _ _).slots.size ≤ _); rw [arrV_size]; exact hin) rfl rfl hd fun H1 e1 z oq => ?_
  refine kk H1 ?_ ⟨z, oq⟩ _ ls (hS.put z oq hAa) hl2
  show H1[a]? = some (vp_cell _ _)
  rw [e1]
  show some ((vp_cell _ _).setSlot _ _) = _
  rw [vp_cell_l, vp_cell_l, arrV_store]
  congr 2
  funext q
  by_cases hq : q = i.toNatClampNeg
  · subst hq
    simp [updV, vp_updL]
  · simp [updV, vp_updL, hq]
/-- Object[]'s store of an object v, or of null -/
theorem x_aast (F : fx L rm G A H0 n0 cc own E) {a N v : Nat} {f : Nat → Option Nat} (hv : vt G a (.inl (G.2.1.2.2.1, N, .inr (.inr (.inr (.inr f))))) H) (hAa : A a) {i : Int32} (hin : vp_in i N) (hob : ∀ s : State, Kt G s → va_Any "java/lang/Object" s H v) (hd : decode cc pc = .ok (.aastore, 1)) (kk : ∀ H1 : Heap, vt G a (.inl (G.2.1.2.2.1, N, .inr (.inr (.inr (.inr (va_up f i.toNatClampNeg (some v))))))) H1 → hset H a H1 → wx E H1 k n (pc + 1) lv st) : wx E H k n pc lv (.ref v :: .int i :: .ref a :: st) := by
  obtain ⟨p, l, e, R, s, m, args, below, meth, c, A1, nL, Q⟩ := E
  obtain ⟨⟨hx, hb, hml, hown, hts⟩, hL, hR, hAA, hH0, hnL, hKt, hKh, hfr, hlk⟩ := F
  subst hAA
  intro locs ls hS hl2
  have hlt : i.toNatClampNeg < N := Nat.not_le.mp fun q => hin (Or.inr q)
  have h0 : ¬ i < 0 := fun q => hin (Or.inl q)
  obtain ⟨cellV, g1, g3, ⟨kC, hkC⟩, hasg⟩ := hob s hKt
  obtain ⟨kA, comp, k1, k2, k3, -⟩ := (hKt.1.2 2 _ rfl).2
  obtain ⟨kE, hkE, -⟩ := Vm.findClass_spec k3
  refine W.aast hx hb hv (fun q h => by cases h) (fun h => by cases h) k1 k2 rfl hkE ⟨h0, by show _ < (arrV _ _ _).slots.size; rw [arrV_size]; exact hlt⟩ g1 (fun q h => by rw [h] at g3; cases g3) hkC (hasg _ k3) rfl rfl hd fun H1 e1 z oq => ?_
  refine kk H1 ?_ ⟨z, oq⟩ _ ls (hS.put z oq hAa) hl2
  show H1[a]? = some (vp_cell _ _)
  rw [e1]
  show some ((vp_cell _ _).setSlot _ _) = _
  rw [vp_cell_q, vp_cell_q, arrV_store]
  congr 2
  funext q
  by_cases hq : q = i.toNatClampNeg
  · subst hq
    simp [updV, va_up, va_rf]
  · simp [updV, va_up, hq]
/-- rows of lists' own code -/
theorem x_getsE (F : fx L rm G A H0 n0 cc "java/util/ArrayList" E) {idx : Nat} (hl : Cond.fieldLink "java/util/ArrayList" idx "java/util/ArrayList" "DEFAULTCAPACITY_EMPTY_ELEMENTDATA" "[Ljava/lang/Object;" ∈ WALL) (hd : decode cc pc = .ok (.getstatic idx, 3)) (kk : wx E H k n (pc + 3) lv (.ref G.2.2.1.1 :: st)) : wx E H k n pc lv st := by
  obtain ⟨p, l, e, R, s, m, args, below, meth, c, A1, nL, Q⟩ := E
  obtain ⟨⟨hx, hb, hml, hown, hts⟩, hL, hR, hAA, hH0, hnL, hKt, hKh, hfr, hlk⟩ := F
  subst hAA hH0
  intro locs ls hS hl2
  exact va_gets hx hb hKh.2.2.1 hS hown (hts _ hl) (fun _ h => h) hd (kk locs ls hS hl2)
theorem x_acmp_eq (F : fx L rm G A H0 n0 cc own E) {rx ry : Option Nat} {off : Int} {tgt : Nat} (hd : decode cc pc = .ok (.if_acmp .eq off, 3)) (ht : (pc : Int) + off = (tgt : Int)) (k1 : rx = ry → wx E H k n tgt lv st) (k2 : ¬ rx = ry → wx E H k n (pc + 3) lv st) : wx E H k n pc lv (va_rf ry :: va_rf rx :: st) := by
  obtain ⟨p, l, e, R, s, m, args, below, meth, c, A1, nL, Q⟩ := E
  obtain ⟨⟨hx, hb, hml, hown, hts⟩, hL, hR, hAA, hH0, hnL, hKt, hKh, hfr, hlk⟩ := F
  intro locs ls hS hl2
  exact lv_acmp_eq hx hb hd ht (fun h => k1 h locs ls hS hl2) (fun h => k2 h locs ls hS hl2)
theorem x_acmp_ne (F : fx L rm G A H0 n0 cc own E) {rx ry : Option Nat} {off : Int} {tgt : Nat} (hd : decode cc pc = .ok (.if_acmp .ne off, 3)) (ht : (pc : Int) + off = (tgt : Int)) (k1 : ¬ rx = ry → wx E H k n tgt lv st) (k2 : rx = ry → wx E H k n (pc + 3) lv st) : wx E H k n pc lv (va_rf ry :: va_rf rx :: st) := by
  obtain ⟨p, l, e, R, s, m, args, below, meth, c, A1, nL, Q⟩ := E
  obtain ⟨⟨hx, hb, hml, hown, hts⟩, hL, hR, hAA, hH0, hnL, hKt, hKh, hfr, hlk⟩ := F
  intro locs ls hS hl2
  exact lv_acmp_ne hx hb hd ht (fun h => k1 h locs ls hS hl2) (fun h => k2 h locs ls hS hl2)
end CE
end
section
/-! calls, throws, catches, over wx -/
section CA
variable {L : Launch} {rm r2 : Room} {G : GT} {A A1 : Nat → Prop} {H0 : Heap} {n0 : Nat} {cc bytes : ByteArray} {own : String} {E : WE} {H : Heap} {k n pc maxL nA idx : Nat} {lv lv' : List (Nat × Value)} {st rest As : List Value} {ret ret2 : Option FieldType} {nm : String} {Post Post2 : Heap → Option Value → Heap → Prop} {PX PX2 : Heap → String → Heap → Prop} {Pre : Heap → Prop} {y : MethodName}
/-- an exception of class Ex lies at q -/
def exAt : WE → Heap → Nat → String → Prop
  | (_, _, _, _, s, _, _, _, _, _, _, _, _), H, q, Ex => ∃ ce : Cell, H[q]? = some ce ∧ ce.vm = .none ∧ s.vm.findClass Ex = some ce.cls
def mhd (y : MethodName) (nA : Nat) : Prop := y.cls ≠ "java/lang/invoke/MethodHandle" ∧ y.cls ≠ "java/lang/invoke/VarHandle" ∧ (parseMethodDescriptor y.desc).map (fun d => d.parameters.length) = some nA
/-- rooms: the callee's within the caller's, at this place -/
def rok (rm r2 : Room) (maxL k n : Nat) : Prop := (r2.frames + 1 ≤ rm.frames ∧ 8 + (maxL + 11) + r2.locals ≤ rm.locals) ∧ k + r2.cells ≤ rm.cells ∧ n + r2.slots ≤ rm.slots
/-- what a return gives the caller -/
def kRet (E : WE) (H : Heap) (A1 : Nat → Prop) (Post2 : Heap → Option Value → Heap → Prop) (k n pc : Nat) (lv : List (Nat × Value)) (rest : List Value) : Prop :=
  ∀ (v : Option Value) (H1 : Heap), Post2 H v H1 → H.size ≤ H1.size → (∀ q : Nat, q < H.size → ¬ A1 q → H1[q]? = H[q]?) → wx E H1 k n pc lv (v.toList ++ rest)
def kThr (E : WE) (H : Heap) (A1 : Nat → Prop) (PX2 : Heap → String → Heap → Prop) (k n pc : Nat) (lv : List (Nat × Value)) : Prop :=
  ∀ (q : Nat) (Ex : String) (H1 : Heap), PX2 H Ex H1 → exAt E H1 q Ex → H.size ≤ H1.size → (∀ q : Nat, q < H.size → ¬ A1 q → H1[q]? = H[q]?) → wt E H1 k n pc lv q
theorem codeB {ws : List Cond} {s : State} {args : Array Value} (hts : ∀ w ∈ WALL, w.before args s = true) (hc : Cond.code y bytes maxL ret2 ∈ WALL) (hws : ws = Cond.code y bytes maxL ret2 :: WALL) : ∀ w ∈ ws, ∀ (a' : Array Value) (U : State), s.WarmedH U.vm → w.before a' U = true := by
  subst hws
  intro w hw a' U hW
  have h2 : w ∈ WALL := by
    rcases List.mem_cons.mp hw with rfl | h
    · exact hc
    · exact h
  exact word_at hW (good_of_word (WALL_good w h2)) (hts w h2)
theorem callB_ {s : State} {args : Array Value} (hts : ∀ w ∈ WALL, w.before args s = true) (hl : Cond.methodLink own idx y ∈ WALL) (hi : Cond.initialized y.cls ∈ WALL) (hc : Cond.code y bytes maxL ret2 ∈ WALL) (hy : mhd y nA) (hR : rok rm r2 maxL k n) :
    CallB rm s args own idx y bytes maxL ret2 (Cond.code y bytes maxL ret2 :: WALL) r2 r2.cells r2.slots nA := by
  refine ⟨rfl, rfl, hR.1.1, hR.1.2, codeB hts hc rfl, List.mem_cons_self, hts _ hc, hts _ hi, ⟨hy.1, hy.2.1⟩, fun sig h => ?_, hts _ hl⟩
  have h2 := hy.2.2
  rw [h] at h2
  exact (Option.some.inj h2).symm
theorem preS_ {s : State} {locs : List Loc} (hKt : Kt G s) (hKh : Kh G A s s.heap) (hS : va_S A s.heap H locs) (hA1 : ∀ q, A1 q → A q) (hfr : ∀ q, H.size ≤ q → A1 q) (hpre : Pre H) : PreS s H (ctP G A1 As Pre) As :=
  ⟨ctP_blind, fun U hU hW => ⟨rfl, hKt.warm hW, by rw [hU]; exact ((hKh.kept hS.2.1).narrow hA1).moved hW.alike, by rw [hU]; exact hfr, by rw [hU]; exact hpre⟩⟩
section Aft
variable {p : Program} {l : Launch} {e : Env} {R : Room} {s : State} {m : MethodId} {args : Array Value} {below : List Frame} {meth : Method} {c : Code} {locs : List Loc} {ls : Array Slot} {Q : State → Prop} {a : Array Value} {mc ms nL : Nat}
theorem w_after (hr : va_Run p l e R s m args below meth c H locs k n mc ms (F0 m pc ls st) rest (ctQ A1 Post2 a) A1) (hS : va_S A s.heap H locs) (hl : lv_has ls nL lv) (hA1 : ∀ q, A1 q → A q)
    (kk : kRet (p, l, e, R, s, m, args, below, meth, c, A, nL, Q) H A1 Post2 (k + mc) (n + ms) (pc + 3) lv rest) : W p l e R s m args below meth c H locs k n Q (F0 m pc ls st) := by
  intro T hT X
  obtain ⟨v, st₀, t, T', L9, h0, X', hL9, e1, e2, ⟨v2, hv, hp, hz, hk⟩, st9⟩ := hr T hT X
  cases hv
  rw [h0] at hz hk hp
  obtain ⟨t2, a1, b1⟩ := kk v T'.heap (by rw [e1]; exact hp) (by rw [e1]; exact hz) (fun q h1 h2 => by rw [e1]; exact hk q h1 h2) (locs ++ L9) ls
    ⟨Nat.le_trans hS.1 (by rw [e1]; exact hz), fun q h1 h2 => by rw [e1, hk q (Nat.lt_of_lt_of_le h1 hS.1) (fun z => h2 (hA1 q z))]; exact hS.2.1 q h1 h2, fun q hq => by
      rcases List.mem_append.mp hq with h | h
      · exact hS.2.2 q h
      · exact hA1 _ (hL9 q h)⟩ hl T' rfl X'
  exact ⟨t2, st9 t2 a1, b1⟩
theorem w_afterX (hr : vx_Run p l e R s m args below meth c H locs k n mc ms (F0 m pc ls st) rest (ctQ A1 Post2 a) (ctX A1 PX2) A1) (hS : va_S A s.heap H locs) (hl : lv_has ls nL lv) (hA1 : ∀ q, A1 q → A q)
    (kk : kRet (p, l, e, R, s, m, args, below, meth, c, A, nL, Q) H A1 Post2 (k + mc) (n + ms) (pc + 3) lv rest)
    (kx : kThr (p, l, e, R, s, m, args, below, meth, c, A, nL, Q) H A1 PX2 (k + mc) (n + ms) pc lv) : W p l e R s m args below meth c H locs k n Q (F0 m pc ls st) := by
  intro T hT X
  rcases hr T hT X with ⟨v, st₀, t, T', L9, h0, X', hL9, e1, e2, ⟨v2, hv, hp, hz, hk⟩, st9⟩ | ⟨q, st₀, t, T', L9, Ex, ce, h0, X', hL9, e1, e2, ⟨hp, hz, hk⟩, hce, hcv, hcl, st9⟩
  · cases hv
    rw [h0] at hz hk hp
    obtain ⟨t2, a1, b1⟩ := kk v T'.heap (by rw [e1]; exact hp) (by rw [e1]; exact hz) (fun q h1 h2 => by rw [e1]; exact hk q h1 h2) (locs ++ L9) ls
      ⟨Nat.le_trans hS.1 (by rw [e1]; exact hz), fun q h1 h2 => by rw [e1, hk q (Nat.lt_of_lt_of_le h1 hS.1) (fun z => h2 (hA1 q z))]; exact hS.2.1 q h1 h2, fun q hq => by
        rcases List.mem_append.mp hq with h | h
        · exact hS.2.2 q h
        · exact hA1 _ (hL9 q h)⟩ hl T' rfl X'
    exact ⟨t2, st9 t2 a1, b1⟩
  · rw [h0] at hz hk hp
    obtain ⟨t2, a1, b1⟩ := kx q Ex T'.heap (by rw [e1]; exact hp) ⟨ce, by rw [e1]; exact hce, hcv, hcl⟩ (by rw [e1]; exact hz) (fun q h1 h2 => by rw [e1]; exact hk q h1 h2) (locs ++ L9) ls rest
      ⟨Nat.le_trans hS.1 (by rw [e1]; exact hz), fun q h1 h2 => by rw [e1, hk q (Nat.lt_of_lt_of_le h1 hS.1) (fun z => h2 (hA1 q z))]; exact hS.2.1 q h1 h2, fun q hq => by
        rcases List.mem_append.mp hq with h | h
        · exact hS.2.2 q h
        · exact hA1 _ (hL9 q h)⟩ hl T' rfl X'
    exact ⟨t2, st9.trans a1, b1⟩
end Aft
theorem x_callS (F : fx L rm G A H0 n0 cc own E) (hC : Ct L y bytes maxL ret2 r2 G A1 As Pre Post2) (hl : Cond.methodLink own idx y ∈ WALL) (hs : Cond.static y ∈ WALL) (hi : Cond.initialized y.cls ∈ WALL) (hc : Cond.code y bytes maxL ret2 ∈ WALL) (hy : mhd y nA) (hR : rok rm r2 maxL k n) (hd : decode cc pc = .ok (.invokestatic idx, 3)) (hn : As.length = nA) (hst : st = As.reverse ++ rest) (hcat : (rest.map fun v => v.category).sum ≤ 8) (hA1 : ∀ q, A1 q → A q) (hfr : ∀ q, H.size ≤ q → A1 q) (hpre : Pre H)
    (kk : kRet E H A1 Post2 (k + r2.cells) (n + r2.slots) (pc + 3) lv rest) : wx E H k n pc lv st := by
  obtain ⟨p, l, e, R, s, m, args, below, meth, c, A9, nL, Q⟩ := E
  obtain ⟨⟨hx, hb, hml, hown, hts⟩, hL, hRR, hAA, hH0, hnL, hKt, hKh, hfr9, hlk⟩ := F
  subst hL hRR hAA hH0
  intro locs ls hS hlv
  exact w_after (va_runS ⟨hx, hb, hml, hown, hts⟩ hC ⟨callB_ hts hl hi hc hy hR, hts _ hs⟩ (preS_ hKt hKh hS hA1 hfr hpre) rfl hn hlv.1 hst (lv_room hcat) hd hR.2) hS hlv hA1 kk
theorem x_callV (F : fx L rm G A H0 n0 cc own E) {b ci : Nat} {fs : List Value} {r : vw_C} (hv : vt G b (.inr (ci, fs)) H) (hcl : vwCl[ci]? = some r) (hC : Ct L y bytes maxL ret2 r2 G A1 (.ref b :: As) Pre Post2) (hl : Cond.methodLink own idx y ∈ WALL) (hs : Cond.instanceMethod y ∈ WALL) (hse : Cond.selects r.1 y y ∈ WALL) (hi : Cond.initialized y.cls ∈ WALL) (hc : Cond.code y bytes maxL ret2 ∈ WALL) (hy : mhd y nA) (hR : rok rm r2 maxL k n) (hd : decode cc pc = .ok (.invokevirtual idx, 3)) (hn : As.length = nA) (hst : st = As.reverse ++ .ref b :: rest) (hcat : (rest.map fun v => v.category).sum ≤ 8) (hA1 : ∀ q, A1 q → A q) (hfr : ∀ q, H.size ≤ q → A1 q) (hpre : Pre H)
    (kk : kRet E H A1 Post2 (k + r2.cells) (n + r2.slots) (pc + 3) lv rest) : wx E H k n pc lv st := by
  obtain ⟨p, l, e, R, s, m, args, below, meth, c, A9, nL, Q⟩ := E
  obtain ⟨⟨hx, hb, hml, hown, hts⟩, hL, hRR, hAA, hH0, hnL, hKt, hKh, hfr9, hlk⟩ := F
  subst hL hRR hAA hH0
  intro locs ls hS hlv
  have hp := preS_ (As := .ref b :: As) hKt hKh hS hA1 hfr hpre
  exact w_after (va_runV ⟨hx, hb, hml, hown, hts⟩ hC ⟨callB_ hts hl hi hc hy hR, hts _ hs, hts _ hse⟩ ⟨hp.1, va_recv hKt.1 hv.P hcl (q0 := 0) rfl, hp.2⟩ rfl hn hlv.1 hst (lv_room hcat) hd hR.2) hS hlv hA1 kk
theorem x_callI (F : fx L rm G A H0 n0 cc own E) {b : Nat} (hC : Ct L y bytes maxL none r2 G A1 (.ref b :: As) Pre Post2) (hl : Cond.methodLink own idx y ∈ WALL) (hs : Cond.instanceMethod y ∈ WALL) (hi : Cond.initialized y.cls ∈ WALL) (hc : Cond.code y bytes maxL none ∈ WALL) (hyn : y.name = "<init>") (hy : mhd y nA) (hR : rok rm r2 maxL k n) (hd : decode cc pc = .ok (.invokespecial idx, 3)) (hn : As.length = nA) (hst : st = As.reverse ++ .ref b :: rest) (hcat : (rest.map fun v => v.category).sum ≤ 8) (hA1 : ∀ q, A1 q → A q) (hfr : ∀ q, H.size ≤ q → A1 q) (hpre : Pre H)
    (kk : kRet E H A1 Post2 (k + r2.cells) (n + r2.slots) (pc + 3) lv rest) : wx E H k n pc lv st := by
  obtain ⟨p, l, e, R, s, m, args, below, meth, c, A9, nL, Q⟩ := E
  obtain ⟨⟨hx, hb, hml, hown, hts⟩, hL, hRR, hAA, hH0, hnL, hKt, hKh, hfr9, hlk⟩ := F
  subst hL hRR hAA hH0
  intro locs ls hS hlv
  exact w_after (va_runI ⟨hx, hb, hml, hown, hts⟩ hC ⟨callB_ hts hl hi hc hy hR, hyn, hts _ hs⟩ (preS_ hKt hKh hS hA1 hfr hpre) rfl hn hlv.1 hst (lv_room hcat) hd hR.2) hS hlv hA1 kk
theorem cn_ {s : State} {args : Array Value} {host : String} (hts : ∀ w ∈ WALL, w.before args s = true) (hl : va_Nw (.methodLinkNest own idx y host) s) (hi : Cond.initialized y.cls ∈ WALL) (hc : Cond.code y bytes maxL ret2 ∈ WALL) (hy : mhd y nA) (hR : rok rm r2 maxL k n) :
    va_CN rm s args own idx y host bytes maxL ret2 (Cond.code y bytes maxL ret2 :: WALL) r2 r2.cells r2.slots nA := by
  refine va_cnB nA hts (fun w hw => ?_) rfl rfl rfl hl (hts _ hi) hy hR.1
  have h2 : w ∈ WALL := by
    rcases List.mem_cons.mp hw with rfl | h
    · exact hc
    · exact h
  exact ⟨h2, good_of_word (WALL_good w h2)⟩
theorem x_callIN (F : fx L rm G A H0 n0 cc own E) {b : Nat} {host : String} (hC : Ct L y bytes maxL none r2 G A1 (.ref b :: As) Pre Post2) (hl : Cond.methodLinkNest own idx y host ∈ nestW) (hs : Cond.instanceMethod y ∈ WALL) (hi : Cond.initialized y.cls ∈ WALL) (hc : Cond.code y bytes maxL none ∈ WALL) (hyn : y.name = "<init>") (hy : mhd y nA) (hR : rok rm r2 maxL k n) (hd : decode cc pc = .ok (.invokespecial idx, 3)) (hn : As.length = nA) (hst : st = As.reverse ++ .ref b :: rest) (hcat : (rest.map fun v => v.category).sum ≤ 8) (hA1 : ∀ q, A1 q → A q) (hfr : ∀ q, H.size ≤ q → A1 q) (hpre : Pre H)
    (kk : kRet E H A1 Post2 (k + r2.cells) (n + r2.slots) (pc + 3) lv rest) : wx E H k n pc lv st := by
  obtain ⟨p, l, e, R, s, m, args, below, meth, c, A9, nL, Q⟩ := E
  obtain ⟨⟨hx, hb, hml, hown, hts⟩, hL, hRR, hAA, hH0, hnL, hKt, hKh, hfr9, hlk⟩ := F
  subst hL hRR hAA hH0
  intro locs ls hS hlv
  exact w_after (va_runIN ⟨hx, hb, hml, hown, hts⟩ hC ⟨cn_ hts (hKt.2.1 _ hl) hi hc hy hR, hyn, hts _ hs⟩ (preS_ hKt hKh hS hA1 hfr hpre) rfl hn hlv.1 hst (lv_room hcat) hd hR.2) hS hlv hA1 kk
/-- calls of methods that may throw -/
theorem x_callVX (F : fx L rm G A H0 n0 cc own E) {b ci : Nat} {fs : List Value} {r : vw_C} (hv : vt G b (.inr (ci, fs)) H) (hcl : vwCl[ci]? = some r) (hC : Cx L y bytes maxL ret2 r2 G A1 (.ref b :: As) Pre Post2 PX2) (hl : Cond.methodLink own idx y ∈ WALL) (hs : Cond.instanceMethod y ∈ WALL) (hse : Cond.selects r.1 y y ∈ WALL) (hi : Cond.initialized y.cls ∈ WALL) (hc : Cond.code y bytes maxL ret2 ∈ WALL) (hy : mhd y nA) (hR : rok rm r2 maxL k n) (hd : decode cc pc = .ok (.invokevirtual idx, 3)) (hn : As.length = nA) (hst : st = As.reverse ++ .ref b :: rest) (hcat : (rest.map fun v => v.category).sum ≤ 8) (hA1 : ∀ q, A1 q → A q) (hfr : ∀ q, H.size ≤ q → A1 q) (hpre : Pre H)
    (kk : kRet E H A1 Post2 (k + r2.cells) (n + r2.slots) (pc + 3) lv rest) (kx : kThr E H A1 PX2 (k + r2.cells) (n + r2.slots) pc lv) : wx E H k n pc lv st := by
  obtain ⟨p, l, e, R, s, m, args, below, meth, c, A9, nL, Q⟩ := E
  obtain ⟨⟨hx, hb, hml, hown, hts⟩, hL, hRR, hAA, hH0, hnL, hKt, hKh, hfr9, hlk⟩ := F
  subst hL hRR hAA hH0
  intro locs ls hS hlv
  have hp := preS_ (As := .ref b :: As) hKt hKh hS hA1 hfr hpre
  exact w_afterX (vx_runV ⟨hx, hb, hml, hown, hts⟩ hC ⟨callB_ hts hl hi hc hy hR, hts _ hs, hts _ hse⟩ ⟨hp.1, va_recv hKt.1 hv.P hcl (q0 := 0) rfl, hp.2⟩ rfl hn hlv.1 hst (lv_room hcat) hd hR.2) hS hlv hA1 kk kx
/-- not caught: the caller's own exception -/
theorem x_out (F : fx L rm G A H0 n0 cc own E) (hX : fX rm A Post PX E) {q : Nat} {Ex : String} (hq : exAt E H q Ex) (hp : PX H0 Ex H) (hk : k ≤ rm.cells) (hn : n ≤ rm.slots) : wt E H k n pc lv q := by
  obtain ⟨p, l, e, R, s, m, args, below, meth, c, A9, nL, Q⟩ := E
  obtain ⟨⟨hx, hb, hml, hown, hts⟩, hL, hRR, hAA, hH0, hnL, hKt, hKh, hfr9, hlk⟩ := F
  obtain ⟨ce, h1, h2, h3⟩ := hq
  obtain ⟨hQ, hex⟩ := hX
  subst hAA hH0 hQ
  intro locs ls st hS hlv
  exact vx_out (fun x hx => absurd (hex x hx) id) hlk h1 h2 h3 (fun t ht hA => ⟨by rw [ht]; exact hp, hS.F ht⟩) hS.2.2 hk hn
theorem hat_of {s : State} {args : Array Value} {X : List Cond} (hKt : Kt G s) (hts : ∀ w ∈ WALL, w.before args s = true) (h1 : ∀ w ∈ X.filter goodWord, w ∈ WALL) (h2 : ∀ w ∈ X.filter (fun w => !goodWord w), w ∈ nestW) (h3 : ∀ w ∈ nestW, w.onTables = true) : ∀ w ∈ X, w.before args s = true :=
  vx_hat (B := nestW) (fun w hw => hts w (h1 w hw)) h2 (fun w hw => va_Nw.use (h3 w hw) (hKt.2.1 w hw))
end CA
end
section
/-! throw new X("text") in GliderDay; an exception caught in the law's class -/
section TH
abbrev nE : List String := ["java/lang/RuntimeException", "java/lang/Exception"]
set_option maxRecDepth 100000 in
theorem at62g : ∀ w ∈ (vx_atS "GliderDay" 62 "java/lang/IllegalArgumentException" nE).filter goodWord, w ∈ lw_tbl := by decide +kernel
set_option maxRecDepth 100000 in
theorem at73g : ∀ w ∈ (vx_atS "GliderDay" 73 "java/lang/IllegalStateException" nE).filter goodWord, w ∈ lw_tbl := by decide +kernel
set_option maxRecDepth 100000 in
theorem at139g : ∀ w ∈ (vx_atS "GliderDay" 139 "java/lang/IndexOutOfBoundsException" nE).filter goodWord, w ∈ lw_tbl := by decide +kernel
theorem at62n : ∀ w ∈ (vx_atS "GliderDay" 62 "java/lang/IllegalArgumentException" nE).filter (fun w => !goodWord w), w ∈ nestW := by decide +kernel
theorem at73n : ∀ w ∈ (vx_atS "GliderDay" 73 "java/lang/IllegalStateException" nE).filter (fun w => !goodWord w), w ∈ nestW := by decide +kernel
theorem at139n : ∀ w ∈ (vx_atS "GliderDay" 139 "java/lang/IndexOutOfBoundsException" nE).filter (fun w => !goodWord w), w ∈ nestW := by decide +kernel
theorem nest_tab : ∀ w ∈ nestW, w.onTables = true := by decide +kernel
theorem at62o : ∀ w ∈ Cond.classLink "GliderDay" 58 "java/lang/IllegalArgumentException" :: Cond.initialized "java/lang/IllegalArgumentException" :: vx_atS "GliderDay" 62 "java/lang/IllegalArgumentException" nE, vx_ot w = true := by decide +kernel
theorem at73o : ∀ w ∈ Cond.classLink "GliderDay" 69 "java/lang/IllegalStateException" :: Cond.initialized "java/lang/IllegalStateException" :: vx_atS "GliderDay" 73 "java/lang/IllegalStateException" nE, vx_ot w = true := by decide +kernel
theorem at139o : ∀ w ∈ Cond.classLink "GliderDay" 135 "java/lang/IndexOutOfBoundsException" :: Cond.initialized "java/lang/IndexOutOfBoundsException" :: vx_atS "GliderDay" 139 "java/lang/IndexOutOfBoundsException" nE, vx_ot w = true := by decide +kernel
variable {L : Launch} {rm r2 : Room} {G : GT} {A A1 : Nat → Prop} {H0 : Heap} {n0 : Nat} {cc bytes : ByteArray} {own : String} {E : WE} {H : Heap} {k n pc maxL nA idx : Nat} {lv lv' : List (Nat × Value)} {st rest As : List Value} {ret ret2 : Option FieldType} {nm : String} {Post Post2 : Heap → Option Value → Heap → Prop} {PX PX2 : Heap → String → Heap → Prop} {Pre : Heap → Prop} {y : MethodName}
/-- what is needed of the class X that is thrown out of GliderDay -/
def thr (ik ic : Nat) (X : String) : Prop := Bundle.fit X = true ∧ Cond.classLink "GliderDay" ik X ∈ WALL ∧ Cond.initialized X ∈ WALL ∧ (∀ w ∈ (vx_atS "GliderDay" ic X nE).filter goodWord, w ∈ lw_tbl) ∧ (∀ w ∈ (vx_atS "GliderDay" ic X nE).filter (fun w => !goodWord w), w ∈ nestW) ∧ ∀ w ∈ Cond.classLink "GliderDay" ik X :: Cond.initialized X :: vx_atS "GliderDay" ic X nE, vx_ot w = true
theorem x_throw (F : fx L rm G A H0 n0 cc "GliderDay" E) (hX : fX rm A Post PX E) (hL0 : L.stackTraces = false) {ik ic is : Nat} {X text : String} (hT : thr ik ic X) (hst : (is, text) ∈ strW)
    (d0 : decode cc pc = .ok (.new ik, 3)) (d3 : decode cc (pc + 3) = .ok (.dup, 1)) (d4 : decode cc (pc + 4) = .ok (.ldc is, 2)) (d6 : decode cc (pc + 6) = .ok (.invokespecial ic, 3)) (d9 : decode cc (pc + 9) = .ok (.athrow, 1))
    (hf : 5 < rm.frames) (hlo : (rest.map fun v => v.category).sum + 82 ≤ rm.locals) (hk : k + 1 ≤ rm.cells) (hn : n + 6 ≤ rm.slots) (hp : ∀ H1 : Heap, H.size ≤ H1.size → (∀ q : Nat, q < H.size → H1[q]? = H[q]?) → PX H0 X H1) : wx E H k n pc lv rest := by
  obtain ⟨p, l, e, R, s, m, args, below, meth, c, A9, nL, Q⟩ := E
  obtain ⟨⟨hx, hb, hml, hown, hts⟩, hL, hRR, hAA, hH0, hnL, hKt, hKh, hfr9, hlk⟩ := F
  obtain ⟨hQ, hex⟩ := hX
  subst hL hRR hAA hH0 hQ
  intro locs ls hS hlv
  exact vx_throwS hx hb hL0 (names := nE) hown hT.1 (by decide +kernel) (hts _ hT.2.1) (hts _ hT.2.2.1) (hKt.2.2.1 _ hst)
    (hat_of hKt hts (fun w hw => List.mem_filter.mpr ⟨hT.2.2.2.1 w hw, (List.mem_filter.mp hw).2⟩) hT.2.2.2.2.1 nest_tab) hT.2.2.2.2.2 hKh.1 hKh.2.1 hS (hlv.1.trans hml.symm) d0 d3 d4 d6 d9 (fun x hx => absurd (hex x hx) id) hf hlo hk hn hlk
    (fun t hA hz ho => ⟨hp _ hz ho, Nat.le_trans hS.1 hz, fun q h1 h2 => (ho q (Nat.lt_of_lt_of_le h1 hS.1)).trans (hS.2.1 q h1 h2)⟩) hS.2.2 hk hn
end TH
end
section
/-! more rows: what the lists' own code needs; pure calls; words of call sites in one -/
section RO
variable {L : Launch} {rm r2 : Room} {G : GT} {A A1 : Nat → Prop} {H0 : Heap} {n0 : Nat} {cc bytes : ByteArray} {own : String} {E : WE} {H : Heap} {k n pc maxL nA idx : Nat} {lv lv' : List (Nat × Value)} {st rest As : List Value} {ret ret2 : Option FieldType} {nm : String} {Post Post2 : Heap → Option Value → Heap → Prop} {PX PX2 : Heap → String → Heap → Prop} {Pre : Heap → Prop} {y : MethodName}
theorem x_alenE (F : fx L rm G A H0 n0 cc own E) (hd : decode cc pc = .ok (.arraylength, 1)) (kk : wx E H k n (pc + 1) lv (.int 0 :: st)) : wx E H k n pc lv (.ref G.2.2.1.1 :: st) := by
  obtain ⟨p, l, e, R, s, m, args, below, meth, c, A1, nL, Q⟩ := E
  obtain ⟨⟨hx, hb, hml, hown, hts⟩, hL, hR, hAA, hH0, hnL, hKt, hKh, hfr, hlk⟩ := F
  subst hAA hH0
  intro locs ls hS hl2
  exact va_tlen hx hb hKh.2.2.2 hS rfl hd (kk locs ls hS hl2)
theorem x_dup_x1 (F : fx L rm G A H0 n0 cc own E) {va vb : Value} (hd : decode cc pc = .ok (.dup_x1, 1)) (h1 : va.category = 1) (h2 : vb.category = 1) (kk : wx E H k n (pc + 1) lv (va :: vb :: va :: st)) : wx E H k n pc lv (va :: vb :: st) := by
  obtain ⟨p, l, e, R, s, m, args, below, meth, c, A1, nL, Q⟩ := E
  obtain ⟨⟨hx, hb, hml, hown, hts⟩, hL, hR, hAA, hH0, hnL, hKt, hKh, hfr, hlk⟩ := F
  intro locs ls hS hl2
  exact lv_dup_x1 hx hb hd h1 h2 (kk locs ls hS hl2)
theorem x_dup2_11 (F : fx L rm G A H0 n0 cc own E) {va vb : Value} (hd : decode cc pc = .ok (.dup2, 1)) (h1 : va.category = 1) (h2 : vb.category = 1) (kk : wx E H k n (pc + 1) lv (va :: vb :: va :: vb :: st)) : wx E H k n pc lv (va :: vb :: st) := by
  obtain ⟨p, l, e, R, s, m, args, below, meth, c, A1, nL, Q⟩ := E
  obtain ⟨⟨hx, hb, hml, hown, hts⟩, hL, hR, hAA, hH0, hnL, hKt, hKh, hfr, hlk⟩ := F
  intro locs ls hS hl2
  exact lv_dup2_11 hx hb hd h1 h2 (kk locs ls hS hl2)
theorem x_ishr (F : fx L rm G A H0 n0 cc own E) {x z : Int32} (hd : decode cc pc = .ok (.ishr, 1)) (kk : wx E H k n (pc + 1) lv (.int (x >>> (z &&& 31)) :: st)) : wx E H k n pc lv (.int z :: .int x :: st) := by
  obtain ⟨p, l, e, R, s, m, args, below, meth, c, A1, nL, Q⟩ := E
  obtain ⟨⟨hx, hb, hml, hown, hts⟩, hL, hR, hAA, hH0, hnL, hKt, hKh, hfr, hlk⟩ := F
  intro locs ls hS hl2
  exact lv_ishr hx hb hd (kk locs ls hS hl2)
theorem x_ldcM (F : fx L rm G A H0 n0 cc own E) (hl : Cond.classLink own idx "[Ljava/lang/Object;" ∈ WALL) (hd : decode cc pc = .ok (.ldc idx, 2)) (kk : wx E H k n (pc + 2) lv (.ref G.2.2.1.2 :: st)) : wx E H k n pc lv st := by
  obtain ⟨p, l, e, R, s, m, args, below, meth, c, A1, nL, Q⟩ := E
  obtain ⟨⟨hx, hb, hml, hown, hts⟩, hL, hR, hAA, hH0, hnL, hKt, hKh, hfr, hlk⟩ := F
  intro locs ls hS hl2
  exact va_ldcM hx hb hown (hts _ hl) hKt.2.2.2.2.1 hd (kk locs ls hS hl2)
theorem x_getC (F : fx L rm G A H0 n0 cc own E) {a N : Nat} {f : Nat → Option Nat} (hv : vt G a (.inl (G.2.1.2.2.1, N, .inr (.inr (.inr (.inr f))))) H) (hl : Cond.methodLink own idx ⟨"java/lang/Object", "getClass", "()Ljava/lang/Class;"⟩ ∈ WALL) (hde : Cond.declares ⟨"java/lang/Object", "getClass", "()Ljava/lang/Class;"⟩ ∈ nestW) (hse : Cond.selects "[Ljava/lang/Object;" ⟨"java/lang/Object", "getClass", "()Ljava/lang/Class;"⟩ ⟨"java/lang/Object", "getClass", "()Ljava/lang/Class;"⟩ ∈ WALL) (hi : Cond.instanceMethod ⟨"java/lang/Object", "getClass", "()Ljava/lang/Class;"⟩ ∈ WALL) (hna : Cond.native ⟨"java/lang/Object", "getClass", "()Ljava/lang/Class;"⟩ ∈ WALL) (hf : 1 ≤ rm.frames) (hlo : (st.map fun v => v.category).sum + 14 ≤ rm.locals) (hd : decode cc pc = .ok (.invokevirtual idx, 3)) (kk : wx E H k n (pc + 3) lv (.ref G.2.2.1.2 :: st)) : wx E H k n pc lv (.ref a :: st) := by
  obtain ⟨p, l, e, R, s, m, args, below, meth, c, A1, nL, Q⟩ := E
  obtain ⟨⟨hx, hb, hml, hown, hts⟩, hL, hR, hAA, hH0, hnL, hKt, hKh, hfr, hlk⟩ := F
  subst hR
  intro locs ls hS hl2
  exact va_getC hx hb (hml.trans hl2.1.symm) hown (hts _ hl) (va_Nw.use rfl (hKt.2.1 _ hde)) (hts _ hse) (hts _ hi) (hts _ hna) hKt.2.2.2.2.1 ⟨_, hv, rfl, (hKt.1.2 2 _ rfl).2.choose_spec.choose_spec.2.2.2⟩ hf hlo hd (kk locs ls hS hl2)
theorem x_newq (F : fx L rm G A H0 n0 cc own E) (hl : Cond.classLink own idx "java/lang/Object" ∈ WALL) {z : Int32} {N' : Nat} (hn0 : ¬ z < 0) (hN : z.toNatClampNeg = N') (hby : N' * 4 ≤ 536870912) (hk : k + 1 ≤ rm.cells) (hns : n + N' ≤ rm.slots) (hd : decode cc pc = .ok (.anewarray idx, 3))
    (kk : ∀ H1 : Heap, vt G H.size (.inl (G.2.1.2.2.1, N', .inr (.inr (.inr (.inr (fun _ => none)))))) H1 → hnew H H1 → wx E H1 (k + 1) (n + N') (pc + 3) lv (.ref H.size :: st)) : wx E H k n pc lv (.int z :: st) := by
  obtain ⟨p, l, e, R, s, m, args, below, meth, c, A1, nL, Q⟩ := E
  obtain ⟨⟨hx, hb, hml, hown, hts⟩, hL, hR, hAA, hH0, hnL, hKt, hKh, hfr, hlk⟩ := F
  subst hR hN
  intro locs ls hS hl2
  refine W.anew hx hb hown (hts _ hl) (va_AO.use hKt.2.2.2.1) rfl hd rfl hn0 hby hk hns fun cA kA comp f1 f2 f3 f4 => ?_
  have e1 : cA = G.2.1.2.2.1 := by
    obtain ⟨kA2, comp2, -, -, -, h5⟩ := (hKt.1.2 2 _ rfl).2
    exact Option.some.inj (f1.symm.trans h5)
  subst e1
  have hn1 : hnew H (H.push ({ cls := G.2.1.2.2.1, slots := Array.replicate z.toNatClampNeg .null, vm := .none } : Cell)) := ⟨Array.size_push .., fun q hq => by rw [Array.getElem?_push, if_neg (Nat.ne_of_lt hq)]⟩
  refine kk _ ?_ hn1 locs ls (va_S.new hS hn1) hl2
  show (H.push _)[H.size]? = some (vp_cell _ _)
  rw [vp_cell_q, Array.getElem?_push_size, ← arrV_new]
  rfl
theorem x_copyq (F : fx L rm G A H0 n0 cc own E) (hl : Cond.methodLink own idx arraycopyName ∈ WALL) (hna : Cond.native arraycopyName ∈ WALL) (hst : Cond.static arraycopyName ∈ WALL) (hini : Cond.initialized "java/lang/System" ∈ WALL) {ws : va_W} (hP : va_P G.1 vwCl ws H) (hD : va_D A ws) (q0 q1 : Nat) {a0 a n1 n2 : Nat} {f g : Nat → Option Nat} (ha0 : ws[q0]? = some (a0, .inl (G.2.1.2.2.1, n1, .inr (.inr (.inr (.inr f)))))) (ha1 : ws[q1]? = some (a, .inl (G.2.1.2.2.1, n2, .inr (.inr (.inr (.inr g)))))) {sp dp z : Int32} (h1 : ¬ sp < 0) (h2 : ¬ dp < 0) (h3 : ¬ z < 0) (h4 : sp.toNatClampNeg + z.toNatClampNeg ≤ n1) (h5 : dp.toNatClampNeg + z.toNatClampNeg ≤ n2) (hel : ∀ s : State, Kt G s → ∀ i : Nat, i < z.toNatClampNeg → ∀ y : Nat, f (sp.toNatClampNeg + i) = some y → va_Any "java/lang/Object" s H y)
    (hf : 1 ≤ rm.frames) (hlo : (st.map fun v => v.category).sum + (nativeFrameWords "java/lang/System" "arraycopy" 5 + 11) ≤ rm.locals) (hd : decode cc pc = .ok (.invokestatic idx, 3))
    (kk : ∀ H1 : Heap, va_P G.1 vwCl (ws.set q1 (a, .inl (G.2.1.2.2.1, n2, .inr (.inr (.inr (.inr (va_cpy f g sp.toNatClampNeg dp.toNatClampNeg z.toNatClampNeg))))))) H1 → va_D A (ws.set q1 (a, .inl (G.2.1.2.2.1, n2, .inr (.inr (.inr (.inr (va_cpy f g sp.toNatClampNeg dp.toNatClampNeg z.toNatClampNeg))))))) → wx E H1 k n (pc + 3) lv st) : wx E H k n pc lv (.int z :: .int dp :: .ref a :: .int sp :: .ref a0 :: st) := by
  obtain ⟨p, l, e, R, s, m, args, below, meth, c, A1, nL, Q⟩ := E
  obtain ⟨⟨hx, hb, hml, hown, hts⟩, hL, hR, hAA, hH0, hnL, hKt, hKh, hfr, hlk⟩ := F
  subst hR hAA hH0
  intro locs ls hS hl2
  exact va_copyM hx hb (hml.trans hl2.1.symm) hown (hts _ hl) (hts _ hna) (hts _ hst) (hts _ hini) hKt.1 hP hD hS q0 q1 2 2 ha0 ha1 rfl rfl h1 h2 h3 h4 h5 (hel s hKt) hf hlo hd (fun H1 locs1 hP1 hD1 hS1 => kk H1 hP1 hD1 locs1 ls hS1 hl2)
theorem x_objInit (F : fx L rm G A H0 n0 cc own E) {a : Nat} (hl : Cond.methodLink own idx Lib.objectInit ∈ WALL) (hi : Cond.instanceMethod Lib.objectInit ∈ WALL) (hc : Cond.code Lib.objectInit ⟨#[0xb1]⟩ 1 none ∈ WALL) (hd : decode cc pc = .ok (.invokespecial idx, 3)) (hf : 1 ≤ rm.frames) (hlo : (st.map fun v => v.category).sum + 12 ≤ rm.locals) (kk : wx E H k n (pc + 3) lv st) : wx E H k n pc lv (.ref a :: st) := by
  obtain ⟨p, l, e, R, s, m, args, below, meth, c, A1, nL, Q⟩ := E
  obtain ⟨⟨hx, hb, hml, hown, hts⟩, hL, hR, hAA, hH0, hnL, hKt, hKh, hfr, hlk⟩ := F
  subst hR
  intro locs ls hS hl2
  refine W.objInit hx hb hown (hts _ hl) (hts _ hi) (hts _ hc) rfl (hl2.1.trans hml.symm) rfl hd hf (by show 0 + _ + 12 ≤ _; omega) ?_
  exact kk locs ls hS hl2
/-- the words of a call site -/
def cwS_ (own : String) (idx : Nat) (y : MethodName) (bytes : ByteArray) (maxL : Nat) (ret : Option FieldType) (nA : Nat) : Prop := Cond.methodLink own idx y ∈ WALL ∧ Cond.static y ∈ WALL ∧ Cond.initialized y.cls ∈ WALL ∧ Cond.code y bytes maxL ret ∈ WALL ∧ mhd y nA
def cwV_ (own : String) (idx : Nat) (C : String) (y : MethodName) (bytes : ByteArray) (maxL : Nat) (ret : Option FieldType) (nA : Nat) : Prop := Cond.methodLink own idx y ∈ WALL ∧ Cond.instanceMethod y ∈ WALL ∧ Cond.selects C y y ∈ WALL ∧ Cond.initialized y.cls ∈ WALL ∧ Cond.code y bytes maxL ret ∈ WALL ∧ mhd y nA
/-- a method that gives v and changes nothing -/
def Pu (v : Value) : Heap → Option Value → Heap → Prop := fun H r H1 => r = some v ∧ H1 = H
def rfr (rm r2 : Room) (maxL : Nat) : Prop := r2.frames + 1 ≤ rm.frames ∧ 8 + (maxL + 11) + r2.locals ≤ rm.locals ∧ r2.cells = 0 ∧ r2.slots = 0
theorem fr_of (F : fx L rm G A H0 n0 cc own E) (h : ∀ (_ : ∀ q, H.size ≤ q → A q), wx E H k n pc lv st) : wx E H k n pc lv st := by
  obtain ⟨p, l, e, R, s, m, args, below, meth, c, A1, nL, Q⟩ := E
  obtain ⟨-, hL, hR, hAA, hH0, hnL, hKt, hKh, hfr, hlk⟩ := F
  subst hAA hH0
  intro locs ls hS hl2
  exact h (fun q hq => hfr q (Nat.le_trans hS.1 hq)) locs ls hS hl2
theorem x_callSp (F : fx L rm G A H0 n0 cc own E) {v : Value} (hC : Ct L y bytes maxL ret2 r2 G A As Pre (Pu v)) (cw : cwS_ own idx y bytes maxL ret2 nA) (hR : rfr rm r2 maxL) (hk : k ≤ rm.cells) (hn : n ≤ rm.slots) (hd : decode cc pc = .ok (.invokestatic idx, 3)) (hnA : As.length = nA) (hst : st = As.reverse ++ rest) (hcat : (rest.map fun v => v.category).sum ≤ 8) (hpre : Pre H) (kk : wx E H k n (pc + 3) lv (v :: rest)) : wx E H k n pc lv st := by
  refine fr_of F fun hfr => x_callS F hC cw.1 cw.2.1 cw.2.2.1 cw.2.2.2.1 cw.2.2.2.2 ⟨⟨hR.1, hR.2.1⟩, by rw [hR.2.2.1]; exact hk, by rw [hR.2.2.2]; exact hn⟩ hd hnA hst hcat (fun _ h => h) hfr hpre ?_
  rintro r H1 ⟨rfl, rfl⟩ - -
  rw [hR.2.2.1, hR.2.2.2]
  exact kk
theorem x_callVp (F : fx L rm G A H0 n0 cc own E) {b ci : Nat} {fs : List Value} {r : vw_C} {v : Value} (hv : vt G b (.inr (ci, fs)) H) (hcl : vwCl[ci]? = some r) (hC : Ct L y bytes maxL ret2 r2 G A (.ref b :: As) Pre (Pu v)) (cw : cwV_ own idx r.1 y bytes maxL ret2 nA) (hR : rfr rm r2 maxL) (hk : k ≤ rm.cells) (hn : n ≤ rm.slots) (hd : decode cc pc = .ok (.invokevirtual idx, 3)) (hnA : As.length = nA) (hst : st = As.reverse ++ .ref b :: rest) (hcat : (rest.map fun v => v.category).sum ≤ 8) (hpre : Pre H) (kk : wx E H k n (pc + 3) lv (v :: rest)) : wx E H k n pc lv st := by
  refine fr_of F fun hfr => x_callV F hv hcl hC cw.1 cw.2.1 cw.2.2.1 cw.2.2.2.1 cw.2.2.2.2.1 cw.2.2.2.2.2 ⟨⟨hR.1, hR.2.1⟩, by rw [hR.2.2.1]; exact hk, by rw [hR.2.2.2]; exact hn⟩ hd hnA hst hcat (fun _ h => h) hfr hpre ?_
  rintro r H1 ⟨rfl, rfl⟩ - -
  rw [hR.2.2.1, hR.2.2.2]
  exact kk
/-- calls that may change the world; the same A -/
theorem x_callSs (F : fx L rm G A H0 n0 cc own E) (hC : Ct L y bytes maxL ret2 r2 G A As Pre Post2) (cw : cwS_ own idx y bytes maxL ret2 nA) (hR : rok rm r2 maxL k n) (hd : decode cc pc = .ok (.invokestatic idx, 3)) (hnA : As.length = nA) (hst : st = As.reverse ++ rest) (hcat : (rest.map fun v => v.category).sum ≤ 8) (hpre : Pre H) (kk : kRet E H A Post2 (k + r2.cells) (n + r2.slots) (pc + 3) lv rest) : wx E H k n pc lv st :=
  fr_of F fun hfr => x_callS F hC cw.1 cw.2.1 cw.2.2.1 cw.2.2.2.1 cw.2.2.2.2 hR hd hnA hst hcat (fun _ h => h) hfr hpre kk
theorem x_callVs (F : fx L rm G A H0 n0 cc own E) {b ci : Nat} {fs : List Value} {r : vw_C} (hv : vt G b (.inr (ci, fs)) H) (hcl : vwCl[ci]? = some r) (hC : Ct L y bytes maxL ret2 r2 G A (.ref b :: As) Pre Post2) (cw : cwV_ own idx r.1 y bytes maxL ret2 nA) (hR : rok rm r2 maxL k n) (hd : decode cc pc = .ok (.invokevirtual idx, 3)) (hnA : As.length = nA) (hst : st = As.reverse ++ .ref b :: rest) (hcat : (rest.map fun v => v.category).sum ≤ 8) (hpre : Pre H) (kk : kRet E H A Post2 (k + r2.cells) (n + r2.slots) (pc + 3) lv rest) : wx E H k n pc lv st :=
  fr_of F fun hfr => x_callV F hv hcl hC cw.1 cw.2.1 cw.2.2.1 cw.2.2.2.1 cw.2.2.2.2.1 cw.2.2.2.2.2 hR hd hnA hst hcat (fun _ h => h) hfr hpre kk
theorem x_aload_nN (F : fx L rm G A H0 n0 cc own E) {q : Fin 4} {i : Nat} (hd : decode cc pc = .ok (.aload_n q, 1)) (j : Nat) (hj : lv[j]? = some (i, .null)) (hi : (q : Nat) = i) (kk : wx E H k n (pc + 1) lv (.null :: st)) : wx E H k n pc lv st := by
  obtain ⟨p, l, e, R, s, m, args, below, meth, c, A1, nL, Q⟩ := E
  obtain ⟨⟨hx, hb, hml, hown, hts⟩, hL, hR, hAA, hH0, hnL, hKt, hKh, hfr, hlk⟩ := F
  intro locs ls hS hl
  exact lv_aload_nN hx hb hd hi (lv_at hl j hj) (kk locs ls hS hl)
theorem x_aloadN (F : fx L rm G A H0 n0 cc own E) {i : Nat} (hd : decode cc pc = .ok (.aload i, 2)) (j : Nat) (hj : lv[j]? = some (i, .null)) (kk : wx E H k n (pc + 2) lv (.null :: st)) : wx E H k n pc lv st := by
  obtain ⟨p, l, e, R, s, m, args, below, meth, c, A1, nL, Q⟩ := E
  obtain ⟨⟨hx, hb, hml, hown, hts⟩, hL, hR, hAA, hH0, hnL, hKt, hKh, hfr, hlk⟩ := F
  intro locs ls hS hl
  exact lv_aloadN hx hb hd (lv_at hl j hj) (kk locs ls hS hl)
theorem x_astore_nN (F : fx L rm G A H0 n0 cc own E) {q : Fin 4} {i : Nat} (hd : decode cc pc = .ok (.astore_n q, 1)) (hi : (q : Nat) = i) (hn : i < n0) (hl2 : (i, Value.null) :: lv.filter (fun q => !(q.1 == i) && !(q.1 + 1 == i && q.2.category == 2)) = lv') (kk : wx E H k n (pc + 1) lv' st) : wx E H k n pc lv (.null :: st) := by
  obtain ⟨p, l, e, R, s, m, args, below, meth, c, A1, nL, Q⟩ := E
  obtain ⟨⟨hx, hb, hml, hown, hts⟩, hL, hR, hAA, hH0, hnL, hKt, hKh, hfr, hlk⟩ := F
  intro locs ls hS hl
  exact lv_astore_nN hx hb hd hi hl (by rw [hnL]; exact hn) hl2 (fun ls2 hl3 => kk locs ls2 hS hl3)
theorem x_astoreN (F : fx L rm G A H0 n0 cc own E) {i : Nat} (hd : decode cc pc = .ok (.astore i, 2)) (hn : i < n0) (hl2 : (i, Value.null) :: lv.filter (fun q => !(q.1 == i) && !(q.1 + 1 == i && q.2.category == 2)) = lv') (kk : wx E H k n (pc + 2) lv' st) : wx E H k n pc lv (.null :: st) := by
  obtain ⟨p, l, e, R, s, m, args, below, meth, c, A1, nL, Q⟩ := E
  obtain ⟨⟨hx, hb, hml, hown, hts⟩, hL, hR, hAA, hH0, hnL, hKt, hKh, hfr, hlk⟩ := F
  intro locs ls hS hl
  exact lv_astoreN hx hb hd hl (by rw [hnL]; exact hn) hl2 (fun ls2 hl3 => kk locs ls2 hS hl3)
theorem x_mmax (F : fx L rm G A H0 n0 cc own E) (hl : Cond.methodLink own idx Lib.Math.max.name ∈ WALL) (hs : Cond.static Lib.Math.max.name ∈ WALL) (hi : Cond.initialized "java/lang/Math" ∈ WALL) (hc : Cond.code Lib.Math.max.name Lib.Math.max.code 2 (some .int) ∈ WALL) (hf : 1 ≤ rm.frames) (hlo : (st.map fun v => v.category).sum + 13 ≤ rm.locals) (hk : k ≤ rm.cells) (hn : n ≤ rm.slots) {x y : Int32} (hd : decode cc pc = .ok (.invokestatic idx, 3)) (kk : wx E H k n (pc + 3) lv (.int (if x < y then y else x) :: st)) : wx E H k n pc lv (.int y :: .int x :: st) := by
  obtain ⟨p, l, e, R, s, m, args, below, meth, c, A1, nL, Q⟩ := E
  obtain ⟨⟨hx, hb, hml, hown, hts⟩, hL, hR, hAA, hH0, hnL, hKt, hKh, hfr, hlk⟩ := F
  subst hR
  intro locs ls hS hlv
  exact va_mmax hx hb (hml.trans hlv.1.symm) hown (hts _ hl) (hts _ hs) (hts _ hi) (hts _ hc) hf hlo hk hn hd (kk locs ls hS hlv)
theorem x_mmin (F : fx L rm G A H0 n0 cc own E) (hl : Cond.methodLink own idx Lib.Math.min.name ∈ WALL) (hs : Cond.static Lib.Math.min.name ∈ WALL) (hi : Cond.initialized "java/lang/Math" ∈ WALL) (hc : Cond.code Lib.Math.min.name Lib.Math.min.code 2 (some .int) ∈ WALL) (hf : 1 ≤ rm.frames) (hlo : (st.map fun v => v.category).sum + 13 ≤ rm.locals) (hk : k ≤ rm.cells) (hn : n ≤ rm.slots) {x y : Int32} (hd : decode cc pc = .ok (.invokestatic idx, 3)) (kk : wx E H k n (pc + 3) lv (.int (if y < x then y else x) :: st)) : wx E H k n pc lv (.int y :: .int x :: st) := by
  obtain ⟨p, l, e, R, s, m, args, below, meth, c, A1, nL, Q⟩ := E
  obtain ⟨⟨hx, hb, hml, hown, hts⟩, hL, hR, hAA, hH0, hnL, hKt, hKh, hfr, hlk⟩ := F
  subst hR
  intro locs ls hS hlv
  exact va_mmin hx hb (hml.trans hlv.1.symm) hown (hts _ hl) (hts _ hs) (hts _ hi) (hts _ hc) hf hlo hk hn hd (kk locs ls hS hlv)
theorem x_aastN (F : fx L rm G A H0 n0 cc own E) {a N : Nat} {f : Nat → Option Nat} (hv : vt G a (.inl (G.2.1.2.2.1, N, .inr (.inr (.inr (.inr f))))) H) (hAa : A a) {i : Int32} (hin : vp_in i N) (hd : decode cc pc = .ok (.aastore, 1)) (kk : ∀ H1 : Heap, vt G a (.inl (G.2.1.2.2.1, N, .inr (.inr (.inr (.inr (va_up f i.toNatClampNeg none)))))) H1 → hset H a H1 → wx E H1 k n (pc + 1) lv st) : wx E H k n pc lv (.null :: .int i :: .ref a :: st) := by
  obtain ⟨p, l, e, R, s, m, args, below, meth, c, A1, nL, Q⟩ := E
  obtain ⟨⟨hx, hb, hml, hown, hts⟩, hL, hR, hAA, hH0, hnL, hKt, hKh, hfr, hlk⟩ := F
  subst hAA
  intro locs ls hS hl2
  refine va_WaastN (C := "java/lang/Object") hx hb hv ((hKt.1.2 2 _ rfl).1 N (fun j => va_rf (f j))) (fun h => by cases h) (by show ¬ (i < 0 ∨ (arrV _ _ _).slots.size ≤ _); rw [arrV_size]; exact hin) rfl rfl hd fun H1 e1 z oq => ?_
  refine kk H1 ?_ ⟨z, oq⟩ _ ls (hS.put z oq hAa) hl2
  show H1[a]? = some (vp_cell _ _)
  rw [e1]
  show some ((vp_cell _ _).setSlot _ _) = _
  rw [vp_cell_q, vp_cell_q, arrV_store]
  congr 2
  funext q
  by_cases hq : q = i.toNatClampNeg
  · subst hq
    simp [updV, va_up, va_rf]
  · simp [updV, va_up, hq]
theorem x_castS (F : fx L rm G A H0 n0 cc own E) {a ci N : Nat} {C : String} {T : u_T} {fs : List Value} (hv : vt G a (.inr (ci, fs)) H) (hc : vwCl[ci]? = some (C, T, N)) (hl : Cond.classLink own idx C ∈ WALL) (hd : decode cc pc = .ok (.checkcast idx, 3)) (kk : wx E H k n (pc + 3) lv (.ref a :: st)) : wx E H k n pc lv (.ref a :: st) := by
  obtain ⟨p, l, e, R, s, m, args, below, meth, c, A1, nL, Q⟩ := E
  obtain ⟨⟨hx, hb, hml, hown, hts⟩, hL, hR, hAA, hH0, hnL, hKt, hKh, hfr, hlk⟩ := F
  intro locs ls hS hl2
  obtain ⟨r, h1, cell, q1, q2, q3, q4⟩ := hv
  obtain rfl : r = (C, T, N) := Option.some.inj (h1.symm.trans hc)
  exact va_castS hx hb hown (hts _ hl) (hKt.1.1 ci _ hc).2 ⟨cell, q1, by rw [q3]; rfl, by rw [q2]; exact (hKt.1.1 ci _ hc).2.1⟩ hd (kk locs ls hS hl2)
theorem loop_dn {N : Nat} {P : Nat → Prop} (hend : P N) (hstep : ∀ i, i < N → P (i + 1) → P i) : ∀ i, i ≤ N → P i := by
  intro i hi
  obtain ⟨j, rfl⟩ : ∃ j, N = i + j := ⟨N - i, by omega⟩
  clear hi
  induction j generalizing i with
  | zero => exact hend
  | succ j ih => exact hstep i (by omega) (ih (i + 1) (by rw [Nat.add_right_comm, Nat.add_assoc]; exact hend) (fun a ha hp => hstep a (by omega) hp))
def bI (P : Prop) [Decidable P] : Int32 := if P then 1 else 0
theorem bI_t {P : Prop} [Decidable P] (h : P) : bI P = 1 := if_pos h
theorem bI_f {P : Prop} [Decidable P] (h : ¬ P) : bI P = 0 := if_neg h
theorem bI_0 {P : Prop} [Decidable P] : bI P = 0 ↔ ¬ P := by
  by_cases h : P
  · rw [bI_t h]; exact ⟨fun q => absurd q (by decide), fun q => absurd h q⟩
  · rw [bI_f h]; exact ⟨fun _ => h, fun _ => rfl⟩
theorem bI_ne {P : Prop} [Decidable P] : ¬ bI P = 0 ↔ P := by
  rw [bI_0]; exact Decidable.not_not
theorem bI_nar {P : Prop} [Decidable P] : narrow .boolean (.int (bI P)) = .int (bI P) := by
  by_cases h : P
  · rw [bI_t h]; rfl
  · rw [bI_f h]; rfl
end RO
end
section
/-! rows for longs and doubles -/
section R2
variable {L : Launch} {rm r2 : Room} {G : GT} {A A1 : Nat → Prop} {H0 : Heap} {n0 : Nat} {cc bytes : ByteArray} {own : String} {E : WE} {H : Heap} {k n pc maxL nA idx : Nat} {lv lv' : List (Nat × Value)} {st rest As : List Value} {ret ret2 : Option FieldType} {nm : String} {Post Post2 : Heap → Option Value → Heap → Prop}
theorem x_lstore_n (F : fx L rm G A H0 n0 cc own E) {q : Fin 4} {i : Nat} {x : Int64} (hd : decode cc pc = .ok (.lstore_n q, 1)) (hi : (q : Nat) = i) (hn : i + 1 < n0) (hl2 : (i, Value.long x) :: lv.filter (fun q => !(q.1 == i) && (!(q.1 == i + 1) && !(q.1 + 1 == i && q.2.category == 2))) = lv') (kk : wx E H k n (pc + 1) lv' st) : wx E H k n pc lv (.long x :: st) := by
  obtain ⟨p, l, e, R, s, m, args, below, meth, c, A1, nL, Q⟩ := E
  obtain ⟨⟨hx, hb, hml, hown, hts⟩, hL, hR, hAA, hH0, hnL, hKt, hKh, hfr, hlk⟩ := F
  intro locs ls hS hl
  exact lv_lstore_n hx hb hd hi hl (by rw [hnL]; exact hn) hl2 (fun ls2 hl3 => kk locs ls2 hS hl3)
theorem x_lstore (F : fx L rm G A H0 n0 cc own E) {i : Nat} {x : Int64} (hd : decode cc pc = .ok (.lstore i, 2)) (hn : i + 1 < n0) (hl2 : (i, Value.long x) :: lv.filter (fun q => !(q.1 == i) && (!(q.1 == i + 1) && !(q.1 + 1 == i && q.2.category == 2))) = lv') (kk : wx E H k n (pc + 2) lv' st) : wx E H k n pc lv (.long x :: st) := by
  obtain ⟨p, l, e, R, s, m, args, below, meth, c, A1, nL, Q⟩ := E
  obtain ⟨⟨hx, hb, hml, hown, hts⟩, hL, hR, hAA, hH0, hnL, hKt, hKh, hfr, hlk⟩ := F
  intro locs ls hS hl
  exact lv_lstore hx hb hd hl (by rw [hnL]; exact hn) hl2 (fun ls2 hl3 => kk locs ls2 hS hl3)
theorem x_dstore (F : fx L rm G A H0 n0 cc own E) {i : Nat} {x : UInt64} (hd : decode cc pc = .ok (.dstore i, 2)) (hn : i + 1 < n0) (hl2 : (i, Value.double x) :: lv.filter (fun q => !(q.1 == i) && (!(q.1 == i + 1) && !(q.1 + 1 == i && q.2.category == 2))) = lv') (kk : wx E H k n (pc + 2) lv' st) : wx E H k n pc lv (.double x :: st) := by
  obtain ⟨p, l, e, R, s, m, args, below, meth, c, A1, nL, Q⟩ := E
  obtain ⟨⟨hx, hb, hml, hown, hts⟩, hL, hR, hAA, hH0, hnL, hKt, hKh, hfr, hlk⟩ := F
  intro locs ls hS hl
  exact lv_dstore hx hb hd hl (by rw [hnL]; exact hn) hl2 (fun ls2 hl3 => kk locs ls2 hS hl3)
theorem x_ldc2 (F : fx L rm G A H0 n0 cc own E) {v : Int64} (hc : Cond.constantLong own idx v ∈ WALL) (hd : decode cc pc = .ok (.ldc2_w idx, 3)) (kk : wx E H k n (pc + 3) lv (.long v :: st)) : wx E H k n pc lv st := by
  obtain ⟨p, l, e, R, s, m, args, below, meth, c, A1, nL, Q⟩ := E
  obtain ⟨⟨hx, hb, hml, hown, hts⟩, hL, hR, hAA, hH0, hnL, hKt, hKh, hfr, hlk⟩ := F
  intro locs ls hS hl
  exact lv_ldc2 hx hb hown (hts _ hc) hd (kk locs ls hS hl)
theorem x_lconst (F : fx L rm G A H0 n0 cc own E) {q : Fin 2} {v : Int64} (hd : decode cc pc = .ok (.lconst q, 1)) (hv : Int64.ofNat (q : Nat) = v) (kk : wx E H k n (pc + 1) lv (.long v :: st)) : wx E H k n pc lv st := by
  obtain ⟨p, l, e, R, s, m, args, below, meth, c, A1, nL, Q⟩ := E
  obtain ⟨⟨hx, hb, hml, hown, hts⟩, hL, hR, hAA, hH0, hnL, hKt, hKh, hfr, hlk⟩ := F
  intro locs ls hS hl
  exact lv_lconst hx hb hd hv (kk locs ls hS hl)
theorem x_lcmp (F : fx L rm G A H0 n0 cc own E) {x y : Int64} (hd : decode cc pc = .ok (.lcmp, 1)) (kk : wx E H k n (pc + 1) lv (.int (lg_cmp x y) :: st)) : wx E H k n pc lv (.long y :: .long x :: st) := by
  obtain ⟨p, l, e, R, s, m, args, below, meth, c, A1, nL, Q⟩ := E
  obtain ⟨⟨hx, hb, hml, hown, hts⟩, hL, hR, hAA, hH0, hnL, hKt, hKh, hfr, hlk⟩ := F
  intro locs ls hS hl
  exact W.lcmp hx hb hd (kk locs ls hS hl)
theorem x_dconst0 (F : fx L rm G A H0 n0 cc own E) (hd : decode cc pc = .ok (.dconst 0, 1)) (kk : wx E H k n (pc + 1) lv (.double FP.dconst0 :: st)) : wx E H k n pc lv st := by
  obtain ⟨p, l, e, R, s, m, args, below, meth, c, A1, nL, Q⟩ := E
  obtain ⟨⟨hx, hb, hml, hown, hts⟩, hL, hR, hAA, hH0, hnL, hKt, hKh, hfr, hlk⟩ := F
  intro locs ls hS hl
  exact lv_dconst0 hx hb hd (kk locs ls hS hl)
theorem x_i2d (F : fx L rm G A H0 n0 cc own E) {x : Int32} (hd : decode cc pc = .ok (.i2d, 1)) (kk : wx E H k n (pc + 1) lv (.double (FP.i2d x) :: st)) : wx E H k n pc lv (.int x :: st) := by
  obtain ⟨p, l, e, R, s, m, args, below, meth, c, A1, nL, Q⟩ := E
  obtain ⟨⟨hx, hb, hml, hown, hts⟩, hL, hR, hAA, hH0, hnL, hKt, hKh, hfr, hlk⟩ := F
  intro locs ls hS hl
  exact lv_i2d hx hb hd (kk locs ls hS hl)
theorem x_dcmp (F : fx L rm G A H0 n0 cc own E) {x y : UInt64} {op : CmpOp} (hd : decode cc pc = .ok (.dcmp op, 1)) (kk : wx E H k n (pc + 1) lv (.int (Op.cmpValue (FP.dcmp x y) op) :: st)) : wx E H k n pc lv (.double y :: .double x :: st) := by
  obtain ⟨p, l, e, R, s, m, args, below, meth, c, A1, nL, Q⟩ := E
  obtain ⟨⟨hx, hb, hml, hown, hts⟩, hL, hR, hAA, hH0, hnL, hKt, hKh, hfr, hlk⟩ := F
  intro locs ls hS hl
  exact lv_dcmp hx hb hd (kk locs ls hS hl)
theorem ddiv_nn (a : Int32) {b : Int32} (h : ¬ b = 0) : FP.Core.dIsNaN (FP.Core.ddiv (FP.Core.i2d a) (FP.Core.i2d b)) = false := by
  refine FP.Core.ddiv_out ?_ (FP.Core.i2d_fin b) (fun hz => FP.Core.i2d_ne_zero h ((FP.Core.zero_bits2 _).mp hz))
  cases hn : FP.Core.dIsNaN (FP.Core.i2d a) with
  | false => rfl
  | true =>
    have h1 := (FP.Core.isNaN_bits _).mp hn
    have h2 := (FP.Core.fin_bits _).mp (FP.Core.i2d_fin a)
    omega
theorem nn_of {r : UInt64} (h : FP.Core.dIsNaN r = false) : vf_n64 r := by
  have h1 : ¬ 9218868437227405312 < r.toNat % 2 ^ 63 := fun q => by rw [(FP.Core.isNaN_bits r).mpr q] at h; cases h
  show r &&& 0x7fffffffffffffff ≤ 0x7ff0000000000000
  rw [UInt64.le_iff_toNat_le, UInt64.toNat_and]
  show r.toNat &&& (2 ^ 63 - 1) ≤ 9218868437227405312
  rw [Nat.and_two_pow_sub_one_eq_mod]
  omega
theorem x_ddiv (F : fx L rm G A H0 n0 cc own E) {a b : Int32} (h : ¬ b = 0) (hd : decode cc pc = .ok (.ddiv, 1)) (kk : wx E H k n (pc + 1) lv (.double (FP.ddiv (FP.i2d a) (FP.i2d b)) :: st)) : wx E H k n pc lv (.double (FP.i2d b) :: .double (FP.i2d a) :: st) := by
  obtain ⟨p, l, e, R, s, m, args, below, meth, c, A1, nL, Q⟩ := E
  obtain ⟨⟨hx, hb, hml, hown, hts⟩, hL, hR, hAA, hH0, hnL, hKt, hKh, hfr, hlk⟩ := F
  intro locs ls hS hl
  exact lv_ddiv hx hb hd (nn_of (ddiv_nn a h)) (kk locs ls hS hl)
theorem x_dret (F : fx L rm G A H0 n0 cc own E) {v : UInt64} (hE : fe rm A Post (some .double) nm E) (hd : decode cc pc = .ok (.dreturn, 1)) (hc : k ≤ rm.cells) (hs : n ≤ rm.slots) (hp : Post H0 (some (.double v)) H) : wx E H k n pc lv [.double v] := by
  obtain ⟨p, l, e, R, s, m, args, below, meth, c, A1, nL, Q⟩ := E
  obtain ⟨⟨hx, hb, hml, hown, hts⟩, hL, hR, hAA, hH0, hnL, hKt, hKh, hfr, hlk⟩ := F
  subst hL hR hAA hH0 hnL
  obtain ⟨hQ, hr, hnm⟩ := hE
  intro locs ls hS hl
  refine W.widen hc hs ?_
  rcases hQ with hQ | ⟨PX, hQ⟩
  · subst hQ
    exact W.dret hx hb hr (fun t ht hW => ⟨_, rfl, by rw [ht]; exact hp, hS.F ht⟩) hS.2.2 hd hlk
  · subst hQ
    exact vx_ret (W.dret hx hb hr (fun t ht hW => ⟨_, rfl, by rw [ht]; exact hp, hS.F ht⟩) hS.2.2 hd hlk)
theorem wx_lv (h : lv = lv') (kk : wx E H k n pc lv' st) : wx E H k n pc lv st := h ▸ kk
end R2
end
